/-! The user that an attach to the class's servers names. -/
theorem T_49_0 : hTab 49 0 = some ((0, 0, 0, []), 1) := rfl
theorem T_49_1 : hTab 49 1 = some ((4, 1, 0, []), 2) := rfl
theorem T_49_2 : hTab 49 2 = some ((3, 1, 0, []), 3) := rfl
theorem T_49_3 : hTab 49 3 = some ((0, 0, 4, []), 4) := rfl
theorem T_49_4 : hTab 49 4 = some ((19, 3, Int.ofNat 52, []), 7) := rfl
theorem T_49_7 : hTab 49 7 = some ((3, 0, 2, []), 8) := rfl
theorem T_49_8 : hTab 49 8 = some ((24, 7, Int.ofNat 9, []), 11) := rfl
theorem T_49_11 : hTab 49 11 = some ((0, 0, 15, []), 13) := rfl
theorem T_49_13 : hTab 49 13 = some ((0, 0, 2, []), 14) := rfl
theorem T_49_14 : hTab 49 14 = some ((31, 29, 0, []), 17) := rfl
theorem T_49_17 : hTab 49 17 = some ((1, 0, 3, []), 20) := rfl
theorem T_49_20 : hTab 49 20 = some ((17, 0, 0, []), 21) := rfl
theorem T_49_21 : hTab 49 21 = some ((18, 1, Int.ofNat 46, []), 24) := rfl
theorem T_49_24 : hTab 49 24 = some ((3, 0, 2, []), 25) := rfl
theorem T_49_25 : hTab 49 25 = some ((24, 7, Int.ofNat 9, []), 28) := rfl
theorem T_49_28 : hTab 49 28 = some ((0, 0, 17, []), 30) := rfl
theorem T_49_30 : hTab 49 30 = some ((0, 0, 3, []), 31) := rfl
theorem T_49_31 : hTab 49 31 = some ((31, 29, 0, []), 34) := rfl
theorem T_49_34 : hTab 49 34 = some ((34, 2, 0, []), 37) := rfl
theorem T_49_37 : hTab 49 37 = some ((3, 1, 0, []), 38) := rfl
theorem T_49_38 : hTab 49 38 = some ((26, 0, 0, []), 39) := rfl
theorem T_49_39 : hTab 49 39 = some ((14, 0, 0, []), 40) := rfl
theorem T_49_40 : hTab 49 40 = some ((17, 0, 0, []), 41) := rfl
theorem T_49_41 : hTab 49 41 = some ((18, 1, Int.ofNat 46, []), 44) := rfl
theorem T_49_44 : hTab 49 44 = some ((3, 1, 0, []), 45) := rfl
theorem T_49_45 : hTab 49 45 = some ((33, 1, 0, []), 46) := rfl
theorem T_49_46 : hTab 49 46 = some ((5, 1, 1, []), 49) := rfl
theorem T_49_49 : hTab 49 49 = some ((22, 0, Int.ofNat 2, []), 52) := rfl
theorem T_49_52 : hTab 49 52 = some ((0, 0, (-1), []), 53) := rfl
theorem T_49_53 : hTab 49 53 = some ((33, 1, 0, []), 54) := rfl
theorem mN_49 : hmN 49 = 1 := by decide +kernel
theorem mL_49 : hmL 49 = 2 := by decide +kernel
theorem mK_49 : hmK 49 = 1 := by decide +kernel
theorem mO_49 : hmO 49 = 7 := by decide +kernel
section XUT
variable {fb : Bool} {d S mb N : Nat} {σ0 σ : hM} {W W0 W1 W2 P : qR} {R : rR} {i k x z v s e w c f u y n p x0 x1 x2 : Int} {l nm ord : List Int}
theorem hUN_cmp (hi : 0 ≤ i ∧ i < 4) (h0 : 0 ≤ x0 ∧ x0 ≤ 255) (h1 : 0 ≤ x1 ∧ x1 ≤ 255) (h2 : 0 ≤ x2 ∧ x2 ≤ 255) : x0 + 256 * (x1 + 256 * x2) = hUN.getD i.toNat 0 ↔ x0 = ubyte (3 * i) ∧ x1 = ubyte (3 * i + 1) ∧ x2 = ubyte (3 * i + 2) := by
  have h : i = 0 ∨ i = 1 ∨ i = 2 ∨ i = 3 := by omega
  rcases h with rfl | rfl | rfl | rfl
  · rw [show hUN.getD (0 : Int).toNat 0 = 7169121 from rfl, show ubyte (3 * 0) = 97 from rfl, show ubyte (3 * 0 + 1) = 100 from rfl, show ubyte (3 * 0 + 2) = 109 from rfl]
    omega
  · rw [show hUN.getD (1 : Int).toNat 0 = 7237217 from rfl, show ubyte (3 * 1) = 97 from rfl, show ubyte (3 * 1 + 1) = 110 from rfl, show ubyte (3 * 1 + 2) = 110 from rfl]
    omega
  · rw [show hUN.getD (2 : Int).toNat 0 = 6451042 from rfl, show ubyte (3 * 2) = 98 from rfl, show ubyte (3 * 2 + 1) = 111 from rfl, show ubyte (3 * 2 + 2) = 98 from rfl]
    omega
  · rw [show hUN.getD (3 : Int).toNat 0 = 6649445 from rfl, show ubyte (3 * 3) = 101 from rfl, show ubyte (3 * 3 + 1) = 118 from rfl, show ubyte (3 * 3 + 2) = 101 from rfl]
    omega
theorem nu_three : nu (lg l) i 3 = lg l i + 256 * (lg l (i + 1) + 256 * lg l (i + 2)) := by
  rw [show (3 : Nat) = 2 + 1 from rfl, nu_cons, show (2 : Nat) = 1 + 1 from rfl, nu_cons, show (1 : Nat) = 0 + 1 from rfl, nu_cons, show i + 1 + 1 = i + 2 by omega]
  show lg l i + 256 * (lg l (i + 1) + 256 * (lg l (i + 2) + 256 * 0)) = _
  omega
theorem x_user_loop (hP : PX σ0 W R σ) (hS : VS S s) (hr : R S 2233 = some mb) (hB : BY W mb N l) (hz : (l.length : Int) = z) (h17 : 17 ≤ z) (hn : nu (lg l) 15 2 = n) (h3 : n = 3 → 20 ≤ z) : ∀ (m : Nat) (i : Int), i + m = 4 → 0 ≤ i → WP fb (d + 1) 49 2 [some (vR (some S)), some (vI i)] [] σ (rP (if n = 3 then usF (lg l) 17 m i else -1) σ) := by
  have hO := hS.o
  have hbo := hB.1
  have hb := hB.2.2.2.2.2.1
  have hgx := hP.gx
  have g1 := hgx.2.1.1
  have h1 := x_num (fb := fb) (d := d) (s := 15) (k := 2) 2 hP hB hz rfl (by decide) (by decide) (by omega) hn
  intro m
  induction m with
  | zero =>
    intro i a1 a2
    have a1 : i + ((0 : Nat) : Int) = 4 := a1
    rw [show (if n = 3 then usF (lg l) 17 0 i else -1) = -1 by split <;> rfl]
    refine x_li (z := i) T_49_2 rfl ?_
    refine x_ic T_49_3 ?_
    refine x_ic2 T_49_4 (fun _ => ?_) (fun h => absurd (show 4 ≤ i by omega) h)
    refine x_ic T_49_52 ?_
    refine x_ri T_49_53 ?_
    exact ⟨rfl, rfl⟩
  | succ m ih =>
    intro i a1 a2
    have hgo := ih (i + 1) (by omega) (by omega)
    by_cases q : n = 3
    · have hz2 := h3 q
      rw [if_pos q] at hgo ⊢
      have e3 := nu_three (l := l) (i := 17)
      obtain ⟨w, hw⟩ : ∃ w, nu (lg l) 17 3 = w := ⟨_, rfl⟩
      have h2 := x_num (fb := fb) (d := d) (s := 17) (k := 3) 3 hP hB hz rfl (by decide) (by decide) (by omega) hw
      have hc := hUN_cmp (i := i) ⟨a2, by omega⟩ (hb 17 (by decide)) (hb 18 (by decide)) (hb 19 (by decide))
      have e3 : w = lg l 17 + 256 * (lg l 18 + 256 * lg l 19) := hw.symm.trans e3
      rw [← e3] at hc
      have g2 := (hgx.2.2 i.toNat (by omega)).1
      obtain ⟨y, hy⟩ : ∃ y, hUN.getD i.toNat 0 = y := ⟨_, rfl⟩
      rw [hy] at hc g2
      have ef : usF (lg l) 17 (m + 1) i = if lg l 17 = ubyte (3 * i) ∧ lg l 18 = ubyte (3 * i + 1) ∧ lg l 19 = ubyte (3 * i + 2) then i else usF (lg l) 17 m (i + 1) := rfl
      rw [ef]
      by_cases q2 : w = y
      · rw [if_pos (hc.mp q2)]
        refine x_li (z := i) T_49_2 rfl ?_
        refine x_ic T_49_3 ?_
        refine x_ic2 T_49_4 (fun h => absurd (show 4 ≤ i from h) (by omega)) (fun _ => ?_)
        refine x_lr (z := some S) T_49_7 rfl ?_
        refine x_gR (z := some mb) T_49_8 F_7_9 (hP.o hO) (Eq.trans (hP.rm hO rfl (key := 2233) rfl) hr) ?_
        refine x_ic T_49_11 ?_
        refine x_ic T_49_13 ?_
        refine x_cv3 T_49_14 mN_29 mL_29 (Nat.le_of_ble_eq_true rfl) mO_29 (hP.o hbo) (Nat.le_of_ble_eq_true rfl) (h1) ?_
        rintro _ σ ⟨rfl, rfl⟩
        refine cL ?_
        refine x_lc T_49_17 ?_
        refine x_lif T_49_20 T_49_21 (fun h => absurd (show ¬ n = 3 from h) (by omega)) (fun _ => ?_)
        refine x_lr (z := some S) T_49_24 rfl ?_
        refine x_gR (z := some mb) T_49_25 F_7_9 (hP.o hO) (Eq.trans (hP.rm hO rfl (key := 2233) rfl) hr) ?_
        refine x_ic T_49_28 ?_
        refine x_ic T_49_30 ?_
        refine x_cv3 T_49_31 mN_29 mL_29 (Nat.le_of_ble_eq_true rfl) mO_29 (hP.o hbo) (Nat.le_of_ble_eq_true rfl) (h2) ?_
        rintro _ σ ⟨rfl, rfl⟩
        refine cL ?_
        refine x_sta T_49_34 rfl ?_
        refine x_li (z := i) T_49_37 rfl ?_
        refine x_alI (z := y) T_49_38 (by decide) g1 (by omega) (by omega) g2 ?_
        refine x_i2l T_49_39 ?_
        refine x_lif T_49_40 T_49_41 (fun h => absurd (show ¬ w = y from h) (by omega)) (fun _ => ?_)
        refine x_li (z := i) T_49_44 rfl ?_
        refine x_ri T_49_45 ?_
        exact ⟨rfl, rfl⟩
      · rw [if_neg (fun c => q2 (hc.mpr c))]
        refine x_li (z := i) T_49_2 rfl ?_
        refine x_ic T_49_3 ?_
        refine x_ic2 T_49_4 (fun h => absurd (show 4 ≤ i from h) (by omega)) (fun _ => ?_)
        refine x_lr (z := some S) T_49_7 rfl ?_
        refine x_gR (z := some mb) T_49_8 F_7_9 (hP.o hO) (Eq.trans (hP.rm hO rfl (key := 2233) rfl) hr) ?_
        refine x_ic T_49_11 ?_
        refine x_ic T_49_13 ?_
        refine x_cv3 T_49_14 mN_29 mL_29 (Nat.le_of_ble_eq_true rfl) mO_29 (hP.o hbo) (Nat.le_of_ble_eq_true rfl) (h1) ?_
        rintro _ σ ⟨rfl, rfl⟩
        refine cL ?_
        refine x_lc T_49_17 ?_
        refine x_lif T_49_20 T_49_21 (fun h => absurd (show ¬ n = 3 from h) (by omega)) (fun _ => ?_)
        refine x_lr (z := some S) T_49_24 rfl ?_
        refine x_gR (z := some mb) T_49_25 F_7_9 (hP.o hO) (Eq.trans (hP.rm hO rfl (key := 2233) rfl) hr) ?_
        refine x_ic T_49_28 ?_
        refine x_ic T_49_30 ?_
        refine x_cv3 T_49_31 mN_29 mL_29 (Nat.le_of_ble_eq_true rfl) mO_29 (hP.o hbo) (Nat.le_of_ble_eq_true rfl) (h2) ?_
        rintro _ σ ⟨rfl, rfl⟩
        refine cL ?_
        refine x_sta T_49_34 rfl ?_
        refine x_li (z := i) T_49_37 rfl ?_
        refine x_alI (z := y) T_49_38 (by decide) g1 (by omega) (by omega) g2 ?_
        refine x_i2l T_49_39 ?_
        refine x_lif T_49_40 T_49_41 (fun _ => ?_) (fun h => absurd (show ¬ w = y by omega) h)
        refine x_inc (w := (i + 1)) (ls1 := [some (vR (some S)), some (vI (i + 1))]) T_49_46 rfl (w32_id (by omega) (by omega)) rfl ?_
        refine x_goto T_49_49 ?_
        exact hgo
    · rw [if_neg q] at hgo ⊢
      refine x_li (z := i) T_49_2 rfl ?_
      refine x_ic T_49_3 ?_
      refine x_ic2 T_49_4 (fun h => absurd (show 4 ≤ i from h) (by omega)) (fun _ => ?_)
      refine x_lr (z := some S) T_49_7 rfl ?_
      refine x_gR (z := some mb) T_49_8 F_7_9 (hP.o hO) (Eq.trans (hP.rm hO rfl (key := 2233) rfl) hr) ?_
      refine x_ic T_49_11 ?_
      refine x_ic T_49_13 ?_
      refine x_cv3 T_49_14 mN_29 mL_29 (Nat.le_of_ble_eq_true rfl) mO_29 (hP.o hbo) (Nat.le_of_ble_eq_true rfl) (h1) ?_
      rintro _ σ ⟨rfl, rfl⟩
      refine cL ?_
      refine x_lc T_49_17 ?_
      refine x_lif T_49_20 T_49_21 (fun _ => ?_) (fun h => absurd (show ¬ n = 3 by omega) h)
      refine x_inc (w := (i + 1)) (ls1 := [some (vR (some S)), some (vI (i + 1))]) T_49_46 rfl (w32_id (by omega) (by omega)) rfl ?_
      refine x_goto T_49_49 ?_
      exact hgo
theorem x_userTold (hP : PX σ0 W R σ) (hS : VS S s) (hr : R S 2233 = some mb) (hB : BY W mb N l) (hz : (l.length : Int) = z) (h17 : 17 ≤ z) (h3 : nu (lg l) 15 2 = 3 → 20 ≤ z) : CL fb (d + 1) 49 [vR (some S)] σ (rP (qUser (lg l) 17 (nu (lg l) 15 2)) σ) := by
  have hgo := x_user_loop (fb := fb) (d := d) hP hS hr hB hz h17 rfl h3 4 0 (by decide) (by decide)
  unfold qUser
  refine CL_in mL_49 rfl ?_
  show WP fb _ 49 0 [some (vR (some S)), none] [] σ _
  refine x_ic T_49_0 ?_
  refine x_si (ls1 := [some (vR (some S)), some (vI 0)]) T_49_1 rfl ?_
  exact hgo
end XUT
