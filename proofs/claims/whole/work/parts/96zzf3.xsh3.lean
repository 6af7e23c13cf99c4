/-! The class's shell: a for begins; its next word. -/
theorem T_198_0 : hTab 198 0 = some ((0, 0, 3, []), 1) := rfl
theorem T_198_1 : hTab 198 1 = some ((4, 2, 0, []), 2) := rfl
theorem T_198_2 : hTab 198 2 = some ((3, 2, 0, []), 3) := rfl
theorem T_198_3 : hTab 198 3 = some ((3, 1, 2, []), 4) := rfl
theorem T_198_4 : hTab 198 4 = some ((24, 16, Int.ofNat 4, []), 7) := rfl
theorem T_198_7 : hTab 198 7 = some ((19, 3, Int.ofNat 26, []), 10) := rfl
theorem T_198_10 : hTab 198 10 = some ((3, 1, 2, []), 11) := rfl
theorem T_198_11 : hTab 198 11 = some ((3, 2, 0, []), 12) := rfl
theorem T_198_12 : hTab 198 12 = some ((34, 60, 0, []), 14) := rfl
theorem T_198_14 : hTab 198 14 = some ((31, 115, 0, []), 17) := rfl
theorem T_198_17 : hTab 198 17 = some ((18, 1, Int.ofNat 26, []), 20) := rfl
theorem T_198_20 : hTab 198 20 = some ((5, 2, 1, []), 23) := rfl
theorem T_198_23 : hTab 198 23 = some ((22, 0, Int.ofNat 2, []), 26) := rfl
theorem T_198_26 : hTab 198 26 = some ((3, 1, 2, []), 27) := rfl
theorem T_198_27 : hTab 198 27 = some ((0, 0, 1, []), 28) := rfl
theorem T_198_28 : hTab 198 28 = some ((31, 103, 0, []), 31) := rfl
theorem T_198_31 : hTab 198 31 = some ((0, 0, (-1), []), 32) := rfl
theorem T_198_32 : hTab 198 32 = some ((19, 0, Int.ofNat 55, []), 35) := rfl
theorem T_198_35 : hTab 198 35 = some ((3, 1, 2, []), 36) := rfl
theorem T_198_36 : hTab 198 36 = some ((0, 0, 2, []), 37) := rfl
theorem T_198_37 : hTab 198 37 = some ((34, 61, 0, []), 39) := rfl
theorem T_198_39 : hTab 198 39 = some ((31, 115, 0, []), 42) := rfl
theorem T_198_42 : hTab 198 42 = some ((18, 0, Int.ofNat 55, []), 45) := rfl
theorem T_198_45 : hTab 198 45 = some ((3, 2, 0, []), 46) := rfl
theorem T_198_46 : hTab 198 46 = some ((0, 0, 1, []), 47) := rfl
theorem T_198_47 : hTab 198 47 = some ((10, 0, 0, []), 48) := rfl
theorem T_198_48 : hTab 198 48 = some ((3, 1, 2, []), 49) := rfl
theorem T_198_49 : hTab 198 49 = some ((24, 16, Int.ofNat 4, []), 52) := rfl
theorem T_198_52 : hTab 198 52 = some ((19, 2, Int.ofNat 58, []), 55) := rfl
theorem T_198_55 : hTab 198 55 = some ((0, 0, 18, []), 57) := rfl
theorem T_198_57 : hTab 198 57 = some ((33, 1, 0, []), 58) := rfl
theorem T_198_58 : hTab 198 58 = some ((3, 1, 2, []), 59) := rfl
theorem T_198_59 : hTab 198 59 = some ((0, 0, 24, []), 61) := rfl
theorem T_198_61 : hTab 198 61 = some ((25, 16, Int.ofNat 5, []), 64) := rfl
theorem T_198_64 : hTab 198 64 = some ((3, 1, 2, []), 65) := rfl
theorem T_198_65 : hTab 198 65 = some ((0, 0, 3, []), 66) := rfl
theorem T_198_66 : hTab 198 66 = some ((25, 16, Int.ofNat 6, []), 69) := rfl
theorem T_198_69 : hTab 198 69 = some ((3, 1, 2, []), 70) := rfl
theorem T_198_70 : hTab 198 70 = some ((3, 2, 0, []), 71) := rfl
theorem T_198_71 : hTab 198 71 = some ((0, 0, 1, []), 72) := rfl
theorem T_198_72 : hTab 198 72 = some ((10, 0, 0, []), 73) := rfl
theorem T_198_73 : hTab 198 73 = some ((25, 16, Int.ofNat 7, []), 76) := rfl
theorem T_198_76 : hTab 198 76 = some ((0, 0, 0, []), 77) := rfl
theorem T_198_77 : hTab 198 77 = some ((33, 1, 0, []), 78) := rfl
theorem F_16_7 : (hFd 16 7).2.2.1 = 0 := rfl
theorem mN_198 : hmN 198 = 2 := by decide +kernel
theorem mL_198 : hmL 198 = 3 := by decide +kernel
theorem mK_198 : hmK 198 = 1 := by decide +kernel
theorem mO_198 : hmO 198 = 15 := by decide +kernel
section XSH3
variable {fb : Bool} {d b k n : Nat} {σ0 σ : hM} {W W1 W2 V P : qR} {R : rR} {i j x z v s e p D pl N w nx bd E u K T U : Int} {l sc lo wd : List Int} {a y : Nat}
/-- where the first do is looked for, and found -/
def rpE (l : List Int) (N : Int) (m : Nat) (w : Int) : Int := if pdR l m w = -1 then w + m else pdR l m w
theorem rp_find (hP : PX σ0 W R σ) (hC : CMD W k l) (hN : ((lnW l).length : Int) = N) {Q : Option AV → hM → Prop} (hQ : WP fb (d + 6) 198 26 [some (vR (some 2187)), some (vR (some k)), some (vI E)] [] σ Q) : ∀ (m : Nat) (w : Int), w + m = N → 3 ≤ w → rpE l N m w = E → WP fb (d + 6) 198 2 [some (vR (some 2187)), some (vR (some k)), some (vI w)] [] σ Q := by
  have h5 := hC.2.2.2.2.1.trans hN
  have hk1 := hC.1
  have hll := (lnW_ok hC.2.2.2.1.2.2.2.2.1).2
  have e56 : txt 56 = [100, 111] := by decide
  intro m
  induction m with
  | zero =>
    intro w h1 h2 h3
    have h3 : w + ((0 : Nat) : Int) = E := h3
    have h4 : w = E := by omega
    have h1 : w + ((0 : Nat) : Int) = N := h1
    rw [← h4] at hQ
    refine x_li (z := w) T_198_2 rfl ?_
    refine x_lr (z := some k) T_198_3 rfl ?_
    refine x_gI (z := N) T_198_4 (Or.inl F_16_4) (hP.o hk1) (Eq.trans (hP.gi hk1 (key := 2516) rfl) h5) ?_
    refine x_ic2 T_198_7 (fun _ => ?_) (fun h => absurd (show N ≤ w by omega) h)
    exact hQ
  | succ m ih =>
    intro w h1 h2 h3
    have h1 : w + ((m + 1 : Nat) : Int) = N := h1
    have his := x_isA (fb := fb) (d := d) (j := 56) (w := w) (by decide) (by decide) hP hC (by omega)
    have eR : pdR l (m + 1) w = if lnB l w = [100, 111] then w else pdR l m (w + 1) := rfl
    unfold rpE at h3
    rw [eR] at h3
    rw [e56] at his
    by_cases q : lnB l w = [100, 111]
    · rw [if_pos q] at his
      simp only [if_pos q] at h3
      rw [if_neg (by omega)] at h3
      rw [← h3] at hQ
      refine x_li (z := w) T_198_2 rfl ?_
      refine x_lr (z := some k) T_198_3 rfl ?_
      refine x_gI (z := N) T_198_4 (Or.inl F_16_4) (hP.o hk1) (Eq.trans (hP.gi hk1 (key := 2516) rfl) h5) ?_
      refine x_ic2 T_198_7 (fun h => absurd (show N ≤ w from h) (by omega)) (fun _ => ?_)
      refine x_lr (z := some k) T_198_10 rfl ?_
      refine x_li (z := w) T_198_11 rfl ?_
      refine x_sta T_198_12 rfl ?_
      refine x_cv3 T_198_14 mN_115 mL_115 (Nat.le_of_ble_eq_true rfl) mO_115 (hP.o hk1) (Nat.le_of_ble_eq_true rfl) (his) ?_
      rintro _ σ ⟨rfl, rfl⟩
      refine cI ?_
      refine x_if T_198_17 (fun _ => ?_) (fun h => absurd (show ¬ (1 : Int) = 0 by decide) h)
      exact hQ
    · rw [if_neg q] at his
      simp only [if_neg q] at h3
      have hgo := ih (w + 1) (by omega) (by omega) (by
        unfold rpE
        rw [← h3, show w + 1 + (m : Int) = w + ((m + 1 : Nat) : Int) by omega])
      refine x_li (z := w) T_198_2 rfl ?_
      refine x_lr (z := some k) T_198_3 rfl ?_
      refine x_gI (z := N) T_198_4 (Or.inl F_16_4) (hP.o hk1) (Eq.trans (hP.gi hk1 (key := 2516) rfl) h5) ?_
      refine x_ic2 T_198_7 (fun h => absurd (show N ≤ w from h) (by omega)) (fun _ => ?_)
      refine x_lr (z := some k) T_198_10 rfl ?_
      refine x_li (z := w) T_198_11 rfl ?_
      refine x_sta T_198_12 rfl ?_
      refine x_cv3 T_198_14 mN_115 mL_115 (Nat.le_of_ble_eq_true rfl) mO_115 (hP.o hk1) (Nat.le_of_ble_eq_true rfl) (his) ?_
      rintro _ σ ⟨rfl, rfl⟩
      refine cI ?_
      refine x_if T_198_17 (fun h => absurd (show ¬ (0 : Int) = 0 from h) (by decide)) (fun _ => ?_)
      refine x_inc (w := (w + 1)) (ls1 := [some (vR (some 2187)), some (vR (some k)), some (vI (w + 1))]) T_198_20 rfl (w32_id (by omega) (by omega)) rfl ?_
      refine x_goto T_198_23 ?_
      exact hgo
theorem x_repeat (hP : PX σ0 W R σ) (hC : CMD W k l) : CL fb (d + 6) 198 [vR (some 2187), vR (some k)] σ (fun r σ' => (¬ foK l → r = some (vI 18) ∧ σ' = σ) ∧ (foK l → r = some (vI 0) ∧ PX σ0 (rU (rU (rU W k 2517 24) k 2518 3) k 2519 (pdO l + 1)) R σ')) := by
  have h5 := hC.2.2.2.2.1
  have hk1 := hC.1
  have hll := (lnW_ok hC.2.2.2.1.2.2.2.2.1).2
  have hva := x_variableA (fb := fb) (d := d + 3) (w := 1) hP hC (by decide)
  have his := x_isA (fb := fb) (d := d) (j := 57) (w := 2) (by decide) (by decide) hP hC (by decide)
  rw [show txt 57 = [105, 110] by decide] at his
  obtain ⟨N, hNN⟩ : ∃ q : Int, ((lnW l).length : Int) = q := ⟨_, rfl⟩
  rw [hNN] at h5
  obtain ⟨E, hE⟩ : ∃ E, (if pdO l = -1 then (if N < 3 then 3 else N) else pdO l) = E := ⟨_, rfl⟩
  have hpr := pdR_rng (l := l) (N - 3).toNat 3
  rw [show pdR l (N - 3).toNat 3 = pdO l by unfold pdO; rw [hNN]] at hpr
  have hEr : 3 ≤ E ∧ E ≤ 100 := by
    rw [← hE]
    split <;> omega
  have hfind : ∀ {Q : Option AV → hM → Prop}, WP fb (d + 6) 198 26 [some (vR (some 2187)), some (vR (some k)), some (vI E)] [] σ Q → WP fb (d + 6) 198 2 [some (vR (some 2187)), some (vR (some k)), some (vI 3)] [] σ Q := fun {Q} hQ => by
    by_cases q : N < 3
    · have e0 : pdO l = -1 := by omega
      rw [if_pos e0, if_pos q] at hE
      rw [← hE] at hQ
      refine x_li (z := 3) T_198_2 rfl ?_
      refine x_lr (z := some k) T_198_3 rfl ?_
      refine x_gI (z := N) T_198_4 (Or.inl F_16_4) (hP.o hk1) (Eq.trans (hP.gi hk1 (key := 2516) rfl) h5) ?_
      refine x_ic2 T_198_7 (fun _ => ?_) (fun h => absurd (show N ≤ 3 by omega) h)
      exact hQ
    · refine rp_find hP hC hNN hQ (N - 3).toNat 3 (by omega) (by decide) ?_
      unfold rpE
      rw [show pdR l (N - 3).toNat 3 = pdO l by unfold pdO; rw [hNN], ← hE, if_neg q, show 3 + (((N - 3).toNat : Nat) : Int) = N by omega]
  have hfo : foK l ↔ (0 ≤ vaN (lnB l 1) ∧ vaN (lnB l 1) ≤ 25) ∧ lnB l 2 = [105, 110] ∧ E + 1 < N := by
    have hva : vaN (lnB l 1) = if ((lnB l 1).length : Int) = 1 then lg (lnB l 1) 0 - 97 else -1 := rfl
    rw [hva]
    constructor
    · intro h
      obtain ⟨⟨g1, g2, g3, g4⟩, g5, g6⟩ := h
      rw [hNN] at g1 g6
      rw [if_pos (by omega)]
      rw [if_neg (by omega)] at hE
      exact ⟨by omega, g4, by omega⟩
    · intro h
      obtain ⟨g1, g2, g3⟩ := h
      have c1 : ((lnB l 1).length : Int) = 1 := by
        by_cases c : ((lnB l 1).length : Int) = 1
        · exact c
        · rw [if_neg c] at g1
          omega
      rw [if_pos c1] at g1
      have c2 : ¬ pdO l = -1 := fun c => by
        rw [if_pos c] at hE
        split at hE <;> omega
      rw [if_neg c2] at hE
      unfold foK
      rw [hNN]
      exact ⟨⟨by omega, by omega, by omega, g2⟩, by omega, by omega⟩
  obtain ⟨v, hv⟩ : ∃ v, (if 0 ≤ vaN (lnB l 1) ∧ vaN (lnB l 1) ≤ 25 then vaN (lnB l 1) else -1) = v := ⟨_, rfl⟩
  have hv2 : (0 ≤ vaN (lnB l 1) ∧ vaN (lnB l 1) ≤ 25) ↔ ¬ v = -1 := by
    rw [← hv]
    split <;> omega
  rw [hv] at hva
  rw [hv2] at hfo
  have hvr : -1 ≤ v ∧ v ≤ 25 := by
    rw [← hv]
    split <;> omega
  by_cases q1 : v = -1
  · have hno : ¬ foK l := fun c => (hfo.mp c).1 q1
    have h26 : WP fb (d + 6) 198 26 [some (vR (some 2187)), some (vR (some k)), some (vI E)] [] σ (fun r σ' => (¬ foK l → r = some (vI 18) ∧ σ' = σ) ∧ (foK l → r = some (vI 0) ∧ PX σ0 (rU (rU (rU W k 2517 24) k 2518 3) k 2519 (pdO l + 1)) R σ')) := by
      refine x_lr (z := some k) T_198_26 rfl ?_
      refine x_ic T_198_27 ?_
      refine x_cv2 T_198_28 mN_103 mL_103 (Nat.le_of_ble_eq_true rfl) mO_103 (hP.o hk1) (Nat.le_of_ble_eq_true rfl) (hva) ?_
      rintro _ σ ⟨rfl, rfl⟩
      refine cI ?_
      refine x_ic T_198_31 ?_
      refine x_ic2 T_198_32 (fun _ => ?_) (fun h => absurd (show v = (-1) by exact q1) h)
      refine x_ic T_198_55 ?_
      refine x_ri T_198_57 ?_
      exact ⟨fun _ => ⟨rfl, rfl⟩, fun c => absurd c hno⟩
    refine CL_in mL_198 rfl ?_
    show WP fb _ 198 0 [some (vR (some 2187)), some (vR (some k)), none] [] σ _
    refine x_ic T_198_0 ?_
    refine x_si (ls1 := [some (vR (some 2187)), some (vR (some k)), some (vI 3)]) T_198_1 rfl ?_
    exact hfind h26
  by_cases q2 : lnB l 2 = [105, 110]
  rotate_left
  · have hno : ¬ foK l := fun c => q2 (hfo.mp c).2.1
    rw [if_neg q2] at his
    have h26 : WP fb (d + 6) 198 26 [some (vR (some 2187)), some (vR (some k)), some (vI E)] [] σ (fun r σ' => (¬ foK l → r = some (vI 18) ∧ σ' = σ) ∧ (foK l → r = some (vI 0) ∧ PX σ0 (rU (rU (rU W k 2517 24) k 2518 3) k 2519 (pdO l + 1)) R σ')) := by
      refine x_lr (z := some k) T_198_26 rfl ?_
      refine x_ic T_198_27 ?_
      refine x_cv2 T_198_28 mN_103 mL_103 (Nat.le_of_ble_eq_true rfl) mO_103 (hP.o hk1) (Nat.le_of_ble_eq_true rfl) (hva) ?_
      rintro _ σ ⟨rfl, rfl⟩
      refine cI ?_
      refine x_ic T_198_31 ?_
      refine x_ic2 T_198_32 (fun h => absurd (show v = (-1) from h) (by exact q1)) (fun _ => ?_)
      refine x_lr (z := some k) T_198_35 rfl ?_
      refine x_ic T_198_36 ?_
      refine x_sta T_198_37 rfl ?_
      refine x_cv3 T_198_39 mN_115 mL_115 (Nat.le_of_ble_eq_true rfl) mO_115 (hP.o hk1) (Nat.le_of_ble_eq_true rfl) (his) ?_
      rintro _ σ ⟨rfl, rfl⟩
      refine cI ?_
      refine x_if T_198_42 (fun _ => ?_) (fun h => absurd (show (0 : Int) = 0 by rfl) h)
      refine x_ic T_198_55 ?_
      refine x_ri T_198_57 ?_
      exact ⟨fun _ => ⟨rfl, rfl⟩, fun c => absurd c hno⟩
    refine CL_in mL_198 rfl ?_
    show WP fb _ 198 0 [some (vR (some 2187)), some (vR (some k)), none] [] σ _
    refine x_ic T_198_0 ?_
    refine x_si (ls1 := [some (vR (some 2187)), some (vR (some k)), some (vI 3)]) T_198_1 rfl ?_
    exact hfind h26
  rw [if_pos q2] at his
  by_cases q3 : E + 1 < N
  rotate_left
  · have hno : ¬ foK l := fun c => q3 (hfo.mp c).2.2
    have h26 : WP fb (d + 6) 198 26 [some (vR (some 2187)), some (vR (some k)), some (vI E)] [] σ (fun r σ' => (¬ foK l → r = some (vI 18) ∧ σ' = σ) ∧ (foK l → r = some (vI 0) ∧ PX σ0 (rU (rU (rU W k 2517 24) k 2518 3) k 2519 (pdO l + 1)) R σ')) := by
      refine x_lr (z := some k) T_198_26 rfl ?_
      refine x_ic T_198_27 ?_
      refine x_cv2 T_198_28 mN_103 mL_103 (Nat.le_of_ble_eq_true rfl) mO_103 (hP.o hk1) (Nat.le_of_ble_eq_true rfl) (hva) ?_
      rintro _ σ ⟨rfl, rfl⟩
      refine cI ?_
      refine x_ic T_198_31 ?_
      refine x_ic2 T_198_32 (fun h => absurd (show v = (-1) from h) (by exact q1)) (fun _ => ?_)
      refine x_lr (z := some k) T_198_35 rfl ?_
      refine x_ic T_198_36 ?_
      refine x_sta T_198_37 rfl ?_
      refine x_cv3 T_198_39 mN_115 mL_115 (Nat.le_of_ble_eq_true rfl) mO_115 (hP.o hk1) (Nat.le_of_ble_eq_true rfl) (his) ?_
      rintro _ σ ⟨rfl, rfl⟩
      refine cI ?_
      refine x_if T_198_42 (fun h => absurd (show (1 : Int) = 0 from h) (by decide)) (fun _ => ?_)
      refine x_li (z := E) T_198_45 rfl ?_
      refine x_ic T_198_46 ?_
      refine x_ib (w := (E + 1)) T_198_47 (fun h => absurd h.1 (by decide)) (w32_id (by omega) (by omega)) ?_
      refine x_lr (z := some k) T_198_48 rfl ?_
      refine x_gI (z := N) T_198_49 (Or.inl F_16_4) (hP.o hk1) (Eq.trans (hP.gi hk1 (key := 2516) rfl) h5) ?_
      refine x_ic2 T_198_52 (fun h => absurd (show (E + 1) < N from h) (by omega)) (fun _ => ?_)
      refine x_ic T_198_55 ?_
      refine x_ri T_198_57 ?_
      exact ⟨fun _ => ⟨rfl, rfl⟩, fun c => absurd c hno⟩
    refine CL_in mL_198 rfl ?_
    show WP fb _ 198 0 [some (vR (some 2187)), some (vR (some k)), none] [] σ _
    refine x_ic T_198_0 ?_
    refine x_si (ls1 := [some (vR (some 2187)), some (vR (some k)), some (vI 3)]) T_198_1 rfl ?_
    exact hfind h26
  have hyes : foK l := hfo.mpr ⟨q1, q2, q3⟩
  have eE : E = pdO l := by
    have : ¬ pdO l = -1 := fun c => by have := hyes.2.1; omega
    rw [if_neg this] at hE
    exact hE.symm
  have h26 : WP fb (d + 6) 198 26 [some (vR (some 2187)), some (vR (some k)), some (vI E)] [] σ (fun r σ' => (¬ foK l → r = some (vI 18) ∧ σ' = σ) ∧ (foK l → r = some (vI 0) ∧ PX σ0 (rU (rU (rU W k 2517 24) k 2518 3) k 2519 (E + 1)) R σ')) := by
    refine x_lr (z := some k) T_198_26 rfl ?_
    refine x_ic T_198_27 ?_
    refine x_cv2 T_198_28 mN_103 mL_103 (Nat.le_of_ble_eq_true rfl) mO_103 (hP.o hk1) (Nat.le_of_ble_eq_true rfl) (hva) ?_
    rintro _ σ ⟨rfl, rfl⟩
    refine cI ?_
    refine x_ic T_198_31 ?_
    refine x_ic2 T_198_32 (fun h => absurd (show v = (-1) from h) (by exact q1)) (fun _ => ?_)
    refine x_lr (z := some k) T_198_35 rfl ?_
    refine x_ic T_198_36 ?_
    refine x_sta T_198_37 rfl ?_
    refine x_cv3 T_198_39 mN_115 mL_115 (Nat.le_of_ble_eq_true rfl) mO_115 (hP.o hk1) (Nat.le_of_ble_eq_true rfl) (his) ?_
    rintro _ σ ⟨rfl, rfl⟩
    refine cI ?_
    refine x_if T_198_42 (fun h => absurd (show (1 : Int) = 0 from h) (by decide)) (fun _ => ?_)
    refine x_li (z := E) T_198_45 rfl ?_
    refine x_ic T_198_46 ?_
    refine x_ib (w := (E + 1)) T_198_47 (fun h => absurd h.1 (by decide)) (w32_id (by omega) (by omega)) ?_
    refine x_lr (z := some k) T_198_48 rfl ?_
    refine x_gI (z := N) T_198_49 (Or.inl F_16_4) (hP.o hk1) (Eq.trans (hP.gi hk1 (key := 2516) rfl) h5) ?_
    refine x_ic2 T_198_52 (fun _ => ?_) (fun h => absurd (show (E + 1) < N by omega) h)
    refine x_lr (z := some k) T_198_58 rfl ?_
    refine x_ic T_198_59 ?_
    refine z_pI hP T_198_61 F_16_5 hk1 (key := 2517) rfl (fun σ hP => ?_)
    refine x_lr (z := some k) T_198_64 rfl ?_
    refine x_ic T_198_65 ?_
    refine z_pI hP T_198_66 F_16_6 hk1 (key := 2518) rfl (fun σ hP => ?_)
    refine x_lr (z := some k) T_198_69 rfl ?_
    refine x_li (z := E) T_198_70 rfl ?_
    refine x_ic T_198_71 ?_
    refine x_ib (w := (E + 1)) T_198_72 (fun h => absurd h.1 (by decide)) (w32_id (by omega) (by omega)) ?_
    refine z_pI hP T_198_73 F_16_7 hk1 (key := 2519) rfl (fun σ hP => ?_)
    refine x_ic T_198_76 ?_
    refine x_ri T_198_77 ?_
    exact ⟨fun c => absurd hyes c, fun _ => ⟨rfl, hP⟩⟩
  rw [← eE]
  refine CL_in mL_198 rfl ?_
  show WP fb _ 198 0 [some (vR (some 2187)), some (vR (some k)), none] [] σ _
  refine x_ic T_198_0 ?_
  refine x_si (ls1 := [some (vR (some 2187)), some (vR (some k)), some (vI 3)]) T_198_1 rfl ?_
  exact hfind h26
end XSH3
