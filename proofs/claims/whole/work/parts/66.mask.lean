/-! A message laid down, byte by byte. -/
theorem T_228_0 : hTab 228 0 = some ((3, 0, 2, []), 1) := rfl
theorem T_228_1 : hTab 228 1 = some ((0, 0, 4, []), 2) := rfl
theorem T_228_2 : hTab 228 2 = some ((25, 17, Int.ofNat 4, []), 5) := rfl
theorem T_228_5 : hTab 228 5 = some ((3, 0, 2, []), 6) := rfl
theorem T_228_6 : hTab 228 6 = some ((0, 0, 1, []), 7) := rfl
theorem T_228_7 : hTab 228 7 = some ((3, 1, 0, []), 8) := rfl
theorem T_228_8 : hTab 228 8 = some ((14, 0, 0, []), 9) := rfl
theorem T_228_9 : hTab 228 9 = some ((31, 229, 0, []), 12) := rfl
theorem T_228_12 : hTab 228 12 = some ((3, 0, 2, []), 13) := rfl
theorem T_228_13 : hTab 228 13 = some ((0, 0, 2, []), 14) := rfl
theorem T_228_14 : hTab 228 14 = some ((3, 2, 0, []), 15) := rfl
theorem T_228_15 : hTab 228 15 = some ((14, 0, 0, []), 16) := rfl
theorem T_228_16 : hTab 228 16 = some ((31, 229, 0, []), 19) := rfl
theorem T_228_19 : hTab 228 19 = some ((33, 0, 0, []), 20) := rfl
theorem T_229_0 : hTab 229 0 = some ((0, 0, 0, []), 1) := rfl
theorem T_229_1 : hTab 229 1 = some ((4, 4, 0, []), 3) := rfl
theorem T_229_3 : hTab 229 3 = some ((3, 4, 0, []), 5) := rfl
theorem T_229_5 : hTab 229 5 = some ((3, 1, 0, []), 6) := rfl
theorem T_229_6 : hTab 229 6 = some ((19, 3, Int.ofNat 46, []), 9) := rfl
theorem T_229_9 : hTab 229 9 = some ((3, 0, 2, []), 10) := rfl
theorem T_229_10 : hTab 229 10 = some ((24, 17, Int.ofNat 3, []), 13) := rfl
theorem T_229_13 : hTab 229 13 = some ((3, 0, 2, []), 14) := rfl
theorem T_229_14 : hTab 229 14 = some ((24, 17, Int.ofNat 4, []), 17) := rfl
theorem T_229_17 : hTab 229 17 = some ((3, 2, 1, []), 18) := rfl
theorem T_229_18 : hTab 229 18 = some ((0, 0, 8, []), 20) := rfl
theorem T_229_20 : hTab 229 20 = some ((3, 4, 0, []), 22) := rfl
theorem T_229_22 : hTab 229 22 = some ((10, 2, 0, []), 23) := rfl
theorem T_229_23 : hTab 229 23 = some ((12, 1, 0, []), 24) := rfl
theorem T_229_24 : hTab 229 24 = some ((1, 0, 255, []), 27) := rfl
theorem T_229_27 : hTab 229 27 = some ((11, 5, 0, []), 28) := rfl
theorem T_229_28 : hTab 229 28 = some ((15, 0, 0, []), 29) := rfl
theorem T_229_29 : hTab 229 29 = some ((27, 0, 0, []), 30) := rfl
theorem T_229_30 : hTab 229 30 = some ((3, 0, 2, []), 31) := rfl
theorem T_229_31 : hTab 229 31 = some ((6, 0, 0, []), 32) := rfl
theorem T_229_32 : hTab 229 32 = some ((24, 17, Int.ofNat 4, []), 35) := rfl
theorem T_229_35 : hTab 229 35 = some ((0, 0, 1, []), 36) := rfl
theorem T_229_36 : hTab 229 36 = some ((10, 0, 0, []), 37) := rfl
theorem T_229_37 : hTab 229 37 = some ((25, 17, Int.ofNat 4, []), 40) := rfl
theorem T_229_40 : hTab 229 40 = some ((5, 4, 1, []), 43) := rfl
theorem T_229_43 : hTab 229 43 = some ((22, 0, Int.ofNat 3, []), 46) := rfl
theorem T_229_46 : hTab 229 46 = some ((33, 0, 0, []), 47) := rfl
theorem mN_228 : hmN 228 = 3 := by decide +kernel
theorem mL_228 : hmL 228 = 3 := by decide +kernel
theorem mK_228 : hmK 228 = 1 := by decide +kernel
theorem mO_228 : hmO 228 = 17 := by decide +kernel
theorem mN_229 : hmN 229 = 3 := by decide +kernel
theorem mL_229 : hmL 229 = 5 := by decide +kernel
theorem mK_229 : hmK 229 = 1 := by decide +kernel
theorem mO_229 : hmO 229 = 17 := by decide +kernel
/-- a request so far: its bytes after the size -/
def RQ (T U : Int) (S S1 : qR) (w : Int) (l : List Int) : Prop := S1 2281 4 = w ∧ w = 4 + (l.length : Int) ∧ (∀ i : Int, 0 ≤ i → i < l.length → S1 2285 (4 + i) = lg l i) ∧ byt l ∧ IV true T U S1 ∧ (∀ (f : Nat) (k : Int), f ≠ 2281 → f ≠ 2285 → S1 f k = S f k) ∧ (∀ k : Int, k ≠ 4 → S1 2281 k = S 2281 k) ∧ w ≤ 420
section MASK
variable {fb : Bool} {d : Nat} {σ0 σ : hM} {P Q S S1 : qR} {T U w : Int} {l : List Int}
theorem RQ.iv (h : RQ T U S S1 w l) : IV true T U S1 := h.2.2.2.2.1
theorem RQ.rg (h : RQ T U S S1 w l) : 4 ≤ w ∧ w ≤ 420 := by
  have h1 := h.2.1
  have h2 := h.2.2.2.2.2.2.2
  omega
theorem RQ.snoc {x : Int} (h : RQ T U S S1 w l) (hx : 0 ≤ x ∧ x ≤ 255) (hw : w < 420) : RQ T U S (rU (rU S1 2285 w x) 2281 4 (w + 1)) (w + 1) (l ++ [x]) := by
  obtain ⟨h1, h2, h3, h4, h5, h6, h7, h8⟩ := h
  refine ⟨rU_s, ?_, fun i i0 i1 => ?_, byt_app h4 (byt_cons hx byt_nil), (h5.uA 2285 rfl hx).uN 4 4 rfl (by show 0 ≤ w + 1 ∧ w + 1 ≤ 512; omega), fun f k q1 q2 => (rU_f q1).trans ((rU_f q2).trans (h6 f k q1 q2)), fun k q => (rU_k q).trans ((rU_f (by decide)).trans (h7 k q)), by omega⟩
  · rw [List.length_append]
    simp only [List.length_cons, List.length_nil]
    omega
  · rw [List.length_append] at i1
    simp only [List.length_cons, List.length_nil] at i1
    rw [rU_f (by decide), lg_app i0]
    split <;> rename_i hi
    · rw [rU_k (by omega)]
      exact h3 i i0 hi
    · rw [show (4 : Int) + i = w by omega, rU_s, show i - (l.length : Int) = 0 by omega]
      rfl
abbrev rQ (T U : Int) (σ0 : hM) (P S : qR) (w : Int) (l : List Int) : Option AV → hM → Prop := fun r σ' => r = none ∧ ∃ S2, PM σ0 P S2 σ' ∧ RQ T U S S2 w l
theorem r_askPut_loop {v n w0 : Int} (hn : n ≤ 8) (hw0 : w0 + n ≤ 420) : ∀ (m : Nat) (i : Int) (σ : hM) (S1 : qR), i + m = n → 0 ≤ i → PM σ0 P S1 σ → RQ T U S S1 (w0 + i) (l ++ leb i.toNat v) → WP fb d 229 3 [some (vR (some 2281)), some (vI n), some (vL v), none, some (vI i)] [] σ (rQ T U σ0 P S (w0 + n) (l ++ leb n.toNat v)) := by
  intro m
  induction m with
  | zero =>
    intro i σ S1 hi hi0 hP hQ
    obtain rfl : n = i := by omega
    refine x_li (z := n) T_229_3 rfl ?_
    refine x_li (z := n) T_229_5 rfl ?_
    refine x_ic2 T_229_6 (fun _ => ?_) (fun h => absurd (show n ≤ n by omega) h)
    refine x_rv T_229_46 ?_
    exact ⟨rfl, _, hP, hQ⟩
  | succ m ih =>
    intro i σ S1 hi hi0 hP hQ
    have hr := hQ.rg
    have hx : 0 ≤ v / 256 ^ i.toNat % 256 ∧ v / 256 ^ i.toNat % 256 ≤ 255 := ⟨Int.emod_nonneg _ (by decide), by have := Int.emod_lt_of_pos (v / 256 ^ i.toNat) (show (0 : Int) < 256 by decide); omega⟩
    have h1 := hQ.snoc hx (by omega)
    rw [List.append_assoc, ← leb_snoc] at h1
    refine x_li (z := i) T_229_3 rfl ?_
    refine x_li (z := n) T_229_5 rfl ?_
    refine x_ic2 T_229_6 (fun h => absurd (show n ≤ i from h) (by omega)) (fun _ => ?_)
    refine x_lr (z := some 2281) T_229_9 rfl ?_
    refine x_gR (z := some 2285) T_229_10 F_17_3 (PM.t hP) (PM.r hP 3 2285 rfl) ?_
    refine x_lr (z := some 2281) T_229_13 rfl ?_
    refine x_gI (z := w0 + i) T_229_14 (Or.inl F_17_4) (PM.t hP) (Eq.trans (PM.nS hP 2281 4 4 rfl rfl rfl) hQ.1) ?_
    refine x_ll (z := v) T_229_17 rfl ?_
    refine x_ic T_229_18 ?_
    refine x_li (z := i) T_229_20 rfl ?_
    refine x_ib (w := (8 * i)) T_229_22 (fun h => absurd h.1 (by decide)) (w32_id (by omega) (by omega)) ?_
    refine x_lh (w := (shr64 v (8 * i))) T_229_23 rfl ?_
    refine x_lc T_229_24 ?_
    refine x_lb (w := (v / 256 ^ i.toNat % 256)) T_229_27 (fun h => absurd h.1 (by decide)) (byte64 v (by omega) (by omega)) ?_
    refine x_l2i (w := (v / 256 ^ i.toNat % 256)) T_229_28 (w32_id (by omega) (by omega)) ?_
    refine y_aIS hP T_229_29 2285 512 rfl rfl rfl (by omega) (by omega) (fun σ hP => ?_)
    refine x_lr (z := some 2281) T_229_30 rfl ?_
    refine x_dupR T_229_31 ?_
    refine x_gI (z := w0 + i) T_229_32 (Or.inl F_17_4) (PM.t hP) (Eq.trans (Eq.trans (PM.nS hP 2281 4 4 rfl rfl rfl) (rU_f (Nat.ne_of_beq_eq_false rfl))) hQ.1) ?_
    refine x_ic T_229_35 ?_
    refine x_ib (w := (w0 + i + 1)) T_229_36 (fun h => absurd h.1 (by decide)) (w32_id (by omega) (by omega)) ?_
    refine y_pIS hP T_229_37 F_17_4 4 rfl rfl (fun σ hP => ?_)
    refine x_inc (w := (i + 1)) (ls1 := [some (vR (some 2281)), some (vI n), some (vL v), none, some (vI (i + 1))]) T_229_40 rfl (w32_id (by omega) (by omega)) rfl ?_
    refine x_goto T_229_43 ?_
    refine ih (i + 1) σ _ (by omega) (by omega) hP ?_
    rw [show (i + 1).toNat = i.toNat + 1 by omega, show w0 + (i + 1) = w0 + i + 1 by omega]
    exact h1
theorem r_askPut (n : Nat) {z v : Int} (hz : (n : Int) = z) (hP : PM σ0 P S1 σ) (hQ : RQ T U S S1 w l) (hn : n ≤ 8) (h1 : w + n ≤ 420) : CL fb d 229 [vR (some 2281), vI z, vL v] σ (rQ T U σ0 P S (w + z) (l ++ leb n v)) := by
  have hn2 : n = z.toNat := by omega
  rw [hn2]
  refine CL_in mL_229 rfl ?_
  show WP fb _ 229 0 [some (vR (some 2281)), some (vI z), some (vL v), none, none] [] σ _
  refine x_ic T_229_0 ?_
  refine x_si (ls1 := [some (vR (some 2281)), some (vI z), some (vL v), none, some (vI 0)]) T_229_1 rfl ?_
  exact r_askPut_loop (by omega) (by omega) n 0 σ S1 (by omega) (by decide) hP (by rw [show leb (0 : Int).toNat v = [] from rfl, List.append_nil, Int.add_zero]; exact hQ)
theorem RQ.beg (hJ : IV true T U S) : RQ T U S (rU S 2281 4 4) 4 [] := ⟨rU_s, rfl, fun i h1 h2 => absurd h2 (by show ¬ i < 0; omega), byt_nil, hJ.uN 4 4 rfl (by show (0 : Int) ≤ 4 ∧ (4 : Int) ≤ 512; decide), fun f k h1 h2 => rU_f h1, fun k h => rU_k h, by decide⟩
theorem r_begin {t g : Int} (hP : PM σ0 P S σ) (hJ : IV true T U S) : CL fb (d + 1) 228 [vR (some 2281), vI t, vI g] σ (rQ T U σ0 P S 7 (leb 1 t ++ leb 2 g)) := by
  have hQ := RQ.beg hJ
  refine CL_in mL_228 rfl ?_
  show WP fb _ 228 0 [some (vR (some 2281)), some (vI t), some (vI g)] [] σ _
  refine x_lr (z := some 2281) T_228_0 rfl ?_
  refine x_ic T_228_1 ?_
  refine y_pIS hP T_228_2 F_17_4 4 rfl rfl (fun σ hP => ?_)
  refine x_lr (z := some 2281) T_228_5 rfl ?_
  refine x_ic T_228_6 ?_
  refine x_li (z := t) T_228_7 rfl ?_
  refine x_i2l T_228_8 ?_
  refine x_cv3 T_228_9 mN_229 mL_229 (Nat.le_of_ble_eq_true rfl) mO_229 (PM.t hP) (Nat.le_of_ble_eq_true rfl) (r_askPut 1 rfl hP hQ (by decide) (by omega)) ?_
  rintro _ σ ⟨rfl, S1, hP, hQ⟩
  refine cV ?_
  refine x_lr (z := some 2281) T_228_12 rfl ?_
  refine x_ic T_228_13 ?_
  refine x_li (z := g) T_228_14 rfl ?_
  refine x_i2l T_228_15 ?_
  refine x_cv3 T_228_16 mN_229 mL_229 (Nat.le_of_ble_eq_true rfl) mO_229 (PM.t hP) (Nat.le_of_ble_eq_true rfl) (r_askPut 2 rfl hP hQ (by decide) (by omega)) ?_
  rintro _ σ ⟨rfl, S1, hP, hQ⟩
  refine cV ?_
  refine x_rv T_228_19 ?_
  exact ⟨rfl, _, hP, hQ⟩
end MASK
