/-! The kernel's shorter asks. -/
theorem T_335_0 : hTab 335 0 = some ((3, 0, 2, []), 1) := rfl
theorem T_335_1 : hTab 335 1 = some ((0, 0, 110, []), 3) := rfl
theorem T_335_3 : hTab 335 3 = some ((0, 0, 1, []), 4) := rfl
theorem T_335_4 : hTab 335 4 = some ((31, 228, 0, []), 7) := rfl
theorem T_335_7 : hTab 335 7 = some ((3, 0, 2, []), 8) := rfl
theorem T_335_8 : hTab 335 8 = some ((0, 0, 4, []), 9) := rfl
theorem T_335_9 : hTab 335 9 = some ((3, 2, 0, []), 10) := rfl
theorem T_335_10 : hTab 335 10 = some ((14, 0, 0, []), 11) := rfl
theorem T_335_11 : hTab 335 11 = some ((31, 229, 0, []), 14) := rfl
theorem T_335_14 : hTab 335 14 = some ((3, 0, 2, []), 15) := rfl
theorem T_335_15 : hTab 335 15 = some ((0, 0, 4, []), 16) := rfl
theorem T_335_16 : hTab 335 16 = some ((3, 3, 0, []), 17) := rfl
theorem T_335_17 : hTab 335 17 = some ((14, 0, 0, []), 18) := rfl
theorem T_335_18 : hTab 335 18 = some ((31, 229, 0, []), 21) := rfl
theorem T_335_21 : hTab 335 21 = some ((3, 0, 2, []), 22) := rfl
theorem T_335_22 : hTab 335 22 = some ((0, 0, 2, []), 23) := rfl
theorem T_335_23 : hTab 335 23 = some ((1, 0, 0, []), 24) := rfl
theorem T_335_24 : hTab 335 24 = some ((31, 229, 0, []), 27) := rfl
theorem T_335_27 : hTab 335 27 = some ((3, 0, 2, []), 28) := rfl
theorem T_335_28 : hTab 335 28 = some ((3, 1, 0, []), 29) := rfl
theorem T_335_29 : hTab 335 29 = some ((31, 231, 0, []), 32) := rfl
theorem T_335_32 : hTab 335 32 = some ((33, 1, 0, []), 33) := rfl
theorem T_345_0 : hTab 345 0 = some ((3, 0, 2, []), 1) := rfl
theorem T_345_1 : hTab 345 1 = some ((3, 1, 0, []), 2) := rfl
theorem T_345_2 : hTab 345 2 = some ((0, 0, 1, []), 3) := rfl
theorem T_345_3 : hTab 345 3 = some ((31, 228, 0, []), 6) := rfl
theorem T_345_6 : hTab 345 6 = some ((3, 0, 2, []), 7) := rfl
theorem T_345_7 : hTab 345 7 = some ((0, 0, 4, []), 8) := rfl
theorem T_345_8 : hTab 345 8 = some ((3, 3, 0, []), 9) := rfl
theorem T_345_9 : hTab 345 9 = some ((14, 0, 0, []), 10) := rfl
theorem T_345_10 : hTab 345 10 = some ((31, 229, 0, []), 13) := rfl
theorem T_345_13 : hTab 345 13 = some ((3, 0, 2, []), 14) := rfl
theorem T_345_14 : hTab 345 14 = some ((3, 2, 0, []), 15) := rfl
theorem T_345_15 : hTab 345 15 = some ((31, 231, 0, []), 18) := rfl
theorem T_345_18 : hTab 345 18 = some ((33, 1, 0, []), 19) := rfl
theorem T_349_0 : hTab 349 0 = some ((3, 0, 2, []), 1) := rfl
theorem T_349_1 : hTab 349 1 = some ((0, 0, 112, []), 3) := rfl
theorem T_349_3 : hTab 349 3 = some ((0, 0, 1, []), 4) := rfl
theorem T_349_4 : hTab 349 4 = some ((31, 228, 0, []), 7) := rfl
theorem T_349_7 : hTab 349 7 = some ((3, 0, 2, []), 8) := rfl
theorem T_349_8 : hTab 349 8 = some ((0, 0, 4, []), 9) := rfl
theorem T_349_9 : hTab 349 9 = some ((3, 2, 0, []), 10) := rfl
theorem T_349_10 : hTab 349 10 = some ((14, 0, 0, []), 11) := rfl
theorem T_349_11 : hTab 349 11 = some ((31, 229, 0, []), 14) := rfl
theorem T_349_14 : hTab 349 14 = some ((3, 0, 2, []), 15) := rfl
theorem T_349_15 : hTab 349 15 = some ((0, 0, 1, []), 16) := rfl
theorem T_349_16 : hTab 349 16 = some ((3, 3, 0, []), 17) := rfl
theorem T_349_17 : hTab 349 17 = some ((14, 0, 0, []), 18) := rfl
theorem T_349_18 : hTab 349 18 = some ((31, 229, 0, []), 21) := rfl
theorem T_349_21 : hTab 349 21 = some ((3, 0, 2, []), 22) := rfl
theorem T_349_22 : hTab 349 22 = some ((3, 1, 0, []), 23) := rfl
theorem T_349_23 : hTab 349 23 = some ((31, 231, 0, []), 26) := rfl
theorem T_349_26 : hTab 349 26 = some ((33, 1, 0, []), 27) := rfl
theorem T_350_0 : hTab 350 0 = some ((3, 0, 2, []), 1) := rfl
theorem T_350_1 : hTab 350 1 = some ((0, 0, 116, []), 3) := rfl
theorem T_350_3 : hTab 350 3 = some ((0, 0, 1, []), 4) := rfl
theorem T_350_4 : hTab 350 4 = some ((31, 228, 0, []), 7) := rfl
theorem T_350_7 : hTab 350 7 = some ((3, 0, 2, []), 8) := rfl
theorem T_350_8 : hTab 350 8 = some ((0, 0, 4, []), 9) := rfl
theorem T_350_9 : hTab 350 9 = some ((3, 2, 0, []), 10) := rfl
theorem T_350_10 : hTab 350 10 = some ((14, 0, 0, []), 11) := rfl
theorem T_350_11 : hTab 350 11 = some ((31, 229, 0, []), 14) := rfl
theorem T_350_14 : hTab 350 14 = some ((3, 0, 2, []), 15) := rfl
theorem T_350_15 : hTab 350 15 = some ((0, 0, 8, []), 17) := rfl
theorem T_350_17 : hTab 350 17 = some ((3, 3, 0, []), 18) := rfl
theorem T_350_18 : hTab 350 18 = some ((14, 0, 0, []), 19) := rfl
theorem T_350_19 : hTab 350 19 = some ((31, 229, 0, []), 22) := rfl
theorem T_350_22 : hTab 350 22 = some ((3, 0, 2, []), 23) := rfl
theorem T_350_23 : hTab 350 23 = some ((0, 0, 4, []), 24) := rfl
theorem T_350_24 : hTab 350 24 = some ((3, 4, 0, []), 26) := rfl
theorem T_350_26 : hTab 350 26 = some ((14, 0, 0, []), 27) := rfl
theorem T_350_27 : hTab 350 27 = some ((31, 229, 0, []), 30) := rfl
theorem T_350_30 : hTab 350 30 = some ((3, 0, 2, []), 31) := rfl
theorem T_350_31 : hTab 350 31 = some ((3, 1, 0, []), 32) := rfl
theorem T_350_32 : hTab 350 32 = some ((31, 231, 0, []), 35) := rfl
theorem T_350_35 : hTab 350 35 = some ((33, 1, 0, []), 36) := rfl
theorem mN_335 : hmN 335 = 4 := by decide +kernel
theorem mL_335 : hmL 335 = 4 := by decide +kernel
theorem mK_335 : hmK 335 = 1 := by decide +kernel
theorem mO_335 : hmO 335 = 17 := by decide +kernel
theorem mN_345 : hmN 345 = 4 := by decide +kernel
theorem mL_345 : hmL 345 = 4 := by decide +kernel
theorem mK_345 : hmK 345 = 1 := by decide +kernel
theorem mO_345 : hmO 345 = 17 := by decide +kernel
theorem mN_349 : hmN 349 = 4 := by decide +kernel
theorem mL_349 : hmL 349 = 4 := by decide +kernel
theorem mK_349 : hmK 349 = 1 := by decide +kernel
theorem mO_349 : hmO 349 = 17 := by decide +kernel
theorem mN_350 : hmN 350 = 5 := by decide +kernel
theorem mL_350 : hmL 350 = 5 := by decide +kernel
theorem mK_350 : hmK 350 = 1 := by decide +kernel
theorem mO_350 : hmO 350 = 17 := by decide +kernel
section MASK2
variable {fb : Bool} {d : Nat} {σ0 σ : hM} {P S S1 : qR} {T U s w : Int} {l : List Int}
/-- what was asked came back -/
abbrev rT (T U : Int) (σ0 : hM) (P S : qR) (s w : Int) (l : List Int) : Option AV → hM → Prop := fun r σ' => ∃ (a : Int → Int) (S2 : qR), seg a 0 w.toNat = leb 4 w ++ l ∧ r = some (vI (trE P s a w)) ∧ PM σ0 (trP P s a w) S2 σ' ∧ TA (T + 1) U S S2 (trA P s a w)
theorem m_askOne {t f : Int} (hP : PM σ0 P S σ) (hJ : IV true T U S) (hI : SI T U s P) (hT : T + 49 ≤ 2147483000) (hs : 0 ≤ s ∧ s < 3) : CL fb (d + 11) 345 [vR (some 2281), vI t, vI s, vI f] σ (rT T U σ0 P S s 11 (leb 1 t ++ leb 2 1 ++ leb 4 f)) := by
  refine CL_in mL_345 rfl ?_
  show WP fb _ 345 0 [some (vR (some 2281)), some (vI t), some (vI s), some (vI f)] [] σ _
  refine x_lr (z := some 2281) T_345_0 rfl ?_
  refine x_li (z := t) T_345_1 rfl ?_
  refine x_ic T_345_2 ?_
  refine x_cv3 T_345_3 mN_228 mL_228 (Nat.le_of_ble_eq_true rfl) mO_228 (PM.t hP) (Nat.le_of_ble_eq_true rfl) (r_begin hP hJ) ?_
  rintro _ σ ⟨rfl, S1, hP, hQ⟩
  refine cV ?_
  refine x_lr (z := some 2281) T_345_6 rfl ?_
  refine x_ic T_345_7 ?_
  refine x_li (z := f) T_345_8 rfl ?_
  refine x_i2l T_345_9 ?_
  refine x_cv3 T_345_10 mN_229 mL_229 (Nat.le_of_ble_eq_true rfl) mO_229 (PM.t hP) (Nat.le_of_ble_eq_true rfl) (r_askPut 4 rfl hP hQ (by decide) (by omega)) ?_
  rintro _ σ ⟨rfl, S1, hP, hQ⟩
  refine cV ?_
  refine x_lr (z := some 2281) T_345_13 rfl ?_
  refine x_li (z := s) T_345_14 rfl ?_
  refine x_cv2 T_345_15 mN_231 mL_231 (Nat.le_of_ble_eq_true rfl) mO_231 (PM.t hP) (Nat.le_of_ble_eq_true rfl) (m_trans hP hQ hI hT hs) ?_
  rintro _ σ ⟨a, S2, h1, rfl, hP, hA⟩
  refine cI ?_
  refine x_ri T_345_18 ?_
  exact ⟨a, S2, h1, rfl, hP, hA⟩
theorem m_askCopy {f g : Int} (hP : PM σ0 P S σ) (hJ : IV true T U S) (hI : SI T U s P) (hT : T + 49 ≤ 2147483000) (hs : 0 ≤ s ∧ s < 3) : CL fb (d + 11) 335 [vR (some 2281), vI s, vI f, vI g] σ (rT T U σ0 P S s 17 (leb 1 110 ++ leb 2 1 ++ leb 4 f ++ leb 4 g ++ leb 2 0)) := by
  refine CL_in mL_335 rfl ?_
  show WP fb _ 335 0 [some (vR (some 2281)), some (vI s), some (vI f), some (vI g)] [] σ _
  refine x_lr (z := some 2281) T_335_0 rfl ?_
  refine x_ic T_335_1 ?_
  refine x_ic T_335_3 ?_
  refine x_cv3 T_335_4 mN_228 mL_228 (Nat.le_of_ble_eq_true rfl) mO_228 (PM.t hP) (Nat.le_of_ble_eq_true rfl) (r_begin hP hJ) ?_
  rintro _ σ ⟨rfl, S1, hP, hQ⟩
  refine cV ?_
  refine x_lr (z := some 2281) T_335_7 rfl ?_
  refine x_ic T_335_8 ?_
  refine x_li (z := f) T_335_9 rfl ?_
  refine x_i2l T_335_10 ?_
  refine x_cv3 T_335_11 mN_229 mL_229 (Nat.le_of_ble_eq_true rfl) mO_229 (PM.t hP) (Nat.le_of_ble_eq_true rfl) (r_askPut 4 rfl hP hQ (by decide) (by omega)) ?_
  rintro _ σ ⟨rfl, S1, hP, hQ⟩
  refine cV ?_
  refine x_lr (z := some 2281) T_335_14 rfl ?_
  refine x_ic T_335_15 ?_
  refine x_li (z := g) T_335_16 rfl ?_
  refine x_i2l T_335_17 ?_
  refine x_cv3 T_335_18 mN_229 mL_229 (Nat.le_of_ble_eq_true rfl) mO_229 (PM.t hP) (Nat.le_of_ble_eq_true rfl) (r_askPut 4 rfl hP hQ (by decide) (by omega)) ?_
  rintro _ σ ⟨rfl, S1, hP, hQ⟩
  refine cV ?_
  refine x_lr (z := some 2281) T_335_21 rfl ?_
  refine x_ic T_335_22 ?_
  refine x_lc T_335_23 ?_
  refine x_cv3 T_335_24 mN_229 mL_229 (Nat.le_of_ble_eq_true rfl) mO_229 (PM.t hP) (Nat.le_of_ble_eq_true rfl) (r_askPut 2 rfl hP hQ (by decide) (by omega)) ?_
  rintro _ σ ⟨rfl, S1, hP, hQ⟩
  refine cV ?_
  refine x_lr (z := some 2281) T_335_27 rfl ?_
  refine x_li (z := s) T_335_28 rfl ?_
  refine x_cv2 T_335_29 mN_231 mL_231 (Nat.le_of_ble_eq_true rfl) mO_231 (PM.t hP) (Nat.le_of_ble_eq_true rfl) (m_trans hP hQ hI hT hs) ?_
  rintro _ σ ⟨a, S2, h1, rfl, hP, hA⟩
  refine cI ?_
  refine x_ri T_335_32 ?_
  exact ⟨a, S2, h1, rfl, hP, hA⟩
theorem m_askOpen {f m : Int} (hP : PM σ0 P S σ) (hJ : IV true T U S) (hI : SI T U s P) (hT : T + 49 ≤ 2147483000) (hs : 0 ≤ s ∧ s < 3) : CL fb (d + 11) 349 [vR (some 2281), vI s, vI f, vI m] σ (rT T U σ0 P S s 12 (leb 1 112 ++ leb 2 1 ++ leb 4 f ++ leb 1 m)) := by
  refine CL_in mL_349 rfl ?_
  show WP fb _ 349 0 [some (vR (some 2281)), some (vI s), some (vI f), some (vI m)] [] σ _
  refine x_lr (z := some 2281) T_349_0 rfl ?_
  refine x_ic T_349_1 ?_
  refine x_ic T_349_3 ?_
  refine x_cv3 T_349_4 mN_228 mL_228 (Nat.le_of_ble_eq_true rfl) mO_228 (PM.t hP) (Nat.le_of_ble_eq_true rfl) (r_begin hP hJ) ?_
  rintro _ σ ⟨rfl, S1, hP, hQ⟩
  refine cV ?_
  refine x_lr (z := some 2281) T_349_7 rfl ?_
  refine x_ic T_349_8 ?_
  refine x_li (z := f) T_349_9 rfl ?_
  refine x_i2l T_349_10 ?_
  refine x_cv3 T_349_11 mN_229 mL_229 (Nat.le_of_ble_eq_true rfl) mO_229 (PM.t hP) (Nat.le_of_ble_eq_true rfl) (r_askPut 4 rfl hP hQ (by decide) (by omega)) ?_
  rintro _ σ ⟨rfl, S1, hP, hQ⟩
  refine cV ?_
  refine x_lr (z := some 2281) T_349_14 rfl ?_
  refine x_ic T_349_15 ?_
  refine x_li (z := m) T_349_16 rfl ?_
  refine x_i2l T_349_17 ?_
  refine x_cv3 T_349_18 mN_229 mL_229 (Nat.le_of_ble_eq_true rfl) mO_229 (PM.t hP) (Nat.le_of_ble_eq_true rfl) (r_askPut 1 rfl hP hQ (by decide) (by omega)) ?_
  rintro _ σ ⟨rfl, S1, hP, hQ⟩
  refine cV ?_
  refine x_lr (z := some 2281) T_349_21 rfl ?_
  refine x_li (z := s) T_349_22 rfl ?_
  refine x_cv2 T_349_23 mN_231 mL_231 (Nat.le_of_ble_eq_true rfl) mO_231 (PM.t hP) (Nat.le_of_ble_eq_true rfl) (m_trans hP hQ hI hT hs) ?_
  rintro _ σ ⟨a, S2, h1, rfl, hP, hA⟩
  refine cI ?_
  refine x_ri T_349_26 ?_
  exact ⟨a, S2, h1, rfl, hP, hA⟩
theorem m_askRead {f o n : Int} (hP : PM σ0 P S σ) (hJ : IV true T U S) (hI : SI T U s P) (hT : T + 49 ≤ 2147483000) (hs : 0 ≤ s ∧ s < 3) : CL fb (d + 11) 350 [vR (some 2281), vI s, vI f, vI o, vI n] σ (rT T U σ0 P S s 23 (leb 1 116 ++ leb 2 1 ++ leb 4 f ++ leb 8 o ++ leb 4 n)) := by
  refine CL_in mL_350 rfl ?_
  show WP fb _ 350 0 [some (vR (some 2281)), some (vI s), some (vI f), some (vI o), some (vI n)] [] σ _
  refine x_lr (z := some 2281) T_350_0 rfl ?_
  refine x_ic T_350_1 ?_
  refine x_ic T_350_3 ?_
  refine x_cv3 T_350_4 mN_228 mL_228 (Nat.le_of_ble_eq_true rfl) mO_228 (PM.t hP) (Nat.le_of_ble_eq_true rfl) (r_begin hP hJ) ?_
  rintro _ σ ⟨rfl, S1, hP, hQ⟩
  refine cV ?_
  refine x_lr (z := some 2281) T_350_7 rfl ?_
  refine x_ic T_350_8 ?_
  refine x_li (z := f) T_350_9 rfl ?_
  refine x_i2l T_350_10 ?_
  refine x_cv3 T_350_11 mN_229 mL_229 (Nat.le_of_ble_eq_true rfl) mO_229 (PM.t hP) (Nat.le_of_ble_eq_true rfl) (r_askPut 4 rfl hP hQ (by decide) (by omega)) ?_
  rintro _ σ ⟨rfl, S1, hP, hQ⟩
  refine cV ?_
  refine x_lr (z := some 2281) T_350_14 rfl ?_
  refine x_ic T_350_15 ?_
  refine x_li (z := o) T_350_17 rfl ?_
  refine x_i2l T_350_18 ?_
  refine x_cv3 T_350_19 mN_229 mL_229 (Nat.le_of_ble_eq_true rfl) mO_229 (PM.t hP) (Nat.le_of_ble_eq_true rfl) (r_askPut 8 rfl hP hQ (by decide) (by omega)) ?_
  rintro _ σ ⟨rfl, S1, hP, hQ⟩
  refine cV ?_
  refine x_lr (z := some 2281) T_350_22 rfl ?_
  refine x_ic T_350_23 ?_
  refine x_li (z := n) T_350_24 rfl ?_
  refine x_i2l T_350_26 ?_
  refine x_cv3 T_350_27 mN_229 mL_229 (Nat.le_of_ble_eq_true rfl) mO_229 (PM.t hP) (Nat.le_of_ble_eq_true rfl) (r_askPut 4 rfl hP hQ (by decide) (by omega)) ?_
  rintro _ σ ⟨rfl, S1, hP, hQ⟩
  refine cV ?_
  refine x_lr (z := some 2281) T_350_30 rfl ?_
  refine x_li (z := s) T_350_31 rfl ?_
  refine x_cv2 T_350_32 mN_231 mL_231 (Nat.le_of_ble_eq_true rfl) mO_231 (PM.t hP) (Nat.le_of_ble_eq_true rfl) (m_trans hP hQ hI hT hs) ?_
  rintro _ σ ⟨a, S2, h1, rfl, hP, hA⟩
  refine cI ?_
  refine x_ri T_350_35 ?_
  exact ⟨a, S2, h1, rfl, hP, hA⟩
end MASK2
