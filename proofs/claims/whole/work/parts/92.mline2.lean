/-! Words as numbers, numbers told. -/
theorem T_314_0 : hTab 314 0 = some ((3, 0, 2, []), 1) := rfl
theorem T_314_1 : hTab 314 1 = some ((3, 0, 2, []), 2) := rfl
theorem T_314_2 : hTab 314 2 = some ((24, 17, Int.ofNat 107, []), 5) := rfl
theorem T_314_5 : hTab 314 5 = some ((3, 0, 2, []), 6) := rfl
theorem T_314_6 : hTab 314 6 = some ((24, 17, Int.ofNat 113, []), 9) := rfl
theorem T_314_9 : hTab 314 9 = some ((26, 0, 0, []), 10) := rfl
theorem T_314_10 : hTab 314 10 = some ((25, 17, Int.ofNat 74, []), 13) := rfl
theorem T_314_13 : hTab 314 13 = some ((0, 0, 0, []), 14) := rfl
theorem T_314_14 : hTab 314 14 = some ((4, 1, 0, []), 15) := rfl
theorem T_314_15 : hTab 314 15 = some ((3, 1, 0, []), 16) := rfl
theorem T_314_16 : hTab 314 16 = some ((3, 0, 2, []), 17) := rfl
theorem T_314_17 : hTab 314 17 = some ((24, 17, Int.ofNat 74, []), 20) := rfl
theorem T_314_20 : hTab 314 20 = some ((19, 3, Int.ofNat 49, []), 23) := rfl
theorem T_314_23 : hTab 314 23 = some ((3, 0, 2, []), 24) := rfl
theorem T_314_24 : hTab 314 24 = some ((24, 17, Int.ofNat 73, []), 27) := rfl
theorem T_314_27 : hTab 314 27 = some ((3, 1, 0, []), 28) := rfl
theorem T_314_28 : hTab 314 28 = some ((3, 0, 2, []), 29) := rfl
theorem T_314_29 : hTab 314 29 = some ((24, 17, Int.ofNat 106, []), 32) := rfl
theorem T_314_32 : hTab 314 32 = some ((0, 0, 100, []), 34) := rfl
theorem T_314_34 : hTab 314 34 = some ((3, 0, 2, []), 35) := rfl
theorem T_314_35 : hTab 314 35 = some ((24, 17, Int.ofNat 113, []), 38) := rfl
theorem T_314_38 : hTab 314 38 = some ((10, 2, 0, []), 39) := rfl
theorem T_314_39 : hTab 314 39 = some ((3, 1, 0, []), 40) := rfl
theorem T_314_40 : hTab 314 40 = some ((10, 0, 0, []), 41) := rfl
theorem T_314_41 : hTab 314 41 = some ((26, 0, 0, []), 42) := rfl
theorem T_314_42 : hTab 314 42 = some ((27, 0, 0, []), 43) := rfl
theorem T_314_43 : hTab 314 43 = some ((5, 1, 1, []), 46) := rfl
theorem T_314_46 : hTab 314 46 = some ((22, 0, Int.ofNat 15, []), 49) := rfl
theorem T_314_49 : hTab 314 49 = some ((3, 0, 2, []), 50) := rfl
theorem T_314_50 : hTab 314 50 = some ((31, 315, 0, []), 53) := rfl
theorem T_314_53 : hTab 314 53 = some ((33, 0, 0, []), 54) := rfl
theorem T_379_0 : hTab 379 0 = some ((1, 0, 1, []), 1) := rfl
theorem T_379_1 : hTab 379 1 = some ((4, 4, 1, []), 3) := rfl
theorem T_379_3 : hTab 379 3 = some ((3, 2, 1, []), 4) := rfl
theorem T_379_4 : hTab 379 4 = some ((3, 4, 1, []), 6) := rfl
theorem T_379_6 : hTab 379 6 = some ((11, 3, 0, []), 7) := rfl
theorem T_379_7 : hTab 379 7 = some ((1, 0, 10, []), 10) := rfl
theorem T_379_10 : hTab 379 10 = some ((17, 0, 0, []), 11) := rfl
theorem T_379_11 : hTab 379 11 = some ((18, 2, Int.ofNat 25, []), 14) := rfl
theorem T_379_14 : hTab 379 14 = some ((1, 0, 10, []), 17) := rfl
theorem T_379_17 : hTab 379 17 = some ((3, 4, 1, []), 19) := rfl
theorem T_379_19 : hTab 379 19 = some ((11, 2, 0, []), 20) := rfl
theorem T_379_20 : hTab 379 20 = some ((4, 4, 1, []), 22) := rfl
theorem T_379_22 : hTab 379 22 = some ((22, 0, Int.ofNat 3, []), 25) := rfl
theorem T_379_25 : hTab 379 25 = some ((3, 4, 1, []), 27) := rfl
theorem T_379_27 : hTab 379 27 = some ((1, 0, 0, []), 28) := rfl
theorem T_379_28 : hTab 379 28 = some ((17, 0, 0, []), 29) := rfl
theorem T_379_29 : hTab 379 29 = some ((18, 5, Int.ofNat 61, []), 32) := rfl
theorem T_379_32 : hTab 379 32 = some ((3, 0, 2, []), 33) := rfl
theorem T_379_33 : hTab 379 33 = some ((3, 1, 0, []), 34) := rfl
theorem T_379_34 : hTab 379 34 = some ((1, 0, 48, []), 37) := rfl
theorem T_379_37 : hTab 379 37 = some ((3, 2, 1, []), 38) := rfl
theorem T_379_38 : hTab 379 38 = some ((3, 4, 1, []), 40) := rfl
theorem T_379_40 : hTab 379 40 = some ((11, 3, 0, []), 41) := rfl
theorem T_379_41 : hTab 379 41 = some ((1, 0, 10, []), 44) := rfl
theorem T_379_44 : hTab 379 44 = some ((11, 4, 0, []), 45) := rfl
theorem T_379_45 : hTab 379 45 = some ((11, 0, 0, []), 46) := rfl
theorem T_379_46 : hTab 379 46 = some ((15, 0, 0, []), 47) := rfl
theorem T_379_47 : hTab 379 47 = some ((31, 351, 0, []), 50) := rfl
theorem T_379_50 : hTab 379 50 = some ((3, 4, 1, []), 52) := rfl
theorem T_379_52 : hTab 379 52 = some ((1, 0, 10, []), 55) := rfl
theorem T_379_55 : hTab 379 55 = some ((11, 3, 0, []), 56) := rfl
theorem T_379_56 : hTab 379 56 = some ((4, 4, 1, []), 58) := rfl
theorem T_379_58 : hTab 379 58 = some ((22, 0, Int.ofNat 25, []), 61) := rfl
theorem T_379_61 : hTab 379 61 = some ((33, 0, 0, []), 62) := rfl
theorem T_390_0 : hTab 390 0 = some ((0, 0, 0, []), 1) := rfl
theorem T_390_1 : hTab 390 1 = some ((4, 4, 0, []), 3) := rfl
theorem T_390_3 : hTab 390 3 = some ((3, 0, 2, []), 4) := rfl
theorem T_390_4 : hTab 390 4 = some ((3, 1, 0, []), 5) := rfl
theorem T_390_5 : hTab 390 5 = some ((31, 318, 0, []), 8) := rfl
theorem T_390_8 : hTab 390 8 = some ((3, 3, 0, []), 9) := rfl
theorem T_390_9 : hTab 390 9 = some ((19, 4, Int.ofNat 16, []), 12) := rfl
theorem T_390_12 : hTab 390 12 = some ((0, 0, 1, []), 13) := rfl
theorem T_390_13 : hTab 390 13 = some ((22, 0, Int.ofNat 17, []), 16) := rfl
theorem T_390_16 : hTab 390 16 = some ((0, 0, 0, []), 17) := rfl
theorem T_390_17 : hTab 390 17 = some ((4, 5, 0, []), 19) := rfl
theorem T_390_19 : hTab 390 19 = some ((0, 0, 0, []), 20) := rfl
theorem T_390_20 : hTab 390 20 = some ((4, 6, 0, []), 22) := rfl
theorem T_390_22 : hTab 390 22 = some ((3, 6, 0, []), 24) := rfl
theorem T_390_24 : hTab 390 24 = some ((3, 0, 2, []), 25) := rfl
theorem T_390_25 : hTab 390 25 = some ((3, 1, 0, []), 26) := rfl
theorem T_390_26 : hTab 390 26 = some ((31, 318, 0, []), 29) := rfl
theorem T_390_29 : hTab 390 29 = some ((19, 3, Int.ofNat 83, []), 32) := rfl
theorem T_390_32 : hTab 390 32 = some ((3, 5, 0, []), 34) := rfl
theorem T_390_34 : hTab 390 34 = some ((18, 0, Int.ofNat 83, []), 37) := rfl
theorem T_390_37 : hTab 390 37 = some ((3, 0, 2, []), 38) := rfl
theorem T_390_38 : hTab 390 38 = some ((3, 1, 0, []), 39) := rfl
theorem T_390_39 : hTab 390 39 = some ((3, 6, 0, []), 41) := rfl
theorem T_390_41 : hTab 390 41 = some ((31, 319, 0, []), 44) := rfl
theorem T_390_44 : hTab 390 44 = some ((14, 0, 0, []), 45) := rfl
theorem T_390_45 : hTab 390 45 = some ((1, 0, 48, []), 48) := rfl
theorem T_390_48 : hTab 390 48 = some ((0, 0, 48, []), 50) := rfl
theorem T_390_50 : hTab 390 50 = some ((3, 2, 0, []), 51) := rfl
theorem T_390_51 : hTab 390 51 = some ((10, 0, 0, []), 52) := rfl
theorem T_390_52 : hTab 390 52 = some ((0, 0, 1, []), 53) := rfl
theorem T_390_53 : hTab 390 53 = some ((10, 1, 0, []), 54) := rfl
theorem T_390_54 : hTab 390 54 = some ((14, 0, 0, []), 55) := rfl
theorem T_390_55 : hTab 390 55 = some ((31, 282, 0, []), 58) := rfl
theorem T_390_58 : hTab 390 58 = some ((4, 5, 0, []), 60) := rfl
theorem T_390_60 : hTab 390 60 = some ((3, 2, 0, []), 61) := rfl
theorem T_390_61 : hTab 390 61 = some ((3, 4, 0, []), 63) := rfl
theorem T_390_63 : hTab 390 63 = some ((10, 2, 0, []), 64) := rfl
theorem T_390_64 : hTab 390 64 = some ((3, 0, 2, []), 65) := rfl
theorem T_390_65 : hTab 390 65 = some ((3, 1, 0, []), 66) := rfl
theorem T_390_66 : hTab 390 66 = some ((3, 6, 0, []), 68) := rfl
theorem T_390_68 : hTab 390 68 = some ((31, 319, 0, []), 71) := rfl
theorem T_390_71 : hTab 390 71 = some ((10, 0, 0, []), 72) := rfl
theorem T_390_72 : hTab 390 72 = some ((0, 0, 48, []), 74) := rfl
theorem T_390_74 : hTab 390 74 = some ((10, 1, 0, []), 75) := rfl
theorem T_390_75 : hTab 390 75 = some ((4, 4, 0, []), 77) := rfl
theorem T_390_77 : hTab 390 77 = some ((5, 6, 1, []), 80) := rfl
theorem T_390_80 : hTab 390 80 = some ((22, 0, Int.ofNat 22, []), 83) := rfl
theorem T_390_83 : hTab 390 83 = some ((3, 5, 0, []), 85) := rfl
theorem T_390_85 : hTab 390 85 = some ((18, 0, Int.ofNat 93, []), 88) := rfl
theorem T_390_88 : hTab 390 88 = some ((3, 4, 0, []), 90) := rfl
theorem T_390_90 : hTab 390 90 = some ((22, 0, Int.ofNat 94, []), 93) := rfl
theorem T_390_93 : hTab 390 93 = some ((0, 0, (-1), []), 94) := rfl
theorem T_390_94 : hTab 390 94 = some ((33, 1, 0, []), 95) := rfl
theorem F_17_106 : (hFd 17 106).2.2.1 = 4 := rfl
theorem F_17_107 : (hFd 17 107).2.2.1 = 4 := rfl
theorem F_17_113 : (hFd 17 113).2.2.1 = 0 := rfl
theorem mN_314 : hmN 314 = 1 := by decide +kernel
theorem mL_314 : hmL 314 = 2 := by decide +kernel
theorem mK_314 : hmK 314 = 1 := by decide +kernel
theorem mO_314 : hmO 314 = 17 := by decide +kernel
theorem mN_379 : hmN 379 = 3 := by decide +kernel
theorem mL_379 : hmL 379 = 6 := by decide +kernel
theorem mK_379 : hmK 379 = 1 := by decide +kernel
theorem mO_379 : hmO 379 = 17 := by decide +kernel
theorem mN_390 : hmN 390 = 4 := by decide +kernel
theorem mL_390 : hmL 390 = 7 := by decide +kernel
theorem mK_390 : hmK 390 = 1 := by decide +kernel
theorem mO_390 : hmO 390 = 17 := by decide +kernel
section MLINE2
variable {fb : Bool} {d : Nat} {σ0 σ : hM} {P Q R S S1 S2 : qR} {T U s w g u p k e t z o thr pt : Int} {l nm wd : List Int} {h : List Ch} {a f : Int → Int} {x : Int × Int} {c : Ch}
theorem m_numberOf_loop {base most : Int} (hP : PM σ0 P S σ) (hL : LN S l) (hw : 0 ≤ w ∧ w < ((lnW l).length : Int)) (hb : 8 ≤ base ∧ base ≤ 10) (h4 : (lnB l w).length ≤ 4) : ∀ (r : List Int) (k v n : Int) (bd : Nat), k + r.length = ((lnB l w).length : Int) → 0 ≤ k → 0 ≤ v → v < n → n * 10 ^ r.length ≤ 100000 → (∀ i : Nat, i < r.length → lg (lnB l w) (k + i) = r.getD i 0) → WP fb (d + 1) 390 22 [some (vR (some 2281)), some (vI w), some (vI base), some (vI most), some (vI v), some (vI 1), some (vI k)] [] σ (rP (nmV base r v) σ) := by
  have hz := m_size (fb := fb) (d := d) hP hL hw
  have hlen := lnB_len hL.2.1 hw
  obtain ⟨n0, hn⟩ : ∃ n0 : Int, ((lnB l w).length : Int) = n0 := ⟨_, rfl⟩
  rw [hn] at hz
  intro r
  induction r with
  | nil =>
    intro k v n bd h1 h2 h3 h5 h6 h7
    have h1 : k + ((0 : Nat) : Int) = ((lnB l w).length : Int) := h1
    refine x_li (z := k) T_390_22 rfl ?_
    refine x_lr (z := some 2281) T_390_24 rfl ?_
    refine x_li (z := w) T_390_25 rfl ?_
    refine x_cv2 T_390_26 mN_318 mL_318 (Nat.le_of_ble_eq_true rfl) mO_318 (PM.t hP) (Nat.le_of_ble_eq_true rfl) (hz) ?_
    rintro _ σ ⟨rfl, rfl⟩
    refine cI ?_
    refine x_ic2 T_390_29 (fun _ => ?_) (fun h => absurd (show n0 ≤ k by omega) h)
    refine x_li (z := 1) T_390_83 rfl ?_
    refine x_if T_390_85 (fun h => absurd (show (1 : Int) = 0 from h) (by decide)) (fun _ => ?_)
    refine x_li (z := v) T_390_88 rfl ?_
    refine x_goto T_390_90 ?_
    refine x_ri T_390_94 ?_
    exact ⟨rfl, rfl⟩
  | cons x r ih =>
    intro k v n bd h1 h2 h3 h5 h6 h7
    have h1 : k + ((r.length + 1 : Nat) : Int) = ((lnB l w).length : Int) := h1
    have h6 : n * 10 ^ (r.length + 1) ≤ 100000 := h6
    have hx := h7 0 (by show 0 < r.length + 1; omega)
    rw [show k + ((0 : Nat) : Int) = k by omega] at hx
    have hx : lg (lnB l w) k = x := hx
    have hs := m_sign (fb := fb) (d := d) hP hL hw (k := k) (by omega)
    rw [hx] at hs
    have hxb := lnB_b (w := w) hL (k := k) h2
    rw [hx] at hxb
    have e10 : n * 10 ^ (r.length + 1) = n * 10 * 10 ^ r.length := by rw [Int.pow_succ, Int.mul_comm (10 ^ r.length) 10, Int.mul_assoc]
    have hn1 : n * 10 ≤ 100000 := by
      have hp : (1 : Int) ≤ 10 ^ r.length := by
        have : (0 : Int) < 10 ^ r.length := Int.pow_pos (by decide)
        omega
      have : n * 10 * 1 ≤ n * 10 * 10 ^ r.length := Int.mul_le_mul_of_nonneg_left hp (by omega)
      omega
    have hbv : base * v ≤ 10 * v := Int.mul_le_mul_of_nonneg_right hb.2 h3
    have hbv0 : 0 ≤ base * v := Int.mul_nonneg (by omega) h3
    by_cases q : 48 ≤ x ∧ x ≤ 47 + base
    · rw [show nmV base (x :: r) v = nmV base r (base * v + x - 48) from if_pos q]
      have hgo := ih (k + 1) (base * v + x - 48) (n * 10) bd (by omega) (by omega) (by omega) (by omega) (by omega) (fun i hi => by
        have := h7 (i + 1) (by show i + 1 < r.length + 1; omega)
        rw [show k + ((i + 1 : Nat) : Int) = k + 1 + (i : Int) by omega] at this
        exact this)
      refine x_li (z := k) T_390_22 rfl ?_
      refine x_lr (z := some 2281) T_390_24 rfl ?_
      refine x_li (z := w) T_390_25 rfl ?_
      refine x_cv2 T_390_26 mN_318 mL_318 (Nat.le_of_ble_eq_true rfl) mO_318 (PM.t hP) (Nat.le_of_ble_eq_true rfl) (hz) ?_
      rintro _ σ ⟨rfl, rfl⟩
      refine cI ?_
      refine x_ic2 T_390_29 (fun h => absurd (show n0 ≤ k from h) (by omega)) (fun _ => ?_)
      refine x_li (z := 1) T_390_32 rfl ?_
      refine x_if T_390_34 (fun h => absurd (show (1 : Int) = 0 from h) (by decide)) (fun _ => ?_)
      refine x_lr (z := some 2281) T_390_37 rfl ?_
      refine x_li (z := w) T_390_38 rfl ?_
      refine x_li (z := k) T_390_39 rfl ?_
      refine x_cv3 T_390_41 mN_319 mL_319 (Nat.le_of_ble_eq_true rfl) mO_319 (PM.t hP) (Nat.le_of_ble_eq_true rfl) (hs) ?_
      rintro _ σ ⟨rfl, rfl⟩
      refine cI ?_
      refine x_i2l T_390_44 ?_
      refine x_lc T_390_45 ?_
      refine x_ic T_390_48 ?_
      refine x_li (z := base) T_390_50 rfl ?_
      refine x_ib (w := (48 + base)) T_390_51 (fun h => absurd h.1 (by decide)) (w32_id (by omega) (by omega)) ?_
      refine x_ic T_390_52 ?_
      refine x_ib (w := ((48 + base) - 1)) T_390_53 (fun h => absurd h.1 (by decide)) (w32_id (by omega) (by omega)) ?_
      refine x_i2l T_390_54 ?_
      refine x_cs3 T_390_55 mN_282 mL_282 (Nat.le_of_ble_eq_true rfl) mK_282 (Nat.le_of_ble_eq_true rfl) ((CL.mono m_in (fun r σ1 hr => by rw [if_pos (show 48 ≤ x ∧ x ≤ 48 + base - 1 by omega)] at hr; exact hr) : CL fb _ 282 [vL x, vL 48, vL (48 + base - 1)] σ (rP 1 σ))) ?_
      rintro _ σ ⟨rfl, rfl⟩
      refine cI ?_
      refine x_si (ls1 := [some (vR (some 2281)), some (vI w), some (vI base), some (vI most), some (vI v), some (vI 1), some (vI k)]) T_390_58 rfl ?_
      refine x_li (z := base) T_390_60 rfl ?_
      refine x_li (z := v) T_390_61 rfl ?_
      refine x_ib (w := (base * v)) T_390_63 (fun h => absurd h.1 (by decide)) (w32_id (by omega) (by omega)) ?_
      refine x_lr (z := some 2281) T_390_64 rfl ?_
      refine x_li (z := w) T_390_65 rfl ?_
      refine x_li (z := k) T_390_66 rfl ?_
      refine x_cv3 T_390_68 mN_319 mL_319 (Nat.le_of_ble_eq_true rfl) mO_319 (PM.t hP) (Nat.le_of_ble_eq_true rfl) (hs) ?_
      rintro _ σ ⟨rfl, rfl⟩
      refine cI ?_
      refine x_ib (w := ((base * v) + x)) T_390_71 (fun h => absurd h.1 (by decide)) (w32_id (by omega) (by omega)) ?_
      refine x_ic T_390_72 ?_
      refine x_ib (w := (((base * v) + x) - 48)) T_390_74 (fun h => absurd h.1 (by decide)) (w32_id (by omega) (by omega)) ?_
      refine x_si (ls1 := [some (vR (some 2281)), some (vI w), some (vI base), some (vI most), some (vI (((base * v) + x) - 48)), some (vI 1), some (vI k)]) T_390_75 rfl ?_
      refine x_inc (w := (k + 1)) (ls1 := [some (vR (some 2281)), some (vI w), some (vI base), some (vI most), some (vI (((base * v) + x) - 48)), some (vI 1), some (vI (k + 1))]) T_390_77 rfl (w32_id (by omega) (by omega)) rfl ?_
      refine x_goto T_390_80 ?_
      exact hgo
    · rw [show nmV base (x :: r) v = -1 from if_neg q]
      refine x_li (z := k) T_390_22 rfl ?_
      refine x_lr (z := some 2281) T_390_24 rfl ?_
      refine x_li (z := w) T_390_25 rfl ?_
      refine x_cv2 T_390_26 mN_318 mL_318 (Nat.le_of_ble_eq_true rfl) mO_318 (PM.t hP) (Nat.le_of_ble_eq_true rfl) (hz) ?_
      rintro _ σ ⟨rfl, rfl⟩
      refine cI ?_
      refine x_ic2 T_390_29 (fun h => absurd (show n0 ≤ k from h) (by omega)) (fun _ => ?_)
      refine x_li (z := 1) T_390_32 rfl ?_
      refine x_if T_390_34 (fun h => absurd (show (1 : Int) = 0 from h) (by decide)) (fun _ => ?_)
      refine x_lr (z := some 2281) T_390_37 rfl ?_
      refine x_li (z := w) T_390_38 rfl ?_
      refine x_li (z := k) T_390_39 rfl ?_
      refine x_cv3 T_390_41 mN_319 mL_319 (Nat.le_of_ble_eq_true rfl) mO_319 (PM.t hP) (Nat.le_of_ble_eq_true rfl) (hs) ?_
      rintro _ σ ⟨rfl, rfl⟩
      refine cI ?_
      refine x_i2l T_390_44 ?_
      refine x_lc T_390_45 ?_
      refine x_ic T_390_48 ?_
      refine x_li (z := base) T_390_50 rfl ?_
      refine x_ib (w := (48 + base)) T_390_51 (fun h => absurd h.1 (by decide)) (w32_id (by omega) (by omega)) ?_
      refine x_ic T_390_52 ?_
      refine x_ib (w := ((48 + base) - 1)) T_390_53 (fun h => absurd h.1 (by decide)) (w32_id (by omega) (by omega)) ?_
      refine x_i2l T_390_54 ?_
      refine x_cs3 T_390_55 mN_282 mL_282 (Nat.le_of_ble_eq_true rfl) mK_282 (Nat.le_of_ble_eq_true rfl) ((CL.mono m_in (fun r σ1 hr => by rw [if_neg (show ¬ (48 ≤ x ∧ x ≤ 48 + base - 1) by omega)] at hr; exact hr) : CL fb _ 282 [vL x, vL 48, vL (48 + base - 1)] σ (rP 0 σ))) ?_
      rintro _ σ ⟨rfl, rfl⟩
      refine cI ?_
      refine x_si (ls1 := [some (vR (some 2281)), some (vI w), some (vI base), some (vI most), some (vI v), some (vI 0), some (vI k)]) T_390_58 rfl ?_
      refine x_li (z := base) T_390_60 rfl ?_
      refine x_li (z := v) T_390_61 rfl ?_
      refine x_ib (w := (base * v)) T_390_63 (fun h => absurd h.1 (by decide)) (w32_id (by omega) (by omega)) ?_
      refine x_lr (z := some 2281) T_390_64 rfl ?_
      refine x_li (z := w) T_390_65 rfl ?_
      refine x_li (z := k) T_390_66 rfl ?_
      refine x_cv3 T_390_68 mN_319 mL_319 (Nat.le_of_ble_eq_true rfl) mO_319 (PM.t hP) (Nat.le_of_ble_eq_true rfl) (hs) ?_
      rintro _ σ ⟨rfl, rfl⟩
      refine cI ?_
      refine x_ib (w := ((base * v) + x)) T_390_71 (fun h => absurd h.1 (by decide)) (w32_id (by omega) (by omega)) ?_
      refine x_ic T_390_72 ?_
      refine x_ib (w := (((base * v) + x) - 48)) T_390_74 (fun h => absurd h.1 (by decide)) (w32_id (by omega) (by omega)) ?_
      refine x_si (ls1 := [some (vR (some 2281)), some (vI w), some (vI base), some (vI most), some (vI (((base * v) + x) - 48)), some (vI 0), some (vI k)]) T_390_75 rfl ?_
      refine x_inc (w := (k + 1)) (ls1 := [some (vR (some 2281)), some (vI w), some (vI base), some (vI most), some (vI (((base * v) + x) - 48)), some (vI 0), some (vI (k + 1))]) T_390_77 rfl (w32_id (by omega) (by omega)) rfl ?_
      refine x_goto T_390_80 ?_
      refine x_li (z := (k + 1)) T_390_22 rfl ?_
      refine x_lr (z := some 2281) T_390_24 rfl ?_
      refine x_li (z := w) T_390_25 rfl ?_
      refine x_cv2 T_390_26 mN_318 mL_318 (Nat.le_of_ble_eq_true rfl) mO_318 (PM.t hP) (Nat.le_of_ble_eq_true rfl) (hz) ?_
      rintro _ σ ⟨rfl, rfl⟩
      refine cI ?_
      refine x_ic2 T_390_29 (fun h29 => ?_) (fun h29 => ?_)
      · replace h29 : n0 ≤ (k + 1) := h29
        refine x_li (z := 0) T_390_83 rfl ?_
        refine x_if T_390_85 (fun _ => ?_) (fun h => absurd (show (0 : Int) = 0 by decide) h)
        refine x_ic T_390_93 ?_
        refine x_ri T_390_94 ?_
        exact ⟨rfl, rfl⟩
      · replace h29 : ¬ (n0 ≤ (k + 1)) := h29
        refine x_li (z := 0) T_390_32 rfl ?_
        refine x_if T_390_34 (fun _ => ?_) (fun h => absurd (show (0 : Int) = 0 by decide) h)
        refine x_li (z := 0) T_390_83 rfl ?_
        refine x_if T_390_85 (fun _ => ?_) (fun h => absurd (show (0 : Int) = 0 by decide) h)
        refine x_ic T_390_93 ?_
        refine x_ri T_390_94 ?_
        exact ⟨rfl, rfl⟩
theorem m_numberOf {base most : Int} (hP : PM σ0 P S σ) (hL : LN S l) (hw : 0 ≤ w ∧ w < ((lnW l).length : Int)) (hb : 8 ≤ base ∧ base ≤ 10) (hm : 0 ≤ most ∧ most ≤ 4) : CL fb (d + 1) 390 [vR (some 2281), vI w, vI base, vI most] σ (rP (nmN (lnB l w) base most) σ) := by
  have hz := m_size (fb := fb) (d := d) hP hL hw
  have hlen := lnB_len hL.2.1 hw
  obtain ⟨n0, hn⟩ : ∃ n0 : Int, ((lnB l w).length : Int) = n0 := ⟨_, rfl⟩
  rw [hn] at hz
  unfold nmN
  rw [hn]
  by_cases q : n0 ≤ most
  · rw [if_pos q]
    have h4 : (lnB l w).length ≤ 4 := by omega
    have hp : (10 : Int) ^ (lnB l w).length ≤ 10 ^ 4 := pow10_le h4
    have e4 : (10 : Int) ^ 4 = 10000 := by decide
    refine CL_in mL_390 rfl ?_
    show WP fb _ 390 0 [some (vR (some 2281)), some (vI w), some (vI base), some (vI most), none, none, none] [] σ _
    refine x_ic T_390_0 ?_
    refine x_si (ls1 := [some (vR (some 2281)), some (vI w), some (vI base), some (vI most), some (vI 0), none, none]) T_390_1 rfl ?_
    refine x_lr (z := some 2281) T_390_3 rfl ?_
    refine x_li (z := w) T_390_4 rfl ?_
    refine x_cv2 T_390_5 mN_318 mL_318 (Nat.le_of_ble_eq_true rfl) mO_318 (PM.t hP) (Nat.le_of_ble_eq_true rfl) (hz) ?_
    rintro _ σ ⟨rfl, rfl⟩
    refine cI ?_
    refine x_li (z := most) T_390_8 rfl ?_
    refine x_ic2 T_390_9 (fun h => absurd (show most < n0 from h) (by omega)) (fun _ => ?_)
    refine x_ic T_390_12 ?_
    refine x_goto T_390_13 ?_
    refine x_si (ls1 := [some (vR (some 2281)), some (vI w), some (vI base), some (vI most), some (vI 0), some (vI 1), none]) T_390_17 rfl ?_
    refine x_ic T_390_19 ?_
    refine x_si (ls1 := [some (vR (some 2281)), some (vI w), some (vI base), some (vI most), some (vI 0), some (vI 1), some (vI 0)]) T_390_20 rfl ?_
    exact m_numberOf_loop hP hL hw hb h4 (lnB l w) 0 0 1 0 (by omega) (by decide) (by decide) (by decide) (by omega) (fun i hi => by
      unfold lg
      rw [show ((0 : Int) + (i : Int)).toNat = i by omega])
  · rw [if_neg q]
    refine CL_in mL_390 rfl ?_
    show WP fb _ 390 0 [some (vR (some 2281)), some (vI w), some (vI base), some (vI most), none, none, none] [] σ _
    refine x_ic T_390_0 ?_
    refine x_si (ls1 := [some (vR (some 2281)), some (vI w), some (vI base), some (vI most), some (vI 0), none, none]) T_390_1 rfl ?_
    refine x_lr (z := some 2281) T_390_3 rfl ?_
    refine x_li (z := w) T_390_4 rfl ?_
    refine x_cv2 T_390_5 mN_318 mL_318 (Nat.le_of_ble_eq_true rfl) mO_318 (PM.t hP) (Nat.le_of_ble_eq_true rfl) (hz) ?_
    rintro _ σ ⟨rfl, rfl⟩
    refine cI ?_
    refine x_li (z := most) T_390_8 rfl ?_
    refine x_ic2 T_390_9 (fun _ => ?_) (fun h => absurd (show most < n0 by omega) h)
    refine x_ic T_390_16 ?_
    refine x_si (ls1 := [some (vR (some 2281)), some (vI w), some (vI base), some (vI most), some (vI 0), some (vI 0), none]) T_390_17 rfl ?_
    refine x_ic T_390_19 ?_
    refine x_si (ls1 := [some (vR (some 2281)), some (vI w), some (vI base), some (vI most), some (vI 0), some (vI 0), some (vI 0)]) T_390_20 rfl ?_
    refine x_li (z := 0) T_390_22 rfl ?_
    refine x_lr (z := some 2281) T_390_24 rfl ?_
    refine x_li (z := w) T_390_25 rfl ?_
    refine x_cv2 T_390_26 mN_318 mL_318 (Nat.le_of_ble_eq_true rfl) mO_318 (PM.t hP) (Nat.le_of_ble_eq_true rfl) (hz) ?_
    rintro _ σ ⟨rfl, rfl⟩
    refine cI ?_
    refine x_ic2 T_390_29 (fun h => absurd (show n0 ≤ 0 from h) (by omega)) (fun _ => ?_)
    refine x_li (z := 0) T_390_32 rfl ?_
    refine x_if T_390_34 (fun _ => ?_) (fun h => absurd (show (0 : Int) = 0 by decide) h)
    refine x_li (z := 0) T_390_83 rfl ?_
    refine x_if T_390_85 (fun _ => ?_) (fun h => absurd (show (0 : Int) = 0 by decide) h)
    refine x_ic T_390_93 ?_
    refine x_ri T_390_94 ?_
    exact ⟨rfl, rfl⟩
theorem m_tellNumber_unit {v : Int} (hv : 0 ≤ v ∧ v < 1000000000000000000) {Q : Option AV → hM → Prop} (hQ : WP fb d 379 25 [some (vR (some 2281)), some (vI p), some (vL v), none, some (vL (10 ^ ndF v 18 0)), none] [] σ Q) : ∀ (m i : Nat), i + m = 18 → ndF v m i = ndF v 18 0 → WP fb d 379 3 [some (vR (some 2281)), some (vI p), some (vL v), none, some (vL (10 ^ i)), none] [] σ Q := by
  intro m
  have e18 : (10 : Int) ^ 18 = 1000000000000000000 := by decide
  induction m with
  | zero =>
    intro i h1 h2
    have h2 : i = ndF v 18 0 := h2
    have hi : i = 18 := by omega
    rw [← h2] at hQ
    have hp : (10 : Int) ^ i = 1000000000000000000 := by rw [hi, e18]
    obtain ⟨u, hu⟩ : ∃ u : Int, 10 ^ i = u := ⟨_, rfl⟩
    rw [hu] at hQ hp ⊢
    have hz : v / u = 0 := Int.ediv_eq_zero_of_lt hv.1 (by omega)
    refine x_ll (z := v) T_379_3 rfl ?_
    refine x_ll (z := u) T_379_4 rfl ?_
    refine x_lb (w := 0) T_379_6 (by omega) ((div64_n (by omega) (by omega)).trans hz) ?_
    refine x_lc T_379_7 ?_
    refine x_lif T_379_10 T_379_11 (fun _ => ?_) (fun h => absurd (show (0 : Int) < 10 by decide) h)
    exact hQ
  | succ m ih =>
    intro i h1 h2
    have hp1 : (10 : Int) ^ i ≤ 10 ^ 17 := pow10_le (by omega)
    have e17 : (10 : Int) ^ 17 = 100000000000000000 := by decide
    have hp0 : (0 : Int) < 10 ^ i := Int.pow_pos (by decide)
    by_cases q : 10 ≤ v / 10 ^ i
    · rw [show ndF v (m + 1) i = ndF v m (i + 1) from if_pos q] at h2
      have hgo := ih (i + 1) (by omega) h2
      rw [show (10 : Int) ^ (i + 1) = 10 * 10 ^ i by rw [Int.pow_succ, Int.mul_comm]] at hgo
      obtain ⟨u, hu⟩ : ∃ u : Int, 10 ^ i = u := ⟨_, rfl⟩
      rw [hu] at hgo q hp1 hp0 ⊢
      refine x_ll (z := v) T_379_3 rfl ?_
      refine x_ll (z := u) T_379_4 rfl ?_
      refine x_lb (w := (v / u)) T_379_6 (by omega) (div64_n (by omega) (by omega)) ?_
      refine x_lc T_379_7 ?_
      refine x_lif T_379_10 T_379_11 (fun h => absurd (show (v / u) < 10 from h) (by omega)) (fun _ => ?_)
      refine x_lc T_379_14 ?_
      refine x_ll (z := u) T_379_17 rfl ?_
      refine x_lb (w := (10 * u)) T_379_19 (fun h => absurd h.1 (by decide)) (w64_id (by omega) (by omega)) ?_
      refine x_sl (ls1 := [some (vR (some 2281)), some (vI p), some (vL v), none, some (vL (10 * u)), none]) T_379_20 rfl ?_
      refine x_goto T_379_22 ?_
      exact hgo
    · rw [show ndF v (m + 1) i = i from if_neg q] at h2
      rw [← h2] at hQ
      obtain ⟨u, hu⟩ : ∃ u : Int, 10 ^ i = u := ⟨_, rfl⟩
      rw [hu] at hQ q hp1 hp0 ⊢
      refine x_ll (z := v) T_379_3 rfl ?_
      refine x_ll (z := u) T_379_4 rfl ?_
      refine x_lb (w := (v / u)) T_379_6 (by omega) (div64_n (by omega) (by omega)) ?_
      refine x_lc T_379_7 ?_
      refine x_lif T_379_10 T_379_11 (fun _ => ?_) (fun h => absurd (show (v / u) < 10 by omega) h)
      exact hQ
theorem dcL_b {v : Int} (hv : 0 ≤ v) : ∀ (k : Nat), ∀ b ∈ dcL v k, 48 ≤ b ∧ b ≤ 57
  | 0, b, hb => by
    rw [List.mem_singleton.mp hb]
    have := Int.emod_nonneg (v / 10 ^ 0) (show (10 : Int) ≠ 0 by decide)
    have := Int.emod_lt_of_pos (v / 10 ^ 0) (show (0 : Int) < 10 by decide)
    omega
  | k + 1, b, hb => by
    rcases List.mem_cons.mp hb with h | h
    · rw [h]
      have := Int.emod_nonneg (v / 10 ^ (k + 1)) (show (10 : Int) ≠ 0 by decide)
      have := Int.emod_lt_of_pos (v / 10 ^ (k + 1)) (show (0 : Int) < 10 by decide)
      omega
    · exact dcL_b hv k b h
theorem m_tellNumber_dig {v : Int} (hv : 0 ≤ v ∧ v < 1000000000000000000) (hp : 0 ≤ p ∧ p < 8) : ∀ (k : Nat) (P : qR) (σ : hM), k ≤ 18 → PM σ0 P S σ → GI T U P → WP fb (d + 1) 379 25 [some (vR (some 2281)), some (vI p), some (vL v), none, some (vL (10 ^ k)), none] [] σ (rV σ0 (gOut P p (dcL v k)) S) := by
  intro k
  induction k with
  | zero =>
    intro P σ hk hP hG
    have b := dcL_b hv.1 0 _ List.mem_cons_self
    have hz : v / 10 ^ 0 = v := by show v / 1 = v; exact Int.ediv_one v
    have hm := Int.emod_nonneg v (show (10 : Int) ≠ 0 by decide)
    have hm2 := Int.emod_lt_of_pos v (show (0 : Int) < 10 by decide)
    have ht := m_tell (fb := fb) (d := d) (b := 48 + v % 10) hP hG.iv hp
    rw [show gOut P p (dcL v 0) = gTell P p (48 + v % 10) by show gTell P p (48 + v / 10 ^ 0 % 10) = _; rw [hz]]
    show WP fb (d + 1) _ _ [some (vR (some 2281)), some (vI p), some (vL v), none, some (vL 1), none] _ _ _
    refine x_ll (z := 1) T_379_25 rfl ?_
    refine x_lc T_379_27 ?_
    refine x_lif T_379_28 T_379_29 (fun h => absurd (show (1 : Int) ≤ 0 from h) (by decide)) (fun _ => ?_)
    refine x_lr (z := some 2281) T_379_32 rfl ?_
    refine x_li (z := p) T_379_33 rfl ?_
    refine x_lc T_379_34 ?_
    refine x_ll (z := v) T_379_37 rfl ?_
    refine x_ll (z := 1) T_379_38 rfl ?_
    refine x_lb (w := v) T_379_40 (fun h => absurd h.2 (by decide)) ((div64_n (by omega) (by decide)).trans (Int.ediv_one v)) ?_
    refine x_lc T_379_41 ?_
    refine x_lb (w := (v % 10)) T_379_44 (fun h => absurd h.2 (by decide)) (rem64_n (by omega) (by decide)) ?_
    refine x_lb (w := (48 + (v % 10))) T_379_45 (fun h => absurd h.1 (by decide)) (w64_id (by omega) (by omega)) ?_
    refine x_l2i (w := (48 + v % 10)) T_379_46 (w32_id (by omega) (by omega)) ?_
    refine x_cv3 T_379_47 mN_351 mL_351 (Nat.le_of_ble_eq_true rfl) mO_351 (PM.t hP) (Nat.le_of_ble_eq_true rfl) (ht) ?_
    clear hP ht
    rintro _ σ ⟨rfl, hP⟩
    refine cV ?_
    refine x_ll (z := 1) T_379_50 rfl ?_
    refine x_lc T_379_52 ?_
    refine x_lb (w := 0) T_379_55 (fun h => absurd h.2 (by decide)) (by decide) ?_
    refine x_sl (ls1 := [some (vR (some 2281)), some (vI p), some (vL v), none, some (vL 0), none]) T_379_56 rfl ?_
    refine x_goto T_379_58 ?_
    refine x_ll (z := 0) T_379_25 rfl ?_
    refine x_lc T_379_27 ?_
    refine x_lif T_379_28 T_379_29 (fun _ => ?_) (fun h => absurd (show (0 : Int) ≤ 0 by decide) h)
    refine x_rv T_379_61 ?_
    exact ⟨rfl, hP⟩
  | succ k ih =>
    intro P σ hk hP hG
    have hp1 : (10 : Int) ^ (k + 1) ≤ 10 ^ 18 := pow10_le (by omega)
    have e18 : (10 : Int) ^ 18 = 1000000000000000000 := by decide
    have hp0 : (0 : Int) < 10 ^ (k + 1) := Int.pow_pos (by decide)
    have e1 : (10 : Int) ^ (k + 1) = 10 * 10 ^ k := by rw [Int.pow_succ, Int.mul_comm]
    have hgo := fun (Q : qR) (σ : hM) => ih Q σ (by omega)
    rw [show gOut P p (dcL v (k + 1)) = gOut (gTell P p (48 + v / 10 ^ (k + 1) % 10)) p (dcL v k) from rfl]
    obtain ⟨u0, hu0⟩ : ∃ u0 : Int, 10 ^ k = u0 := ⟨_, rfl⟩
    obtain ⟨u, hu⟩ : ∃ u : Int, 10 ^ (k + 1) = u := ⟨_, rfl⟩
    rw [hu0] at e1 hgo
    rw [hu] at e1 hp1 hp0 ⊢
    have hq : 0 ≤ v / u := Int.ediv_nonneg hv.1 (by omega)
    have hq1 : v / u ≤ v := Int.ediv_le_self u hv.1
    obtain ⟨y, hy⟩ : ∃ y, v / u = y := ⟨_, rfl⟩
    rw [hy] at hq hq1 ⊢
    have hm := Int.emod_nonneg y (show (10 : Int) ≠ 0 by decide)
    have hm2 := Int.emod_lt_of_pos y (show (0 : Int) < 10 by decide)
    have ht := m_tell (fb := fb) (d := d) (b := 48 + y % 10) hP hG.iv hp
    have hG2 : GI T U (gTell P p (48 + y % 10)) := GI_tell hG hp (by omega)
    refine x_ll (z := u) T_379_25 rfl ?_
    refine x_lc T_379_27 ?_
    refine x_lif T_379_28 T_379_29 (fun h => absurd (show u ≤ 0 from h) (by omega)) (fun _ => ?_)
    refine x_lr (z := some 2281) T_379_32 rfl ?_
    refine x_li (z := p) T_379_33 rfl ?_
    refine x_lc T_379_34 ?_
    refine x_ll (z := v) T_379_37 rfl ?_
    refine x_ll (z := u) T_379_38 rfl ?_
    refine x_lb (w := y) T_379_40 (by omega) ((div64_n (by omega) (by omega)).trans hy) ?_
    refine x_lc T_379_41 ?_
    refine x_lb (w := (y % 10)) T_379_44 (fun h => absurd h.2 (by decide)) (rem64_n (by omega) (by decide)) ?_
    refine x_lb (w := (48 + (y % 10))) T_379_45 (fun h => absurd h.1 (by decide)) (w64_id (by omega) (by omega)) ?_
    refine x_l2i (w := (48 + y % 10)) T_379_46 (w32_id (by omega) (by omega)) ?_
    refine x_cv3 T_379_47 mN_351 mL_351 (Nat.le_of_ble_eq_true rfl) mO_351 (PM.t hP) (Nat.le_of_ble_eq_true rfl) (ht) ?_
    clear hP ht
    rintro _ σ ⟨rfl, hP⟩
    refine cV ?_
    refine x_ll (z := u) T_379_50 rfl ?_
    refine x_lc T_379_52 ?_
    refine x_lb (w := u0) T_379_55 (fun h => absurd h.2 (by decide)) ((div64_n (by omega) (by decide)).trans (by omega)) ?_
    refine x_sl (ls1 := [some (vR (some 2281)), some (vI p), some (vL v), none, some (vL u0), none]) T_379_56 rfl ?_
    refine x_goto T_379_58 ?_
    exact hgo _ σ hP hG2
theorem m_tellNumber {v : Int} (hP : PM σ0 P S σ) (hG : GI T U P) (hp : 0 ≤ p ∧ p < 8) (hv : 0 ≤ v ∧ v < 1000000000000000000) : CL fb (d + 1) 379 [vR (some 2281), vI p, vL v] σ (rV σ0 (gOut P p (decL v)) S) := by
  refine CL_in mL_379 rfl ?_
  show WP fb _ 379 0 [some (vR (some 2281)), some (vI p), some (vL v), none, none, none] [] σ _
  refine x_lc T_379_0 ?_
  refine x_sl (ls1 := [some (vR (some 2281)), some (vI p), some (vL v), none, some (vL 1), none]) T_379_1 rfl ?_
  have := ndF_le (v := v) 18 0
  exact m_tellNumber_unit (d := d + 1) hv (m_tellNumber_dig hv hp (ndF v 18 0) P σ (by omega) hP hG) 18 0 (by decide) rfl
theorem m_load_loop {dp : Int} (hI : IV true T U S) (hdp : S 2281 113 = dp) (hd : 0 ≤ dp ∧ dp ≤ 12) (hz : z = S 2366 dp) {Q : Option AV → hM → Prop} (hQ : ∀ (σ : hM) (S1 : qR), PM σ0 P S1 σ → IV true T U S1 → SX [2343] [74] S S1 → S1 2281 74 = z → (∀ i : Int, 0 ≤ i → i < z → S1 2343 i = S 2365 (100 * dp + i)) → WP fb d 314 49 [some (vR (some 2281)), some (vI z)] [] σ Q) : ∀ (m : Nat) (i : Int) (σ : hM) (S1 : qR), i + m = z → 0 ≤ i → PM σ0 P S1 σ → IV true T U S1 → SX [2343] [74] S S1 → S1 2281 74 = z → (∀ j : Int, 0 ≤ j → j < i → S1 2343 j = S 2365 (100 * dp + j)) → WP fb d 314 15 [some (vR (some 2281)), some (vI i)] [] σ Q := by
  have bz : 0 ≤ S 2366 dp ∧ S 2366 dp ≤ 100 := IV.a hI 2366 0 13 rfl rfl rfl (by omega) (by omega)
  intro m
  induction m with
  | zero =>
    intro i σ S1 h1 h2 hP hJ hX h74 hl
    have hi : i = z := by omega
    subst hi
    have hgo := hQ σ S1 hP hJ hX h74 hl
    refine x_li (z := i) T_314_15 rfl ?_
    refine x_lr (z := some 2281) T_314_16 rfl ?_
    refine x_gI (z := i) T_314_17 (Or.inl F_17_74) (PM.t hP) (Eq.trans (PM.nS hP 2281 74 74 rfl rfl rfl) h74) ?_
    refine x_ic2 T_314_20 (fun _ => ?_) (fun h => absurd (show i ≤ i by omega) h)
    exact hgo
  | succ m ih =>
    intro i σ S1 h1 h2 hP hJ hX h74 hl
    have hdp2 : S1 2281 113 = dp := (hX.1 113 rfl).trans hdp
    have hx : S1 2365 (100 * dp + i) = S 2365 (100 * dp + i) := hX.2 _ _ rfl rfl
    have bx : 0 ≤ S 2365 (100 * dp + i) ∧ S 2365 (100 * dp + i) ≤ 255 := IV.a hI 2365 0 1300 rfl rfl rfl (by omega) (by omega)
    refine x_li (z := i) T_314_15 rfl ?_
    refine x_lr (z := some 2281) T_314_16 rfl ?_
    refine x_gI (z := z) T_314_17 (Or.inl F_17_74) (PM.t hP) (Eq.trans (PM.nS hP 2281 74 74 rfl rfl rfl) h74) ?_
    refine x_ic2 T_314_20 (fun h => absurd (show z ≤ i from h) (by omega)) (fun _ => ?_)
    refine x_lr (z := some 2281) T_314_23 rfl ?_
    refine x_gR (z := some 2343) T_314_24 F_17_73 (PM.t hP) (PM.r hP 73 2343 rfl) ?_
    refine x_li (z := i) T_314_27 rfl ?_
    refine x_lr (z := some 2281) T_314_28 rfl ?_
    refine x_gR (z := some 2365) T_314_29 F_17_106 (PM.t hP) (PM.r hP 106 2365 rfl) ?_
    refine x_ic T_314_32 ?_
    refine x_lr (z := some 2281) T_314_34 rfl ?_
    refine x_gI (z := dp) T_314_35 (Or.inl F_17_113) (PM.t hP) (Eq.trans (PM.nS hP 2281 113 113 rfl rfl rfl) hdp2) ?_
    refine x_ib (w := (100 * dp)) T_314_38 (fun h => absurd h.1 (by decide)) (w32_id (by omega) (by omega)) ?_
    refine x_li (z := i) T_314_39 rfl ?_
    refine x_ib (w := ((100 * dp) + i)) T_314_40 (fun h => absurd h.1 (by decide)) (w32_id (by omega) (by omega)) ?_
    refine x_alI (z := S 2365 (100 * dp + i)) T_314_41 (by decide) (PM.ta hP 2365 0 1300 rfl rfl) (by omega) (by omega) (Eq.trans (PM.aS hP 2365 rfl rfl (by omega)) hx) ?_
    refine y_aIS hP T_314_42 2343 100 rfl rfl rfl (by omega) (by omega) (fun σ hP => ?_)
    refine x_inc (w := (i + 1)) (ls1 := [some (vR (some 2281)), some (vI (i + 1))]) T_314_43 rfl (w32_id (by omega) (by omega)) rfl ?_
    refine x_goto T_314_46 ?_
    refine ih (i + 1) σ _ (by omega) (by omega) hP (hJ.uA 2343 rfl bx) (SX_up hX rfl rfl) ((rU_f (by decide)).trans h74) (fun j j0 j1 => ?_)
    by_cases q : j = i
    · rw [q, rU_s]
    · rw [rU_k q]
      exact hl j j0 (by omega)
def ldR : List Nat := [2343, 2344, 2345]
def ldN : List Int := [74, 77]
theorem m_load {dp : Int} (hP : PM σ0 P S σ) (hJ : IV true T U S) (hdp : S 2281 113 = dp) (hd : 0 ≤ dp ∧ dp ≤ 12) : CL fb (d + 1) 314 [vR (some 2281)] σ (fun r σ' => ∃ S2 : qR, r = none ∧ PM σ0 P S2 σ' ∧ IV true T U S2 ∧ SX ldR ldN S S2 ∧ LN S2 (seg (S 2365) (100 * dp) (S 2366 dp).toNat)) := by
  have bz : 0 ≤ S 2366 dp ∧ S 2366 dp ≤ 100 := IV.a hJ 2366 0 13 rfl rfl rfl (by omega) (by omega)
  obtain ⟨z, hz⟩ : ∃ z, S 2366 dp = z := ⟨_, rfl⟩
  rw [hz] at bz
  have hlen : ((seg (S 2365) (100 * dp) (S 2366 dp).toNat).length : Int) = z := by rw [seg_len, hz]; omega
  have hgo := fun (σ : hM) (hP : PM σ0 P (rU S 2281 74 z) σ) => m_load_loop (fb := fb) (d := d + 1) (S := S) (dp := dp) hJ hdp hd hz.symm (fun σ S1 a1 a2 a3 a4 a5 => (by
    have hsp := m_split (fb := fb) (d := d) (l := seg (S 2365) (100 * dp) (S 2366 dp).toNat) a1 a2 (a4.trans hlen.symm) (by rw [seg_len, hz]; omega) (byt_seg (fun i i0 i1 => IV.a hJ 2365 0 1300 rfl rfl rfl (by omega) (by omega))) (fun i i0 i1 => by rw [hlen] at i1; rw [lg_seg _ _ _ _ i0 (by omega)]; exact a5 i i0 i1)
    refine x_lr T_314_49 rfl ?_
    refine x_cv1 T_314_50 mN_315 mL_315 (Nat.le_of_ble_eq_true rfl) mO_315 (PM.t a1) (Nat.le_of_ble_eq_true rfl) hsp ?_
    rintro _ σ1 ⟨S2, rfl, b1, b2, b3, b4⟩
    exact x_rv T_314_53 ⟨S2, rfl, b1, b2, SX_tr (a3.mono (fun _ => elem_sub (by decide)) (fun _ => elem_sub (by decide))) (b3.mono (fun _ => elem_sub (by decide)) (fun _ => elem_sub (by decide))), b4⟩ : WP fb (d + 1) 314 49 [some (vR (some 2281)), some (vI z)] [] σ (fun r σ' => ∃ S2 : qR, r = none ∧ PM σ0 P S2 σ' ∧ IV true T U S2 ∧ SX ldR ldN S S2 ∧ LN S2 (seg (S 2365) (100 * dp) (S 2366 dp).toNat)))) z.toNat 0 σ (rU S 2281 74 z) (by omega) (by decide) hP (hJ.uN 74 74 rfl (by show 0 ≤ z ∧ z ≤ 100; omega)) (SX_un SX_rfl rfl) rU_s (fun j j0 j1 => by omega)
  refine CL_in mL_314 rfl ?_
  show WP fb _ 314 0 [some (vR (some 2281)), none] [] σ _
  refine x_lr (z := some 2281) T_314_0 rfl ?_
  refine x_lr (z := some 2281) T_314_1 rfl ?_
  refine x_gR (z := some 2366) T_314_2 F_17_107 (PM.t hP) (PM.r hP 107 2366 rfl) ?_
  refine x_lr (z := some 2281) T_314_5 rfl ?_
  refine x_gI (z := dp) T_314_6 (Or.inl F_17_113) (PM.t hP) (Eq.trans (PM.nS hP 2281 113 113 rfl rfl rfl) hdp) ?_
  refine x_alI (z := z) T_314_9 (by decide) (PM.ta hP 2366 0 13 rfl rfl) (by omega) (by omega) (Eq.trans (PM.aS hP 2366 rfl rfl (by omega)) hz) ?_
  refine y_pIS hP T_314_10 F_17_74 74 rfl rfl (fun σ hP => ?_)
  refine x_ic T_314_13 ?_
  refine x_si (ls1 := [some (vR (some 2281)), some (vI 0)]) T_314_14 rfl ?_
  exact hgo σ hP
end MLINE2
