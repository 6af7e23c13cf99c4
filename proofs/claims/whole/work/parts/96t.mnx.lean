/-! for and run go on. -/
theorem T_398_0 : hTab 398 0 = some ((3, 0, 2, []), 1) := rfl
theorem T_398_1 : hTab 398 1 = some ((24, 17, Int.ofNat 108, []), 4) := rfl
theorem T_398_4 : hTab 398 4 = some ((3, 0, 2, []), 5) := rfl
theorem T_398_5 : hTab 398 5 = some ((24, 17, Int.ofNat 113, []), 8) := rfl
theorem T_398_8 : hTab 398 8 = some ((26, 0, 0, []), 9) := rfl
theorem T_398_9 : hTab 398 9 = some ((0, 0, 2, []), 10) := rfl
theorem T_398_10 : hTab 398 10 = some ((19, 1, Int.ofNat 122, []), 13) := rfl
theorem T_398_13 : hTab 398 13 = some ((3, 0, 2, []), 14) := rfl
theorem T_398_14 : hTab 398 14 = some ((31, 314, 0, []), 17) := rfl
theorem T_398_17 : hTab 398 17 = some ((3, 0, 2, []), 18) := rfl
theorem T_398_18 : hTab 398 18 = some ((24, 17, Int.ofNat 109, []), 21) := rfl
theorem T_398_21 : hTab 398 21 = some ((3, 0, 2, []), 22) := rfl
theorem T_398_22 : hTab 398 22 = some ((24, 17, Int.ofNat 113, []), 25) := rfl
theorem T_398_25 : hTab 398 25 = some ((26, 0, 0, []), 26) := rfl
theorem T_398_26 : hTab 398 26 = some ((4, 2, 0, []), 27) := rfl
theorem T_398_27 : hTab 398 27 = some ((3, 0, 2, []), 28) := rfl
theorem T_398_28 : hTab 398 28 = some ((31, 324, 0, []), 31) := rfl
theorem T_398_31 : hTab 398 31 = some ((4, 3, 0, []), 32) := rfl
theorem T_398_32 : hTab 398 32 = some ((3, 2, 0, []), 33) := rfl
theorem T_398_33 : hTab 398 33 = some ((3, 3, 0, []), 34) := rfl
theorem T_398_34 : hTab 398 34 = some ((19, 1, Int.ofNat 39, []), 37) := rfl
theorem T_398_37 : hTab 398 37 = some ((0, 0, 0, []), 38) := rfl
theorem T_398_38 : hTab 398 38 = some ((33, 1, 0, []), 39) := rfl
theorem T_398_39 : hTab 398 39 = some ((3, 0, 2, []), 40) := rfl
theorem T_398_40 : hTab 398 40 = some ((3, 2, 0, []), 41) := rfl
theorem T_398_41 : hTab 398 41 = some ((31, 318, 0, []), 44) := rfl
theorem T_398_44 : hTab 398 44 = some ((0, 0, 20, []), 46) := rfl
theorem T_398_46 : hTab 398 46 = some ((19, 5, Int.ofNat 52, []), 49) := rfl
theorem T_398_49 : hTab 398 49 = some ((0, 0, 18, []), 51) := rfl
theorem T_398_51 : hTab 398 51 = some ((33, 1, 0, []), 52) := rfl
theorem T_398_52 : hTab 398 52 = some ((3, 0, 2, []), 53) := rfl
theorem T_398_53 : hTab 398 53 = some ((3, 1, 0, []), 54) := rfl
theorem T_398_54 : hTab 398 54 = some ((3, 0, 2, []), 55) := rfl
theorem T_398_55 : hTab 398 55 = some ((0, 0, 1, []), 56) := rfl
theorem T_398_56 : hTab 398 56 = some ((0, 0, 0, []), 57) := rfl
theorem T_398_57 : hTab 398 57 = some ((31, 319, 0, []), 60) := rfl
theorem T_398_60 : hTab 398 60 = some ((0, 0, 97, []), 62) := rfl
theorem T_398_62 : hTab 398 62 = some ((10, 1, 0, []), 63) := rfl
theorem T_398_63 : hTab 398 63 = some ((3, 2, 0, []), 64) := rfl
theorem T_398_64 : hTab 398 64 = some ((31, 372, 0, []), 67) := rfl
theorem T_398_67 : hTab 398 67 = some ((3, 0, 2, []), 68) := rfl
theorem T_398_68 : hTab 398 68 = some ((24, 17, Int.ofNat 109, []), 71) := rfl
theorem T_398_71 : hTab 398 71 = some ((3, 0, 2, []), 72) := rfl
theorem T_398_72 : hTab 398 72 = some ((24, 17, Int.ofNat 113, []), 75) := rfl
theorem T_398_75 : hTab 398 75 = some ((8, 0, 0, []), 76) := rfl
theorem T_398_76 : hTab 398 76 = some ((26, 0, 0, []), 77) := rfl
theorem T_398_77 : hTab 398 77 = some ((0, 0, 1, []), 78) := rfl
theorem T_398_78 : hTab 398 78 = some ((10, 0, 0, []), 79) := rfl
theorem T_398_79 : hTab 398 79 = some ((27, 0, 0, []), 80) := rfl
theorem T_398_80 : hTab 398 80 = some ((3, 0, 2, []), 81) := rfl
theorem T_398_81 : hTab 398 81 = some ((3, 3, 0, []), 82) := rfl
theorem T_398_82 : hTab 398 82 = some ((0, 0, 1, []), 83) := rfl
theorem T_398_83 : hTab 398 83 = some ((10, 0, 0, []), 84) := rfl
theorem T_398_84 : hTab 398 84 = some ((31, 322, 0, []), 87) := rfl
theorem T_398_87 : hTab 398 87 = some ((3, 0, 2, []), 88) := rfl
theorem T_398_88 : hTab 398 88 = some ((24, 17, Int.ofNat 110, []), 91) := rfl
theorem T_398_91 : hTab 398 91 = some ((3, 0, 2, []), 92) := rfl
theorem T_398_92 : hTab 398 92 = some ((24, 17, Int.ofNat 113, []), 95) := rfl
theorem T_398_95 : hTab 398 95 = some ((0, 0, 0, []), 96) := rfl
theorem T_398_96 : hTab 398 96 = some ((27, 2, 0, []), 97) := rfl
theorem T_398_97 : hTab 398 97 = some ((3, 0, 2, []), 98) := rfl
theorem T_398_98 : hTab 398 98 = some ((3, 1, 0, []), 99) := rfl
theorem T_398_99 : hTab 398 99 = some ((0, 0, 1, []), 100) := rfl
theorem T_398_100 : hTab 398 100 = some ((31, 310, 0, []), 103) := rfl
theorem T_398_103 : hTab 398 103 = some ((4, 4, 0, []), 105) := rfl
theorem T_398_105 : hTab 398 105 = some ((3, 4, 0, []), 107) := rfl
theorem T_398_107 : hTab 398 107 = some ((18, 5, Int.ofNat 120, []), 110) := rfl
theorem T_398_110 : hTab 398 110 = some ((3, 0, 2, []), 111) := rfl
theorem T_398_111 : hTab 398 111 = some ((3, 1, 0, []), 112) := rfl
theorem T_398_112 : hTab 398 112 = some ((3, 4, 0, []), 114) := rfl
theorem T_398_114 : hTab 398 114 = some ((31, 399, 0, []), 117) := rfl
theorem T_398_117 : hTab 398 117 = some ((22, 0, Int.ofNat 121, []), 120) := rfl
theorem T_398_120 : hTab 398 120 = some ((0, 0, (-1), []), 121) := rfl
theorem T_398_121 : hTab 398 121 = some ((33, 1, 0, []), 122) := rfl
theorem T_399_0 : hTab 399 0 = some ((3, 0, 2, []), 1) := rfl
theorem T_399_1 : hTab 399 1 = some ((24, 17, Int.ofNat 108, []), 4) := rfl
theorem T_399_4 : hTab 399 4 = some ((3, 0, 2, []), 5) := rfl
theorem T_399_5 : hTab 399 5 = some ((24, 17, Int.ofNat 113, []), 8) := rfl
theorem T_399_8 : hTab 399 8 = some ((26, 0, 0, []), 9) := rfl
theorem T_399_9 : hTab 399 9 = some ((0, 0, 1, []), 10) := rfl
theorem T_399_10 : hTab 399 10 = some ((19, 1, Int.ofNat 15, []), 13) := rfl
theorem T_399_13 : hTab 399 13 = some ((3, 2, 0, []), 14) := rfl
theorem T_399_14 : hTab 399 14 = some ((33, 1, 0, []), 15) := rfl
theorem T_399_15 : hTab 399 15 = some ((3, 2, 0, []), 16) := rfl
theorem T_399_16 : hTab 399 16 = some ((18, 5, Int.ofNat 33, []), 19) := rfl
theorem T_399_19 : hTab 399 19 = some ((3, 0, 2, []), 20) := rfl
theorem T_399_20 : hTab 399 20 = some ((24, 17, Int.ofNat 110, []), 23) := rfl
theorem T_399_23 : hTab 399 23 = some ((3, 0, 2, []), 24) := rfl
theorem T_399_24 : hTab 399 24 = some ((24, 17, Int.ofNat 113, []), 27) := rfl
theorem T_399_27 : hTab 399 27 = some ((26, 2, 0, []), 28) := rfl
theorem T_399_28 : hTab 399 28 = some ((18, 1, Int.ofNat 33, []), 31) := rfl
theorem T_399_31 : hTab 399 31 = some ((3, 2, 0, []), 32) := rfl
theorem T_399_32 : hTab 399 32 = some ((33, 1, 0, []), 33) := rfl
theorem T_399_33 : hTab 399 33 = some ((3, 0, 2, []), 34) := rfl
theorem T_399_34 : hTab 399 34 = some ((24, 17, Int.ofNat 51, []), 37) := rfl
theorem T_399_37 : hTab 399 37 = some ((3, 1, 0, []), 38) := rfl
theorem T_399_38 : hTab 399 38 = some ((26, 2, 0, []), 39) := rfl
theorem T_399_39 : hTab 399 39 = some ((18, 0, Int.ofNat 46, []), 42) := rfl
theorem T_399_42 : hTab 399 42 = some ((0, 0, 0, []), 43) := rfl
theorem T_399_43 : hTab 399 43 = some ((22, 0, Int.ofNat 48, []), 46) := rfl
theorem T_399_46 : hTab 399 46 = some ((0, 0, (-2), []), 48) := rfl
theorem T_399_48 : hTab 399 48 = some ((33, 1, 0, []), 49) := rfl
theorem F_17_110 : (hFd 17 110).2.2.1 = 4 := rfl
theorem mN_398 : hmN 398 = 2 := by decide +kernel
theorem mL_398 : hmL 398 = 5 := by decide +kernel
theorem mK_398 : hmK 398 = 1 := by decide +kernel
theorem mO_398 : hmO 398 = 17 := by decide +kernel
theorem mN_399 : hmN 399 = 3 := by decide +kernel
theorem mL_399 : hmL 399 = 3 := by decide +kernel
theorem mK_399 : hmK 399 = 1 := by decide +kernel
theorem mO_399 : hmO 399 = 17 := by decide +kernel
section MNX
variable {fb : Bool} {d : Nat} {σ0 σ : hM} {P P1 Q R S S0 S1 S2 : qR} {T U s w g u p k e t z o n N v b c c2 i mu : Int} {l L tx tt sc : List Int} {h : List Ch} {fs : List Fr} {f fr fr2 : Fr} {J : qR → Prop}
theorem FX.sx {rows : List Nat} {scl : List Int} (h : FX S i f) (hX : SX rows scl S S1) (e1 : rows.elem 2365 = false) (e2 : rows.elem 2366 = false) (e3 : rows.elem 2367 = false) (e4 : rows.elem 2368 = false) (e5 : rows.elem 2369 = false) (e6 : rows.elem 2370 = false) (e7 : rows.elem 2371 = false) : FX S1 i f := by
  obtain ⟨a1, ⟨a2, a3, a4, a5⟩, a6, a7, a8⟩ := h
  exact ⟨(hX.2 _ _ rfl e3).trans a1, ⟨a2, a3, (hX.2 _ _ rfl e2).trans a4, fun j b1 b2 b3 => (hX.2 _ _ rfl e1).trans (a5 j b1 b2 b3)⟩, fun q => (hX.2 _ _ rfl e4).trans (a6 q), fun q => (hX.2 _ _ rfl e5).trans (a7 q), fun q => ⟨(hX.2 _ _ rfl e7).trans (a8 q).1, (a8 q).2.1, fun j b1 b2 => (hX.2 _ _ rfl e6).trans ((a8 q).2.2 j b1 b2)⟩⟩
theorem FST.sx {rows : List Nat} {scl : List Int} (hX : SX rows scl S S1) (e1 : rows.elem 2365 = false) (e2 : rows.elem 2366 = false) (e3 : rows.elem 2367 = false) (e4 : rows.elem 2368 = false) (e5 : rows.elem 2369 = false) (e6 : rows.elem 2370 = false) (e7 : rows.elem 2371 = false) : ∀ {fs : List Fr}, FST S fs → FST S1 fs
  | [], _ => trivial
  | f :: r, h => ⟨h.1.sx hX e1 e2 e3 e4 e5 e6 e7, FST.sx hX e1 e2 e3 e4 e5 e6 e7 h.2⟩
theorem FST.ld (hX : SX ldR ldN S S1) (h : FST S fs) : FST S1 fs := FST.sx hX rfl rfl rfl rfl rfl rfl rfl h
theorem KS.ld (hK : KS T U P S l h) (hX : SX ldR ldN S S1) (hJ : IV true T U S1) (hL : LN S1 tt) : KS T U P S1 tt h := by
  obtain ⟨a1, a2, a3, a4, a5⟩ := hK
  refine ⟨a1, a2, hJ, ⟨(hX.1 _ rfl).trans a4.1, a4.2.1, fun i hi => ?_⟩, hL⟩
  rw [hX.2 _ _ rfl rfl, hX.2 _ _ rfl rfl, hX.2 _ _ rfl rfl, hX.2 _ _ rfl rfl, hX.2 _ _ rfl rfl]
  exact a4.2.2 i hi
theorem m_returned {dn r0 : Int} (hP : PM σ0 P S σ) (hI : IV false T U P) (hp : 0 ≤ p ∧ p < 8) (hd : S 2281 113 = dn) (hdn : 0 ≤ dn ∧ dn ≤ 12) (hk : S 2367 dn = k) (hk2 : 2 ≤ k ∧ k ≤ 3) (hm : S 2369 dn = mu) : CL fb d 399 [vR (some 2281), vI p, vI r0] σ (rP (if 0 < r0 ∧ mu = 0 then r0 else if ¬ P 2321 p = 0 then 0 else -2) σ) := by
  obtain ⟨y, hy⟩ : ∃ y, P 2321 p = y := ⟨_, rfl⟩
  rw [hy]
  by_cases q1 : 0 < r0
  · by_cases q2 : mu = 0
    · rw [if_pos ⟨q1, q2⟩]
      refine CL_in mL_399 rfl ?_
      show WP fb _ 399 0 [some (vR (some 2281)), some (vI p), some (vI r0)] [] σ _
      refine x_lr (z := some 2281) T_399_0 rfl ?_
      refine x_gR (z := some 2367) T_399_1 F_17_108 (PM.t hP) (PM.r hP 108 2367 rfl) ?_
      refine x_lr (z := some 2281) T_399_4 rfl ?_
      refine x_gI (z := dn) T_399_5 (Or.inl F_17_113) (PM.t hP) (Eq.trans (PM.nS hP 2281 113 113 rfl rfl rfl) hd) ?_
      refine x_alI (z := k) T_399_8 (by decide) (PM.ta hP 2367 0 13 rfl rfl) (by omega) (by omega) (Eq.trans (PM.aS hP 2367 rfl rfl (by omega)) hk) ?_
      refine x_ic T_399_9 ?_
      refine x_ic2 T_399_10 (fun _ => ?_) (fun h => absurd (show ¬ k = 1 by omega) h)
      refine x_li (z := r0) T_399_15 rfl ?_
      refine x_if T_399_16 (fun h => absurd (show r0 ≤ 0 from h) (by omega)) (fun _ => ?_)
      refine x_lr (z := some 2281) T_399_19 rfl ?_
      refine x_gR (z := some 2369) T_399_20 F_17_110 (PM.t hP) (PM.r hP 110 2369 rfl) ?_
      refine x_lr (z := some 2281) T_399_23 rfl ?_
      refine x_gI (z := dn) T_399_24 (Or.inl F_17_113) (PM.t hP) (Eq.trans (PM.nS hP 2281 113 113 rfl rfl rfl) hd) ?_
      refine x_alI (z := mu) T_399_27 (by decide) (PM.ta hP 2369 2 13 rfl rfl) (by omega) (by omega) (Eq.trans (PM.aS hP 2369 rfl rfl (by omega)) hm) ?_
      refine x_if T_399_28 (fun h => absurd (show ¬ mu = 0 from h) (by omega)) (fun _ => ?_)
      refine x_li (z := r0) T_399_31 rfl ?_
      refine x_ri T_399_32 ?_
      exact ⟨rfl, rfl⟩
    · rw [if_neg (fun c => q2 c.2)]
      by_cases q3 : y = 0
      · rw [if_neg (fun c => c q3)]
        refine CL_in mL_399 rfl ?_
        show WP fb _ 399 0 [some (vR (some 2281)), some (vI p), some (vI r0)] [] σ _
        refine x_lr (z := some 2281) T_399_0 rfl ?_
        refine x_gR (z := some 2367) T_399_1 F_17_108 (PM.t hP) (PM.r hP 108 2367 rfl) ?_
        refine x_lr (z := some 2281) T_399_4 rfl ?_
        refine x_gI (z := dn) T_399_5 (Or.inl F_17_113) (PM.t hP) (Eq.trans (PM.nS hP 2281 113 113 rfl rfl rfl) hd) ?_
        refine x_alI (z := k) T_399_8 (by decide) (PM.ta hP 2367 0 13 rfl rfl) (by omega) (by omega) (Eq.trans (PM.aS hP 2367 rfl rfl (by omega)) hk) ?_
        refine x_ic T_399_9 ?_
        refine x_ic2 T_399_10 (fun _ => ?_) (fun h => absurd (show ¬ k = 1 by omega) h)
        refine x_li (z := r0) T_399_15 rfl ?_
        refine x_if T_399_16 (fun h => absurd (show r0 ≤ 0 from h) (by omega)) (fun _ => ?_)
        refine x_lr (z := some 2281) T_399_19 rfl ?_
        refine x_gR (z := some 2369) T_399_20 F_17_110 (PM.t hP) (PM.r hP 110 2369 rfl) ?_
        refine x_lr (z := some 2281) T_399_23 rfl ?_
        refine x_gI (z := dn) T_399_24 (Or.inl F_17_113) (PM.t hP) (Eq.trans (PM.nS hP 2281 113 113 rfl rfl rfl) hd) ?_
        refine x_alI (z := mu) T_399_27 (by decide) (PM.ta hP 2369 2 13 rfl rfl) (by omega) (by omega) (Eq.trans (PM.aS hP 2369 rfl rfl (by omega)) hm) ?_
        refine x_if T_399_28 (fun _ => ?_) (fun h => absurd (show ¬ mu = 0 by omega) h)
        refine x_lr (z := some 2281) T_399_33 rfl ?_
        refine x_gR (z := some 2321) T_399_34 F_17_51 (PM.t hP) (PM.r hP 51 2321 rfl) ?_
        refine x_li (z := p) T_399_37 rfl ?_
        refine x_alI (z := y) T_399_38 (by decide) (PM.ta hP 2321 2 8 rfl rfl) (by omega) (by omega) (Eq.trans (PM.aP hP 2321 rfl rfl (by omega)) hy) ?_
        refine x_if T_399_39 (fun _ => ?_) (fun h => absurd (show y = 0 by omega) h)
        refine x_ic T_399_46 ?_
        refine x_ri T_399_48 ?_
        exact ⟨rfl, rfl⟩
      · rw [if_pos q3]
        refine CL_in mL_399 rfl ?_
        show WP fb _ 399 0 [some (vR (some 2281)), some (vI p), some (vI r0)] [] σ _
        refine x_lr (z := some 2281) T_399_0 rfl ?_
        refine x_gR (z := some 2367) T_399_1 F_17_108 (PM.t hP) (PM.r hP 108 2367 rfl) ?_
        refine x_lr (z := some 2281) T_399_4 rfl ?_
        refine x_gI (z := dn) T_399_5 (Or.inl F_17_113) (PM.t hP) (Eq.trans (PM.nS hP 2281 113 113 rfl rfl rfl) hd) ?_
        refine x_alI (z := k) T_399_8 (by decide) (PM.ta hP 2367 0 13 rfl rfl) (by omega) (by omega) (Eq.trans (PM.aS hP 2367 rfl rfl (by omega)) hk) ?_
        refine x_ic T_399_9 ?_
        refine x_ic2 T_399_10 (fun _ => ?_) (fun h => absurd (show ¬ k = 1 by omega) h)
        refine x_li (z := r0) T_399_15 rfl ?_
        refine x_if T_399_16 (fun h => absurd (show r0 ≤ 0 from h) (by omega)) (fun _ => ?_)
        refine x_lr (z := some 2281) T_399_19 rfl ?_
        refine x_gR (z := some 2369) T_399_20 F_17_110 (PM.t hP) (PM.r hP 110 2369 rfl) ?_
        refine x_lr (z := some 2281) T_399_23 rfl ?_
        refine x_gI (z := dn) T_399_24 (Or.inl F_17_113) (PM.t hP) (Eq.trans (PM.nS hP 2281 113 113 rfl rfl rfl) hd) ?_
        refine x_alI (z := mu) T_399_27 (by decide) (PM.ta hP 2369 2 13 rfl rfl) (by omega) (by omega) (Eq.trans (PM.aS hP 2369 rfl rfl (by omega)) hm) ?_
        refine x_if T_399_28 (fun _ => ?_) (fun h => absurd (show ¬ mu = 0 by omega) h)
        refine x_lr (z := some 2281) T_399_33 rfl ?_
        refine x_gR (z := some 2321) T_399_34 F_17_51 (PM.t hP) (PM.r hP 51 2321 rfl) ?_
        refine x_li (z := p) T_399_37 rfl ?_
        refine x_alI (z := y) T_399_38 (by decide) (PM.ta hP 2321 2 8 rfl rfl) (by omega) (by omega) (Eq.trans (PM.aP hP 2321 rfl rfl (by omega)) hy) ?_
        refine x_if T_399_39 (fun h => absurd (show y = 0 from h) (by omega)) (fun _ => ?_)
        refine x_ic T_399_42 ?_
        refine x_goto T_399_43 ?_
        refine x_ri T_399_48 ?_
        exact ⟨rfl, rfl⟩
  · rw [if_neg (fun c => q1 c.1)]
    by_cases q3 : y = 0
    · rw [if_neg (fun c => c q3)]
      refine CL_in mL_399 rfl ?_
      show WP fb _ 399 0 [some (vR (some 2281)), some (vI p), some (vI r0)] [] σ _
      refine x_lr (z := some 2281) T_399_0 rfl ?_
      refine x_gR (z := some 2367) T_399_1 F_17_108 (PM.t hP) (PM.r hP 108 2367 rfl) ?_
      refine x_lr (z := some 2281) T_399_4 rfl ?_
      refine x_gI (z := dn) T_399_5 (Or.inl F_17_113) (PM.t hP) (Eq.trans (PM.nS hP 2281 113 113 rfl rfl rfl) hd) ?_
      refine x_alI (z := k) T_399_8 (by decide) (PM.ta hP 2367 0 13 rfl rfl) (by omega) (by omega) (Eq.trans (PM.aS hP 2367 rfl rfl (by omega)) hk) ?_
      refine x_ic T_399_9 ?_
      refine x_ic2 T_399_10 (fun _ => ?_) (fun h => absurd (show ¬ k = 1 by omega) h)
      refine x_li (z := r0) T_399_15 rfl ?_
      refine x_if T_399_16 (fun _ => ?_) (fun h => absurd (show r0 ≤ 0 by omega) h)
      refine x_lr (z := some 2281) T_399_33 rfl ?_
      refine x_gR (z := some 2321) T_399_34 F_17_51 (PM.t hP) (PM.r hP 51 2321 rfl) ?_
      refine x_li (z := p) T_399_37 rfl ?_
      refine x_alI (z := y) T_399_38 (by decide) (PM.ta hP 2321 2 8 rfl rfl) (by omega) (by omega) (Eq.trans (PM.aP hP 2321 rfl rfl (by omega)) hy) ?_
      refine x_if T_399_39 (fun _ => ?_) (fun h => absurd (show y = 0 by omega) h)
      refine x_ic T_399_46 ?_
      refine x_ri T_399_48 ?_
      exact ⟨rfl, rfl⟩
    · rw [if_pos q3]
      refine CL_in mL_399 rfl ?_
      show WP fb _ 399 0 [some (vR (some 2281)), some (vI p), some (vI r0)] [] σ _
      refine x_lr (z := some 2281) T_399_0 rfl ?_
      refine x_gR (z := some 2367) T_399_1 F_17_108 (PM.t hP) (PM.r hP 108 2367 rfl) ?_
      refine x_lr (z := some 2281) T_399_4 rfl ?_
      refine x_gI (z := dn) T_399_5 (Or.inl F_17_113) (PM.t hP) (Eq.trans (PM.nS hP 2281 113 113 rfl rfl rfl) hd) ?_
      refine x_alI (z := k) T_399_8 (by decide) (PM.ta hP 2367 0 13 rfl rfl) (by omega) (by omega) (Eq.trans (PM.aS hP 2367 rfl rfl (by omega)) hk) ?_
      refine x_ic T_399_9 ?_
      refine x_ic2 T_399_10 (fun _ => ?_) (fun h => absurd (show ¬ k = 1 by omega) h)
      refine x_li (z := r0) T_399_15 rfl ?_
      refine x_if T_399_16 (fun _ => ?_) (fun h => absurd (show r0 ≤ 0 by omega) h)
      refine x_lr (z := some 2281) T_399_33 rfl ?_
      refine x_gR (z := some 2321) T_399_34 F_17_51 (PM.t hP) (PM.r hP 51 2321 rfl) ?_
      refine x_li (z := p) T_399_37 rfl ?_
      refine x_alI (z := y) T_399_38 (by decide) (PM.ta hP 2321 2 8 rfl rfl) (by omega) (by omega) (Eq.trans (PM.aP hP 2321 rfl rfl (by omega)) hy) ?_
      refine x_if T_399_39 (fun h => absurd (show y = 0 from h) (by omega)) (fun _ => ?_)
      refine x_ic T_399_42 ?_
      refine x_goto T_399_43 ?_
      refine x_ri T_399_48 ?_
      exact ⟨rfl, rfl⟩
theorem m_returned1 {dn r0 : Int} (hP : PM σ0 P S σ) (hd : S 2281 113 = dn) (hdn : 0 ≤ dn ∧ dn ≤ 12) (hk : S 2367 dn = 1) : CL fb d 399 [vR (some 2281), vI p, vI r0] σ (rP r0 σ) := by
  refine CL_in mL_399 rfl ?_
  show WP fb _ 399 0 [some (vR (some 2281)), some (vI p), some (vI r0)] [] σ _
  refine x_lr (z := some 2281) T_399_0 rfl ?_
  refine x_gR (z := some 2367) T_399_1 F_17_108 (PM.t hP) (PM.r hP 108 2367 rfl) ?_
  refine x_lr (z := some 2281) T_399_4 rfl ?_
  refine x_gI (z := dn) T_399_5 (Or.inl F_17_113) (PM.t hP) (Eq.trans (PM.nS hP 2281 113 113 rfl rfl rfl) hd) ?_
  refine x_alI (z := 1) T_399_8 (by decide) (PM.ta hP 2367 0 13 rfl rfl) (by omega) (by omega) (Eq.trans (PM.aS hP 2367 rfl rfl (by omega)) hk) ?_
  refine x_ic T_399_9 ?_
  refine x_ic2 T_399_10 (fun h => absurd (show ¬ (1 : Int) = 1 from h) (by decide)) (fun _ => ?_)
  refine x_li (z := r0) T_399_13 rfl ?_
  refine x_ri T_399_14 ?_
  exact ⟨rfl, rfl⟩
theorem STP_ref {ag : Nat → qR → Int → R4} (he : 0 < e) (hc2 : c ≤ c2 ∧ c2 ≤ 200) (hd : S2 2281 113 = (fs.length : Int) + 1) (hcc : S2 2281 114 = c2) (hF : FST S2 (fr2 :: fs)) (hok : frOk fr2) (h1 : fr2.1 = fr.1) (h2 : fr.2.2.1 < fr2.2.2.1) (hev : ∀ m, EV p (m + 1) (-2) ((fs.length : Int) + 1) (arOf fs) fr P c = evR p mu (e, P1, c2) (fun P1 c1 => EV p m (-2) ((fs.length : Int) + 1) (arOf fs) fr2 P1 c1)) : STP p (-2) fr fs P c (if 0 < e ∧ mu = 0 then e else if ¬ P1 2321 p = 0 then 0 else -2) P1 S2 := by
  unfold evR at hev
  dsimp only at hev
  by_cases q1 : mu = 0
  · rw [if_pos ⟨he, q1⟩]
    exact Or.inl ⟨c2, by omega, hc2.1, hc2.2, hd, hcc, hF.2, fun m => (hev m).trans (if_pos ⟨he, q1⟩)⟩
  · rw [if_neg (fun q => q1 q.2)]
    by_cases q2 : P1 2321 p = 0
    · rw [if_neg (fun q => q q2)]
      exact Or.inr (Or.inr ⟨rfl, fr2, c2, hc2.1, hc2.2, hd, hcc, hF, hok, Or.inr ⟨h1, h2⟩, fun m => ((hev m).trans (if_neg (fun q => q1 q.2))).trans (if_neg (fun q => q q2))⟩)
    · rw [if_pos q2]
      exact Or.inl ⟨c2, Int.le_refl 0, hc2.1, hc2.2, hd, hcc, hF.2, fun m => ((hev m).trans (if_neg (fun q => q1 q.2))).trans (if_pos q2)⟩
/-- a for goes on -/
theorem m_next_for (hP : PM σ0 P S σ) (hK : KS T U P S l []) (hp : 0 ≤ p ∧ p < 8) (hF : FST S (fr :: fs)) (ht : fr.2.1 = tt) (hfk : fr.1 = 2) (hok : frOk fr) (hd : S 2281 113 = (fs.length : Int) + 1) (hd12 : (fs.length : Int) + 1 ≤ 12) (hc : S 2281 114 = c) (hc0 : 0 ≤ c ∧ c ≤ 200) (hJH : JH p J) (hJp : J P) : CL fb (d + 3) 398 [vR (some 2281), vI p] σ (fun r σ' => ∃ (code2 : Int) (P2 S2 : qR), r = some (vI code2) ∧ PM σ0 P2 S2 σ' ∧ KS T U P2 S2 tt [] ∧ J P2 ∧ STP p (-2) fr fs P c code2 P2 S2) := by
  obtain ⟨dn, hdn⟩ : ∃ dn : Int, (fs.length : Int) + 1 = dn := ⟨_, rfl⟩
  have hok2 := hok.resolve_right (fun q => by have := q.1; omega)
  obtain ⟨w, hw⟩ : ∃ w, fr.2.2.1 = w := ⟨_, rfl⟩
  obtain ⟨-, hfo, hw3, hwp⟩ := hok2
  rw [ht] at hfo hwp
  rw [hw] at hw3 hwp
  obtain ⟨N, hN0⟩ : ∃ N : Int, ((lnW tt).length : Int) = N := ⟨_, rfl⟩
  obtain ⟨pd, hpd⟩ : ∃ a, pdO tt = a := ⟨_, rfl⟩
  have hfo2 := hfo
  unfold foK at hfo2
  rw [hN0, hpd] at hfo2
  rw [hpd] at hwp
  have hpN : pd < N := by
    rcases pdR_rng (l := tt) (((lnW tt).length : Int) - 3).toNat 3 with q | q
    · have q : pdO tt = -1 := q
      omega
    · have q1 : pdO tt < 3 + (((((lnW tt).length : Int) - 3).toNat : Nat) : Int) := q.2.1
      omega
  obtain ⟨y, hy⟩ : ∃ y, lg (lnB tt 1) 0 = y := ⟨_, rfl⟩
  rw [hy] at hfo2
  have htx := hF.1.txt
  rw [ht, hdn] at htx
  have h50 := (lnW_ok htx.1).2
  have hkd : S 2367 dn = 2 := by rw [← hdn, hF.1.1, hfk]
  have hev : ∀ m, EV p (m + 1) (-2) dn (arOf fs) fr P c = if w = pd then (0, P, c) else if 20 < (lnB tt w).length then (18, P, c) else evR p 0 (evC (EV p m) dn (arOf fs) (exL (gVar P p (y - 97) (lnB tt w)) p (arOf fs) 1 (jnS tt (pd + 1))) (gVar P p (y - 97) (lnB tt w)) c) (fun P1 c1 => EV p m (-2) dn (arOf fs) (2, tt, w + 1, 0, []) P1 c1) := fun m => by
    show (if (-2 : Int) = -1 then _ else _) = _
    rw [if_neg (by decide), if_pos hfk, ht, hw, hpd, hy]
  have hseg : seg (S 2365) (100 * dn) (S 2366 dn).toNat = tt := by
    rw [htx.2.2.1, if_pos htx.1]
    exact seg_eq.mpr ⟨by omega, fun i a b => htx.2.2.2 i a (by omega) (by omega)⟩
  have hld := fun (σ : hM) (hP : PM σ0 P S σ) => m_load (fb := fb) (d := d + 1) hP hK.2.2.1 (hd.trans hdn) ⟨by omega, by omega⟩
  rw [hseg] at hld
  -- behind the load
  have key : ∀ (σ : hM) (S1 : qR), PM σ0 P S1 σ → IV true T U S1 → SX ldR ldN S S1 → LN S1 tt → WP fb (d + 3) 398 17 [some (vR (some 2281)), some (vI p), none, none, none] [] σ (fun r σ' => ∃ (code2 : Int) (P2 S2 : qR), r = some (vI code2) ∧ PM σ0 P2 S2 σ' ∧ KS T U P2 S2 tt [] ∧ J P2 ∧ STP p (-2) fr fs P c code2 P2 S2) := fun σ S1 a1 a2 a3 a4 => by
    have hK1 := hK.ld a3 a2 a4
    have hF1 := hF.ld a3
    have hd1 : S1 2281 113 = dn := (a3.1 _ rfl).trans (hd.trans hdn)
    have hc1 : S1 2281 114 = c := (a3.1 _ rfl).trans hc
    have hpl : S1 2368 dn = w := by
      rw [← hdn, ← hw]
      exact hF1.1.2.2.1 (by omega)
    have hpo := CL_val (m_placeOfDo (fb := fb) (d := d + 1) a1 a4) hpd
    have hP := a1
    by_cases q1 : w = pd
    · skip
      refine x_lr (z := some 2281) T_398_17 rfl ?_
      refine x_gR (z := some 2368) T_398_18 F_17_109 (PM.t hP) (PM.r hP 109 2368 rfl) ?_
      refine x_lr (z := some 2281) T_398_21 rfl ?_
      refine x_gI (z := dn) T_398_22 (Or.inl F_17_113) (PM.t hP) (Eq.trans (PM.nS hP 2281 113 113 rfl rfl rfl) hd1) ?_
      refine x_alI (z := w) T_398_25 (by decide) (PM.ta hP 2368 0 13 rfl rfl) (by omega) (by omega) (Eq.trans (PM.aS hP 2368 rfl rfl (by omega)) hpl) ?_
      refine x_si (ls1 := [some (vR (some 2281)), some (vI p), some (vI w), none, none]) T_398_26 rfl ?_
      refine x_lr (z := some 2281) T_398_27 rfl ?_
      refine x_cv1 T_398_28 mN_324 mL_324 (Nat.le_of_ble_eq_true rfl) mO_324 (PM.t hP) (Nat.le_of_ble_eq_true rfl) (hpo) ?_
      rintro _ σ ⟨rfl, rfl⟩
      refine cI ?_
      refine x_si (ls1 := [some (vR (some 2281)), some (vI p), some (vI w), some (vI pd), none]) T_398_31 rfl ?_
      refine x_li (z := w) T_398_32 rfl ?_
      refine x_li (z := pd) T_398_33 rfl ?_
      refine x_ic2 T_398_34 (fun h => absurd (show ¬ w = pd from h) (by omega)) (fun _ => ?_)
      refine x_ic T_398_37 ?_
      refine x_ri T_398_38 ?_
      exact ⟨0, P, S1, rfl, hP, hK1, hJp, Or.inl ⟨c, Int.le_refl 0, Int.le_refl c, hc0.2, by rw [hdn]; exact hd1, hc1, hF1.2, fun m => by rw [hdn, hev, if_pos q1]⟩⟩
    have hww : 0 ≤ w ∧ w < ((lnW tt).length : Int) := by omega
    obtain ⟨n, hn⟩ : ∃ n : Int, ((lnB tt w).length : Int) = n := ⟨_, rfl⟩
    have hsz := CL_val (m_size (fb := fb) (d := d + 2) a1 a4 hww) hn
    by_cases q2 : 20 < n
    · skip
      refine x_lr (z := some 2281) T_398_17 rfl ?_
      refine x_gR (z := some 2368) T_398_18 F_17_109 (PM.t hP) (PM.r hP 109 2368 rfl) ?_
      refine x_lr (z := some 2281) T_398_21 rfl ?_
      refine x_gI (z := dn) T_398_22 (Or.inl F_17_113) (PM.t hP) (Eq.trans (PM.nS hP 2281 113 113 rfl rfl rfl) hd1) ?_
      refine x_alI (z := w) T_398_25 (by decide) (PM.ta hP 2368 0 13 rfl rfl) (by omega) (by omega) (Eq.trans (PM.aS hP 2368 rfl rfl (by omega)) hpl) ?_
      refine x_si (ls1 := [some (vR (some 2281)), some (vI p), some (vI w), none, none]) T_398_26 rfl ?_
      refine x_lr (z := some 2281) T_398_27 rfl ?_
      refine x_cv1 T_398_28 mN_324 mL_324 (Nat.le_of_ble_eq_true rfl) mO_324 (PM.t hP) (Nat.le_of_ble_eq_true rfl) (hpo) ?_
      rintro _ σ ⟨rfl, rfl⟩
      refine cI ?_
      refine x_si (ls1 := [some (vR (some 2281)), some (vI p), some (vI w), some (vI pd), none]) T_398_31 rfl ?_
      refine x_li (z := w) T_398_32 rfl ?_
      refine x_li (z := pd) T_398_33 rfl ?_
      refine x_ic2 T_398_34 (fun _ => ?_) (fun h => absurd (show ¬ w = pd by omega) h)
      refine x_lr (z := some 2281) T_398_39 rfl ?_
      refine x_li (z := w) T_398_40 rfl ?_
      refine x_cv2 T_398_41 mN_318 mL_318 (Nat.le_of_ble_eq_true rfl) mO_318 (PM.t hP) (Nat.le_of_ble_eq_true rfl) (hsz) ?_
      rintro _ σ ⟨rfl, rfl⟩
      refine cI ?_
      refine x_ic T_398_44 ?_
      refine x_ic2 T_398_46 (fun h => absurd (show n ≤ 20 from h) (by omega)) (fun _ => ?_)
      refine x_ic T_398_49 ?_
      refine x_ri T_398_51 ?_
      exact ⟨18, P, S1, rfl, hP, hK1, hJp, Or.inl ⟨c, by decide, Int.le_refl c, hc0.2, by rw [hdn]; exact hd1, hc1, hF1.2, fun m => by rw [hdn, hev, if_neg q1, if_pos (by omega)]⟩⟩
    have hsg := CL_val (m_sign (fb := fb) (d := d + 2) (k := 0) a1 a4 (w := 1) ⟨by decide, by omega⟩ ⟨by decide, by omega⟩) hy
    have has := m_assign (fb := fb) (d := d + 1) (v := y - 97) (w := w) (wd := lnB tt w) a1 a4 hp (by omega) (Or.inr ⟨hww.1, hww.2, rfl⟩) (fun q => absurd q (by omega)) (by omega)
    have hGv : GI T U (gVar P p (y - 97) (lnB tt w)) := GI_gVar hK.1 hp (by omega) (lnB_bt a4) (by omega)
    have hPv : PTS (gVar P p (y - 97) (lnB tt w)) := hK.2.1.row (fun k => (rW_f (by decide)).trans (rU_f (by decide))) (fun k => (rW_f (by decide)).trans (rU_f (by decide)))
    have hJv := hJH.2.2.2.2 P (y - 97) (lnB tt w) (by omega) (lnB_bt a4) (by omega) hJp
    replace hev := fun m => ((hev m).trans (if_neg q1)).trans (if_neg (by omega))
    obtain ⟨Pv, hPv0⟩ : ∃ Pv, gVar P p (y - 97) (lnB tt w) = Pv := ⟨_, rfl⟩
    rw [hPv0] at has hGv hPv hJv hev
    -- the place is one more
    have hJ2 : IV true T U (rU S1 2368 dn (w + 1)) := a2.uA 2368 rfl (by show 0 ≤ w + 1 ∧ w + 1 ≤ 700; omega)
    have hK2 : KS T U Pv (rU S1 2368 dn (w + 1)) tt [] := ⟨hGv, hPv, (hK1.fm (SX_up SX_rfl rfl rfl) hJ2).2.2⟩
    have hd2 : rU S1 2368 dn (w + 1) 2281 113 = dn := (rU_f (by decide)).trans hd1
    have hjo := fun (σ : hM) (hP : PM σ0 Pv (rU S1 2368 dn (w + 1)) σ) => m_join (fb := fb) (d := d + 1) (fst := pd + 1) hP hJ2 hK2.2.2.2.2 ⟨by omega, by omega⟩
    have h87 : ∀ (σ : hM) (S3 : qR), PM σ0 Pv S3 σ → IV true T U S3 → SRC S3 (jnS tt (pd + 1)) → SX soR soN (rU S1 2368 dn (w + 1)) S3 → WP fb (d + 3) 398 87 [some (vR (some 2281)), some (vI p), some (vI w), some (vI pd), none] [] σ (fun r σ' => ∃ (code2 : Int) (P2 S2 : qR), r = some (vI code2) ∧ PM σ0 P2 S2 σ' ∧ KS T U P2 S2 tt [] ∧ J P2 ∧ STP p (-2) fr fs P c code2 P2 S2) := fun σ S3 b1 b2 b3 b4 => by
      have hd3 : S3 2281 113 = dn := (b4.1 _ rfl).trans hd2
      have hc3 : S3 2281 114 = c := (b4.1 _ rfl).trans ((rU_f (by decide)).trans hc1)
      have hJ4 : IV true T U (rU S3 2369 dn 0) := b2.uA 2369 rfl (by show (0 : Int) ≤ 0 ∧ (0 : Int) ≤ 1; decide)
      have hK3 : KS T U Pv S3 tt [] := hK2.fm (SX_fm b4) b2
      have hK4 : KS T U Pv (rU S3 2369 dn 0) tt [] := hK3.fm (SX_up SX_rfl rfl rfl) hJ4
      have hF4 : FST (rU S3 2369 dn 0) ((2, tt, w + 1, 0, []) :: fs) := by
        have hfs3 : FST S3 fs := (hF1.2.ne (k := dn) (by omega) (by decide) (by decide)).so b4
        refine ⟨⟨?_, ⟨htx.1, htx.2.1, ?_⟩, fun _ => ?_, fun _ => ?_, fun q => absurd q (show ¬ (2 : Int) = 3 by decide)⟩, hfs3.ne (by omega) (by decide) (by decide)⟩
        · rw [hdn]
          exact (rU_f (by decide)).trans ((b4.2 _ _ rfl rfl).trans ((rU_f (by decide)).trans ((a3.2 _ _ rfl rfl).trans hkd)))
        · have e1 := hF1.1.txt.2.2
          rw [ht, hdn] at e1
          rw [hdn]
          exact ⟨(rU_f (by decide)).trans ((b4.2 _ _ rfl rfl).trans ((rU_f (by decide)).trans e1.1)), fun j x1 x2 x3 => (rU_f (by decide)).trans ((b4.2 _ _ rfl rfl).trans ((rU_f (by decide)).trans (e1.2 j x1 x2 x3)))⟩
        · rw [hdn]
          exact (rU_f (by decide)).trans ((b4.2 _ _ rfl rfl).trans rU_s)
        · rw [hdn]
          exact rU_s
      have hd4 : rU S3 2369 dn 0 2281 113 = dn := (rU_f (by decide)).trans hd3
      have hc4 : rU S3 2369 dn 0 2281 114 = c := (rU_f (by decide)).trans hc3
      have hS4 : SRC (rU S3 2369 dn 0) (jnS tt (pd + 1)) := b3.of (rU_f (by decide)) (fun j => rU_f (by decide))
      have hbg := fun (σ : hM) (hP : PM σ0 Pv (rU S3 2369 dn 0) σ) => m_begin2 (fb := fb) (d := d) (ex := 1) (n := dn) (fs := (2, tt, w + 1, 0, []) :: fs) hP hGv.iv hJ4 hp (Or.inr rfl) hS4 hF4 (by show ((fs.length + 1 : Nat) : Int) = dn; omega) (by omega) hd4 hc4 hc0
      have har : arOf ((2, tt, w + 1, 0, []) :: fs) = arOf fs := arOf_n (show ¬ (2 : Int) = 3 by decide)
      rw [har] at hbg
      obtain ⟨tx, htx2⟩ : ∃ tx, exL Pv p (arOf fs) 1 (jnS tt (pd + 1)) = tx := ⟨_, rfl⟩
      rw [htx2] at hbg hev
      have hok3 : frOk (2, tt, w + 1, 0, []) := Or.inl ⟨rfl, hfo, by show 3 ≤ w + 1; omega, by show w + 1 ≤ pdO tt; omega⟩
      have hrg := bgE_rng (n := dn) (c := c) (tx := tx)
      have hP := b1
      by_cases q3 : bgE dn c tx = 0
      · skip
        refine x_lr (z := some 2281) T_398_87 rfl ?_
        refine x_gR (z := some 2369) T_398_88 F_17_110 (PM.t hP) (PM.r hP 110 2369 rfl) ?_
        refine x_lr (z := some 2281) T_398_91 rfl ?_
        refine x_gI (z := dn) T_398_92 (Or.inl F_17_113) (PM.t hP) (Eq.trans (PM.nS hP 2281 113 113 rfl rfl rfl) hd3) ?_
        refine x_ic T_398_95 ?_
        refine y_aZS hP T_398_96 rfl 2369 13 rfl rfl rfl (by omega) (by omega) (fun σ hP => ?_)
        refine x_lr (z := some 2281) T_398_97 rfl ?_
        refine x_li (z := p) T_398_98 rfl ?_
        refine x_ic T_398_99 ?_
        refine x_cv3 T_398_100 mN_310 mL_310 (Nat.le_of_ble_eq_true rfl) mO_310 (PM.t hP) (Nat.le_of_ble_eq_true rfl) (hbg σ hP) ?_
        clear hbg
        intro r σ hr
        obtain ⟨S5, hr0, hP, hJ5, hX5, hc5, hg, -⟩ := hr
        rw [q3] at hr0
        subst hr0
        refine cI ?_
        refine x_si (ls1 := [some (vR (some 2281)), some (vI p), some (vI w), some (vI pd), some (vI 0)]) T_398_103 rfl ?_
        refine x_li (z := 0) T_398_105 rfl ?_
        refine x_if T_398_107 (fun _ => ?_) (fun h => absurd (show (0 : Int) ≤ 0 by decide) h)
        refine x_ic T_398_120 ?_
        refine x_ri T_398_121 ?_
        skip
        obtain ⟨g1, g2⟩ := hg q3
        obtain ⟨x1, x2⟩ := bgE_0 q3
        have e2 : bgC dn c = c + 1 := if_neg (fun e => e.elim x1 x2)
        rw [e2] at hc5
        refine ⟨-1, Pv, S5, rfl, hP, hK4.fm hX5 hJ5, hJv, Or.inr (Or.inl ⟨rfl, by omega, by omega, tx, (2, tt, w + 1, 0, []), by omega, hc5, g2, Or.inr ⟨hok3, Or.inl ⟨rfl, by show 3 < w + 1; omega⟩, rfl, hfk.symm, by show fr.2.2.1 < w + 1; omega, Or.inl rfl, fun m => ?_⟩⟩)⟩
        rw [hdn, hev]
        unfold evC
        rw [if_pos q3, har, show dn + 1 = (fs.length : Int) + 2 by omega]
      · obtain ⟨e0, he0⟩ : ∃ e, bgE dn c tx = e := ⟨_, rfl⟩
        rw [he0] at hrg q3
        have hrt := fun (σ : hM) (S5 : qR) (hP : PM σ0 Pv S5 σ) (g1 : S5 2281 113 = dn) (g2 : FST S5 ((2, tt, w + 1, 0, []) :: fs)) => m_returned (fb := fb) (d := d + 2) (mu := 0) (k := 2) (r0 := e0) hP hGv.iv hp g1 ⟨by omega, by omega⟩ (by rw [← hdn]; exact g2.1.1) (by decide) (by rw [← hdn]; exact g2.1.2.2.2.1 (Or.inl ⟨rfl, by show 3 < w + 1; omega⟩))
        obtain ⟨rc, hrc⟩ : ∃ rc, (if 0 < e0 ∧ (0 : Int) = 0 then e0 else if ¬ Pv 2321 p = 0 then 0 else -2) = rc := ⟨_, rfl⟩
        rw [hrc] at hrt
        refine x_lr (z := some 2281) T_398_87 rfl ?_
        refine x_gR (z := some 2369) T_398_88 F_17_110 (PM.t hP) (PM.r hP 110 2369 rfl) ?_
        refine x_lr (z := some 2281) T_398_91 rfl ?_
        refine x_gI (z := dn) T_398_92 (Or.inl F_17_113) (PM.t hP) (Eq.trans (PM.nS hP 2281 113 113 rfl rfl rfl) hd3) ?_
        refine x_ic T_398_95 ?_
        refine y_aZS hP T_398_96 rfl 2369 13 rfl rfl rfl (by omega) (by omega) (fun σ hP => ?_)
        refine x_lr (z := some 2281) T_398_97 rfl ?_
        refine x_li (z := p) T_398_98 rfl ?_
        refine x_ic T_398_99 ?_
        refine x_cv3 T_398_100 mN_310 mL_310 (Nat.le_of_ble_eq_true rfl) mO_310 (PM.t hP) (Nat.le_of_ble_eq_true rfl) (hbg σ hP) ?_
        clear hbg
        intro r σ hr
        obtain ⟨S5, hr0, hP, hJ5, hX5, hc5, -, hg⟩ := hr
        rw [he0] at hr0 hg
        subst hr0
        obtain ⟨g1, g2⟩ := hg q3
        refine cI ?_
        refine x_si (ls1 := [some (vR (some 2281)), some (vI p), some (vI w), some (vI pd), some (vI e0)]) T_398_103 rfl ?_
        refine x_li (z := e0) T_398_105 rfl ?_
        refine x_if T_398_107 (fun h => absurd (show e0 ≤ 0 from h) (by omega)) (fun _ => ?_)
        refine x_lr (z := some 2281) T_398_110 rfl ?_
        refine x_li (z := p) T_398_111 rfl ?_
        refine x_li (z := e0) T_398_112 rfl ?_
        refine x_cv3 T_398_114 mN_399 mL_399 (Nat.le_of_ble_eq_true rfl) mO_399 (PM.t hP) (Nat.le_of_ble_eq_true rfl) (hrt σ S5 hP g1 g2) ?_
        rintro _ σ ⟨rfl, rfl⟩
        refine cI ?_
        refine x_goto T_398_117 ?_
        refine x_ri T_398_121 ?_
        skip
        have hcr := bgC_rng (n := dn) hc0
        refine ⟨rc, Pv, S5, rfl, hP, hK4.fm hX5 hJ5, hJv, ?_⟩
        rw [← hrc]
        refine STP_ref (mu := 0) (fr2 := (2, tt, w + 1, 0, [])) (ag := fun _ _ _ => (0, P, c)) (by omega) hcr (by rw [hdn]; exact g1) hc5 g2 hok3 hfk.symm (by show fr.2.2.1 < w + 1; omega) (fun m => ?_)
        rw [hdn, hev]
        unfold evC
        rw [he0, if_neg q3]
    refine x_lr (z := some 2281) T_398_17 rfl ?_
    refine x_gR (z := some 2368) T_398_18 F_17_109 (PM.t hP) (PM.r hP 109 2368 rfl) ?_
    refine x_lr (z := some 2281) T_398_21 rfl ?_
    refine x_gI (z := dn) T_398_22 (Or.inl F_17_113) (PM.t hP) (Eq.trans (PM.nS hP 2281 113 113 rfl rfl rfl) hd1) ?_
    refine x_alI (z := w) T_398_25 (by decide) (PM.ta hP 2368 0 13 rfl rfl) (by omega) (by omega) (Eq.trans (PM.aS hP 2368 rfl rfl (by omega)) hpl) ?_
    refine x_si (ls1 := [some (vR (some 2281)), some (vI p), some (vI w), none, none]) T_398_26 rfl ?_
    refine x_lr (z := some 2281) T_398_27 rfl ?_
    refine x_cv1 T_398_28 mN_324 mL_324 (Nat.le_of_ble_eq_true rfl) mO_324 (PM.t hP) (Nat.le_of_ble_eq_true rfl) (hpo) ?_
    rintro _ σ ⟨rfl, rfl⟩
    refine cI ?_
    refine x_si (ls1 := [some (vR (some 2281)), some (vI p), some (vI w), some (vI pd), none]) T_398_31 rfl ?_
    refine x_li (z := w) T_398_32 rfl ?_
    refine x_li (z := pd) T_398_33 rfl ?_
    refine x_ic2 T_398_34 (fun _ => ?_) (fun h => absurd (show ¬ w = pd by omega) h)
    refine x_lr (z := some 2281) T_398_39 rfl ?_
    refine x_li (z := w) T_398_40 rfl ?_
    refine x_cv2 T_398_41 mN_318 mL_318 (Nat.le_of_ble_eq_true rfl) mO_318 (PM.t hP) (Nat.le_of_ble_eq_true rfl) (hsz) ?_
    rintro _ σ ⟨rfl, rfl⟩
    refine cI ?_
    refine x_ic T_398_44 ?_
    refine x_ic2 T_398_46 (fun _ => ?_) (fun h => absurd (show n ≤ 20 by omega) h)
    refine x_lr (z := some 2281) T_398_52 rfl ?_
    refine x_li (z := p) T_398_53 rfl ?_
    refine x_lr (z := some 2281) T_398_54 rfl ?_
    refine x_ic T_398_55 ?_
    refine x_ic T_398_56 ?_
    refine x_cv3 T_398_57 mN_319 mL_319 (Nat.le_of_ble_eq_true rfl) mO_319 (PM.t hP) (Nat.le_of_ble_eq_true rfl) (hsg) ?_
    rintro _ σ ⟨rfl, rfl⟩
    refine cI ?_
    refine x_ic T_398_60 ?_
    refine x_ib (w := (y - 97)) T_398_62 (fun h => absurd h.1 (by decide)) (w32_id (by omega) (by omega)) ?_
    refine x_li (z := w) T_398_63 rfl ?_
    refine x_cv4 T_398_64 mN_372 mL_372 (Nat.le_of_ble_eq_true rfl) mO_372 (PM.t hP) (Nat.le_of_ble_eq_true rfl) (has) ?_
    clear hP has
    rintro _ σ ⟨rfl, hP⟩
    refine cV ?_
    refine x_lr (z := some 2281) T_398_67 rfl ?_
    refine x_gR (z := some 2368) T_398_68 F_17_109 (PM.t hP) (PM.r hP 109 2368 rfl) ?_
    refine x_lr (z := some 2281) T_398_71 rfl ?_
    refine x_gI (z := dn) T_398_72 (Or.inl F_17_113) (PM.t hP) (Eq.trans (PM.nS hP 2281 113 113 rfl rfl rfl) hd1) ?_
    refine x_dup2 T_398_75 ?_
    refine x_alI (z := w) T_398_76 (by decide) (PM.ta hP 2368 0 13 rfl rfl) (by omega) (by omega) (Eq.trans (PM.aS hP 2368 rfl rfl (by omega)) hpl) ?_
    refine x_ic T_398_77 ?_
    refine x_ib (w := (w + 1)) T_398_78 (fun h => absurd h.1 (by decide)) (w32_id (by omega) (by omega)) ?_
    refine y_aIS hP T_398_79 2368 13 rfl rfl rfl (by omega) (by omega) (fun σ hP => ?_)
    refine x_lr (z := some 2281) T_398_80 rfl ?_
    refine x_li (z := pd) T_398_81 rfl ?_
    refine x_ic T_398_82 ?_
    refine x_ib (w := (pd + 1)) T_398_83 (fun h => absurd h.1 (by decide)) (w32_id (by omega) (by omega)) ?_
    refine x_cv2 T_398_84 mN_322 mL_322 (Nat.le_of_ble_eq_true rfl) mO_322 (PM.t hP) (Nat.le_of_ble_eq_true rfl) (hjo σ hP) ?_
    clear hP hjo
    rintro _ σ ⟨S3, rfl, hP, hJ3, hS3, hX3⟩
    refine cV ?_
    exact h87 σ S3 hP hJ3 hS3 hX3
  rw [hdn] at hd
  refine CL_in mL_398 rfl ?_
  show WP fb _ 398 0 [some (vR (some 2281)), some (vI p), none, none, none] [] σ _
  refine x_lr (z := some 2281) T_398_0 rfl ?_
  refine x_gR (z := some 2367) T_398_1 F_17_108 (PM.t hP) (PM.r hP 108 2367 rfl) ?_
  refine x_lr (z := some 2281) T_398_4 rfl ?_
  refine x_gI (z := dn) T_398_5 (Or.inl F_17_113) (PM.t hP) (Eq.trans (PM.nS hP 2281 113 113 rfl rfl rfl) hd) ?_
  refine x_alI (z := 2) T_398_8 (by decide) (PM.ta hP 2367 0 13 rfl rfl) (by omega) (by omega) (Eq.trans (PM.aS hP 2367 rfl rfl (by omega)) hkd) ?_
  refine x_ic T_398_9 ?_
  refine x_ic2 T_398_10 (fun h => absurd (show ¬ (2 : Int) = 2 from h) (by decide)) (fun _ => ?_)
  refine x_lr (z := some 2281) T_398_13 rfl ?_
  refine x_cv1 T_398_14 mN_314 mL_314 (Nat.le_of_ble_eq_true rfl) mO_314 (PM.t hP) (Nat.le_of_ble_eq_true rfl) (hld σ hP) ?_
  clear hP hld
  rintro _ σ ⟨S1, rfl, hP, hJ1, hX1, hL1⟩
  refine cV ?_
  exact key σ S1 hP hJ1 hX1 hL1
end MNX
