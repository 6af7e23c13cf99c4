/-! The kernel's walk, whole. -/
theorem T_332_0 : hTab 332 0 = some ((3, 0, 2, []), 1) := rfl
theorem T_332_1 : hTab 332 1 = some ((24, 17, Int.ofNat 80, []), 4) := rfl
theorem T_332_4 : hTab 332 4 = some ((18, 3, Int.ofNat 25, []), 7) := rfl
theorem T_332_7 : hTab 332 7 = some ((3, 0, 2, []), 8) := rfl
theorem T_332_8 : hTab 332 8 = some ((0, 0, 0, []), 9) := rfl
theorem T_332_9 : hTab 332 9 = some ((3, 0, 2, []), 10) := rfl
theorem T_332_10 : hTab 332 10 = some ((24, 17, Int.ofNat 54, []), 13) := rfl
theorem T_332_13 : hTab 332 13 = some ((3, 1, 0, []), 14) := rfl
theorem T_332_14 : hTab 332 14 = some ((26, 0, 0, []), 15) := rfl
theorem T_332_15 : hTab 332 15 = some ((0, 0, 0, []), 16) := rfl
theorem T_332_16 : hTab 332 16 = some ((0, 0, 128, []), 19) := rfl
theorem T_332_19 : hTab 332 19 = some ((31, 333, 0, []), 22) := rfl
theorem T_332_22 : hTab 332 22 = some ((22, 0, Int.ofNat 39, []), 25) := rfl
theorem T_332_25 : hTab 332 25 = some ((3, 0, 2, []), 26) := rfl
theorem T_332_26 : hTab 332 26 = some ((3, 0, 2, []), 27) := rfl
theorem T_332_27 : hTab 332 27 = some ((24, 17, Int.ofNat 80, []), 30) := rfl
theorem T_332_30 : hTab 332 30 = some ((3, 0, 2, []), 31) := rfl
theorem T_332_31 : hTab 332 31 = some ((24, 17, Int.ofNat 52, []), 34) := rfl
theorem T_332_34 : hTab 332 34 = some ((3, 1, 0, []), 35) := rfl
theorem T_332_35 : hTab 332 35 = some ((26, 0, 0, []), 36) := rfl
theorem T_332_36 : hTab 332 36 = some ((31, 337, 0, []), 39) := rfl
theorem T_332_39 : hTab 332 39 = some ((4, 4, 0, []), 41) := rfl
theorem T_332_41 : hTab 332 41 = some ((3, 4, 0, []), 43) := rfl
theorem T_332_43 : hTab 332 43 = some ((18, 5, Int.ofNat 49, []), 46) := rfl
theorem T_332_46 : hTab 332 46 = some ((3, 4, 0, []), 48) := rfl
theorem T_332_48 : hTab 332 48 = some ((33, 1, 0, []), 49) := rfl
theorem T_332_49 : hTab 332 49 = some ((0, 0, 0, []), 50) := rfl
theorem T_332_50 : hTab 332 50 = some ((4, 5, 0, []), 52) := rfl
theorem T_332_52 : hTab 332 52 = some ((3, 5, 0, []), 54) := rfl
theorem T_332_54 : hTab 332 54 = some ((3, 2, 0, []), 55) := rfl
theorem T_332_55 : hTab 332 55 = some ((19, 3, Int.ofNat 202, []), 58) := rfl
theorem T_332_58 : hTab 332 58 = some ((3, 0, 2, []), 59) := rfl
theorem T_332_59 : hTab 332 59 = some ((24, 17, Int.ofNat 91, []), 62) := rfl
theorem T_332_62 : hTab 332 62 = some ((0, 0, 1, []), 63) := rfl
theorem T_332_63 : hTab 332 63 = some ((10, 1, 0, []), 64) := rfl
theorem T_332_64 : hTab 332 64 = some ((4, 6, 0, []), 66) := rfl
theorem T_332_66 : hTab 332 66 = some ((3, 0, 2, []), 67) := rfl
theorem T_332_67 : hTab 332 67 = some ((3, 1, 0, []), 68) := rfl
theorem T_332_68 : hTab 332 68 = some ((3, 0, 2, []), 69) := rfl
theorem T_332_69 : hTab 332 69 = some ((24, 17, Int.ofNat 86, []), 72) := rfl
theorem T_332_72 : hTab 332 72 = some ((3, 6, 0, []), 74) := rfl
theorem T_332_74 : hTab 332 74 = some ((26, 0, 0, []), 75) := rfl
theorem T_332_75 : hTab 332 75 = some ((3, 0, 2, []), 76) := rfl
theorem T_332_76 : hTab 332 76 = some ((24, 17, Int.ofNat 88, []), 79) := rfl
theorem T_332_79 : hTab 332 79 = some ((3, 6, 0, []), 81) := rfl
theorem T_332_81 : hTab 332 81 = some ((26, 0, 0, []), 82) := rfl
theorem T_332_82 : hTab 332 82 = some ((31, 340, 0, []), 85) := rfl
theorem T_332_85 : hTab 332 85 = some ((4, 7, 0, []), 87) := rfl
theorem T_332_87 : hTab 332 87 = some ((3, 7, 0, []), 89) := rfl
theorem T_332_89 : hTab 332 89 = some ((18, 3, Int.ofNat 117, []), 92) := rfl
theorem T_332_92 : hTab 332 92 = some ((3, 0, 2, []), 93) := rfl
theorem T_332_93 : hTab 332 93 = some ((3, 0, 2, []), 94) := rfl
theorem T_332_94 : hTab 332 94 = some ((24, 17, Int.ofNat 86, []), 97) := rfl
theorem T_332_97 : hTab 332 97 = some ((3, 6, 0, []), 99) := rfl
theorem T_332_99 : hTab 332 99 = some ((26, 0, 0, []), 100) := rfl
theorem T_332_100 : hTab 332 100 = some ((3, 0, 2, []), 101) := rfl
theorem T_332_101 : hTab 332 101 = some ((24, 17, Int.ofNat 87, []), 104) := rfl
theorem T_332_104 : hTab 332 104 = some ((3, 6, 0, []), 106) := rfl
theorem T_332_106 : hTab 332 106 = some ((26, 0, 0, []), 107) := rfl
theorem T_332_107 : hTab 332 107 = some ((3, 5, 0, []), 109) := rfl
theorem T_332_109 : hTab 332 109 = some ((31, 341, 0, []), 112) := rfl
theorem T_332_112 : hTab 332 112 = some ((4, 4, 0, []), 114) := rfl
theorem T_332_114 : hTab 332 114 = some ((22, 0, Int.ofNat 180, []), 117) := rfl
theorem T_332_117 : hTab 332 117 = some ((0, 0, (-1), []), 118) := rfl
theorem T_332_118 : hTab 332 118 = some ((4, 4, 0, []), 120) := rfl
theorem T_332_120 : hTab 332 120 = some ((0, 0, 0, []), 121) := rfl
theorem T_332_121 : hTab 332 121 = some ((4, 8, 0, []), 123) := rfl
theorem T_332_180 : hTab 332 180 = some ((3, 4, 0, []), 182) := rfl
theorem T_332_182 : hTab 332 182 = some ((18, 5, Int.ofNat 192, []), 185) := rfl
theorem T_332_185 : hTab 332 185 = some ((3, 0, 2, []), 186) := rfl
theorem T_332_186 : hTab 332 186 = some ((31, 344, 0, []), 189) := rfl
theorem T_332_189 : hTab 332 189 = some ((3, 4, 0, []), 191) := rfl
theorem T_332_191 : hTab 332 191 = some ((33, 1, 0, []), 192) := rfl
theorem T_332_192 : hTab 332 192 = some ((3, 0, 2, []), 193) := rfl
theorem T_332_193 : hTab 332 193 = some ((31, 346, 0, []), 196) := rfl
theorem T_332_196 : hTab 332 196 = some ((5, 5, 1, []), 199) := rfl
theorem T_332_199 : hTab 332 199 = some ((22, 0, Int.ofNat 52, []), 202) := rfl
theorem T_332_202 : hTab 332 202 = some ((3, 3, 0, []), 203) := rfl
theorem T_332_203 : hTab 332 203 = some ((18, 0, Int.ofNat 214, []), 206) := rfl
theorem T_332_206 : hTab 332 206 = some ((3, 0, 2, []), 207) := rfl
theorem T_332_207 : hTab 332 207 = some ((3, 1, 0, []), 208) := rfl
theorem T_332_208 : hTab 332 208 = some ((31, 347, 0, []), 211) := rfl
theorem T_332_211 : hTab 332 211 = some ((22, 0, Int.ofNat 215, []), 214) := rfl
theorem T_332_214 : hTab 332 214 = some ((0, 0, 0, []), 215) := rfl
theorem T_332_215 : hTab 332 215 = some ((33, 1, 0, []), 216) := rfl
theorem T_347_0 : hTab 347 0 = some ((3, 0, 2, []), 1) := rfl
theorem T_347_1 : hTab 347 1 = some ((24, 17, Int.ofNat 91, []), 4) := rfl
theorem T_347_4 : hTab 347 4 = some ((0, 0, 1, []), 5) := rfl
theorem T_347_5 : hTab 347 5 = some ((10, 1, 0, []), 6) := rfl
theorem T_347_6 : hTab 347 6 = some ((4, 2, 0, []), 7) := rfl
theorem T_347_7 : hTab 347 7 = some ((3, 0, 2, []), 8) := rfl
theorem T_347_8 : hTab 347 8 = some ((3, 1, 0, []), 9) := rfl
theorem T_347_9 : hTab 347 9 = some ((3, 0, 2, []), 10) := rfl
theorem T_347_10 : hTab 347 10 = some ((24, 17, Int.ofNat 86, []), 13) := rfl
theorem T_347_13 : hTab 347 13 = some ((3, 2, 0, []), 14) := rfl
theorem T_347_14 : hTab 347 14 = some ((26, 0, 0, []), 15) := rfl
theorem T_347_15 : hTab 347 15 = some ((3, 0, 2, []), 16) := rfl
theorem T_347_16 : hTab 347 16 = some ((24, 17, Int.ofNat 88, []), 19) := rfl
theorem T_347_19 : hTab 347 19 = some ((3, 2, 0, []), 20) := rfl
theorem T_347_20 : hTab 347 20 = some ((26, 0, 0, []), 21) := rfl
theorem T_347_21 : hTab 347 21 = some ((31, 340, 0, []), 24) := rfl
theorem T_347_24 : hTab 347 24 = some ((4, 3, 0, []), 25) := rfl
theorem T_347_25 : hTab 347 25 = some ((3, 3, 0, []), 26) := rfl
theorem T_347_26 : hTab 347 26 = some ((18, 3, Int.ofNat 31, []), 29) := rfl
theorem T_347_29 : hTab 347 29 = some ((0, 0, 0, []), 30) := rfl
theorem T_347_30 : hTab 347 30 = some ((33, 1, 0, []), 31) := rfl
theorem T_347_31 : hTab 347 31 = some ((0, 0, 6, []), 33) := rfl
theorem T_347_33 : hTab 347 33 = some ((3, 3, 0, []), 34) := rfl
theorem T_347_34 : hTab 347 34 = some ((10, 2, 0, []), 35) := rfl
theorem T_347_35 : hTab 347 35 = some ((4, 4, 0, []), 37) := rfl
theorem T_347_37 : hTab 347 37 = some ((3, 0, 2, []), 38) := rfl
theorem T_347_38 : hTab 347 38 = some ((3, 0, 2, []), 39) := rfl
theorem T_347_39 : hTab 347 39 = some ((24, 17, Int.ofNat 68, []), 42) := rfl
theorem T_347_42 : hTab 347 42 = some ((3, 4, 0, []), 44) := rfl
theorem T_347_44 : hTab 347 44 = some ((26, 0, 0, []), 45) := rfl
theorem T_347_45 : hTab 347 45 = some ((3, 0, 2, []), 46) := rfl
theorem T_347_46 : hTab 347 46 = some ((24, 17, Int.ofNat 69, []), 49) := rfl
theorem T_347_49 : hTab 347 49 = some ((3, 4, 0, []), 51) := rfl
theorem T_347_51 : hTab 347 51 = some ((26, 0, 0, []), 52) := rfl
theorem T_347_52 : hTab 347 52 = some ((3, 0, 2, []), 53) := rfl
theorem T_347_53 : hTab 347 53 = some ((24, 17, Int.ofNat 70, []), 56) := rfl
theorem T_347_56 : hTab 347 56 = some ((3, 4, 0, []), 58) := rfl
theorem T_347_58 : hTab 347 58 = some ((26, 0, 0, []), 59) := rfl
theorem T_347_59 : hTab 347 59 = some ((3, 0, 2, []), 60) := rfl
theorem T_347_60 : hTab 347 60 = some ((24, 17, Int.ofNat 71, []), 63) := rfl
theorem T_347_63 : hTab 347 63 = some ((3, 4, 0, []), 65) := rfl
theorem T_347_65 : hTab 347 65 = some ((26, 0, 0, []), 66) := rfl
theorem T_347_66 : hTab 347 66 = some ((31, 333, 0, []), 69) := rfl
theorem T_347_69 : hTab 347 69 = some ((4, 5, 0, []), 71) := rfl
theorem T_347_71 : hTab 347 71 = some ((3, 5, 0, []), 73) := rfl
theorem T_347_73 : hTab 347 73 = some ((18, 5, Int.ofNat 83, []), 76) := rfl
theorem T_347_76 : hTab 347 76 = some ((3, 0, 2, []), 77) := rfl
theorem T_347_77 : hTab 347 77 = some ((31, 344, 0, []), 80) := rfl
theorem T_347_80 : hTab 347 80 = some ((3, 5, 0, []), 82) := rfl
theorem T_347_82 : hTab 347 82 = some ((33, 1, 0, []), 83) := rfl
theorem T_347_83 : hTab 347 83 = some ((3, 0, 2, []), 84) := rfl
theorem T_347_84 : hTab 347 84 = some ((31, 346, 0, []), 87) := rfl
theorem T_347_87 : hTab 347 87 = some ((3, 0, 2, []), 88) := rfl
theorem T_347_88 : hTab 347 88 = some ((24, 17, Int.ofNat 90, []), 91) := rfl
theorem T_347_91 : hTab 347 91 = some ((3, 0, 2, []), 92) := rfl
theorem T_347_92 : hTab 347 92 = some ((24, 17, Int.ofNat 91, []), 95) := rfl
theorem T_347_95 : hTab 347 95 = some ((0, 0, 1, []), 96) := rfl
theorem T_347_96 : hTab 347 96 = some ((10, 1, 0, []), 97) := rfl
theorem T_347_97 : hTab 347 97 = some ((3, 3, 0, []), 98) := rfl
theorem T_347_98 : hTab 347 98 = some ((27, 0, 0, []), 99) := rfl
theorem T_347_99 : hTab 347 99 = some ((0, 0, 0, []), 100) := rfl
theorem T_347_100 : hTab 347 100 = some ((33, 1, 0, []), 101) := rfl
theorem F_17_54 : (hFd 17 54).2.2.1 = 4 := rfl
theorem F_17_70 : (hFd 17 70).2.2.1 = 4 := rfl
theorem F_17_71 : (hFd 17 71).2.2.1 = 4 := rfl
theorem F_17_80 : (hFd 17 80).2.2.1 = 0 := rfl
theorem mN_347 : hmN 347 = 2 := by decide +kernel
theorem mL_347 : hmL 347 = 6 := by decide +kernel
theorem mK_347 : hmK 347 = 1 := by decide +kernel
theorem mO_347 : hmO 347 = 17 := by decide +kernel
section MWALK2
variable {fb : Bool} {d : Nat} {σ0 σ : hM} {P Q R S S1 S2 : qR} {T U s w f g u p k e t z pt : Int} {l nm : List Int} {h : List Ch} {x y c : Ch} {a : Int → Int}
theorem HS.point {v : Int} (hh : HS S (h ++ [x])) : HS (rU S 2354 (h.length : Int) v) (h ++ [(x.1, x.2.1, x.2.2.1, x.2.2.2.1, v)]) := by
  obtain ⟨e1, e2, e3, e4, e5, e6, e7⟩ := hh.last
  refine ⟨by rw [rU_f (by decide), List.length_append]; exact hh.1.trans (by rw [List.length_append]; rfl), by rw [List.length_append]; show h.length + 1 ≤ 60; omega, fun i hi => ?_⟩
  rw [List.length_append] at hi
  have hi : i < h.length + 1 := hi
  rw [rU_f (by decide), rU_f (by decide), rU_f (by decide), rU_f (by decide)]
  by_cases q : i = h.length
  · subst q
    rw [getD_app2, rU_s]
    exact ⟨e3, e4, e5, e6, rfl⟩
  · have g := hh.2.2 i (by rw [List.length_append]; show i < h.length + 1; omega)
    rw [getD_app1 (by omega)] at g
    rw [getD_app1 (by omega), rU_k (by omega)]
    exact g
theorem SK_point {v j : Int} (hk : SK S S1) : SK S (rU S1 2354 j v) := ⟨fun k a b c e f g i j => (rU_f (by decide)).trans (hk.1 k a b c e f g i j), fun f k a b c e g h i j m n => (rU_f n).trans (hk.2 f k a b c e g h i j m n)⟩
theorem kHold0 : kHold 0 h x = h ++ [x] := if_pos rfl
theorem kHoldn (he : ¬ e = 0) : kHold e h x = h := if_neg he
theorem m_goThrough (hP : PM σ0 P S σ) (hJ : IV true T U S) (hG : GI T U P) (hPT : PTS P) (hp : 0 ≤ p ∧ p < 8) (hT : T + 300 ≤ 2147483000) (hh : HS S (h ++ [c])) (hl : h.length + 1 < 60) : CL fb (d + 13) 347 [vR (some 2281), vI p] σ (KR (T + 8) U σ0 S (kThru P p c).1 (kThru P p c).2.1 (kHold (kThru P p c).1 h (kThru P p c).2.2)) := by
  obtain ⟨e1, e2, e3, e4, e5, e6, e7⟩ := hh.last
  obtain ⟨pt, hpt⟩ : ∃ pt, qPoint P p c.1 c.2.2.1 = pt := ⟨_, rfl⟩
  have hPQ := hPT.pt (s := c.1) (path := c.2.2.1) hG.iv hp
  unfold kThru
  rw [hpt] at hPQ ⊢
  by_cases q : pt < 0
  · rw [if_pos q]
    show CL fb (d + 13) _ _ _ (KR (T + 8) U σ0 S 0 P (kHold 0 h c))
    rw [kHold0]
    refine CL_in mL_347 rfl ?_
    show WP fb _ 347 0 [some (vR (some 2281)), some (vI p), none, none, none, none] [] σ _
    refine x_lr (z := some 2281) T_347_0 rfl ?_
    refine x_gI (z := ((h.length : Int) + 1)) T_347_1 (Or.inl F_17_91) (PM.t hP) (Eq.trans (PM.nS hP 2281 91 91 rfl rfl rfl) e1) ?_
    refine x_ic T_347_4 ?_
    refine x_ib (w := (h.length : Int)) T_347_5 (fun h => absurd h.1 (by decide)) (w32_e (by omega) (by omega) (by omega)) ?_
    refine x_si (ls1 := [some (vR (some 2281)), some (vI p), some (vI (h.length : Int)), none, none, none]) T_347_6 rfl ?_
    refine x_lr (z := some 2281) T_347_7 rfl ?_
    refine x_li (z := p) T_347_8 rfl ?_
    refine x_lr (z := some 2281) T_347_9 rfl ?_
    refine x_gR (z := some 2350) T_347_10 F_17_86 (PM.t hP) (PM.r hP 86 2350 rfl) ?_
    refine x_li (z := (h.length : Int)) T_347_13 rfl ?_
    refine x_alI (z := c.1) T_347_14 (by decide) (PM.ta hP 2350 0 64 rfl rfl) (by omega) (by omega) (Eq.trans (PM.aS hP 2350 rfl rfl (by omega)) e3) ?_
    refine x_lr (z := some 2281) T_347_15 rfl ?_
    refine x_gR (z := some 2352) T_347_16 F_17_88 (PM.t hP) (PM.r hP 88 2352 rfl) ?_
    refine x_li (z := (h.length : Int)) T_347_19 rfl ?_
    refine x_alI (z := c.2.2.1) T_347_20 (by decide) (PM.ta hP 2352 0 64 rfl rfl) (by omega) (by omega) (Eq.trans (PM.aS hP 2352 rfl rfl (by omega)) e5) ?_
    refine x_cv4 T_347_21 mN_340 mL_340 (Nat.le_of_ble_eq_true rfl) mO_340 (PM.t hP) (Nat.le_of_ble_eq_true rfl) (CL_val (m_pointOf hP hG.iv hp) hpt) ?_
    rintro _ σ ⟨rfl, rfl⟩
    refine cI ?_
    refine x_si (ls1 := [some (vR (some 2281)), some (vI p), some (vI (h.length : Int)), some (vI pt), none, none]) T_347_24 rfl ?_
    refine x_li (z := pt) T_347_25 rfl ?_
    refine x_if T_347_26 (fun h => absurd (show 0 ≤ pt from h) (by omega)) (fun _ => ?_)
    refine x_ic T_347_29 ?_
    refine x_ri T_347_30 ?_
    exact ⟨S, rfl, hP, hG.mono (by omega), hJ.mono (by omega) (Int.le_refl U), hh, SK_rfl⟩
  · rw [if_neg q]
    obtain ⟨hm1, hm2, hm3⟩ := hPQ (by omega)
    obtain ⟨sv, hsv⟩ : ∃ sv, P 2338 (6 * pt) = sv := ⟨_, rfl⟩
    obtain ⟨fd, hfd⟩ : ∃ fd, P 2339 (6 * pt) = fd := ⟨_, rfl⟩
    obtain ⟨pa, hpa⟩ : ∃ pa, P 2340 (6 * pt) = pa := ⟨_, rfl⟩
    obtain ⟨ki, hki⟩ : ∃ ki, P 2341 (6 * pt) = ki := ⟨_, rfl⟩
    have b1 : 0 ≤ P 2338 (6 * pt) ∧ P 2338 (6 * pt) ≤ 2 := IV.a hG.iv 2338 0 384 rfl rfl rfl (by omega) (by omega)
    have b2 : 0 ≤ P 2339 (6 * pt) ∧ P 2339 (6 * pt) ≤ 47 := IV.a hG.iv 2339 0 384 rfl rfl rfl (by omega) (by omega)
    have b3 : 0 ≤ P 2340 (6 * pt) ∧ P 2340 (6 * pt) ≤ T + 200 := IV.a hG.iv 2340 0 384 rfl rfl rfl (by omega) (by omega)
    have b4 : 0 ≤ P 2341 (6 * pt) ∧ P 2341 (6 * pt) ≤ 255 := IV.a hG.iv 2341 0 384 rfl rfl rfl (by omega) (by omega)
    rw [hsv] at b1
    rw [hfd] at b2
    rw [hpa] at b3
    rw [hki] at b4
    rw [hsv, hfd, hpa, hki]
    have hcp := fun (σ : hM) (hP : PM σ0 P S σ) => m_copy (fb := fb) (d := d) (σ := σ) (f := fd) hP hJ hG (by omega) (show 0 ≤ sv ∧ sv < 3 by omega) hh (by rw [List.length_append]; exact hl) b3 b4
    obtain ⟨er, her⟩ : ∃ er, kCpE P sv fd = er := ⟨_, rfl⟩
    have hr := kCpE_rng (P := P) (s := sv) (f := fd)
    rw [her] at hr hcp ⊢
    obtain ⟨P1, hP1⟩ : ∃ P1, kCpP P sv fd = P1 := ⟨_, rfl⟩
    rw [hP1] at hcp ⊢
    by_cases q2 : er = 0
    · subst q2
      rw [kHold0] at hcp
      show CL fb (d + 13) _ _ _ (KR (T + 8) U σ0 S 0 (kDrop P1 c) (kHold 0 h (sv, qNewF P sv, pa, ki, pt)))
      rw [kHold0]
      refine CL_in mL_347 rfl ?_
      show WP fb _ 347 0 [some (vR (some 2281)), some (vI p), none, none, none, none] [] σ _
      refine x_lr (z := some 2281) T_347_0 rfl ?_
      refine x_gI (z := ((h.length : Int) + 1)) T_347_1 (Or.inl F_17_91) (PM.t hP) (Eq.trans (PM.nS hP 2281 91 91 rfl rfl rfl) e1) ?_
      refine x_ic T_347_4 ?_
      refine x_ib (w := (h.length : Int)) T_347_5 (fun h => absurd h.1 (by decide)) (w32_e (by omega) (by omega) (by omega)) ?_
      refine x_si (ls1 := [some (vR (some 2281)), some (vI p), some (vI (h.length : Int)), none, none, none]) T_347_6 rfl ?_
      refine x_lr (z := some 2281) T_347_7 rfl ?_
      refine x_li (z := p) T_347_8 rfl ?_
      refine x_lr (z := some 2281) T_347_9 rfl ?_
      refine x_gR (z := some 2350) T_347_10 F_17_86 (PM.t hP) (PM.r hP 86 2350 rfl) ?_
      refine x_li (z := (h.length : Int)) T_347_13 rfl ?_
      refine x_alI (z := c.1) T_347_14 (by decide) (PM.ta hP 2350 0 64 rfl rfl) (by omega) (by omega) (Eq.trans (PM.aS hP 2350 rfl rfl (by omega)) e3) ?_
      refine x_lr (z := some 2281) T_347_15 rfl ?_
      refine x_gR (z := some 2352) T_347_16 F_17_88 (PM.t hP) (PM.r hP 88 2352 rfl) ?_
      refine x_li (z := (h.length : Int)) T_347_19 rfl ?_
      refine x_alI (z := c.2.2.1) T_347_20 (by decide) (PM.ta hP 2352 0 64 rfl rfl) (by omega) (by omega) (Eq.trans (PM.aS hP 2352 rfl rfl (by omega)) e5) ?_
      refine x_cv4 T_347_21 mN_340 mL_340 (Nat.le_of_ble_eq_true rfl) mO_340 (PM.t hP) (Nat.le_of_ble_eq_true rfl) (CL_val (m_pointOf hP hG.iv hp) hpt) ?_
      rintro _ σ ⟨rfl, rfl⟩
      refine cI ?_
      refine x_si (ls1 := [some (vR (some 2281)), some (vI p), some (vI (h.length : Int)), some (vI pt), none, none]) T_347_24 rfl ?_
      refine x_li (z := pt) T_347_25 rfl ?_
      refine x_if T_347_26 (fun _ => ?_) (fun h => absurd (show 0 ≤ pt by omega) h)
      refine x_ic T_347_31 ?_
      refine x_li (z := pt) T_347_33 rfl ?_
      refine x_ib (w := (6 * pt)) T_347_34 (fun h => absurd h.1 (by decide)) (w32_id (by omega) (by omega)) ?_
      refine x_si (ls1 := [some (vR (some 2281)), some (vI p), some (vI (h.length : Int)), some (vI pt), some (vI (6 * pt)), none]) T_347_35 rfl ?_
      refine x_lr (z := some 2281) T_347_37 rfl ?_
      refine x_lr (z := some 2281) T_347_38 rfl ?_
      refine x_gR (z := some 2338) T_347_39 F_17_68 (PM.t hP) (PM.r hP 68 2338 rfl) ?_
      refine x_li (z := (6 * pt)) T_347_42 rfl ?_
      refine x_alI (z := sv) T_347_44 (by decide) (PM.ta hP 2338 0 384 rfl rfl) (by omega) (by omega) (Eq.trans (PM.aP hP 2338 rfl rfl (by omega)) hsv) ?_
      refine x_lr (z := some 2281) T_347_45 rfl ?_
      refine x_gR (z := some 2339) T_347_46 F_17_69 (PM.t hP) (PM.r hP 69 2339 rfl) ?_
      refine x_li (z := (6 * pt)) T_347_49 rfl ?_
      refine x_alI (z := fd) T_347_51 (by decide) (PM.ta hP 2339 0 384 rfl rfl) (by omega) (by omega) (Eq.trans (PM.aP hP 2339 rfl rfl (by omega)) hfd) ?_
      refine x_lr (z := some 2281) T_347_52 rfl ?_
      refine x_gR (z := some 2340) T_347_53 F_17_70 (PM.t hP) (PM.r hP 70 2340 rfl) ?_
      refine x_li (z := (6 * pt)) T_347_56 rfl ?_
      refine x_alI (z := pa) T_347_58 (by decide) (PM.ta hP 2340 0 384 rfl rfl) (by omega) (by omega) (Eq.trans (PM.aP hP 2340 rfl rfl (by omega)) hpa) ?_
      refine x_lr (z := some 2281) T_347_59 rfl ?_
      refine x_gR (z := some 2341) T_347_60 F_17_71 (PM.t hP) (PM.r hP 71 2341 rfl) ?_
      refine x_li (z := (6 * pt)) T_347_63 rfl ?_
      refine x_alI (z := ki) T_347_65 (by decide) (PM.ta hP 2341 0 384 rfl rfl) (by omega) (by omega) (Eq.trans (PM.aP hP 2341 rfl rfl (by omega)) hki) ?_
      refine x_cv5 T_347_66 mN_333 mL_333 (Nat.le_of_ble_eq_true rfl) mO_333 (PM.t hP) (Nat.le_of_ble_eq_true rfl) (hcp σ hP) ?_
      clear hP
      rintro _ σ ⟨S2, rfl, hP, hG2, hJ2, hh2, hK2⟩
      refine cI ?_
      refine x_si (ls1 := [some (vR (some 2281)), some (vI p), some (vI (h.length : Int)), some (vI pt), some (vI (6 * pt)), some (vI 0)]) T_347_69 rfl ?_
      refine x_li (z := 0) T_347_71 rfl ?_
      refine x_if T_347_73 (fun _ => ?_) (fun h => absurd (show (0 : Int) ≤ 0 by decide) h)
      refine x_lr (z := some 2281) T_347_83 rfl ?_
      refine x_cv1 T_347_84 mN_346 mL_346 (Nat.le_of_ble_eq_true rfl) mO_346 (PM.t hP) (Nat.le_of_ble_eq_true rfl) (m_dropBelow hP hJ2 hG2 (by omega) hh2) ?_
      clear hP
      rintro _ σ ⟨S3, rfl, hP, hG3, hJ3, hh3, hK3⟩
      have g1 := hh3.last.1
      refine cV ?_
      refine x_lr (z := some 2281) T_347_87 rfl ?_
      refine x_gR (z := some 2354) T_347_88 F_17_90 (PM.t hP) (PM.r hP 90 2354 rfl) ?_
      refine x_lr (z := some 2281) T_347_91 rfl ?_
      refine x_gI (z := S3 2281 91) T_347_92 (Or.inl F_17_91) (PM.t hP) (PM.nS hP 2281 91 91 rfl rfl rfl) ?_
      refine x_ic T_347_95 ?_
      refine x_ib (w := (h.length : Int)) T_347_96 (fun h => absurd h.1 (by decide)) (w32_e (by omega) (by omega) (by omega)) ?_
      refine x_li (z := pt) T_347_97 rfl ?_
      refine y_aIS hP T_347_98 2354 64 rfl rfl rfl (by omega) (by omega) (fun σ hP => ?_)
      refine x_ic T_347_99 ?_
      refine x_ri T_347_100 ?_
      exact ⟨_, rfl, hP, hG3.mono (by omega), (hJ3.mono (by omega) (Int.le_refl U)).uA 2354 rfl (show -1 ≤ pt ∧ pt ≤ 63 by omega), hh3.point, SK_point (SK_tr hK2 hK3)⟩
    · rw [kHoldn q2] at hcp
      show CL fb (d + 13) _ _ _ (KR (T + 8) U σ0 S er (kDrop P1 c) (kHold er h (sv, qNewF P sv, pa, ki, pt)))
      rw [kHoldn q2]
      refine CL_in mL_347 rfl ?_
      show WP fb _ 347 0 [some (vR (some 2281)), some (vI p), none, none, none, none] [] σ _
      refine x_lr (z := some 2281) T_347_0 rfl ?_
      refine x_gI (z := ((h.length : Int) + 1)) T_347_1 (Or.inl F_17_91) (PM.t hP) (Eq.trans (PM.nS hP 2281 91 91 rfl rfl rfl) e1) ?_
      refine x_ic T_347_4 ?_
      refine x_ib (w := (h.length : Int)) T_347_5 (fun h => absurd h.1 (by decide)) (w32_e (by omega) (by omega) (by omega)) ?_
      refine x_si (ls1 := [some (vR (some 2281)), some (vI p), some (vI (h.length : Int)), none, none, none]) T_347_6 rfl ?_
      refine x_lr (z := some 2281) T_347_7 rfl ?_
      refine x_li (z := p) T_347_8 rfl ?_
      refine x_lr (z := some 2281) T_347_9 rfl ?_
      refine x_gR (z := some 2350) T_347_10 F_17_86 (PM.t hP) (PM.r hP 86 2350 rfl) ?_
      refine x_li (z := (h.length : Int)) T_347_13 rfl ?_
      refine x_alI (z := c.1) T_347_14 (by decide) (PM.ta hP 2350 0 64 rfl rfl) (by omega) (by omega) (Eq.trans (PM.aS hP 2350 rfl rfl (by omega)) e3) ?_
      refine x_lr (z := some 2281) T_347_15 rfl ?_
      refine x_gR (z := some 2352) T_347_16 F_17_88 (PM.t hP) (PM.r hP 88 2352 rfl) ?_
      refine x_li (z := (h.length : Int)) T_347_19 rfl ?_
      refine x_alI (z := c.2.2.1) T_347_20 (by decide) (PM.ta hP 2352 0 64 rfl rfl) (by omega) (by omega) (Eq.trans (PM.aS hP 2352 rfl rfl (by omega)) e5) ?_
      refine x_cv4 T_347_21 mN_340 mL_340 (Nat.le_of_ble_eq_true rfl) mO_340 (PM.t hP) (Nat.le_of_ble_eq_true rfl) (CL_val (m_pointOf hP hG.iv hp) hpt) ?_
      rintro _ σ ⟨rfl, rfl⟩
      refine cI ?_
      refine x_si (ls1 := [some (vR (some 2281)), some (vI p), some (vI (h.length : Int)), some (vI pt), none, none]) T_347_24 rfl ?_
      refine x_li (z := pt) T_347_25 rfl ?_
      refine x_if T_347_26 (fun _ => ?_) (fun h => absurd (show 0 ≤ pt by omega) h)
      refine x_ic T_347_31 ?_
      refine x_li (z := pt) T_347_33 rfl ?_
      refine x_ib (w := (6 * pt)) T_347_34 (fun h => absurd h.1 (by decide)) (w32_id (by omega) (by omega)) ?_
      refine x_si (ls1 := [some (vR (some 2281)), some (vI p), some (vI (h.length : Int)), some (vI pt), some (vI (6 * pt)), none]) T_347_35 rfl ?_
      refine x_lr (z := some 2281) T_347_37 rfl ?_
      refine x_lr (z := some 2281) T_347_38 rfl ?_
      refine x_gR (z := some 2338) T_347_39 F_17_68 (PM.t hP) (PM.r hP 68 2338 rfl) ?_
      refine x_li (z := (6 * pt)) T_347_42 rfl ?_
      refine x_alI (z := sv) T_347_44 (by decide) (PM.ta hP 2338 0 384 rfl rfl) (by omega) (by omega) (Eq.trans (PM.aP hP 2338 rfl rfl (by omega)) hsv) ?_
      refine x_lr (z := some 2281) T_347_45 rfl ?_
      refine x_gR (z := some 2339) T_347_46 F_17_69 (PM.t hP) (PM.r hP 69 2339 rfl) ?_
      refine x_li (z := (6 * pt)) T_347_49 rfl ?_
      refine x_alI (z := fd) T_347_51 (by decide) (PM.ta hP 2339 0 384 rfl rfl) (by omega) (by omega) (Eq.trans (PM.aP hP 2339 rfl rfl (by omega)) hfd) ?_
      refine x_lr (z := some 2281) T_347_52 rfl ?_
      refine x_gR (z := some 2340) T_347_53 F_17_70 (PM.t hP) (PM.r hP 70 2340 rfl) ?_
      refine x_li (z := (6 * pt)) T_347_56 rfl ?_
      refine x_alI (z := pa) T_347_58 (by decide) (PM.ta hP 2340 0 384 rfl rfl) (by omega) (by omega) (Eq.trans (PM.aP hP 2340 rfl rfl (by omega)) hpa) ?_
      refine x_lr (z := some 2281) T_347_59 rfl ?_
      refine x_gR (z := some 2341) T_347_60 F_17_71 (PM.t hP) (PM.r hP 71 2341 rfl) ?_
      refine x_li (z := (6 * pt)) T_347_63 rfl ?_
      refine x_alI (z := ki) T_347_65 (by decide) (PM.ta hP 2341 0 384 rfl rfl) (by omega) (by omega) (Eq.trans (PM.aP hP 2341 rfl rfl (by omega)) hki) ?_
      refine x_cv5 T_347_66 mN_333 mL_333 (Nat.le_of_ble_eq_true rfl) mO_333 (PM.t hP) (Nat.le_of_ble_eq_true rfl) (hcp σ hP) ?_
      clear hP
      rintro _ σ ⟨S2, rfl, hP, hG2, hJ2, hh2, hK2⟩
      refine cI ?_
      refine x_si (ls1 := [some (vR (some 2281)), some (vI p), some (vI (h.length : Int)), some (vI pt), some (vI (6 * pt)), some (vI er)]) T_347_69 rfl ?_
      refine x_li (z := er) T_347_71 rfl ?_
      refine x_if T_347_73 (fun h => absurd (show er ≤ 0 from h) (by omega)) (fun _ => ?_)
      refine x_lr (z := some 2281) T_347_76 rfl ?_
      refine x_cv1 T_347_77 mN_344 mL_344 (Nat.le_of_ble_eq_true rfl) mO_344 (PM.t hP) (Nat.le_of_ble_eq_true rfl) (m_drop hP hJ2 hG2 (by omega) hh2) ?_
      clear hP
      rintro _ σ ⟨S3, rfl, hP, hG3, hJ3, hh3, hK3⟩
      refine cV ?_
      refine x_li (z := er) T_347_80 rfl ?_
      refine x_ri T_347_82 ?_
      exact ⟨_, rfl, hP, hG3.mono (by omega), hJ3.mono (by omega) (Int.le_refl U), hh3, SK_tr hK2 hK3⟩
theorem k_walk_loop {many thr : Int} (hp : 0 ≤ p ∧ p < 8) (ht : thr = 0 ∨ thr = 1) (hl : h.length + 2 < 60) (hmany : many ≤ 110) : ∀ (nms : List (List Int)) (n T : Int) (P S1 : qR) (σ : hM) (c : Ch) (e : Int) (l5 l6 l7 : Option AV), n + nms.length = many → 0 ≤ n → PM σ0 P S1 σ → IV true T U S1 → GI T U P → PTS P → T + 28 * nms.length + 400 ≤ 2147483000 → HS S1 (h ++ [c]) → NL S1 n nms → SK S S1 → WP fb (d + 14) 332 52 [some (vR (some 2281)), some (vI p), some (vI many), some (vI thr), some (vI e), some (vI n), l5, l6, l7] [] σ (KR (T + 28 * nms.length + 8) U σ0 S (kWalkT P p thr nms c).1 (kWalkT P p thr nms c).2.1 (kHold (kWalkT P p thr nms c).1 h (kWalkT P p thr nms c).2.2)) := by
  intro nms
  induction nms with
  | nil =>
    intro n T P S1 σ c e l5 l6 l7 hn hn0 hP hJ hG hPT hT hh hN hK
    have hn : n + ((0 : Nat) : Int) = many := hn
    have hT : T + 28 * ((0 : Nat) : Int) + 400 ≤ 2147483000 := hT
    show WP fb (d + 14) _ _ _ _ _ (KR (T + 28 * ((0 : Nat) : Int) + 8) U σ0 S _ _ _)
    rcases ht with rfl | rfl
    · show WP fb (d + 14) _ _ _ _ _ (KR (T + 28 * ((0 : Nat) : Int) + 8) U σ0 S 0 P (kHold 0 h c))
      rw [kHold0]
      refine x_li (z := n) T_332_52 rfl ?_
      refine x_li (z := many) T_332_54 rfl ?_
      refine x_ic2 T_332_55 (fun _ => ?_) (fun h => absurd (show many ≤ n by omega) h)
      refine x_li (z := 0) T_332_202 rfl ?_
      refine x_if T_332_203 (fun _ => ?_) (fun h => absurd (show (0 : Int) = 0 by decide) h)
      refine x_ic T_332_214 ?_
      refine x_ri T_332_215 ?_
      exact ⟨S1, rfl, hP, hG.mono (by omega), hJ.mono (by omega) (Int.le_refl U), hh, hK⟩
    · have hgt := m_goThrough (fb := fb) (d := d) (σ := σ) (p := p) hP hJ hG hPT hp (by omega) hh (by omega)
      show WP fb (d + 14) _ _ _ _ _ (KR (T + 28 * ((0 : Nat) : Int) + 8) U σ0 S (kThru P p c).1 (kThru P p c).2.1 (kHold (kThru P p c).1 h (kThru P p c).2.2))
      refine x_li (z := n) T_332_52 rfl ?_
      refine x_li (z := many) T_332_54 rfl ?_
      refine x_ic2 T_332_55 (fun _ => ?_) (fun h => absurd (show many ≤ n by omega) h)
      refine x_li (z := 1) T_332_202 rfl ?_
      refine x_if T_332_203 (fun h => absurd (show (1 : Int) = 0 from h) (by decide)) (fun _ => ?_)
      refine x_lr (z := some 2281) T_332_206 rfl ?_
      refine x_li (z := p) T_332_207 rfl ?_
      refine x_cv2 T_332_208 mN_347 mL_347 (Nat.le_of_ble_eq_true rfl) mO_347 (PM.t hP) (Nat.le_of_ble_eq_true rfl) (hgt) ?_
      clear hP hgt
      rintro _ σ ⟨S2, rfl, hP, hG2, hJ2, hh2, hK2⟩
      refine cI ?_
      refine x_goto T_332_211 ?_
      refine x_ri T_332_215 ?_
      exact ⟨S2, rfl, hP, hG2.mono (by omega), hJ2.mono (by omega) (Int.le_refl U), hh2, SK_tr hK hK2⟩
  | cons nm r ih =>
    intro n T P S1 σ c e l5 l6 l7 hn hn0 hP hJ hG hPT hT hh hN hK
    have hn : n + ((r.length + 1 : Nat) : Int) = many := hn
    have hT : T + 28 * ((r.length + 1 : Nat) : Int) + 400 ≤ 2147483000 := hT
    obtain ⟨e1, e2, e3, e4, e5, e6, e7⟩ := hh.last
    obtain ⟨⟨c1, c2⟩, ⟨c3, c4⟩, -⟩ := hh.ch hJ
    obtain ⟨n1, n2, n3, n4⟩ := hN.hd
    obtain ⟨en, hen⟩ : ∃ en, (kNext P p c nm).1 = en := ⟨_, rfl⟩
    obtain ⟨Pn, hPn⟩ : ∃ Pn, (kNext P p c nm).2.1 = Pn := ⟨_, rfl⟩
    obtain ⟨cn, hcn⟩ : ∃ cn, (kNext P p c nm).2.2 = cn := ⟨_, rfl⟩
    have hkn := kNext_ok (P := P) (p := p) (x := c) (nm := nm) (fun q => (hPT.pt hG.iv hp q).1)
    have hPQ := hPT.pt (s := c.1) (path := c.2.2.1) hG.iv hp
    rw [hen, hPn] at hkn
    have ht0 : ((nm :: r).length : Int) = (r.length : Int) + 1 := rfl
    rw [ht0, show kWalkT P p thr (nm :: r) c = if 0 < en then (en, kDrop Pn c, c) else kWalkT (kDrop Pn c) p thr r cn by rw [← hen, ← hPn, ← hcn]; rfl]
    have tail : ∀ (σ : hM) (S2 : qR) (l6 l7 : Option AV), PM σ0 Pn S2 σ → IV true (T + 24) U S2 → GI (T + 24) U Pn → HS S2 (kHold en (h ++ [c]) cn) → SK S1 S2 → WP fb (d + 14) 332 180 [some (vR (some 2281)), some (vI p), some (vI many), some (vI thr), some (vI en), some (vI n), some (vI (h.length : Int)), l6, l7] [] σ (KR (T + 28 * ((r.length : Int) + 1) + 8) U σ0 S (if 0 < en then (en, kDrop Pn c, c) else kWalkT (kDrop Pn c) p thr r cn).1 (if 0 < en then (en, kDrop Pn c, c) else kWalkT (kDrop Pn c) p thr r cn).2.1 (kHold (if 0 < en then (en, kDrop Pn c, c) else kWalkT (kDrop Pn c) p thr r cn).1 h (if 0 < en then (en, kDrop Pn c, c) else kWalkT (kDrop Pn c) p thr r cn).2.2)) := by
      intro σ S2 l6 l7 hP hJ2 hG2 hh2 hK2
      by_cases q : 0 < en
      · rw [if_pos q]
        rw [kHoldn (by omega)] at hh2
        show WP fb (d + 14) _ _ _ _ _ (KR _ U σ0 S en (kDrop Pn c) (kHold en h c))
        rw [kHoldn (by omega)]
        refine x_li (z := en) T_332_180 rfl ?_
        refine x_if T_332_182 (fun h => absurd (show en ≤ 0 from h) (by omega)) (fun _ => ?_)
        refine x_lr (z := some 2281) T_332_185 rfl ?_
        refine x_cv1 T_332_186 mN_344 mL_344 (Nat.le_of_ble_eq_true rfl) mO_344 (PM.t hP) (Nat.le_of_ble_eq_true rfl) (m_drop hP hJ2 hG2 (by omega) hh2) ?_
        clear hP
        rintro _ σ ⟨S3, rfl, hP, hG3, hJ3, hh3, hK3⟩
        refine cV ?_
        refine x_li (z := en) T_332_189 rfl ?_
        refine x_ri T_332_191 ?_
        exact ⟨S3, rfl, hP, hG3.mono (by omega), hJ3.mono (by omega) (Int.le_refl U), hh3, SK_tr hK (SK_tr hK2 hK3)⟩
      · have q0 : en = 0 := by omega
        rw [if_neg q]
        rw [q0, kHold0] at hh2
        refine x_li (z := en) T_332_180 rfl ?_
        refine x_if T_332_182 (fun _ => ?_) (fun h => absurd (show en ≤ 0 by omega) h)
        refine x_lr (z := some 2281) T_332_192 rfl ?_
        refine x_cv1 T_332_193 mN_346 mL_346 (Nat.le_of_ble_eq_true rfl) mO_346 (PM.t hP) (Nat.le_of_ble_eq_true rfl) (m_dropBelow hP hJ2 hG2 (by omega) hh2) ?_
        clear hP
        rintro _ σ ⟨S3, rfl, hP, hG3, hJ3, hh3, hK3⟩
        refine cV ?_
        refine x_inc (w := (n + 1)) (ls1 := [some (vR (some 2281)), some (vI p), some (vI many), some (vI thr), some (vI en), some (vI (n + 1)), some (vI (h.length : Int)), l6, l7]) T_332_196 rfl (w32_id (by omega) (by omega)) rfl ?_
        refine x_goto T_332_199 ?_
        have := ih (n + 1) (T + 24 + 4) (kDrop Pn c) S3 σ cn en (some (vI (h.length : Int))) l6 l7 (by omega) (by omega) hP hJ3 hG3 (hPT.of (KF_tr KF_tP hkn.1)) (by omega) hh3 ((hN.sk (SK_tr hK2 hK3)).tl) (SK_tr hK (SK_tr hK2 hK3))
        rw [show T + 24 + 4 + 28 * (r.length : Int) + 8 = T + 28 * ((r.length : Int) + 1) + 8 by omega] at this
        exact this
    obtain ⟨pt, hpt⟩ : ∃ pt, qPoint P p c.1 c.2.2.1 = pt := ⟨_, rfl⟩
    rw [hpt] at hPQ
    by_cases q : pt < 0
    · have hk0 : kNext P p c nm = (kStE P c.1 c.2.1 nm, kStP P c.1 c.2.1 nm, kStC P c.1 c.2.1 nm) := by
        unfold kNext
        rw [hpt, if_pos q]
      rw [hk0] at hen hPn hcn
      have hen : kStE P c.1 c.2.1 nm = en := hen
      have hPn : kStP P c.1 c.2.1 nm = Pn := hPn
      have hcn : kStC P c.1 c.2.1 nm = cn := hcn
      have hst := fun (σ : hM) (hP : PM σ0 P S1 σ) => m_stepFrom (fb := fb) (d := d + 1) (σ := σ) hP hJ hG (by omega) (show 0 ≤ c.1 ∧ c.1 < 3 by omega) hh (by rw [List.length_append]; show h.length + 1 < 60; omega) (show 0 ≤ c.2.1 ∧ c.2.1 ≤ 47 by omega) (show 0 ≤ n ∧ n < 110 by omega) rfl rfl ⟨n1, n2, n3⟩ n4
      rw [hen, hPn, hcn] at hst
      refine x_li (z := n) T_332_52 rfl ?_
      refine x_li (z := many) T_332_54 rfl ?_
      refine x_ic2 T_332_55 (fun h => absurd (show many ≤ n from h) (by omega)) (fun _ => ?_)
      refine x_lr (z := some 2281) T_332_58 rfl ?_
      refine x_gI (z := ((h.length : Int) + 1)) T_332_59 (Or.inl F_17_91) (PM.t hP) (Eq.trans (PM.nS hP 2281 91 91 rfl rfl rfl) e1) ?_
      refine x_ic T_332_62 ?_
      refine x_ib (w := (h.length : Int)) T_332_63 (fun h => absurd h.1 (by decide)) (w32_e (by omega) (by omega) (by omega)) ?_
      refine x_si (ls1 := [some (vR (some 2281)), some (vI p), some (vI many), some (vI thr), some (vI e), some (vI n), some (vI (h.length : Int)), l6, l7]) T_332_64 rfl ?_
      refine x_lr (z := some 2281) T_332_66 rfl ?_
      refine x_li (z := p) T_332_67 rfl ?_
      refine x_lr (z := some 2281) T_332_68 rfl ?_
      refine x_gR (z := some 2350) T_332_69 F_17_86 (PM.t hP) (PM.r hP 86 2350 rfl) ?_
      refine x_li (z := (h.length : Int)) T_332_72 rfl ?_
      refine x_alI (z := c.1) T_332_74 (by decide) (PM.ta hP 2350 0 64 rfl rfl) (by omega) (by omega) (Eq.trans (PM.aS hP 2350 rfl rfl (by omega)) e3) ?_
      refine x_lr (z := some 2281) T_332_75 rfl ?_
      refine x_gR (z := some 2352) T_332_76 F_17_88 (PM.t hP) (PM.r hP 88 2352 rfl) ?_
      refine x_li (z := (h.length : Int)) T_332_79 rfl ?_
      refine x_alI (z := c.2.2.1) T_332_81 (by decide) (PM.ta hP 2352 0 64 rfl rfl) (by omega) (by omega) (Eq.trans (PM.aS hP 2352 rfl rfl (by omega)) e5) ?_
      refine x_cv4 T_332_82 mN_340 mL_340 (Nat.le_of_ble_eq_true rfl) mO_340 (PM.t hP) (Nat.le_of_ble_eq_true rfl) (CL_val (m_pointOf hP hG.iv hp) hpt) ?_
      rintro _ σ ⟨rfl, rfl⟩
      refine cI ?_
      refine x_si (ls1 := [some (vR (some 2281)), some (vI p), some (vI many), some (vI thr), some (vI e), some (vI n), some (vI (h.length : Int)), some (vI pt), l7]) T_332_85 rfl ?_
      refine x_li (z := pt) T_332_87 rfl ?_
      refine x_if T_332_89 (fun h => absurd (show 0 ≤ pt from h) (by omega)) (fun _ => ?_)
      refine x_lr (z := some 2281) T_332_92 rfl ?_
      refine x_lr (z := some 2281) T_332_93 rfl ?_
      refine x_gR (z := some 2350) T_332_94 F_17_86 (PM.t hP) (PM.r hP 86 2350 rfl) ?_
      refine x_li (z := (h.length : Int)) T_332_97 rfl ?_
      refine x_alI (z := c.1) T_332_99 (by decide) (PM.ta hP 2350 0 64 rfl rfl) (by omega) (by omega) (Eq.trans (PM.aS hP 2350 rfl rfl (by omega)) e3) ?_
      refine x_lr (z := some 2281) T_332_100 rfl ?_
      refine x_gR (z := some 2351) T_332_101 F_17_87 (PM.t hP) (PM.r hP 87 2351 rfl) ?_
      refine x_li (z := (h.length : Int)) T_332_104 rfl ?_
      refine x_alI (z := c.2.1) T_332_106 (by decide) (PM.ta hP 2351 0 64 rfl rfl) (by omega) (by omega) (Eq.trans (PM.aS hP 2351 rfl rfl (by omega)) e4) ?_
      refine x_li (z := n) T_332_107 rfl ?_
      refine x_cv4 T_332_109 mN_341 mL_341 (Nat.le_of_ble_eq_true rfl) mO_341 (PM.t hP) (Nat.le_of_ble_eq_true rfl) (hst σ hP) ?_
      clear hP
      rintro _ σ ⟨S2, rfl, hP, hG2, hJ2, hh2, hK2⟩
      refine cI ?_
      refine x_si (ls1 := [some (vR (some 2281)), some (vI p), some (vI many), some (vI thr), some (vI en), some (vI n), some (vI (h.length : Int)), some (vI pt), l7]) T_332_112 rfl ?_
      refine x_goto T_332_114 ?_
      exact tail σ S2 _ _ hP (hJ2.mono (by omega) (Int.le_refl U)) (hG2.mono (by omega)) hh2 hK2
    · have hk0 : kNext P p c nm = kTry P nm (-1) (kMems P pt) := by
        unfold kNext
        rw [hpt, if_neg q]
      rw [hk0] at hen hPn hcn
      obtain ⟨hm1, hm2, hm3⟩ := hPQ (by omega)
      have hml := kMems_len (P := P) (pt := pt)
      refine x_li (z := n) T_332_52 rfl ?_
      refine x_li (z := many) T_332_54 rfl ?_
      refine x_ic2 T_332_55 (fun h => absurd (show many ≤ n from h) (by omega)) (fun _ => ?_)
      refine x_lr (z := some 2281) T_332_58 rfl ?_
      refine x_gI (z := ((h.length : Int) + 1)) T_332_59 (Or.inl F_17_91) (PM.t hP) (Eq.trans (PM.nS hP 2281 91 91 rfl rfl rfl) e1) ?_
      refine x_ic T_332_62 ?_
      refine x_ib (w := (h.length : Int)) T_332_63 (fun h => absurd h.1 (by decide)) (w32_e (by omega) (by omega) (by omega)) ?_
      refine x_si (ls1 := [some (vR (some 2281)), some (vI p), some (vI many), some (vI thr), some (vI e), some (vI n), some (vI (h.length : Int)), l6, l7]) T_332_64 rfl ?_
      refine x_lr (z := some 2281) T_332_66 rfl ?_
      refine x_li (z := p) T_332_67 rfl ?_
      refine x_lr (z := some 2281) T_332_68 rfl ?_
      refine x_gR (z := some 2350) T_332_69 F_17_86 (PM.t hP) (PM.r hP 86 2350 rfl) ?_
      refine x_li (z := (h.length : Int)) T_332_72 rfl ?_
      refine x_alI (z := c.1) T_332_74 (by decide) (PM.ta hP 2350 0 64 rfl rfl) (by omega) (by omega) (Eq.trans (PM.aS hP 2350 rfl rfl (by omega)) e3) ?_
      refine x_lr (z := some 2281) T_332_75 rfl ?_
      refine x_gR (z := some 2352) T_332_76 F_17_88 (PM.t hP) (PM.r hP 88 2352 rfl) ?_
      refine x_li (z := (h.length : Int)) T_332_79 rfl ?_
      refine x_alI (z := c.2.2.1) T_332_81 (by decide) (PM.ta hP 2352 0 64 rfl rfl) (by omega) (by omega) (Eq.trans (PM.aS hP 2352 rfl rfl (by omega)) e5) ?_
      refine x_cv4 T_332_82 mN_340 mL_340 (Nat.le_of_ble_eq_true rfl) mO_340 (PM.t hP) (Nat.le_of_ble_eq_true rfl) (CL_val (m_pointOf hP hG.iv hp) hpt) ?_
      rintro _ σ ⟨rfl, rfl⟩
      refine cI ?_
      refine x_si (ls1 := [some (vR (some 2281)), some (vI p), some (vI many), some (vI thr), some (vI e), some (vI n), some (vI (h.length : Int)), some (vI pt), l7]) T_332_85 rfl ?_
      refine x_li (z := pt) T_332_87 rfl ?_
      refine x_if T_332_89 (fun _ => ?_) (fun h => absurd (show 0 ≤ pt by omega) h)
      refine x_ic T_332_117 ?_
      refine x_si (ls1 := [some (vR (some 2281)), some (vI p), some (vI many), some (vI thr), some (vI (-1)), some (vI n), some (vI (h.length : Int)), some (vI pt), l7]) T_332_118 rfl ?_
      refine x_ic T_332_120 ?_
      refine x_si (ls1 := [some (vR (some 2281)), some (vI p), some (vI many), some (vI thr), some (vI (-1)), some (vI n), some (vI (h.length : Int)), some (vI pt), some (vI 0)]) T_332_121 rfl ?_
      refine m_walk_try (d := d) (S := S1) (nm := nm) (many := many) (thr := thr) (n := n) (pt := pt) (hh6 := (h.length : Int)) (h := h ++ [c]) ⟨hn0, by omega⟩ ⟨by omega, hm3⟩ (kMems P pt) 0 T P S1 σ (-1) (by omega) (by decide) hm2 (fun i hi => ?_) (by decide) hP hJ hG (by omega) hh (by rw [List.length_append]; show h.length + 1 < 60; omega) ?_ SK_rfl ?_
      · rw [kMems_get hi, show (0 : Int) + (i : Int) = (i : Int) by omega]
        exact ⟨rfl, rfl⟩
      · intro i hi
        have hi : i < 0 + 1 := hi
        have hi0 : i = 0 := by omega
        subst hi0
        rw [show n + ((0 : Nat) : Int) = n by omega]
        exact ⟨n1, n2, n3, n4⟩
      · intro σ S2 l8 hP hJ2 hG2 hh2 hK2
        rw [hPn] at hP hG2
        rw [hen, hcn] at hh2
        rw [hen]
        exact tail σ S2 _ _ hP (hJ2.mono (by omega) (Int.le_refl U)) (hG2.mono (by omega)) hh2 hK2
theorem m_walk {many thr o : Int} {nms : List (List Int)} (hP : PM σ0 P S σ) (hJ : IV true T U S) (hG : GI T U P) (hPT : PTS P) (hp : 0 ≤ p ∧ p < 8) (ht : thr = 0 ∨ thr = 1) (hl : h.length + 2 < 60) (hm : (nms.length : Int) = many) (hmany : many ≤ 110) (hT : T + 28 * nms.length + 410 ≤ 2147483000) (hh : HS S h) (hN : NL S 0 nms) (ho : S 2281 80 = o) : CL fb (d + 14) 332 [vR (some 2281), vI p, vI many, vI thr] σ (KR (T + 28 * nms.length + 12) U σ0 S (kWalk P p o thr nms).1 (kWalk P p o thr nms).2.1 (kHold (kWalk P p o thr nms).1 h (kWalk P p o thr nms).2.2)) := by
  have bo : -1 ≤ S 2281 80 ∧ S 2281 80 ≤ 2 := IV.n hJ 80 80 rfl rfl (by decide)
  rw [ho] at bo
  have b1 : 0 ≤ P 2324 p ∧ P 2324 p ≤ 47 := IV.a hG.iv 2324 0 8 rfl rfl rfl (by omega) (by omega)
  have b2 : 0 ≤ P 2322 p ∧ P 2322 p ≤ 3 := IV.a hG.iv 2322 0 8 rfl rfl rfl (by omega) (by omega)
  have hm42 : 0 ≤ P 2281 42 ∧ P 2281 42 ≤ T := IV.n hG.iv 42 42 rfl rfl (by decide)
  unfold kWalk
  by_cases q : o < 0
  · rw [if_pos q]
    have hcp := fun (σ : hM) (hP : PM σ0 P S σ) => m_copy (fb := fb) (d := d + 1) (σ := σ) (s := 0) (f := P 2324 p) (g := 0) (k := 128) hP hJ hG (by omega) (by decide) hh (by omega) (by omega) (by decide)
    have hr := kCpE_rng (P := P) (s := 0) (f := P 2324 p)
    obtain ⟨er, her⟩ : ∃ er, kCpE P 0 (P 2324 p) = er := ⟨_, rfl⟩
    rw [her] at hr hcp ⊢
    obtain ⟨P1, hP1⟩ : ∃ P1, kCpP P 0 (P 2324 p) = P1 := ⟨_, rfl⟩
    have hkf : KF P1 P := by rw [← hP1]; exact KF_cp
    rw [hP1] at hcp ⊢
    by_cases q2 : 0 < er
    · rw [if_pos q2]
      rw [kHoldn (by omega)] at hcp
      show CL fb (d + 14) _ _ _ (KR _ U σ0 S er P1 (kHold er h c0))
      rw [kHoldn (by omega)]
      refine CL_in mL_332 rfl ?_
      show WP fb _ 332 0 [some (vR (some 2281)), some (vI p), some (vI many), some (vI thr), none, none, none, none, none] [] σ _
      refine x_lr (z := some 2281) T_332_0 rfl ?_
      refine x_gI (z := o) T_332_1 (Or.inl F_17_80) (PM.t hP) (Eq.trans (PM.nS hP 2281 80 80 rfl rfl rfl) ho) ?_
      refine x_if T_332_4 (fun h => absurd (show 0 ≤ o from h) (by omega)) (fun _ => ?_)
      refine x_lr (z := some 2281) T_332_7 rfl ?_
      refine x_ic T_332_8 ?_
      refine x_lr (z := some 2281) T_332_9 rfl ?_
      refine x_gR (z := some 2324) T_332_10 F_17_54 (PM.t hP) (PM.r hP 54 2324 rfl) ?_
      refine x_li (z := p) T_332_13 rfl ?_
      refine x_alI (z := P 2324 p) T_332_14 (by decide) (PM.ta hP 2324 0 8 rfl rfl) (by omega) (by omega) (PM.aP hP 2324 rfl rfl (by omega)) ?_
      refine x_ic T_332_15 ?_
      refine x_ic T_332_16 ?_
      refine x_cv5 T_332_19 mN_333 mL_333 (Nat.le_of_ble_eq_true rfl) mO_333 (PM.t hP) (Nat.le_of_ble_eq_true rfl) (hcp σ hP) ?_
      clear hP
      rintro _ σ ⟨S2, rfl, hP, hG2, hJ2, hh2, hK2⟩
      refine cI ?_
      refine x_goto T_332_22 ?_
      refine x_si (ls1 := [some (vR (some 2281)), some (vI p), some (vI many), some (vI thr), some (vI er), none, none, none, none]) T_332_39 rfl ?_
      refine x_li (z := er) T_332_41 rfl ?_
      refine x_if T_332_43 (fun h => absurd (show er ≤ 0 from h) (by omega)) (fun _ => ?_)
      refine x_li (z := er) T_332_46 rfl ?_
      refine x_ri T_332_48 ?_
      exact ⟨S2, rfl, hP, hG2.mono (by omega), hJ2.mono (by omega) (Int.le_refl U), hh2, hK2⟩
    · have q3 : er = 0 := by omega
      subst q3
      rw [kHold0] at hcp
      rw [if_neg q2]
      refine CL_in mL_332 rfl ?_
      show WP fb _ 332 0 [some (vR (some 2281)), some (vI p), some (vI many), some (vI thr), none, none, none, none, none] [] σ _
      refine x_lr (z := some 2281) T_332_0 rfl ?_
      refine x_gI (z := o) T_332_1 (Or.inl F_17_80) (PM.t hP) (Eq.trans (PM.nS hP 2281 80 80 rfl rfl rfl) ho) ?_
      refine x_if T_332_4 (fun h => absurd (show 0 ≤ o from h) (by omega)) (fun _ => ?_)
      refine x_lr (z := some 2281) T_332_7 rfl ?_
      refine x_ic T_332_8 ?_
      refine x_lr (z := some 2281) T_332_9 rfl ?_
      refine x_gR (z := some 2324) T_332_10 F_17_54 (PM.t hP) (PM.r hP 54 2324 rfl) ?_
      refine x_li (z := p) T_332_13 rfl ?_
      refine x_alI (z := P 2324 p) T_332_14 (by decide) (PM.ta hP 2324 0 8 rfl rfl) (by omega) (by omega) (PM.aP hP 2324 rfl rfl (by omega)) ?_
      refine x_ic T_332_15 ?_
      refine x_ic T_332_16 ?_
      refine x_cv5 T_332_19 mN_333 mL_333 (Nat.le_of_ble_eq_true rfl) mO_333 (PM.t hP) (Nat.le_of_ble_eq_true rfl) (hcp σ hP) ?_
      clear hP
      rintro _ σ ⟨S2, rfl, hP, hG2, hJ2, hh2, hK2⟩
      refine cI ?_
      refine x_goto T_332_22 ?_
      refine x_si (ls1 := [some (vR (some 2281)), some (vI p), some (vI many), some (vI thr), some (vI 0), none, none, none, none]) T_332_39 rfl ?_
      refine x_li (z := 0) T_332_41 rfl ?_
      refine x_if T_332_43 (fun _ => ?_) (fun h => absurd (show (0 : Int) ≤ 0 by decide) h)
      refine x_ic T_332_49 ?_
      refine x_si (ls1 := [some (vR (some 2281)), some (vI p), some (vI many), some (vI thr), some (vI 0), some (vI 0), none, none, none]) T_332_50 rfl ?_
      have := k_walk_loop (fb := fb) (d := d) (S := S) (h := h) hp ht hl hmany nms 0 (T + 4) P1 S2 σ (0, qNewF P 0, 0, 128, -1) 0 none none none (by omega) (by decide) hP hJ2 hG2 (hPT.of hkf) (by omega) hh2 (hN.sk hK2) hK2
      rw [show T + 4 + 28 * (nms.length : Int) + 8 = T + 28 * (nms.length : Int) + 12 by omega] at this
      exact this
  · rw [if_neg q]
    have hcp := fun (σ : hM) (hP : PM σ0 P S σ) => m_attach (fb := fb) (d := d + 1) (σ := σ) (s := o) (u := P 2322 p) hP hJ hG (by omega) (by omega) hh (by omega) (by omega)
    have hr := kAtE_rng (P := P) (s := o) (u := P 2322 p)
    obtain ⟨er, her⟩ : ∃ er, kAtE P o (P 2322 p) = er := ⟨_, rfl⟩
    rw [her] at hr hcp ⊢
    obtain ⟨P1, hP1⟩ : ∃ P1, kAtP P o (P 2322 p) = P1 := ⟨_, rfl⟩
    have hkf : KF P1 P := by rw [← hP1]; exact KF_at
    rw [hP1] at hcp ⊢
    by_cases q2 : 0 < er
    · rw [if_pos q2]
      rw [kHoldn (by omega)] at hcp
      show CL fb (d + 14) _ _ _ (KR _ U σ0 S er P1 (kHold er h c0))
      rw [kHoldn (by omega)]
      refine CL_in mL_332 rfl ?_
      show WP fb _ 332 0 [some (vR (some 2281)), some (vI p), some (vI many), some (vI thr), none, none, none, none, none] [] σ _
      refine x_lr (z := some 2281) T_332_0 rfl ?_
      refine x_gI (z := o) T_332_1 (Or.inl F_17_80) (PM.t hP) (Eq.trans (PM.nS hP 2281 80 80 rfl rfl rfl) ho) ?_
      refine x_if T_332_4 (fun _ => ?_) (fun h => absurd (show 0 ≤ o by omega) h)
      refine x_lr (z := some 2281) T_332_25 rfl ?_
      refine x_lr (z := some 2281) T_332_26 rfl ?_
      refine x_gI (z := o) T_332_27 (Or.inl F_17_80) (PM.t hP) (Eq.trans (PM.nS hP 2281 80 80 rfl rfl rfl) ho) ?_
      refine x_lr (z := some 2281) T_332_30 rfl ?_
      refine x_gR (z := some 2322) T_332_31 F_17_52 (PM.t hP) (PM.r hP 52 2322 rfl) ?_
      refine x_li (z := p) T_332_34 rfl ?_
      refine x_alI (z := P 2322 p) T_332_35 (by decide) (PM.ta hP 2322 0 8 rfl rfl) (by omega) (by omega) (PM.aP hP 2322 rfl rfl (by omega)) ?_
      refine x_cv3 T_332_36 mN_337 mL_337 (Nat.le_of_ble_eq_true rfl) mO_337 (PM.t hP) (Nat.le_of_ble_eq_true rfl) (hcp σ hP) ?_
      clear hP
      rintro _ σ ⟨S2, rfl, hP, hG2, hJ2, hh2, hK2⟩
      refine cI ?_
      refine x_si (ls1 := [some (vR (some 2281)), some (vI p), some (vI many), some (vI thr), some (vI er), none, none, none, none]) T_332_39 rfl ?_
      refine x_li (z := er) T_332_41 rfl ?_
      refine x_if T_332_43 (fun h => absurd (show er ≤ 0 from h) (by omega)) (fun _ => ?_)
      refine x_li (z := er) T_332_46 rfl ?_
      refine x_ri T_332_48 ?_
      exact ⟨S2, rfl, hP, hG2.mono (by omega), hJ2.mono (by omega) (Int.le_refl U), hh2, hK2⟩
    · have q3 : er = 0 := by omega
      subst q3
      rw [kHold0] at hcp
      rw [if_neg q2]
      refine CL_in mL_332 rfl ?_
      show WP fb _ 332 0 [some (vR (some 2281)), some (vI p), some (vI many), some (vI thr), none, none, none, none, none] [] σ _
      refine x_lr (z := some 2281) T_332_0 rfl ?_
      refine x_gI (z := o) T_332_1 (Or.inl F_17_80) (PM.t hP) (Eq.trans (PM.nS hP 2281 80 80 rfl rfl rfl) ho) ?_
      refine x_if T_332_4 (fun _ => ?_) (fun h => absurd (show 0 ≤ o by omega) h)
      refine x_lr (z := some 2281) T_332_25 rfl ?_
      refine x_lr (z := some 2281) T_332_26 rfl ?_
      refine x_gI (z := o) T_332_27 (Or.inl F_17_80) (PM.t hP) (Eq.trans (PM.nS hP 2281 80 80 rfl rfl rfl) ho) ?_
      refine x_lr (z := some 2281) T_332_30 rfl ?_
      refine x_gR (z := some 2322) T_332_31 F_17_52 (PM.t hP) (PM.r hP 52 2322 rfl) ?_
      refine x_li (z := p) T_332_34 rfl ?_
      refine x_alI (z := P 2322 p) T_332_35 (by decide) (PM.ta hP 2322 0 8 rfl rfl) (by omega) (by omega) (PM.aP hP 2322 rfl rfl (by omega)) ?_
      refine x_cv3 T_332_36 mN_337 mL_337 (Nat.le_of_ble_eq_true rfl) mO_337 (PM.t hP) (Nat.le_of_ble_eq_true rfl) (hcp σ hP) ?_
      clear hP
      rintro _ σ ⟨S2, rfl, hP, hG2, hJ2, hh2, hK2⟩
      refine cI ?_
      refine x_si (ls1 := [some (vR (some 2281)), some (vI p), some (vI many), some (vI thr), some (vI 0), none, none, none, none]) T_332_39 rfl ?_
      refine x_li (z := 0) T_332_41 rfl ?_
      refine x_if T_332_43 (fun _ => ?_) (fun h => absurd (show (0 : Int) ≤ 0 by decide) h)
      refine x_ic T_332_49 ?_
      refine x_si (ls1 := [some (vR (some 2281)), some (vI p), some (vI many), some (vI thr), some (vI 0), some (vI 0), none, none, none]) T_332_50 rfl ?_
      have := k_walk_loop (fb := fb) (d := d) (S := S) (h := h) hp ht hl hmany nms 0 (T + 4) P1 S2 σ (o, qNewF P o, 0, 128, -1) 0 none none none (by omega) (by decide) hP hJ2 hG2 (hPT.of hkf) (by omega) hh2 (hN.sk hK2) hK2
      rw [show T + 4 + 28 * (nms.length : Int) + 8 = T + 28 * (nms.length : Int) + 12 by omega] at this
      exact this
end MWALK2
