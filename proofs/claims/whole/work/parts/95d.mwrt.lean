/-! Commands: write, chmod. -/
theorem T_391_0 : hTab 391 0 = some ((3, 0, 2, []), 1) := rfl
theorem T_391_1 : hTab 391 1 = some ((0, 0, 1, []), 2) := rfl
theorem T_391_2 : hTab 391 2 = some ((0, 0, 8, []), 4) := rfl
theorem T_391_4 : hTab 391 4 = some ((0, 0, 3, []), 5) := rfl
theorem T_391_5 : hTab 391 5 = some ((31, 390, 0, []), 8) := rfl
theorem T_391_8 : hTab 391 8 = some ((4, 2, 0, []), 9) := rfl
theorem T_391_9 : hTab 391 9 = some ((3, 2, 0, []), 10) := rfl
theorem T_391_10 : hTab 391 10 = some ((18, 3, Int.ofNat 18, []), 13) := rfl
theorem T_391_13 : hTab 391 13 = some ((0, 0, 18, []), 15) := rfl
theorem T_391_15 : hTab 391 15 = some ((22, 0, Int.ofNat 25, []), 18) := rfl
theorem T_391_18 : hTab 391 18 = some ((3, 0, 2, []), 19) := rfl
theorem T_391_19 : hTab 391 19 = some ((3, 1, 0, []), 20) := rfl
theorem T_391_20 : hTab 391 20 = some ((0, 0, 2, []), 21) := rfl
theorem T_391_21 : hTab 391 21 = some ((0, 0, 0, []), 22) := rfl
theorem T_391_22 : hTab 391 22 = some ((31, 327, 0, []), 25) := rfl
theorem T_391_25 : hTab 391 25 = some ((4, 3, 0, []), 26) := rfl
theorem T_391_26 : hTab 391 26 = some ((3, 3, 0, []), 27) := rfl
theorem T_391_27 : hTab 391 27 = some ((18, 5, Int.ofNat 32, []), 30) := rfl
theorem T_391_30 : hTab 391 30 = some ((3, 3, 0, []), 31) := rfl
theorem T_391_31 : hTab 391 31 = some ((33, 1, 0, []), 32) := rfl
theorem T_391_32 : hTab 391 32 = some ((3, 0, 2, []), 33) := rfl
theorem T_391_33 : hTab 391 33 = some ((24, 17, Int.ofNat 91, []), 36) := rfl
theorem T_391_36 : hTab 391 36 = some ((0, 0, 1, []), 37) := rfl
theorem T_391_37 : hTab 391 37 = some ((10, 1, 0, []), 38) := rfl
theorem T_391_38 : hTab 391 38 = some ((4, 4, 0, []), 40) := rfl
theorem T_391_40 : hTab 391 40 = some ((3, 0, 2, []), 41) := rfl
theorem T_391_41 : hTab 391 41 = some ((0, 0, 124, []), 43) := rfl
theorem T_391_43 : hTab 391 43 = some ((3, 0, 2, []), 44) := rfl
theorem T_391_44 : hTab 391 44 = some ((24, 17, Int.ofNat 86, []), 47) := rfl
theorem T_391_47 : hTab 391 47 = some ((3, 4, 0, []), 49) := rfl
theorem T_391_49 : hTab 391 49 = some ((26, 0, 0, []), 50) := rfl
theorem T_391_50 : hTab 391 50 = some ((3, 0, 2, []), 51) := rfl
theorem T_391_51 : hTab 391 51 = some ((24, 17, Int.ofNat 87, []), 54) := rfl
theorem T_391_54 : hTab 391 54 = some ((3, 4, 0, []), 56) := rfl
theorem T_391_56 : hTab 391 56 = some ((26, 0, 0, []), 57) := rfl
theorem T_391_57 : hTab 391 57 = some ((31, 345, 0, []), 60) := rfl
theorem T_391_60 : hTab 391 60 = some ((4, 3, 0, []), 61) := rfl
theorem T_391_61 : hTab 391 61 = some ((3, 3, 0, []), 62) := rfl
theorem T_391_62 : hTab 391 62 = some ((18, 5, Int.ofNat 69, []), 65) := rfl
theorem T_391_65 : hTab 391 65 = some ((3, 3, 0, []), 66) := rfl
theorem T_391_66 : hTab 391 66 = some ((22, 0, Int.ofNat 106, []), 69) := rfl
theorem T_391_69 : hTab 391 69 = some ((3, 0, 2, []), 70) := rfl
theorem T_391_70 : hTab 391 70 = some ((3, 0, 2, []), 71) := rfl
theorem T_391_71 : hTab 391 71 = some ((24, 17, Int.ofNat 86, []), 74) := rfl
theorem T_391_74 : hTab 391 74 = some ((3, 4, 0, []), 76) := rfl
theorem T_391_76 : hTab 391 76 = some ((26, 0, 0, []), 77) := rfl
theorem T_391_77 : hTab 391 77 = some ((3, 0, 2, []), 78) := rfl
theorem T_391_78 : hTab 391 78 = some ((24, 17, Int.ofNat 87, []), 81) := rfl
theorem T_391_81 : hTab 391 81 = some ((3, 4, 0, []), 83) := rfl
theorem T_391_83 : hTab 391 83 = some ((26, 0, 0, []), 84) := rfl
theorem T_391_84 : hTab 391 84 = some ((0, 0, 0, []), 85) := rfl
theorem T_391_85 : hTab 391 85 = some ((0, 0, 0, []), 86) := rfl
theorem T_391_86 : hTab 391 86 = some ((3, 0, 2, []), 87) := rfl
theorem T_391_87 : hTab 391 87 = some ((0, 0, 30, []), 89) := rfl
theorem T_391_89 : hTab 391 89 = some ((0, 0, 4, []), 90) := rfl
theorem T_391_90 : hTab 391 90 = some ((31, 339, 0, []), 93) := rfl
theorem T_391_93 : hTab 391 93 = some ((1, 0, (-512), []), 96) := rfl
theorem T_391_96 : hTab 391 96 = some ((11, 5, 0, []), 97) := rfl
theorem T_391_97 : hTab 391 97 = some ((3, 2, 0, []), 98) := rfl
theorem T_391_98 : hTab 391 98 = some ((14, 0, 0, []), 99) := rfl
theorem T_391_99 : hTab 391 99 = some ((11, 6, 0, []), 100) := rfl
theorem T_391_100 : hTab 391 100 = some ((1, 0, (-1), []), 103) := rfl
theorem T_391_103 : hTab 391 103 = some ((31, 389, 0, []), 106) := rfl
theorem T_391_106 : hTab 391 106 = some ((33, 1, 0, []), 107) := rfl
theorem T_396_0 : hTab 396 0 = some ((3, 0, 2, []), 1) := rfl
theorem T_396_1 : hTab 396 1 = some ((0, 0, 1, []), 2) := rfl
theorem T_396_2 : hTab 396 2 = some ((0, 0, 7, []), 4) := rfl
theorem T_396_4 : hTab 396 4 = some ((31, 359, 0, []), 7) := rfl
theorem T_396_7 : hTab 396 7 = some ((4, 2, 0, []), 8) := rfl
theorem T_396_8 : hTab 396 8 = some ((3, 2, 0, []), 9) := rfl
theorem T_396_9 : hTab 396 9 = some ((18, 3, Int.ofNat 15, []), 12) := rfl
theorem T_396_12 : hTab 396 12 = some ((0, 0, 18, []), 14) := rfl
theorem T_396_14 : hTab 396 14 = some ((33, 1, 0, []), 15) := rfl
theorem T_396_15 : hTab 396 15 = some ((3, 0, 2, []), 16) := rfl
theorem T_396_16 : hTab 396 16 = some ((24, 17, Int.ofNat 57, []), 19) := rfl
theorem T_396_19 : hTab 396 19 = some ((0, 0, 8, []), 21) := rfl
theorem T_396_21 : hTab 396 21 = some ((3, 1, 0, []), 22) := rfl
theorem T_396_22 : hTab 396 22 = some ((10, 2, 0, []), 23) := rfl
theorem T_396_23 : hTab 396 23 = some ((3, 2, 0, []), 24) := rfl
theorem T_396_24 : hTab 396 24 = some ((10, 0, 0, []), 25) := rfl
theorem T_396_25 : hTab 396 25 = some ((26, 0, 0, []), 26) := rfl
theorem T_396_26 : hTab 396 26 = some ((4, 3, 0, []), 27) := rfl
theorem T_396_27 : hTab 396 27 = some ((3, 3, 0, []), 28) := rfl
theorem T_396_28 : hTab 396 28 = some ((18, 3, Int.ofNat 34, []), 31) := rfl
theorem T_396_31 : hTab 396 31 = some ((0, 0, 19, []), 33) := rfl
theorem T_396_33 : hTab 396 33 = some ((33, 1, 0, []), 34) := rfl
theorem T_396_34 : hTab 396 34 = some ((3, 0, 2, []), 35) := rfl
theorem T_396_35 : hTab 396 35 = some ((3, 0, 2, []), 36) := rfl
theorem T_396_36 : hTab 396 36 = some ((24, 17, Int.ofNat 62, []), 39) := rfl
theorem T_396_39 : hTab 396 39 = some ((3, 3, 0, []), 40) := rfl
theorem T_396_40 : hTab 396 40 = some ((26, 0, 0, []), 41) := rfl
theorem T_396_41 : hTab 396 41 = some ((3, 0, 2, []), 42) := rfl
theorem T_396_42 : hTab 396 42 = some ((24, 17, Int.ofNat 63, []), 45) := rfl
theorem T_396_45 : hTab 396 45 = some ((3, 3, 0, []), 46) := rfl
theorem T_396_46 : hTab 396 46 = some ((26, 0, 0, []), 47) := rfl
theorem T_396_47 : hTab 396 47 = some ((14, 0, 0, []), 48) := rfl
theorem T_396_48 : hTab 396 48 = some ((3, 0, 2, []), 49) := rfl
theorem T_396_49 : hTab 396 49 = some ((0, 0, 2, []), 50) := rfl
theorem T_396_50 : hTab 396 50 = some ((31, 318, 0, []), 53) := rfl
theorem T_396_53 : hTab 396 53 = some ((31, 356, 0, []), 56) := rfl
theorem T_396_56 : hTab 396 56 = some ((3, 0, 2, []), 57) := rfl
theorem T_396_57 : hTab 396 57 = some ((0, 0, 2, []), 58) := rfl
theorem T_396_58 : hTab 396 58 = some ((31, 357, 0, []), 61) := rfl
theorem T_396_61 : hTab 396 61 = some ((3, 0, 2, []), 62) := rfl
theorem T_396_62 : hTab 396 62 = some ((3, 0, 2, []), 63) := rfl
theorem T_396_63 : hTab 396 63 = some ((24, 17, Int.ofNat 61, []), 66) := rfl
theorem T_396_66 : hTab 396 66 = some ((3, 3, 0, []), 67) := rfl
theorem T_396_67 : hTab 396 67 = some ((26, 0, 0, []), 68) := rfl
theorem T_396_68 : hTab 396 68 = some ((31, 231, 0, []), 71) := rfl
theorem T_396_71 : hTab 396 71 = some ((4, 4, 0, []), 73) := rfl
theorem T_396_73 : hTab 396 73 = some ((3, 0, 2, []), 74) := rfl
theorem T_396_74 : hTab 396 74 = some ((24, 17, Int.ofNat 63, []), 77) := rfl
theorem T_396_77 : hTab 396 77 = some ((3, 3, 0, []), 78) := rfl
theorem T_396_78 : hTab 396 78 = some ((8, 0, 0, []), 79) := rfl
theorem T_396_79 : hTab 396 79 = some ((26, 0, 0, []), 80) := rfl
theorem T_396_80 : hTab 396 80 = some ((3, 4, 0, []), 82) := rfl
theorem T_396_82 : hTab 396 82 = some ((18, 5, Int.ofNat 89, []), 85) := rfl
theorem T_396_85 : hTab 396 85 = some ((0, 0, 0, []), 86) := rfl
theorem T_396_86 : hTab 396 86 = some ((22, 0, Int.ofNat 94, []), 89) := rfl
theorem T_396_89 : hTab 396 89 = some ((3, 0, 2, []), 90) := rfl
theorem T_396_90 : hTab 396 90 = some ((0, 0, 2, []), 91) := rfl
theorem T_396_91 : hTab 396 91 = some ((31, 318, 0, []), 94) := rfl
theorem T_396_94 : hTab 396 94 = some ((10, 0, 0, []), 95) := rfl
theorem T_396_95 : hTab 396 95 = some ((27, 0, 0, []), 96) := rfl
theorem T_396_96 : hTab 396 96 = some ((3, 4, 0, []), 98) := rfl
theorem T_396_98 : hTab 396 98 = some ((33, 1, 0, []), 99) := rfl
theorem mN_391 : hmN 391 = 2 := by decide +kernel
theorem mL_391 : hmL 391 = 5 := by decide +kernel
theorem mK_391 : hmK 391 = 1 := by decide +kernel
theorem mO_391 : hmO 391 = 17 := by decide +kernel
theorem mN_396 : hmN 396 = 2 := by decide +kernel
theorem mL_396 : hmL 396 = 5 := by decide +kernel
theorem mK_396 : hmK 396 = 1 := by decide +kernel
theorem mO_396 : hmO 396 = 17 := by decide +kernel
section MWRT
variable {fb : Bool} {d : Nat} {σ0 σ : hM} {P Q R S S1 S2 : qR} {T U s w g u p k e t z o thr pt : Int} {l nm wd A : List Int} {h : List Ch} {a f : Int → Int} {x : Int × Int} {c : Ch}
theorem m_writeWords (hP : PM σ0 P S σ) (hK : KS T U P S l h) (hp : 0 ≤ p ∧ p < 8) (hT : T + 49 ≤ 2147483000) (hU : U ≤ 2147480000) (hw : 2 < ((lnW l).length : Int)) : CL fb (d + 12) 396 [vR (some 2281), vI p] σ (KC (T + 4) (U + 400) σ0 S l (cWrt P p (dgV (lnB l 1) 7) (lnB l 2)).1 (cWrt P p (dgV (lnB l 1) 7) (lnB l 2)).2 h) := by
  have hdg := m_digit (fb := fb) (d := d + 10) (most := 7) hP hK.2.2.2.2 (w := 1) ⟨by decide, by omega⟩ (by decide)
  have hdr := dgV_rng (wd := lnB l 1) (most := 7)
  have hsz := m_size (fb := fb) (d := d + 11) hP hK.2.2.2.2 (w := 2) ⟨by decide, hw⟩
  have hlen := lnB_len hK.2.2.2.2.2.1 (w := 2) ⟨by decide, hw⟩
  obtain ⟨dd, hdd⟩ : ∃ dd, dgV (lnB l 1) 7 = dd := ⟨_, rfl⟩
  rw [hdd] at hdg hdr ⊢
  have hKm : KS (T + 4) (U + 400) P S l h := (hK.mono (by omega)).monoU (by omega)
  unfold cWrt
  by_cases q1 : dd < 0
  · rw [if_pos q1]
    dsimp only
    refine CL_in mL_396 rfl ?_
    show WP fb _ 396 0 [some (vR (some 2281)), some (vI p), none, none, none] [] σ _
    refine x_lr (z := some 2281) T_396_0 rfl ?_
    refine x_ic T_396_1 ?_
    refine x_ic T_396_2 ?_
    refine x_cv3 T_396_4 mN_359 mL_359 (Nat.le_of_ble_eq_true rfl) mO_359 (PM.t hP) (Nat.le_of_ble_eq_true rfl) (hdg) ?_
    rintro _ σ ⟨rfl, rfl⟩
    refine cI ?_
    refine x_si (ls1 := [some (vR (some 2281)), some (vI p), some (vI dd), none, none]) T_396_7 rfl ?_
    refine x_li (z := dd) T_396_8 rfl ?_
    refine x_if T_396_9 (fun h => absurd (show 0 ≤ dd from h) (by omega)) (fun _ => ?_)
    refine x_ic T_396_12 ?_
    refine x_ri T_396_14 ?_
    exact ⟨S, rfl, hP, hKm, SX_rfl⟩
  rw [if_neg q1]
  have bo : -1 ≤ P 2327 (8 * p + dd) ∧ P 2327 (8 * p + dd) ≤ 63 := IV.a hK.1.iv 2327 0 64 rfl rfl rfl (by omega) (by omega)
  obtain ⟨o, ho⟩ : ∃ o, P 2327 (8 * p + dd) = o := ⟨_, rfl⟩
  rw [ho] at bo ⊢
  by_cases q2 : o < 0
  · rw [if_pos q2]
    dsimp only
    refine CL_in mL_396 rfl ?_
    show WP fb _ 396 0 [some (vR (some 2281)), some (vI p), none, none, none] [] σ _
    refine x_lr (z := some 2281) T_396_0 rfl ?_
    refine x_ic T_396_1 ?_
    refine x_ic T_396_2 ?_
    refine x_cv3 T_396_4 mN_359 mL_359 (Nat.le_of_ble_eq_true rfl) mO_359 (PM.t hP) (Nat.le_of_ble_eq_true rfl) (hdg) ?_
    rintro _ σ ⟨rfl, rfl⟩
    refine cI ?_
    refine x_si (ls1 := [some (vR (some 2281)), some (vI p), some (vI dd), none, none]) T_396_7 rfl ?_
    refine x_li (z := dd) T_396_8 rfl ?_
    refine x_if T_396_9 (fun _ => ?_) (fun h => absurd (show 0 ≤ dd by omega) h)
    refine x_lr (z := some 2281) T_396_15 rfl ?_
    refine x_gR (z := some 2327) T_396_16 F_17_57 (PM.t hP) (PM.r hP 57 2327 rfl) ?_
    refine x_ic T_396_19 ?_
    refine x_li (z := p) T_396_21 rfl ?_
    refine x_ib (w := (8 * p)) T_396_22 (fun h => absurd h.1 (by decide)) (w32_id (by omega) (by omega)) ?_
    refine x_li (z := dd) T_396_23 rfl ?_
    refine x_ib (w := ((8 * p) + dd)) T_396_24 (fun h => absurd h.1 (by decide)) (w32_id (by omega) (by omega)) ?_
    refine x_alI (z := o) T_396_25 (by decide) (PM.ta hP 2327 0 64 rfl rfl) (by omega) (by omega) (Eq.trans (PM.aP hP 2327 rfl rfl (by omega)) ho) ?_
    refine x_si (ls1 := [some (vR (some 2281)), some (vI p), some (vI dd), some (vI o), none]) T_396_26 rfl ?_
    refine x_li (z := o) T_396_27 rfl ?_
    refine x_if T_396_28 (fun h => absurd (show 0 ≤ o from h) (by omega)) (fun _ => ?_)
    refine x_ic T_396_31 ?_
    refine x_ri T_396_33 ?_
    exact ⟨S, rfl, hP, hKm, SX_rfl⟩
  rw [if_neg q2]
  have b1 : 0 ≤ P 2331 o ∧ P 2331 o ≤ 2 := IV.a hK.1.iv 2331 0 64 rfl rfl rfl (by omega) (by omega)
  have b2 : 0 ≤ P 2332 o ∧ P 2332 o ≤ 47 := IV.a hK.1.iv 2332 0 64 rfl rfl rfl (by omega) (by omega)
  have b3 : 0 ≤ P 2333 o ∧ P 2333 o ≤ U := IV.a hK.1.iv 2333 0 64 rfl rfl rfl (by omega) (by omega)
  obtain ⟨sv, hsv⟩ : ∃ sv, P 2331 o = sv := ⟨_, rfl⟩
  obtain ⟨fd, hfd⟩ : ∃ fd, P 2332 o = fd := ⟨_, rfl⟩
  obtain ⟨of, hof⟩ : ∃ of, P 2333 o = of := ⟨_, rfl⟩
  obtain ⟨wd, hwd⟩ : ∃ wd, lnB l 2 = wd := ⟨_, rfl⟩
  rw [hsv] at b1 ⊢
  rw [hfd] at b2 ⊢
  rw [hof] at b3 ⊢
  rw [hwd] at hsz hlen ⊢
  obtain ⟨n, hn⟩ : ∃ n : Int, (wd.length : Int) = n := ⟨_, rfl⟩
  rw [hn] at hsz
  obtain ⟨lq, hlq⟩ : ∃ lq, leb 1 118 ++ leb 2 1 ++ leb 4 fd ++ leb 8 of ++ leb 4 n = lq := ⟨_, rfl⟩
  have em : lq ++ wd = mWr fd of wd := by
    unfold mWr
    rw [← hlq, hn]
  have hbw := fun (σ : hM) (hP : PM σ0 P S σ) => r_beginWrite (fb := fb) (d := d + 9) (σ := σ) (fd := fd) (off := of) (n := n) hP hK.2.2.1
  rw [hlq] at hbw
  have hpw := fun (σ : hM) (S1 : qR) (hP : PM σ0 P S1 σ) (hQ : RQ T U S S1 23 lq) => r_putWord (fb := fb) (d := d + 10) (w := 2) hP hQ hK.2.2.2.2 ⟨by decide, hw⟩ (by rw [hwd]; omega)
  rw [hwd, em] at hpw
  have her := tE_rng (P := P) (s := sv) (l := mWr fd of wd)
  obtain ⟨P1, hP1⟩ : ∃ P1, tP P sv (mWr fd of wd) = P1 := ⟨_, rfl⟩
  have hkf : KF P1 P := by rw [← hP1]; exact KF_tP
  have hof1 : P1 2333 o = of := (hkf _ _ rfl (by decide) (by decide) (by decide)).trans hof
  have htr := fun (σ : hM) (S1 : qR) (w0 : Int) (hP : PM σ0 P S1 σ) (hQ : RQ T U S S1 w0 (mWr fd of wd)) => m_trG (fb := fb) (d := d + 1) hP hQ hK.1 hT (show 0 ≤ sv ∧ sv < 3 by omega) (by have := mWr_len (fd := fd) (off := of) (wd := wd); omega) (by rw [mWr_0]; decide) (fun q => absurd q (by rw [mWr_0]; decide)) (fun q => absurd q (by rw [mWr_0]; decide))
  obtain ⟨e, he⟩ : ∃ e, tE P sv (mWr fd of wd) = e := ⟨_, rfl⟩
  rw [he] at her
  rw [he, hP1]
  dsimp only
  have fin : ∀ (σ : hM) (S3 : qR), PM σ0 P1 S3 σ → KS (T + 4) U P1 S3 l h → SX scR scN S S3 → WP fb (d + 12) 396 71 [some (vR (some 2281)), some (vI p), some (vI dd), some (vI o), none] [vI e] σ (KC (T + 4) (U + 400) σ0 S l e (rU P1 2333 o (of + if 0 < e then 0 else (wd.length : Int))) h) := by
    intro σ S3 hP hK3 hX3
    have hsz3 := fun (σ : hM) (hP : PM σ0 P1 S3 σ) => m_size (fb := fb) (d := d + 11) hP hK3.2.2.2.2 (w := 2) ⟨by decide, hw⟩
    rw [hwd, hn] at hsz3
    have hK4 : ∀ v, 0 ≤ v → v ≤ 400 → KS (T + 4) (U + 400) (rU P1 2333 o (of + v)) S3 l h := fun v v0 v1 => ⟨GI_off (hK3.1.monoU (by omega)) ⟨by omega, by omega⟩, hK3.2.1.row (fun _ => rU_f (by decide)) (fun _ => rU_f (by decide)), hK3.2.2.1.monoU (by omega), hK3.2.2.2⟩
    by_cases q3 : 0 < e
    · rw [if_pos q3]
      refine x_si (ls1 := [some (vR (some 2281)), some (vI p), some (vI dd), some (vI o), some (vI e)]) T_396_71 rfl ?_
      refine x_lr (z := some 2281) T_396_73 rfl ?_
      refine x_gR (z := some 2333) T_396_74 F_17_63 (PM.t hP) (PM.r hP 63 2333 rfl) ?_
      refine x_li (z := o) T_396_77 rfl ?_
      refine x_dup2 T_396_78 ?_
      refine x_alI (z := of) T_396_79 (by decide) (PM.ta hP 2333 0 64 rfl rfl) (by omega) (by omega) (Eq.trans (PM.aP hP 2333 rfl rfl (by omega)) hof1) ?_
      refine x_li (z := e) T_396_80 rfl ?_
      refine x_if T_396_82 (fun h => absurd (show e ≤ 0 from h) (by omega)) (fun _ => ?_)
      refine x_ic T_396_85 ?_
      refine x_goto T_396_86 ?_
      refine x_ib (w := (of + 0)) T_396_94 (fun h => absurd h.1 (by decide)) (w32_id (by omega) (by omega)) ?_
      refine y_aIP hP T_396_95 2333 64 rfl rfl rfl (by omega) (by omega) (fun σ hP => ?_)
      refine x_li (z := e) T_396_96 rfl ?_
      refine x_ri T_396_98 ?_
      exact ⟨S3, rfl, hP, hK4 0 (by decide) (by decide), hX3⟩
    · rw [if_neg q3, hn]
      refine x_si (ls1 := [some (vR (some 2281)), some (vI p), some (vI dd), some (vI o), some (vI e)]) T_396_71 rfl ?_
      refine x_lr (z := some 2281) T_396_73 rfl ?_
      refine x_gR (z := some 2333) T_396_74 F_17_63 (PM.t hP) (PM.r hP 63 2333 rfl) ?_
      refine x_li (z := o) T_396_77 rfl ?_
      refine x_dup2 T_396_78 ?_
      refine x_alI (z := of) T_396_79 (by decide) (PM.ta hP 2333 0 64 rfl rfl) (by omega) (by omega) (Eq.trans (PM.aP hP 2333 rfl rfl (by omega)) hof1) ?_
      refine x_li (z := e) T_396_80 rfl ?_
      refine x_if T_396_82 (fun _ => ?_) (fun h => absurd (show e ≤ 0 by omega) h)
      refine x_lr (z := some 2281) T_396_89 rfl ?_
      refine x_ic T_396_90 ?_
      refine x_cv2 T_396_91 mN_318 mL_318 (Nat.le_of_ble_eq_true rfl) mO_318 (PM.t hP) (Nat.le_of_ble_eq_true rfl) (hsz3 σ hP) ?_
      rintro _ σ ⟨rfl, rfl⟩
      refine cI ?_
      refine x_ib (w := (of + n)) T_396_94 (fun h => absurd h.1 (by decide)) (w32_id (by omega) (by omega)) ?_
      refine y_aIP hP T_396_95 2333 64 rfl rfl rfl (by omega) (by omega) (fun σ hP => ?_)
      refine x_li (z := e) T_396_96 rfl ?_
      refine x_ri T_396_98 ?_
      exact ⟨S3, rfl, hP, hK4 n (by omega) (by omega), hX3⟩
  refine CL_in mL_396 rfl ?_
  show WP fb _ 396 0 [some (vR (some 2281)), some (vI p), none, none, none] [] σ _
  refine x_lr (z := some 2281) T_396_0 rfl ?_
  refine x_ic T_396_1 ?_
  refine x_ic T_396_2 ?_
  refine x_cv3 T_396_4 mN_359 mL_359 (Nat.le_of_ble_eq_true rfl) mO_359 (PM.t hP) (Nat.le_of_ble_eq_true rfl) (hdg) ?_
  rintro _ σ ⟨rfl, rfl⟩
  refine cI ?_
  refine x_si (ls1 := [some (vR (some 2281)), some (vI p), some (vI dd), none, none]) T_396_7 rfl ?_
  refine x_li (z := dd) T_396_8 rfl ?_
  refine x_if T_396_9 (fun _ => ?_) (fun h => absurd (show 0 ≤ dd by omega) h)
  refine x_lr (z := some 2281) T_396_15 rfl ?_
  refine x_gR (z := some 2327) T_396_16 F_17_57 (PM.t hP) (PM.r hP 57 2327 rfl) ?_
  refine x_ic T_396_19 ?_
  refine x_li (z := p) T_396_21 rfl ?_
  refine x_ib (w := (8 * p)) T_396_22 (fun h => absurd h.1 (by decide)) (w32_id (by omega) (by omega)) ?_
  refine x_li (z := dd) T_396_23 rfl ?_
  refine x_ib (w := ((8 * p) + dd)) T_396_24 (fun h => absurd h.1 (by decide)) (w32_id (by omega) (by omega)) ?_
  refine x_alI (z := o) T_396_25 (by decide) (PM.ta hP 2327 0 64 rfl rfl) (by omega) (by omega) (Eq.trans (PM.aP hP 2327 rfl rfl (by omega)) ho) ?_
  refine x_si (ls1 := [some (vR (some 2281)), some (vI p), some (vI dd), some (vI o), none]) T_396_26 rfl ?_
  refine x_li (z := o) T_396_27 rfl ?_
  refine x_if T_396_28 (fun _ => ?_) (fun h => absurd (show 0 ≤ o by omega) h)
  refine x_lr (z := some 2281) T_396_34 rfl ?_
  refine x_lr (z := some 2281) T_396_35 rfl ?_
  refine x_gR (z := some 2332) T_396_36 F_17_62 (PM.t hP) (PM.r hP 62 2332 rfl) ?_
  refine x_li (z := o) T_396_39 rfl ?_
  refine x_alI (z := fd) T_396_40 (by decide) (PM.ta hP 2332 0 64 rfl rfl) (by omega) (by omega) (Eq.trans (PM.aP hP 2332 rfl rfl (by omega)) hfd) ?_
  refine x_lr (z := some 2281) T_396_41 rfl ?_
  refine x_gR (z := some 2333) T_396_42 F_17_63 (PM.t hP) (PM.r hP 63 2333 rfl) ?_
  refine x_li (z := o) T_396_45 rfl ?_
  refine x_alI (z := of) T_396_46 (by decide) (PM.ta hP 2333 0 64 rfl rfl) (by omega) (by omega) (Eq.trans (PM.aP hP 2333 rfl rfl (by omega)) hof) ?_
  refine x_i2l T_396_47 ?_
  refine x_lr (z := some 2281) T_396_48 rfl ?_
  refine x_ic T_396_49 ?_
  refine x_cv2 T_396_50 mN_318 mL_318 (Nat.le_of_ble_eq_true rfl) mO_318 (PM.t hP) (Nat.le_of_ble_eq_true rfl) (hsz) ?_
  rintro _ σ ⟨rfl, rfl⟩
  refine cI ?_
  refine x_cv4 T_396_53 mN_356 mL_356 (Nat.le_of_ble_eq_true rfl) mO_356 (PM.t hP) (Nat.le_of_ble_eq_true rfl) (hbw σ hP) ?_
  clear hP hbw
  rintro _ σ ⟨rfl, S1, hP, hQ⟩
  refine cV ?_
  refine x_lr (z := some 2281) T_396_56 rfl ?_
  refine x_ic T_396_57 ?_
  refine x_cv2 T_396_58 mN_357 mL_357 (Nat.le_of_ble_eq_true rfl) mO_357 (PM.t hP) (Nat.le_of_ble_eq_true rfl) (hpw σ S1 hP hQ) ?_
  clear hP hpw hQ
  rintro _ σ ⟨rfl, S1, hP, hQ⟩
  refine cV ?_
  refine x_lr (z := some 2281) T_396_61 rfl ?_
  refine x_lr (z := some 2281) T_396_62 rfl ?_
  refine x_gR (z := some 2331) T_396_63 F_17_61 (PM.t hP) (PM.r hP 61 2331 rfl) ?_
  refine x_li (z := o) T_396_66 rfl ?_
  refine x_alI (z := sv) T_396_67 (by decide) (PM.ta hP 2331 0 64 rfl rfl) (by omega) (by omega) (Eq.trans (PM.aP hP 2331 rfl rfl (by omega)) hsv) ?_
  refine x_cv2 T_396_68 mN_231 mL_231 (Nat.le_of_ble_eq_true rfl) mO_231 (PM.t hP) (Nat.le_of_ble_eq_true rfl) (htr σ S1 _ hP hQ) ?_
  clear hP htr hQ
  intro r σ hr
  obtain ⟨S3, hr0, hP, hK3, hX3, -⟩ := hK.ask (T1 := T + 4) (by omega) hr
  rw [he] at hr0
  subst hr0
  rw [hP1] at hP hK3
  refine cI ?_
  exact fin σ S3 hP hK3 hX3
theorem statL_ge {n : Int} : 41 ≤ (statL P s n).length := by
  unfold statL qidL
  simp only [List.length_append, leb_len]
  omega
theorem m_chmod (hP : PM σ0 P S σ) (hK : KS T U P S l []) (hp : 0 ≤ p ∧ p < 8) (hT : T + 800 ≤ 2147483000) (hw : 2 < ((lnW l).length : Int)) : CL fb (d + 16) 391 [vR (some 2281), vI p] σ (KC (T + 308) U σ0 S l (cChm P p (lnB l 1) (lnB l 2)).1 (cChm P p (lnB l 1) (lnB l 2)).2.1 (cChm P p (lnB l 1) (lnB l 2)).2.2) := by
  have hnb := m_numberOf (fb := fb) (d := d + 14) (base := 8) (most := 3) hP hK.2.2.2.2 (w := 1) ⟨by decide, by omega⟩ (by decide) (by decide)
  have hww := k_ww (fb := fb) (d := d) (thr := 0) hP hK hp (Or.inl rfl) hT (by decide) (w := 2) ⟨by decide, hw⟩
  have hkf := KF_kWW (thr := 0) (wd := lnB l 2) hK.1.iv hK.2.1 hp
  have hm42 : 0 ≤ P 2281 42 ∧ P 2281 42 ≤ T := IV.n hK.1.iv 42 42 rfl rfl (by decide)
  unfold cChm
  obtain ⟨n, hn⟩ : ∃ n, nmN (lnB l 1) 8 3 = n := ⟨_, rfl⟩
  rw [hn] at hnb ⊢
  by_cases q0 : n < 0
  · rw [if_pos q0]
    dsimp only
    refine CL_in mL_391 rfl ?_
    show WP fb _ 391 0 [some (vR (some 2281)), some (vI p), none, none, none] [] σ _
    refine x_lr (z := some 2281) T_391_0 rfl ?_
    refine x_ic T_391_1 ?_
    refine x_ic T_391_2 ?_
    refine x_ic T_391_4 ?_
    refine x_cv4 T_391_5 mN_390 mL_390 (Nat.le_of_ble_eq_true rfl) mO_390 (PM.t hP) (Nat.le_of_ble_eq_true rfl) (hnb) ?_
    rintro _ σ ⟨rfl, rfl⟩
    refine cI ?_
    refine x_si (ls1 := [some (vR (some 2281)), some (vI p), some (vI n), none, none]) T_391_8 rfl ?_
    refine x_li (z := n) T_391_9 rfl ?_
    refine x_if T_391_10 (fun h => absurd (show 0 ≤ n from h) (by omega)) (fun _ => ?_)
    refine x_ic T_391_13 ?_
    refine x_goto T_391_15 ?_
    refine x_si (ls1 := [some (vR (some 2281)), some (vI p), some (vI n), some (vI 18), none]) T_391_25 rfl ?_
    refine x_li (z := 18) T_391_26 rfl ?_
    refine x_if T_391_27 (fun h => absurd (show (18 : Int) ≤ 0 from h) (by decide)) (fun _ => ?_)
    refine x_li (z := 18) T_391_30 rfl ?_
    refine x_ri T_391_31 ?_
    exact ⟨S, rfl, hP, hK.mono (by omega), SX_rfl⟩
  rw [if_neg q0]
  obtain ⟨e, he⟩ : ∃ e, (kWW P p 0 (lnB l 2)).1 = e := ⟨_, rfl⟩
  obtain ⟨P1, hP1⟩ : ∃ P1, (kWW P p 0 (lnB l 2)).2.1 = P1 := ⟨_, rfl⟩
  obtain ⟨c, hc⟩ : ∃ c, (kWW P p 0 (lnB l 2)).2.2 = c := ⟨_, rfl⟩
  rw [he, hP1] at hkf
  rw [he, hP1, hc] at hww
  rw [he, hP1, hc]
  by_cases q1 : 0 < e
  · rw [if_pos q1]
    dsimp only
    rw [kHoldn (by omega)] at hww
    refine CL_in mL_391 rfl ?_
    show WP fb _ 391 0 [some (vR (some 2281)), some (vI p), none, none, none] [] σ _
    refine x_lr (z := some 2281) T_391_0 rfl ?_
    refine x_ic T_391_1 ?_
    refine x_ic T_391_2 ?_
    refine x_ic T_391_4 ?_
    refine x_cv4 T_391_5 mN_390 mL_390 (Nat.le_of_ble_eq_true rfl) mO_390 (PM.t hP) (Nat.le_of_ble_eq_true rfl) (hnb) ?_
    rintro _ σ ⟨rfl, rfl⟩
    refine cI ?_
    refine x_si (ls1 := [some (vR (some 2281)), some (vI p), some (vI n), none, none]) T_391_8 rfl ?_
    refine x_li (z := n) T_391_9 rfl ?_
    refine x_if T_391_10 (fun _ => ?_) (fun h => absurd (show 0 ≤ n by omega) h)
    refine x_lr (z := some 2281) T_391_18 rfl ?_
    refine x_li (z := p) T_391_19 rfl ?_
    refine x_ic T_391_20 ?_
    refine x_ic T_391_21 ?_
    refine x_cv4 T_391_22 mN_327 mL_327 (Nat.le_of_ble_eq_true rfl) mO_327 (PM.t hP) (Nat.le_of_ble_eq_true rfl) (hww) ?_
    clear hP hww hnb
    rintro _ σ ⟨S2, rfl, hP, hK2, hX2, -⟩
    refine cI ?_
    refine x_si (ls1 := [some (vR (some 2281)), some (vI p), some (vI n), some (vI e), none]) T_391_25 rfl ?_
    refine x_li (z := e) T_391_26 rfl ?_
    refine x_if T_391_27 (fun h => absurd (show e ≤ 0 from h) (by omega)) (fun _ => ?_)
    refine x_li (z := e) T_391_30 rfl ?_
    refine x_ri T_391_31 ?_
    exact ⟨S2, rfl, hP, hK2.mono (by omega), hX2⟩
  rw [if_neg q1]
  have q2 : e = 0 := by omega
  subst q2
  rw [kHold0] at hww
  unfold cChm2
  obtain ⟨A, hA0⟩ : ∃ A, tA P1 c.1 (mOne 124 c.2.1) = A := ⟨_, rfl⟩
  obtain ⟨P2, hP2⟩ : ∃ P2, tP P1 c.1 (mOne 124 c.2.1) = P2 := ⟨_, rfl⟩
  have her := tE_rng (P := P1) (s := c.1) (l := mOne 124 c.2.1)
  have hst : 0 ≤ c.1 ∧ c.1 < 3 → tE P1 c.1 (mOne 124 c.2.1) = 0 → 50 ≤ A.length := fun hs hz => by
    obtain ⟨n, h1, -⟩ := stat_ok (P := P1) hs hz
    rw [hA0] at h1
    rw [h1]
    have := statL_ge (P := gM1 P1 (seg (msgA (mOne 124 c.2.1)) 0 (4 + ((mOne 124 c.2.1).length : Int)).toNat)) (s := c.1) (n := n)
    unfold ansL
    simp only [List.length_append, leb_len, List.length_cons, List.length_nil]
    omega
  obtain ⟨e2, he2⟩ : ∃ e2, tE P1 c.1 (mOne 124 c.2.1) = e2 := ⟨_, rfl⟩
  rw [he2] at her hst
  rw [he2, hP2, hA0]
  by_cases q3 : 0 < e2
  · rw [if_pos q3]
    dsimp only
    refine CL_in mL_391 rfl ?_
    show WP fb _ 391 0 [some (vR (some 2281)), some (vI p), none, none, none] [] σ _
    refine x_lr (z := some 2281) T_391_0 rfl ?_
    refine x_ic T_391_1 ?_
    refine x_ic T_391_2 ?_
    refine x_ic T_391_4 ?_
    refine x_cv4 T_391_5 mN_390 mL_390 (Nat.le_of_ble_eq_true rfl) mO_390 (PM.t hP) (Nat.le_of_ble_eq_true rfl) (hnb) ?_
    rintro _ σ ⟨rfl, rfl⟩
    refine cI ?_
    refine x_si (ls1 := [some (vR (some 2281)), some (vI p), some (vI n), none, none]) T_391_8 rfl ?_
    refine x_li (z := n) T_391_9 rfl ?_
    refine x_if T_391_10 (fun _ => ?_) (fun h => absurd (show 0 ≤ n by omega) h)
    refine x_lr (z := some 2281) T_391_18 rfl ?_
    refine x_li (z := p) T_391_19 rfl ?_
    refine x_ic T_391_20 ?_
    refine x_ic T_391_21 ?_
    refine x_cv4 T_391_22 mN_327 mL_327 (Nat.le_of_ble_eq_true rfl) mO_327 (PM.t hP) (Nat.le_of_ble_eq_true rfl) (hww) ?_
    clear hP hww hnb
    rintro _ σ ⟨S2, rfl, hP, hK2, hX2, -⟩
    obtain ⟨g1, g2, g3, g4, g5, g6, g7⟩ := hK2.2.2.2.1.last
    obtain ⟨c1, c2, -⟩ := hK2.2.2.2.1.ch hK2.2.2.1
    refine cI ?_
    refine x_si (ls1 := [some (vR (some 2281)), some (vI p), some (vI n), some (vI 0), none]) T_391_25 rfl ?_
    refine x_li (z := 0) T_391_26 rfl ?_
    refine x_if T_391_27 (fun _ => ?_) (fun h => absurd (show (0 : Int) ≤ 0 by decide) h)
    refine x_lr (z := some 2281) T_391_32 rfl ?_
    refine x_gI (z := 1) T_391_33 (Or.inl F_17_91) (PM.t hP) (Eq.trans (PM.nS hP 2281 91 91 rfl rfl rfl) g1) ?_
    refine x_ic T_391_36 ?_
    refine x_ib (w := 0) T_391_37 (fun h => absurd h.1 (by decide)) (by decide) ?_
    refine x_si (ls1 := [some (vR (some 2281)), some (vI p), some (vI n), some (vI 0), some (vI 0)]) T_391_38 rfl ?_
    refine x_lr (z := some 2281) T_391_40 rfl ?_
    refine x_ic T_391_41 ?_
    refine x_lr (z := some 2281) T_391_43 rfl ?_
    refine x_gR (z := some 2350) T_391_44 F_17_86 (PM.t hP) (PM.r hP 86 2350 rfl) ?_
    refine x_li (z := 0) T_391_47 rfl ?_
    refine x_alI (z := c.1) T_391_49 (by decide) (PM.ta hP 2350 0 64 rfl rfl) (by omega) (by omega) (Eq.trans (PM.aS hP 2350 rfl rfl (by omega)) g3) ?_
    refine x_lr (z := some 2281) T_391_50 rfl ?_
    refine x_gR (z := some 2351) T_391_51 F_17_87 (PM.t hP) (PM.r hP 87 2351 rfl) ?_
    refine x_li (z := 0) T_391_54 rfl ?_
    refine x_alI (z := c.2.1) T_391_56 (by decide) (PM.ta hP 2351 0 64 rfl rfl) (by omega) (by omega) (Eq.trans (PM.aS hP 2351 rfl rfl (by omega)) g4) ?_
    refine x_cv4 T_391_57 mN_345 mL_345 (Nat.le_of_ble_eq_true rfl) mO_345 (PM.t hP) (Nat.le_of_ble_eq_true rfl) (g_askOne hP hK2.2.2.1 hK2.1 (by omega) (by omega) (Or.inr (Or.inr rfl))) ?_
    clear hP
    intro r σ hr
    obtain ⟨S3, hr0, hP, hK3, hX3, -⟩ := hK2.ask (T1 := T + 308) (by omega) hr
    rw [he2] at hr0
    subst hr0
    rw [hP2] at hP hK3
    refine cI ?_
    refine x_si (ls1 := [some (vR (some 2281)), some (vI p), some (vI n), some (vI e2), some (vI 0)]) T_391_60 rfl ?_
    refine x_li (z := e2) T_391_61 rfl ?_
    refine x_if T_391_62 (fun h => absurd (show e2 ≤ 0 from h) (by omega)) (fun _ => ?_)
    refine x_li (z := e2) T_391_65 rfl ?_
    refine x_goto T_391_66 ?_
    refine x_ri T_391_106 ?_
    exact ⟨S3, rfl, hP, hK3, SX_tr hX2 hX3⟩
  rw [if_neg q3]
  dsimp only
  have q4 : e2 = 0 := by omega
  subst q4
  obtain ⟨md, hmd⟩ : ∃ md, or64 (and64 (nu (lg A) 30 4) (-512)) n = md := ⟨_, rfl⟩
  rw [hmd]
  refine CL_in mL_391 rfl ?_
  show WP fb _ 391 0 [some (vR (some 2281)), some (vI p), none, none, none] [] σ _
  refine x_lr (z := some 2281) T_391_0 rfl ?_
  refine x_ic T_391_1 ?_
  refine x_ic T_391_2 ?_
  refine x_ic T_391_4 ?_
  refine x_cv4 T_391_5 mN_390 mL_390 (Nat.le_of_ble_eq_true rfl) mO_390 (PM.t hP) (Nat.le_of_ble_eq_true rfl) (hnb) ?_
  rintro _ σ ⟨rfl, rfl⟩
  refine cI ?_
  refine x_si (ls1 := [some (vR (some 2281)), some (vI p), some (vI n), none, none]) T_391_8 rfl ?_
  refine x_li (z := n) T_391_9 rfl ?_
  refine x_if T_391_10 (fun _ => ?_) (fun h => absurd (show 0 ≤ n by omega) h)
  refine x_lr (z := some 2281) T_391_18 rfl ?_
  refine x_li (z := p) T_391_19 rfl ?_
  refine x_ic T_391_20 ?_
  refine x_ic T_391_21 ?_
  refine x_cv4 T_391_22 mN_327 mL_327 (Nat.le_of_ble_eq_true rfl) mO_327 (PM.t hP) (Nat.le_of_ble_eq_true rfl) (hww) ?_
  clear hP hww hnb
  rintro _ σ ⟨S2, rfl, hP, hK2, hX2, -⟩
  obtain ⟨g1, g2, g3, g4, g5, g6, g7⟩ := hK2.2.2.2.1.last
  obtain ⟨c1, c2, -⟩ := hK2.2.2.2.1.ch hK2.2.2.1
  refine cI ?_
  refine x_si (ls1 := [some (vR (some 2281)), some (vI p), some (vI n), some (vI 0), none]) T_391_25 rfl ?_
  refine x_li (z := 0) T_391_26 rfl ?_
  refine x_if T_391_27 (fun _ => ?_) (fun h => absurd (show (0 : Int) ≤ 0 by decide) h)
  refine x_lr (z := some 2281) T_391_32 rfl ?_
  refine x_gI (z := 1) T_391_33 (Or.inl F_17_91) (PM.t hP) (Eq.trans (PM.nS hP 2281 91 91 rfl rfl rfl) g1) ?_
  refine x_ic T_391_36 ?_
  refine x_ib (w := 0) T_391_37 (fun h => absurd h.1 (by decide)) (by decide) ?_
  refine x_si (ls1 := [some (vR (some 2281)), some (vI p), some (vI n), some (vI 0), some (vI 0)]) T_391_38 rfl ?_
  refine x_lr (z := some 2281) T_391_40 rfl ?_
  refine x_ic T_391_41 ?_
  refine x_lr (z := some 2281) T_391_43 rfl ?_
  refine x_gR (z := some 2350) T_391_44 F_17_86 (PM.t hP) (PM.r hP 86 2350 rfl) ?_
  refine x_li (z := 0) T_391_47 rfl ?_
  refine x_alI (z := c.1) T_391_49 (by decide) (PM.ta hP 2350 0 64 rfl rfl) (by omega) (by omega) (Eq.trans (PM.aS hP 2350 rfl rfl (by omega)) g3) ?_
  refine x_lr (z := some 2281) T_391_50 rfl ?_
  refine x_gR (z := some 2351) T_391_51 F_17_87 (PM.t hP) (PM.r hP 87 2351 rfl) ?_
  refine x_li (z := 0) T_391_54 rfl ?_
  refine x_alI (z := c.2.1) T_391_56 (by decide) (PM.ta hP 2351 0 64 rfl rfl) (by omega) (by omega) (Eq.trans (PM.aS hP 2351 rfl rfl (by omega)) g4) ?_
  refine x_cv4 T_391_57 mN_345 mL_345 (Nat.le_of_ble_eq_true rfl) mO_345 (PM.t hP) (Nat.le_of_ble_eq_true rfl) (g_askOne hP hK2.2.2.1 hK2.1 (by omega) (by omega) (Or.inr (Or.inr rfl))) ?_
  clear hP
  intro r σ hr
  obtain ⟨S3, hr0, hP, hK3, hX3, hA⟩ := hK2.ask (T1 := T + 304) (by omega) hr
  rw [he2] at hr0
  subst hr0
  rw [hP2] at hP hK3
  rw [hA0] at hA
  refine cI ?_
  refine x_si (ls1 := [some (vR (some 2281)), some (vI p), some (vI n), some (vI 0), some (vI 0)]) T_391_60 rfl ?_
  refine x_li (z := 0) T_391_61 rfl ?_
  refine x_if T_391_62 (fun _ => ?_) (fun h => absurd (show (0 : Int) ≤ 0 by decide) h)
  have h50 := hst (by omega) rfl
  have hnr := nu_rng (f := lg A) (i := 30) 4 (fun k hk => hA.2.2.2 _ (by omega))
  have e4 : (256 : Int) ^ 4 = 4294967296 := by decide
  obtain ⟨g1, g2, g3, g4, g5, g6, g7⟩ := hK3.2.2.2.1.last
  have htold := fun (σ : hM) (hP : PM σ0 P2 S3 σ) => (CL.mono (m_told (fb := fb) (d := d + 15) hP hK3.2.2.1 (p := 30) (n := 4) (by decide) (by decide) (by decide)) (fun r σ1 hr => by rw [show ((4 : Int)).toNat = 4 from rfl, AN_nu hA (by decide) (by omega), w64_id (by omega) (by omega)] at hr; exact hr) : CL fb (d + 15) 339 [vR (some 2281), vI 30, vI 4] σ (rPL (nu (lg A) 30 4) σ))
  refine x_lr (z := some 2281) T_391_69 rfl ?_
  refine x_lr (z := some 2281) T_391_70 rfl ?_
  refine x_gR (z := some 2350) T_391_71 F_17_86 (PM.t hP) (PM.r hP 86 2350 rfl) ?_
  refine x_li (z := 0) T_391_74 rfl ?_
  refine x_alI (z := c.1) T_391_76 (by decide) (PM.ta hP 2350 0 64 rfl rfl) (by omega) (by omega) (Eq.trans (PM.aS hP 2350 rfl rfl (by omega)) g3) ?_
  refine x_lr (z := some 2281) T_391_77 rfl ?_
  refine x_gR (z := some 2351) T_391_78 F_17_87 (PM.t hP) (PM.r hP 87 2351 rfl) ?_
  refine x_li (z := 0) T_391_81 rfl ?_
  refine x_alI (z := c.2.1) T_391_83 (by decide) (PM.ta hP 2351 0 64 rfl rfl) (by omega) (by omega) (Eq.trans (PM.aS hP 2351 rfl rfl (by omega)) g4) ?_
  refine x_ic T_391_84 ?_
  refine x_ic T_391_85 ?_
  refine x_lr (z := some 2281) T_391_86 rfl ?_
  refine x_ic T_391_87 ?_
  refine x_ic T_391_89 ?_
  refine x_cv3 T_391_90 mN_339 mL_339 (Nat.le_of_ble_eq_true rfl) mO_339 (PM.t hP) (Nat.le_of_ble_eq_true rfl) (htold σ hP) ?_
  rintro _ σ ⟨rfl, rfl⟩
  refine cL ?_
  refine x_lc T_391_93 ?_
  refine x_lb (w := (and64 (nu (lg A) 30 4) (-512))) T_391_96 (fun h => absurd h.1 (by decide)) rfl ?_
  refine x_li (z := n) T_391_97 rfl ?_
  refine x_i2l T_391_98 ?_
  refine x_lb (w := md) T_391_99 (fun h => absurd h.1 (by decide)) hmd ?_
  refine x_lc T_391_100 ?_
  refine x_cv7 T_391_103 mN_389 mL_389 (Nat.le_of_ble_eq_true rfl) mO_389 (PM.t hP) (Nat.le_of_ble_eq_true rfl) (g_askWstat hP hK3.2.2.1 hK3.1 (by omega) (by omega) ⟨by decide, by decide, by decide⟩ (nm := []) rfl) ?_
  clear hP
  intro r σ hr
  obtain ⟨S4, rfl, hP, hK4, hX4, -⟩ := hK3.ask (T1 := T + 308) (by omega) hr
  refine cI ?_
  refine x_ri T_391_106 ?_
  exact ⟨S4, rfl, hP, hK4, SX_tr hX2 (SX_tr hX3 hX4)⟩
end MWRT
