/-! The class's commands: ls. -/
theorem T_138_0 : hTab 138 0 = some ((3, 2, 2, []), 1) := rfl
theorem T_138_1 : hTab 138 1 = some ((24, 16, Int.ofNat 4, []), 4) := rfl
theorem T_138_4 : hTab 138 4 = some ((0, 0, 2, []), 5) := rfl
theorem T_138_5 : hTab 138 5 = some ((19, 0, Int.ofNat 11, []), 8) := rfl
theorem T_138_11 : hTab 138 11 = some ((3, 0, 2, []), 12) := rfl
theorem T_138_12 : hTab 138 12 = some ((24, 14, Int.ofNat 0, []), 15) := rfl
theorem T_138_15 : hTab 138 15 = some ((3, 1, 2, []), 16) := rfl
theorem T_138_16 : hTab 138 16 = some ((3, 2, 2, []), 17) := rfl
theorem T_138_17 : hTab 138 17 = some ((0, 0, 1, []), 18) := rfl
theorem T_138_18 : hTab 138 18 = some ((3, 0, 2, []), 19) := rfl
theorem T_138_19 : hTab 138 19 = some ((24, 14, Int.ofNat 2, []), 22) := rfl
theorem T_138_22 : hTab 138 22 = some ((0, 0, 1, []), 23) := rfl
theorem T_138_23 : hTab 138 23 = some ((31, 117, 0, []), 26) := rfl
theorem T_138_26 : hTab 138 26 = some ((4, 3, 0, []), 27) := rfl
theorem T_138_27 : hTab 138 27 = some ((3, 3, 0, []), 28) := rfl
theorem T_138_28 : hTab 138 28 = some ((18, 0, Int.ofNat 33, []), 31) := rfl
theorem T_138_31 : hTab 138 31 = some ((3, 3, 0, []), 32) := rfl
theorem T_138_32 : hTab 138 32 = some ((33, 1, 0, []), 33) := rfl
theorem T_138_33 : hTab 138 33 = some ((3, 0, 2, []), 34) := rfl
theorem T_138_34 : hTab 138 34 = some ((24, 14, Int.ofNat 2, []), 37) := rfl
theorem T_138_37 : hTab 138 37 = some ((24, 5, Int.ofNat 4, []), 40) := rfl
theorem T_138_40 : hTab 138 40 = some ((4, 4, 2, []), 42) := rfl
theorem T_138_42 : hTab 138 42 = some ((3, 0, 2, []), 43) := rfl
theorem T_138_43 : hTab 138 43 = some ((24, 14, Int.ofNat 2, []), 46) := rfl
theorem T_138_46 : hTab 138 46 = some ((24, 5, Int.ofNat 3, []), 49) := rfl
theorem T_138_49 : hTab 138 49 = some ((18, 0, Int.ofNat 57, []), 52) := rfl
theorem T_138_52 : hTab 138 52 = some ((3, 4, 2, []), 54) := rfl
theorem T_138_54 : hTab 138 54 = some ((20, 0, Int.ofNat 69, []), 57) := rfl
theorem T_138_57 : hTab 138 57 = some ((3, 0, 2, []), 58) := rfl
theorem T_138_58 : hTab 138 58 = some ((24, 14, Int.ofNat 0, []), 61) := rfl
theorem T_138_61 : hTab 138 61 = some ((3, 0, 2, []), 62) := rfl
theorem T_138_62 : hTab 138 62 = some ((24, 14, Int.ofNat 2, []), 65) := rfl
theorem T_138_65 : hTab 138 65 = some ((31, 132, 0, []), 68) := rfl
theorem T_138_68 : hTab 138 68 = some ((7, 0, 0, []), 69) := rfl
theorem T_138_69 : hTab 138 69 = some ((3, 0, 2, []), 70) := rfl
theorem T_138_70 : hTab 138 70 = some ((24, 14, Int.ofNat 2, []), 73) := rfl
theorem T_138_73 : hTab 138 73 = some ((24, 5, Int.ofNat 3, []), 76) := rfl
theorem T_138_76 : hTab 138 76 = some ((18, 1, Int.ofNat 81, []), 79) := rfl
theorem T_138_79 : hTab 138 79 = some ((0, 0, 2, []), 80) := rfl
theorem T_138_80 : hTab 138 80 = some ((33, 1, 0, []), 81) := rfl
theorem T_138_81 : hTab 138 81 = some ((3, 4, 2, []), 83) := rfl
theorem T_138_83 : hTab 138 83 = some ((20, 1, Int.ofNat 95, []), 86) := rfl
theorem T_138_86 : hTab 138 86 = some ((3, 0, 2, []), 87) := rfl
theorem T_138_87 : hTab 138 87 = some ((3, 1, 2, []), 88) := rfl
theorem T_138_88 : hTab 138 88 = some ((24, 6, Int.ofNat 2, []), 91) := rfl
theorem T_138_91 : hTab 138 91 = some ((31, 139, 0, []), 94) := rfl
theorem T_138_94 : hTab 138 94 = some ((33, 1, 0, []), 95) := rfl
theorem T_138_95 : hTab 138 95 = some ((0, 0, 0, []), 96) := rfl
theorem T_138_96 : hTab 138 96 = some ((4, 5, 0, []), 98) := rfl
theorem T_138_98 : hTab 138 98 = some ((3, 5, 0, []), 100) := rfl
theorem T_138_100 : hTab 138 100 = some ((3, 4, 2, []), 102) := rfl
theorem T_138_102 : hTab 138 102 = some ((24, 4, Int.ofNat 3, []), 105) := rfl
theorem T_138_105 : hTab 138 105 = some ((19, 3, Int.ofNat 163, []), 108) := rfl
theorem T_138_108 : hTab 138 108 = some ((3, 3, 0, []), 109) := rfl
theorem T_138_109 : hTab 138 109 = some ((18, 1, Int.ofNat 163, []), 112) := rfl
theorem T_138_112 : hTab 138 112 = some ((3, 4, 2, []), 114) := rfl
theorem T_138_114 : hTab 138 114 = some ((3, 5, 0, []), 116) := rfl
theorem T_138_116 : hTab 138 116 = some ((31, 130, 0, []), 119) := rfl
theorem T_138_119 : hTab 138 119 = some ((4, 6, 2, []), 121) := rfl
theorem T_138_121 : hTab 138 121 = some ((3, 6, 2, []), 123) := rfl
theorem T_138_123 : hTab 138 123 = some ((20, 0, Int.ofNat 157, []), 126) := rfl
theorem T_138_126 : hTab 138 126 = some ((3, 0, 2, []), 127) := rfl
theorem T_138_127 : hTab 138 127 = some ((24, 14, Int.ofNat 0, []), 130) := rfl
theorem T_138_130 : hTab 138 130 = some ((3, 6, 2, []), 132) := rfl
theorem T_138_132 : hTab 138 132 = some ((3, 0, 2, []), 133) := rfl
theorem T_138_133 : hTab 138 133 = some ((24, 14, Int.ofNat 2, []), 136) := rfl
theorem T_138_136 : hTab 138 136 = some ((31, 141, 0, []), 139) := rfl
theorem T_138_139 : hTab 138 139 = some ((4, 3, 0, []), 140) := rfl
theorem T_138_140 : hTab 138 140 = some ((3, 3, 0, []), 141) := rfl
theorem T_138_141 : hTab 138 141 = some ((18, 1, Int.ofNat 155, []), 144) := rfl
theorem T_138_144 : hTab 138 144 = some ((3, 0, 2, []), 145) := rfl
theorem T_138_145 : hTab 138 145 = some ((3, 1, 2, []), 146) := rfl
theorem T_138_146 : hTab 138 146 = some ((24, 6, Int.ofNat 2, []), 149) := rfl
theorem T_138_149 : hTab 138 149 = some ((31, 139, 0, []), 152) := rfl
theorem T_138_152 : hTab 138 152 = some ((22, 0, Int.ofNat 156, []), 155) := rfl
theorem T_138_155 : hTab 138 155 = some ((3, 3, 0, []), 156) := rfl
theorem T_138_156 : hTab 138 156 = some ((4, 3, 0, []), 157) := rfl
theorem T_138_157 : hTab 138 157 = some ((5, 5, 1, []), 160) := rfl
theorem T_138_160 : hTab 138 160 = some ((22, 0, Int.ofNat 98, []), 163) := rfl
theorem T_138_163 : hTab 138 163 = some ((3, 3, 0, []), 164) := rfl
theorem T_138_164 : hTab 138 164 = some ((33, 1, 0, []), 165) := rfl
theorem mN_138 : hmN 138 = 3 := by decide +kernel
theorem mL_138 : hmL 138 = 7 := by decide +kernel
theorem mK_138 : hmK 138 = 1 := by decide +kernel
theorem mO_138 : hmO 138 = 14 := by decide +kernel
section XLSV
variable {fb : Bool} {d S b c q n0 a0 k tb y0 : Nat} {σ0 σ : hM} {W W0 W1 W2 V V1 P Q : qR} {R R1 R2 V3 : rR} {i j x z v s e w f g u p p2 K T U t a dd pa kd cp dr md off pt o n : Int} {l l0 lo nm M wd A : List Int}
theorem x_ls_mem (hp : 0 ≤ p ∧ p < 8) (hpt : 0 ≤ pt ∧ pt < 64) (hn : n ≤ 6) (hk : tX k = some (Sum.inl 16)) (hy0 : R (grO (pt / 8) + 1) (pt % 8) = some y0) : ∀ (m : Nat) (j T : Int) (σ : hM) (V : qR) (V3 : rR) (Q : qR) (x6 : Option AV), j + m = n → 0 ≤ j → Q 2337 pt = n → pt % 8 < Q 2334 (pt / 8) → lsMok p pt m j Q → T + 280 * m + 900 ≤ 2147483000 → PX σ0 V V3 σ → XW K T U V V3 Q → ¬ Q 2320 p = 0 → FCM W V R V3 → RG R V3 → WP fb (d + 10) 138 98 [some (vR (some 2175)), some (vR (some (prO p))), some (vR (some k)), some (vI 0), some (vR (some y0)), some (vI j), x6] [] σ (XCM σ0 K (T + 280 * m) U W R (lsM p pt m j Q)) := by
  intro m
  induction m with
  | zero =>
    intro j T σ V V3 Q x6 h1 h2 h3 h4 hO h5 hP hX hlv hF hRG
    have h1 : j + ((0 : Nat) : Int) = n := h1
    have hI := hX.1.2.2.2.1.iv
    obtain ⟨y1, hy1, hM⟩ := PTM_of (hX.1.2.2.1.2.1 (pt / 8) (by omega) (by omega)) ⟨by omega, by omega⟩ hI (k := pt % 8) ⟨by omega, h4⟩
    rw [show 8 * (pt / 8) + pt % 8 = pt by omega] at hM
    have hrg := grO_rng (g := pt / 8) ⟨by omega, by omega⟩
    have : y1 = y0 := Option.some.inj (hy1.symm.trans ((hRG _ _ (by omega) (by omega)).trans hy0))
    subst this
    obtain ⟨hyo, hya, hyr, hyc, hym⟩ := hM
    have hyc := hyc.trans h3
    have hpo := prO_o hp
    show WP fb (d + 10) 138 98 _ [] σ (XCM σ0 K (T + 280 * ((0 : Nat) : Int)) U W R (0, Q, []))
    obtain ⟨pr, hpr⟩ : ∃ q, prO p = q := ⟨_, rfl⟩
    rw [hpr] at hpo ⊢
    refine x_li (z := j) T_138_98 rfl ?_
    refine x_lr (z := some y1) T_138_100 rfl ?_
    refine x_gI (z := n) T_138_102 (Or.inl F_4_3) (hP.o hyo) (Eq.trans (hP.gi hyo (key := 2131) rfl) hyc) ?_
    refine x_ic2 T_138_105 (fun _ => ?_) (fun h => absurd (show n ≤ j by omega) h)
    refine x_li (z := 0) T_138_163 rfl ?_
    refine x_ri T_138_164 ?_
    exact ⟨rfl, V, V3, hP, XW.mono hX (by omega), hF⟩
  | succ m ih =>
    intro j T σ V V3 Q x6 h1 h2 h3 h4 hO h5 hP hX hlv hF hRG
    have hI := hX.1.2.2.2.1.iv
    obtain ⟨y1, hy1, hM⟩ := PTM_of (hX.1.2.2.1.2.1 (pt / 8) (by omega) (by omega)) ⟨by omega, by omega⟩ hI (k := pt % 8) ⟨by omega, h4⟩
    rw [show 8 * (pt / 8) + pt % 8 = pt by omega] at hM
    have hrg := grO_rng (g := pt / 8) ⟨by omega, by omega⟩
    have : y1 = y0 := Option.some.inj (hy1.symm.trans ((hRG _ _ (by omega) (by omega)).trans hy0))
    subst this
    have hb1 : 0 ≤ Q 2338 (6 * pt + j) ∧ Q 2338 (6 * pt + j) ≤ 2 := IV.a hI 2338 0 384 rfl rfl rfl (by omega) (by omega)
    have hb2 : 0 ≤ Q 2339 (6 * pt + j) ∧ Q 2339 (6 * pt + j) ≤ 47 := IV.a hI 2339 0 384 rfl rfl rfl (by omega) (by omega)
    obtain ⟨hyo, hya, hyr, hyc, hym⟩ := hM
    have hyc := hyc.trans h3
    obtain ⟨c0, c1, c2, c3, m1, m2, m3, m4, -⟩ := hym j h2 (by omega)
    have hmo := x_memberOf (fb := fb) (d := d + 9) (k := j) hP hyo hya (by omega) hyc ⟨by omega, hn⟩ (fun _ _ => c1)
    rw [if_pos ⟨h2, by omega⟩] at hmo
    unfold lsMok at hO
    have eK : lsM p pt (m + 1) j Q = if 0 < kCpE Q (Q 2338 (6 * pt + j)) (Q 2339 (6 * pt + j)) then (kCpE Q (Q 2338 (6 * pt + j)) (Q 2339 (6 * pt + j)), kCpP Q (Q 2338 (6 * pt + j)) (Q 2339 (6 * pt + j)), []) else if 0 < (cList (kCpP Q (Q 2338 (6 * pt + j)) (Q 2339 (6 * pt + j))) p (Q 2338 (6 * pt + j), qNewF Q (Q 2338 (6 * pt + j)), Q 2340 (6 * pt + j), Q 2341 (6 * pt + j), -1)).1 then ((cList (kCpP Q (Q 2338 (6 * pt + j)) (Q 2339 (6 * pt + j))) p (Q 2338 (6 * pt + j), qNewF Q (Q 2338 (6 * pt + j)), Q 2340 (6 * pt + j), Q 2341 (6 * pt + j), -1)).1, (cList (kCpP Q (Q 2338 (6 * pt + j)) (Q 2339 (6 * pt + j))) p (Q 2338 (6 * pt + j), qNewF Q (Q 2338 (6 * pt + j)), Q 2340 (6 * pt + j), Q 2341 (6 * pt + j), -1)).2, [(Q 2338 (6 * pt + j), qNewF Q (Q 2338 (6 * pt + j)), Q 2340 (6 * pt + j), Q 2341 (6 * pt + j), -1)]) else lsM p pt m (j + 1) (kDrop (cList (kCpP Q (Q 2338 (6 * pt + j)) (Q 2339 (6 * pt + j))) p (Q 2338 (6 * pt + j), qNewF Q (Q 2338 (6 * pt + j)), Q 2340 (6 * pt + j), Q 2341 (6 * pt + j), -1)).2 (Q 2338 (6 * pt + j), qNewF Q (Q 2338 (6 * pt + j)), Q 2340 (6 * pt + j), Q 2341 (6 * pt + j), -1)) := rfl
    obtain ⟨sv, hsv⟩ : ∃ y, Q 2338 (6 * pt + j) = y := ⟨_, rfl⟩
    obtain ⟨fd, hfd⟩ : ∃ y, Q 2339 (6 * pt + j) = y := ⟨_, rfl⟩
    obtain ⟨pa, hpa⟩ : ∃ y, Q 2340 (6 * pt + j) = y := ⟨_, rfl⟩
    obtain ⟨ki, hki⟩ : ∃ y, Q 2341 (6 * pt + j) = y := ⟨_, rfl⟩
    rw [hsv] at m1 hb1
    rw [hfd] at m2 hb2
    rw [hpa] at m3
    rw [hki] at m4
    rw [hsv, hfd, hpa, hki] at hO eK
    rw [eK]
    have hcp := x_copyK (fb := fb) (d := d + 1) (kd := ki) (c := 2178) hP hX (by omega) c2 c3 m1 m2 m3 m4 rfl ⟨hb1.1, by omega⟩ hb2 one_o (by decide)
    have her := kCpE_rng (P := Q) (s := sv) (f := fd)
    have hkf : KF (kCpP Q sv fd) Q := KF_cp
    have hpo := prO_o hp
    obtain ⟨e, he⟩ : ∃ e, kCpE Q sv fd = e := ⟨_, rfl⟩
    obtain ⟨P1, hP1⟩ : ∃ P1, kCpP Q sv fd = P1 := ⟨_, rfl⟩
    obtain ⟨nf, hnf⟩ : ∃ q, qNewF Q sv = q := ⟨_, rfl⟩
    rw [he] at her hcp hO
    rw [hP1] at hkf
    rw [hP1, hnf] at hcp hO
    rw [he, hP1, hnf]
    have hot3 : tX (prO p + 3) = some (Sum.inl 2) := (LIV_out hX hp hlv).1
    by_cases q : e = 0
    rotate_left
    · rw [if_pos (show 0 < e by omega)]
      obtain ⟨pr, hpr⟩ : ∃ q, prO p = q := ⟨_, rfl⟩
      rw [hpr] at hpo ⊢
      have hend : ∀ (V5 : qR) (V6 : rR), FC 2178 V V5 V3 V6 → V5 y1 2131 = n := fun V5 V6 h => (h.1 _ _ (by omega) (by omega) (Or.inl (by omega)) (by omega) (by omega) (by omega) (by omega) (by omega) (by omega) (fun c => by unfold ioP at c; omega) (by omega)).trans hyc
      refine x_li (z := j) T_138_98 rfl ?_
      refine x_lr (z := some y1) T_138_100 rfl ?_
      refine x_gI (z := n) T_138_102 (Or.inl F_4_3) (hP.o hyo) (Eq.trans (hP.gi hyo (key := 2131) rfl) hyc) ?_
      refine x_ic2 T_138_105 (fun h => absurd (show n ≤ j from h) (by omega)) (fun _ => ?_)
      refine x_li (z := 0) T_138_108 rfl ?_
      refine x_if T_138_109 (fun h => absurd (show ¬ (0 : Int) = 0 from h) (by decide)) (fun _ => ?_)
      refine x_lr (z := some y1) T_138_112 rfl ?_
      refine x_li (z := j) T_138_114 rfl ?_
      refine x_cv2 T_138_116 mN_130 mL_130 (Nat.le_of_ble_eq_true rfl) mO_130 (hP.o hyo) (Nat.le_of_ble_eq_true rfl) (hmo) ?_
      rintro _ σ ⟨rfl, rfl⟩
      refine cR ?_
      refine x_sr (ls1 := [some (vR (some 2175)), some (vR (some pr)), some (vR (some k)), some (vI 0), some (vR (some y1)), some (vI j), some (vR (some c0))]) T_138_119 rfl ?_
      refine x_lr (z := some c0) T_138_121 rfl ?_
      refine x_nul T_138_123 (fun h0 => absurd h0 (by simp)) (fun _ _ => ?_)
      refine x_lr (z := some 2175) T_138_126 rfl ?_
      refine x_gR (z := some 129) T_138_127 F_14_0 (hP.o xo_2175) (hP.rc xo_2175 rfl rfl) ?_
      refine x_lr (z := some c0) T_138_130 rfl ?_
      refine x_lr (z := some 2175) T_138_132 rfl ?_
      refine x_gR (z := some 2178) T_138_133 F_14_2 (hP.o xo_2175) (hP.rc xo_2175 rfl rfl) ?_
      refine x_cv3 T_138_136 mN_141 mL_141 (Nat.le_of_ble_eq_true rfl) mO_141 (hP.o xo_129) (Nat.le_of_ble_eq_true rfl) (hcp) ?_
      clear hP hcp
      rintro _ σ ⟨rfl, V5, V6, hP, hX5, hc5, hF5⟩
      have hy5 := hend V5 V6 hF5
      refine cI ?_
      refine x_si (ls1 := [some (vR (some 2175)), some (vR (some pr)), some (vR (some k)), some (vI e), some (vR (some y1)), some (vI j), some (vR (some c0))]) T_138_139 rfl ?_
      refine x_li (z := e) T_138_140 rfl ?_
      refine x_if T_138_141 (fun _ => ?_) (fun h => absurd (show ¬ e = 0 by exact q) h)
      refine x_li (z := e) T_138_155 rfl ?_
      refine x_si (ls1 := [some (vR (some 2175)), some (vR (some pr)), some (vR (some k)), some (vI e), some (vR (some y1)), some (vI j), some (vR (some c0))]) T_138_156 rfl ?_
      refine x_inc (w := (j + 1)) (ls1 := [some (vR (some 2175)), some (vR (some pr)), some (vR (some k)), some (vI e), some (vR (some y1)), some (vI (j + 1)), some (vR (some c0))]) T_138_157 rfl (w32_id (by omega) (by omega)) rfl ?_
      refine x_goto T_138_160 ?_
      refine x_li (z := (j + 1)) T_138_98 rfl ?_
      refine x_lr (z := some y1) T_138_100 rfl ?_
      refine x_gI (z := n) T_138_102 (Or.inl F_4_3) (hP.o hyo) (Eq.trans (hP.gi hyo (key := 2131) rfl) hy5) ?_
      refine x_ic2 T_138_105 (fun h105 => ?_) (fun h105 => ?_)
      · replace h105 : n ≤ (j + 1) := h105
        refine x_li (z := e) T_138_163 rfl ?_
        refine x_ri T_138_164 ?_
        exact ⟨rfl, V5, V6, hP, XW.mono hX5 (by omega), FCM_tr hF (FCM_fk (FK_fc hF5) (by decide))⟩
      · replace h105 : ¬ (n ≤ (j + 1)) := h105
        refine x_li (z := e) T_138_108 rfl ?_
        refine x_if T_138_109 (fun _ => ?_) (fun h => absurd (show ¬ e = 0 by exact q) h)
        refine x_li (z := e) T_138_163 rfl ?_
        refine x_ri T_138_164 ?_
        exact ⟨rfl, V5, V6, hP, XW.mono hX5 (by omega), FCM_tr hF (FCM_fk (FK_fc hF5) (by decide))⟩
    subst q
    rw [if_neg (show ¬ (0 : Int) < 0 by decide)]
    obtain ⟨hDD, hO2⟩ := hO rfl
    have hlv1 : ¬ P1 2320 p = 0 := by
      rw [nsR_kf hkf 2320 _ rfl]
      exact hlv
    have hli := fun (σ : hM) (V5 : qR) (V6 : rR) (hcr : chR (sv, nf, pa, ki, -1)) (hP : PX σ0 V5 V6 σ) (hT : LSX K U W R p (sv, nf, pa, ki, -1) (T + 4) V5 V6 P1) => x_list (fb := fb) (d := d) hp hcr hDD (by omega) hP hT
    have hkl := KFO_list (P := P1) (p := p) (c := (sv, nf, pa, ki, -1))
    have hlr := cList_rng (P := P1) (p := p) (c := (sv, nf, pa, ki, -1))
    obtain ⟨eL, heL⟩ : ∃ e, (cList P1 p (sv, nf, pa, ki, -1)).1 = e := ⟨_, rfl⟩
    obtain ⟨P3, hP3⟩ : ∃ P3, (cList P1 p (sv, nf, pa, ki, -1)).2 = P3 := ⟨_, rfl⟩
    rw [hP3] at hkl
    rw [heL] at hlr
    simp only [heL, hP3] at hli hO2
    rw [heL, hP3]
    have hkd : KF (kDrop P3 (sv, nf, pa, ki, -1)) P3 := KF_tP
    have h33 : kDrop P3 (sv, nf, pa, ki, -1) 2337 pt = n := (hkd _ _ rfl (by decide) (by decide) (by decide)).trans ((hkl _ _ rfl (by decide) (by decide) (by decide) (by decide) (by decide)).trans ((hkf _ _ rfl (by decide) (by decide) (by decide)).trans h3))
    have h44 : pt % 8 < kDrop P3 (sv, nf, pa, ki, -1) 2334 (pt / 8) := by
      rw [(hkd 2334 (pt / 8) rfl (by decide) (by decide) (by decide)).trans ((hkl _ _ rfl (by decide) (by decide) (by decide) (by decide) (by decide)).trans (hkf _ _ rfl (by decide) (by decide) (by decide)))]
      exact h4
    have h55 : ¬ kDrop P3 (sv, nf, pa, ki, -1) 2320 p = 0 := by
      rw [(hkd 2320 p rfl (by decide) (by decide) (by decide)).trans ((hkl _ _ rfl (by decide) (by decide) (by decide) (by decide) (by decide)).trans (hkf _ _ rfl (by decide) (by decide) (by decide)))]
      exact hlv
    by_cases q3 : eL = 0
    · subst q3
      rw [if_neg (show ¬ (0 : Int) < 0 by decide)]
      have hgo := fun (σ : hM) (V7 : qR) (V8 : rR) (x6 : Option AV) (hP : PX σ0 V7 V8 σ) (hX7 : XW K (T + 272) U V7 V8 (kDrop P3 (sv, nf, pa, ki, -1))) (hF7 : FCM W V7 R V8) (hR7 : RG R V8) => (ih (j + 1) (T + 272) σ V7 V8 (kDrop P3 (sv, nf, pa, ki, -1)) x6 (by omega) (by omega) h33 h44 (hO2 rfl) (by omega) hP hX7 h55 hF7 hR7).mono (Q := XCM σ0 K (T + 280 * ((m + 1 : Nat) : Int)) U W R (lsM p pt m (j + 1) (kDrop P3 (sv, nf, pa, ki, -1)))) (fun r σ' h => by
        obtain ⟨r1, W2, R2, r2, r3, r4⟩ := h
        exact ⟨r1, W2, R2, r2, XW.mono r3 (by omega), r4⟩)
      obtain ⟨pr, hpr⟩ : ∃ q, prO p = q := ⟨_, rfl⟩
      simp only [hpr] at hpo hli hgo hot3 ⊢
      refine x_li (z := j) T_138_98 rfl ?_
      refine x_lr (z := some y1) T_138_100 rfl ?_
      refine x_gI (z := n) T_138_102 (Or.inl F_4_3) (hP.o hyo) (Eq.trans (hP.gi hyo (key := 2131) rfl) hyc) ?_
      refine x_ic2 T_138_105 (fun h => absurd (show n ≤ j from h) (by omega)) (fun _ => ?_)
      refine x_li (z := 0) T_138_108 rfl ?_
      refine x_if T_138_109 (fun h => absurd (show ¬ (0 : Int) = 0 from h) (by decide)) (fun _ => ?_)
      refine x_lr (z := some y1) T_138_112 rfl ?_
      refine x_li (z := j) T_138_114 rfl ?_
      refine x_cv2 T_138_116 mN_130 mL_130 (Nat.le_of_ble_eq_true rfl) mO_130 (hP.o hyo) (Nat.le_of_ble_eq_true rfl) (hmo) ?_
      rintro _ σ ⟨rfl, rfl⟩
      refine cR ?_
      refine x_sr (ls1 := [some (vR (some 2175)), some (vR (some pr)), some (vR (some k)), some (vI 0), some (vR (some y1)), some (vI j), some (vR (some c0))]) T_138_119 rfl ?_
      refine x_lr (z := some c0) T_138_121 rfl ?_
      refine x_nul T_138_123 (fun h0 => absurd h0 (by simp)) (fun _ _ => ?_)
      refine x_lr (z := some 2175) T_138_126 rfl ?_
      refine x_gR (z := some 129) T_138_127 F_14_0 (hP.o xo_2175) (hP.rc xo_2175 rfl rfl) ?_
      refine x_lr (z := some c0) T_138_130 rfl ?_
      refine x_lr (z := some 2175) T_138_132 rfl ?_
      refine x_gR (z := some 2178) T_138_133 F_14_2 (hP.o xo_2175) (hP.rc xo_2175 rfl rfl) ?_
      refine x_cv3 T_138_136 mN_141 mL_141 (Nat.le_of_ble_eq_true rfl) mO_141 (hP.o xo_129) (Nat.le_of_ble_eq_true rfl) (hcp) ?_
      clear hP hcp
      rintro _ σ ⟨rfl, V5, V6, hP, hX5, hc5, hF5⟩
      obtain ⟨hc6, hcr6⟩ := hc5 rfl
      refine cI ?_
      refine x_si (ls1 := [some (vR (some 2175)), some (vR (some pr)), some (vR (some k)), some (vI 0), some (vR (some y1)), some (vI j), some (vR (some c0))]) T_138_139 rfl ?_
      refine x_li (z := 0) T_138_140 rfl ?_
      refine x_if T_138_141 (fun h => absurd (show ¬ (0 : Int) = 0 from h) (by decide)) (fun _ => ?_)
      refine x_lr (z := some 2175) T_138_144 rfl ?_
      refine x_lr (z := some pr) T_138_145 rfl ?_
      refine x_gR (z := some (pr + 3)) T_138_146 F_6_2 (hP.o hpo) (hP.rc hpo rfl rfl) ?_
      refine x_cv2 T_138_149 mN_139 mL_139 (Nat.le_of_ble_eq_true rfl) mO_139 (hP.o xo_2175) (Nat.le_of_ble_eq_true rfl) (hli σ V5 V6 hcr6 hP ⟨hX5, hc6, hlv1, FCM_tr hF (FCM_fk (FK_fc hF5) (by decide)), RG_tr hRG (RG_fc hF5 (by decide))⟩) ?_
      clear hP hli
      rintro _ σ ⟨rfl, V7, V8, hP, hX7, hv7, hF7, hR7⟩
      refine cI ?_
      refine x_goto T_138_152 ?_
      refine x_si (ls1 := [some (vR (some 2175)), some (vR (some pr)), some (vR (some k)), some (vI 0), some (vR (some y1)), some (vI j), some (vR (some c0))]) T_138_156 rfl ?_
      refine x_inc (w := (j + 1)) (ls1 := [some (vR (some 2175)), some (vR (some pr)), some (vR (some k)), some (vI 0), some (vR (some y1)), some (vI (j + 1)), some (vR (some c0))]) T_138_157 rfl (w32_id (by omega) (by omega)) rfl ?_
      refine x_goto T_138_160 ?_
      exact hgo σ V7 V8 _ hP (XW.mono hX7 (by omega)) hF7 hR7
    · rw [if_pos (show 0 < eL by omega)]
      have hend : ∀ (V7 : qR) (V8 : rR), XW K (T + 4 + 268) U V7 V8 (kDrop P3 (sv, nf, pa, ki, -1)) → RG R V8 → V7 y1 2131 = n := fun V7 V8 hX7 hR7 => by
        obtain ⟨y2, hy2, hM2⟩ := PTM_of (hX7.1.2.2.1.2.1 (pt / 8) (by omega) (by omega)) ⟨by omega, by omega⟩ hX7.1.2.2.2.1.iv (k := pt % 8) ⟨by omega, h44⟩
        rw [show 8 * (pt / 8) + pt % 8 = pt by omega] at hM2
        have : y2 = y1 := Option.some.inj (hy2.symm.trans ((hR7 _ _ (by omega) (by omega)).trans hy0))
        subst this
        exact hM2.2.2.2.1.trans h33
      obtain ⟨pr, hpr⟩ : ∃ q, prO p = q := ⟨_, rfl⟩
      simp only [hpr] at hpo hli hot3 ⊢
      refine x_li (z := j) T_138_98 rfl ?_
      refine x_lr (z := some y1) T_138_100 rfl ?_
      refine x_gI (z := n) T_138_102 (Or.inl F_4_3) (hP.o hyo) (Eq.trans (hP.gi hyo (key := 2131) rfl) hyc) ?_
      refine x_ic2 T_138_105 (fun h => absurd (show n ≤ j from h) (by omega)) (fun _ => ?_)
      refine x_li (z := 0) T_138_108 rfl ?_
      refine x_if T_138_109 (fun h => absurd (show ¬ (0 : Int) = 0 from h) (by decide)) (fun _ => ?_)
      refine x_lr (z := some y1) T_138_112 rfl ?_
      refine x_li (z := j) T_138_114 rfl ?_
      refine x_cv2 T_138_116 mN_130 mL_130 (Nat.le_of_ble_eq_true rfl) mO_130 (hP.o hyo) (Nat.le_of_ble_eq_true rfl) (hmo) ?_
      rintro _ σ ⟨rfl, rfl⟩
      refine cR ?_
      refine x_sr (ls1 := [some (vR (some 2175)), some (vR (some pr)), some (vR (some k)), some (vI 0), some (vR (some y1)), some (vI j), some (vR (some c0))]) T_138_119 rfl ?_
      refine x_lr (z := some c0) T_138_121 rfl ?_
      refine x_nul T_138_123 (fun h0 => absurd h0 (by simp)) (fun _ _ => ?_)
      refine x_lr (z := some 2175) T_138_126 rfl ?_
      refine x_gR (z := some 129) T_138_127 F_14_0 (hP.o xo_2175) (hP.rc xo_2175 rfl rfl) ?_
      refine x_lr (z := some c0) T_138_130 rfl ?_
      refine x_lr (z := some 2175) T_138_132 rfl ?_
      refine x_gR (z := some 2178) T_138_133 F_14_2 (hP.o xo_2175) (hP.rc xo_2175 rfl rfl) ?_
      refine x_cv3 T_138_136 mN_141 mL_141 (Nat.le_of_ble_eq_true rfl) mO_141 (hP.o xo_129) (Nat.le_of_ble_eq_true rfl) (hcp) ?_
      clear hP hcp
      rintro _ σ ⟨rfl, V5, V6, hP, hX5, hc5, hF5⟩
      obtain ⟨hc6, hcr6⟩ := hc5 rfl
      refine cI ?_
      refine x_si (ls1 := [some (vR (some 2175)), some (vR (some pr)), some (vR (some k)), some (vI 0), some (vR (some y1)), some (vI j), some (vR (some c0))]) T_138_139 rfl ?_
      refine x_li (z := 0) T_138_140 rfl ?_
      refine x_if T_138_141 (fun h => absurd (show ¬ (0 : Int) = 0 from h) (by decide)) (fun _ => ?_)
      refine x_lr (z := some 2175) T_138_144 rfl ?_
      refine x_lr (z := some pr) T_138_145 rfl ?_
      refine x_gR (z := some (pr + 3)) T_138_146 F_6_2 (hP.o hpo) (hP.rc hpo rfl rfl) ?_
      refine x_cv2 T_138_149 mN_139 mL_139 (Nat.le_of_ble_eq_true rfl) mO_139 (hP.o xo_2175) (Nat.le_of_ble_eq_true rfl) (hli σ V5 V6 hcr6 hP ⟨hX5, hc6, hlv1, FCM_tr hF (FCM_fk (FK_fc hF5) (by decide)), RG_tr hRG (RG_fc hF5 (by decide))⟩) ?_
      clear hP hli
      rintro _ σ ⟨rfl, V7, V8, hP, hX7, hv7, hF7, hR7⟩
      have hy5 := hend V7 V8 hX7 hR7
      refine cI ?_
      refine x_goto T_138_152 ?_
      refine x_si (ls1 := [some (vR (some 2175)), some (vR (some pr)), some (vR (some k)), some (vI eL), some (vR (some y1)), some (vI j), some (vR (some c0))]) T_138_156 rfl ?_
      refine x_inc (w := (j + 1)) (ls1 := [some (vR (some 2175)), some (vR (some pr)), some (vR (some k)), some (vI eL), some (vR (some y1)), some (vI (j + 1)), some (vR (some c0))]) T_138_157 rfl (w32_id (by omega) (by omega)) rfl ?_
      refine x_goto T_138_160 ?_
      refine x_li (z := (j + 1)) T_138_98 rfl ?_
      refine x_lr (z := some y1) T_138_100 rfl ?_
      refine x_gI (z := n) T_138_102 (Or.inl F_4_3) (hP.o hyo) (Eq.trans (hP.gi hyo (key := 2131) rfl) hy5) ?_
      refine x_ic2 T_138_105 (fun h105 => ?_) (fun h105 => ?_)
      · replace h105 : n ≤ (j + 1) := h105
        refine x_li (z := eL) T_138_163 rfl ?_
        refine x_ri T_138_164 ?_
        exact ⟨rfl, V7, V8, hP, XW.mono hX7 (by omega), hF7⟩
      · replace h105 : ¬ (n ≤ (j + 1)) := h105
        refine x_li (z := eL) T_138_108 rfl ?_
        refine x_if T_138_109 (fun _ => ?_) (fun h => absurd (show ¬ eL = 0 by exact q3) h)
        refine x_li (z := eL) T_138_163 rfl ?_
        refine x_ri T_138_164 ?_
        exact ⟨rfl, V7, V8, hP, XW.mono hX7 (by omega), hF7⟩
theorem x_ls (hP : PX σ0 W R σ) (hX : XW K T U W R P) (hT : T + 3200 ≤ 2147483000) (hp : 0 ≤ p ∧ p < 8) (hlv : ¬ P 2320 p = 0) (hC : CMD W k l) (hw : ((lnW l).length : Int) = 2) (hO : lsOk P p (lnB l 1)) (hkd : (kWW P p 1 (lnB l 1)).1 = 0 → (and32 (kWW P p 1 (lnB l 1)).2.2.2.2.2.1 128 = 0 ↔ ¬ (kWW P p 1 (lnB l 1)).2.2.2.2.2.1 = 128)) : CL fb (d + 10) 138 [vR (some 2175), vR (some (prO p)), vR (some k)] σ (XCM σ0 K (T + 2000) U W R (cLs P p (lnB l 1))) := by
  have hre := x_reach (fb := fb) (d := d) (thr := 1) hP hX (by omega) hp hlv hC (w := 1) ⟨by decide, by omega⟩ one_o (by decide) (Or.inr rfl)
  have hpo := prO_o hp
  have hrp := prO_rng hp
  have h5 := hC.2.2.2.2.1.trans hw
  have hwf := (KF_kWW (thr := 1) (wd := lnB l 1) hX.1.2.2.2.1.iv hX.1.2.2.2.2.2.2 hp).1
  have hr0 := (KF_kWW (thr := 1) (wd := lnB l 1) hX.1.2.2.2.1.iv hX.1.2.2.2.2.2.2 hp).2
  have hpt := kWW_pt (thr := 1) (wd := lnB l 1) hX.1.2.2.2.1.iv hp
  have hot3 : tX (prO p + 3) = some (Sum.inl 2) := (LIV_out hX hp hlv).1
  have hIV := hX.1.2.2.2.1.iv
  have hgR : 0 ≤ P 2323 p ∧ P 2323 p ≤ 7 := IV.a hIV 2323 0 8 rfl rfl rfl (by omega) (by omega)
  have hpb : 0 ≤ P 2334 (P 2323 p) ∧ P 2334 (P 2323 p) ≤ 8 := IV.a hIV 2334 0 8 rfl rfl rfl (by omega) (by omega)
  unfold cLs
  unfold lsOk at hO
  obtain ⟨A, hA⟩ : ∃ A, kWW P p 1 (lnB l 1) = A := ⟨_, rfl⟩
  rw [hA] at hre hr0 hwf hkd hpt hO
  rw [hA]
  obtain ⟨e, Q, s, f, pa, kd, cp⟩ := A
  replace hwf : KF Q P := hwf
  replace hr0 : 0 ≤ e := hr0
  replace hkd : e = 0 → (and32 kd 128 = 0 ↔ ¬ kd = 128) := hkd
  replace hpt : ptV P p cp := hpt
  by_cases q4 : e = 0
  rotate_left
  · rw [if_pos (show 0 < e by omega)]
    obtain ⟨pr, hpr⟩ : ∃ q, prO p = q := ⟨_, rfl⟩
    rw [hpr] at hre hpo hot3 ⊢
    refine CL_in mL_138 rfl ?_
    show WP fb _ 138 0 [some (vR (some 2175)), some (vR (some pr)), some (vR (some k)), none, none, none, none] [] σ _
    refine x_lr (z := some k) T_138_0 rfl ?_
    refine x_gI (z := 2) T_138_1 (Or.inl F_16_4) (hP.o hC.1) (Eq.trans (hP.gi hC.1 (key := 2516) rfl) h5) ?_
    refine x_ic T_138_4 ?_
    refine x_ic2 T_138_5 (fun _ => ?_) (fun h => absurd (show (2 : Int) = 2 by decide) h)
    refine x_lr (z := some 2175) T_138_11 rfl ?_
    refine x_gR (z := some 129) T_138_12 F_14_0 (hP.o xo_2175) (hP.rc xo_2175 rfl rfl) ?_
    refine x_lr (z := some pr) T_138_15 rfl ?_
    refine x_lr (z := some k) T_138_16 rfl ?_
    refine x_ic T_138_17 ?_
    refine x_lr (z := some 2175) T_138_18 rfl ?_
    refine x_gR (z := some 2178) T_138_19 F_14_2 (hP.o xo_2175) (hP.rc xo_2175 rfl rfl) ?_
    refine x_ic T_138_22 ?_
    refine x_cv6 T_138_23 mN_117 mL_117 (Nat.le_of_ble_eq_true rfl) mO_117 (hP.o xo_129) (Nat.le_of_ble_eq_true rfl) (hre) ?_
    clear hP hre
    rintro _ σ ⟨rfl, V, V3, hP, hXV, hq, hFV⟩
    refine cI ?_
    refine x_si (ls1 := [some (vR (some 2175)), some (vR (some pr)), some (vR (some k)), some (vI e), none, none, none]) T_138_26 rfl ?_
    refine x_li (z := e) T_138_27 rfl ?_
    refine x_if T_138_28 (fun h => absurd (show e = 0 from h) (by omega)) (fun _ => ?_)
    refine x_li (z := e) T_138_31 rfl ?_
    refine x_ri T_138_32 ?_
    exact ⟨rfl, V, V3, hP, XW.mono hXV (by omega), FCM_fk hFV (by decide)⟩
  subst q4
  rw [if_neg (show ¬ (0 : Int) < 0 by decide)]
  have hkd := hkd rfl
  have hlv2 : ¬ Q 2320 p = 0 := by
    rw [nsR_kf (show KF Q P from hwf) 2320 _ rfl]
    exact hlv
  have eK : lsW Q p (s, f, pa, kd, cp) = if and32 kd 128 = 0 then (2, Q, [(s, f, pa, kd, cp)]) else if cp < 0 then ((cList Q p (s, f, pa, kd, cp)).1, (cList Q p (s, f, pa, kd, cp)).2, [(s, f, pa, kd, cp)]) else lsM p cp (kDrop Q (s, f, pa, kd, cp) 2337 cp).toNat 0 (kDrop Q (s, f, pa, kd, cp)) := rfl
  show CL fb (d + 10) 138 _ σ (XCM σ0 K (T + 2000) U W R (lsW Q p (s, f, pa, kd, cp)))
  rw [eK]
  have hck := fun (σ : hM) (V5 : qR) (V6 : rR) (hP : PX σ0 V5 V6 σ) (hX : XW K (T + 300) U V5 V6 Q) (hch : CHX V5 V6 2178 (s, f, pa, kd, cp)) (hcr : chR (s, f, pa, kd, cp)) => (x_clunk1 (fb := fb) (d := d + 1) hP hX (by omega) hch hcr).mono (Q := fun r σ' => ∃ e, r = some (vI e) ∧ ∃ W2 R2, PX σ0 W2 R2 σ' ∧ XW K (T + 300 + 4) U W2 R2 (kDrop Q (s, f, pa, kd, cp)) ∧ FA V5 W2 V6 R2) (fun r σ' h => ⟨_, h.1, h.2⟩)
  have hd1 : ∀ (V : qR) (V3 : rR), CHX V V3 2178 (s, f, pa, kd, cp) → V 2178 2163 = if kd = 128 then 1 else 0 := fun V V3 h => h.2.2.2.1
  have hd2 : ∀ (V : qR) (V3 : rR), CHX V V3 2178 (s, f, pa, kd, cp) → V3 2178 2164 = if cp < 0 then none else V3 (grO (cp / 8) + 1) (cp % 8) := fun V V3 h => h.2.2.2.2
  have hk5 : ∀ (V V5 : qR) (V3 V6 : rR), FA V V5 V3 V6 → V5 2178 2163 = V 2178 2163 := fun V V5 V3 V6 h => h.cm.1 _ _ (by decide) (by decide) (by decide)
  by_cases q1 : kd = 128
  rotate_left
  · rw [if_pos (hkd.mpr q1)]
    rw [if_neg q1] at hd1
    obtain ⟨pr, hpr⟩ : ∃ q, prO p = q := ⟨_, rfl⟩
    rw [hpr] at hre hpo hot3 ⊢
    refine CL_in mL_138 rfl ?_
    show WP fb _ 138 0 [some (vR (some 2175)), some (vR (some pr)), some (vR (some k)), none, none, none, none] [] σ _
    refine x_lr (z := some k) T_138_0 rfl ?_
    refine x_gI (z := 2) T_138_1 (Or.inl F_16_4) (hP.o hC.1) (Eq.trans (hP.gi hC.1 (key := 2516) rfl) h5) ?_
    refine x_ic T_138_4 ?_
    refine x_ic2 T_138_5 (fun _ => ?_) (fun h => absurd (show (2 : Int) = 2 by decide) h)
    refine x_lr (z := some 2175) T_138_11 rfl ?_
    refine x_gR (z := some 129) T_138_12 F_14_0 (hP.o xo_2175) (hP.rc xo_2175 rfl rfl) ?_
    refine x_lr (z := some pr) T_138_15 rfl ?_
    refine x_lr (z := some k) T_138_16 rfl ?_
    refine x_ic T_138_17 ?_
    refine x_lr (z := some 2175) T_138_18 rfl ?_
    refine x_gR (z := some 2178) T_138_19 F_14_2 (hP.o xo_2175) (hP.rc xo_2175 rfl rfl) ?_
    refine x_ic T_138_22 ?_
    refine x_cv6 T_138_23 mN_117 mL_117 (Nat.le_of_ble_eq_true rfl) mO_117 (hP.o xo_129) (Nat.le_of_ble_eq_true rfl) (hre) ?_
    clear hP hre
    rintro _ σ ⟨rfl, V, V3, hP, hXV, hq, hFV⟩
    obtain ⟨⟨hch, hcr⟩, -⟩ := hq rfl
    have hz1 := hd1 V V3 hch
    obtain ⟨y, hy⟩ : ∃ y, V3 2178 2164 = y := ⟨_, rfl⟩
    refine cI ?_
    refine x_si (ls1 := [some (vR (some 2175)), some (vR (some pr)), some (vR (some k)), some (vI 0), none, none, none]) T_138_26 rfl ?_
    refine x_li (z := 0) T_138_27 rfl ?_
    refine x_if T_138_28 (fun _ => ?_) (fun h => absurd (show (0 : Int) = 0 by rfl) h)
    refine x_lr (z := some 2175) T_138_33 rfl ?_
    refine x_gR (z := some 2178) T_138_34 F_14_2 (hP.o xo_2175) (hP.rc xo_2175 rfl rfl) ?_
    refine x_gR (z := y) T_138_37 F_5_4 (hP.o xo_2178) (Eq.trans (hP.rm xo_2178 rfl (key := 2164) rfl) hy) ?_
    refine x_sr (ls1 := [some (vR (some 2175)), some (vR (some pr)), some (vR (some k)), some (vI 0), some (vR y), none, none]) T_138_40 rfl ?_
    refine x_lr (z := some 2175) T_138_42 rfl ?_
    refine x_gR (z := some 2178) T_138_43 F_14_2 (hP.o xo_2175) (hP.rc xo_2175 rfl rfl) ?_
    refine x_gI (z := 0) T_138_46 (Or.inr (Or.inl F_5_3)) (hP.o xo_2178) (Eq.trans (hP.gi xo_2178 (key := 2163) rfl) hz1) ?_
    refine x_if T_138_49 (fun _ => ?_) (fun h => absurd (show (0 : Int) = 0 by rfl) h)
    refine x_lr (z := some 2175) T_138_57 rfl ?_
    refine x_gR (z := some 129) T_138_58 F_14_0 (hP.o xo_2175) (hP.rc xo_2175 rfl rfl) ?_
    refine x_lr (z := some 2175) T_138_61 rfl ?_
    refine x_gR (z := some 2178) T_138_62 F_14_2 (hP.o xo_2175) (hP.rc xo_2175 rfl rfl) ?_
    refine x_cv2 T_138_65 mN_132 mL_132 (Nat.le_of_ble_eq_true rfl) mO_132 (hP.o xo_129) (Nat.le_of_ble_eq_true rfl) (hck σ V V3 hP hXV hch hcr) ?_
    clear hP hck
    rintro _ σ ⟨e3, rfl, V7, V8, hP, hX7, hF7⟩
    have hz7 := (hk5 V V7 V3 V8 hF7).trans hz1
    refine cI ?_
    refine x_popI T_138_68 ?_
    refine x_lr (z := some 2175) T_138_69 rfl ?_
    refine x_gR (z := some 2178) T_138_70 F_14_2 (hP.o xo_2175) (hP.rc xo_2175 rfl rfl) ?_
    refine x_gI (z := 0) T_138_73 (Or.inr (Or.inl F_5_3)) (hP.o xo_2178) (Eq.trans (hP.gi xo_2178 (key := 2163) rfl) hz7) ?_
    refine x_if T_138_76 (fun h => absurd (show ¬ (0 : Int) = 0 from h) (by decide)) (fun _ => ?_)
    refine x_ic T_138_79 ?_
    refine x_ri T_138_80 ?_
    exact ⟨rfl, V7, V8, hP, XW.mono hX7 (by omega), FCM_tr (FCM_fk hFV (by decide)) (FCM_fa hF7)⟩
  have hdir : ¬ and32 kd 128 = 0 := fun c => hkd.mp c q1
  rw [if_neg hdir]
  rw [if_pos q1] at hd1
  have hO := hO rfl hdir
  by_cases q2 : cp < 0
  · rw [if_pos q2]
    have hd2 : ∀ (V : qR) (V3 : rR), CHX V V3 2178 (s, f, pa, kd, cp) → V3 2178 2164 = none := fun V V3 h => (hd2 V V3 h).trans (if_pos q2)
    have hli := fun (σ : hM) (V : qR) (V3 : rR) (hcr : chR (s, f, pa, kd, cp)) (hP : PX σ0 V V3 σ) (hT : LSX K U W R p (s, f, pa, kd, cp) (T + 300) V V3 Q) => x_list (fb := fb) (d := d) hp hcr (hO.1 q2) (by omega) hP hT
    obtain ⟨eL, heL⟩ : ∃ e, (cList Q p (s, f, pa, kd, cp)).1 = e := ⟨_, rfl⟩
    obtain ⟨P3, hP3⟩ : ∃ P3, (cList Q p (s, f, pa, kd, cp)).2 = P3 := ⟨_, rfl⟩
    simp only [heL, hP3] at hli ⊢
    obtain ⟨pr, hpr⟩ : ∃ q, prO p = q := ⟨_, rfl⟩
    simp only [hpr] at hre hpo hot3 hli ⊢
    refine CL_in mL_138 rfl ?_
    show WP fb _ 138 0 [some (vR (some 2175)), some (vR (some pr)), some (vR (some k)), none, none, none, none] [] σ _
    refine x_lr (z := some k) T_138_0 rfl ?_
    refine x_gI (z := 2) T_138_1 (Or.inl F_16_4) (hP.o hC.1) (Eq.trans (hP.gi hC.1 (key := 2516) rfl) h5) ?_
    refine x_ic T_138_4 ?_
    refine x_ic2 T_138_5 (fun _ => ?_) (fun h => absurd (show (2 : Int) = 2 by decide) h)
    refine x_lr (z := some 2175) T_138_11 rfl ?_
    refine x_gR (z := some 129) T_138_12 F_14_0 (hP.o xo_2175) (hP.rc xo_2175 rfl rfl) ?_
    refine x_lr (z := some pr) T_138_15 rfl ?_
    refine x_lr (z := some k) T_138_16 rfl ?_
    refine x_ic T_138_17 ?_
    refine x_lr (z := some 2175) T_138_18 rfl ?_
    refine x_gR (z := some 2178) T_138_19 F_14_2 (hP.o xo_2175) (hP.rc xo_2175 rfl rfl) ?_
    refine x_ic T_138_22 ?_
    refine x_cv6 T_138_23 mN_117 mL_117 (Nat.le_of_ble_eq_true rfl) mO_117 (hP.o xo_129) (Nat.le_of_ble_eq_true rfl) (hre) ?_
    clear hP hre
    rintro _ σ ⟨rfl, V, V3, hP, hXV, hq, hFV⟩
    obtain ⟨⟨hch, hcr⟩, -⟩ := hq rfl
    have hz1 := hd1 V V3 hch
    have hz2 := hd2 V V3 hch
    refine cI ?_
    refine x_si (ls1 := [some (vR (some 2175)), some (vR (some pr)), some (vR (some k)), some (vI 0), none, none, none]) T_138_26 rfl ?_
    refine x_li (z := 0) T_138_27 rfl ?_
    refine x_if T_138_28 (fun _ => ?_) (fun h => absurd (show (0 : Int) = 0 by rfl) h)
    refine x_lr (z := some 2175) T_138_33 rfl ?_
    refine x_gR (z := some 2178) T_138_34 F_14_2 (hP.o xo_2175) (hP.rc xo_2175 rfl rfl) ?_
    refine x_gR (z := none) T_138_37 F_5_4 (hP.o xo_2178) (Eq.trans (hP.rm xo_2178 rfl (key := 2164) rfl) hz2) ?_
    refine x_sr (ls1 := [some (vR (some 2175)), some (vR (some pr)), some (vR (some k)), some (vI 0), some (vR none), none, none]) T_138_40 rfl ?_
    refine x_lr (z := some 2175) T_138_42 rfl ?_
    refine x_gR (z := some 2178) T_138_43 F_14_2 (hP.o xo_2175) (hP.rc xo_2175 rfl rfl) ?_
    refine x_gI (z := 1) T_138_46 (Or.inr (Or.inl F_5_3)) (hP.o xo_2178) (Eq.trans (hP.gi xo_2178 (key := 2163) rfl) hz1) ?_
    refine x_if T_138_49 (fun h => absurd (show (1 : Int) = 0 from h) (by decide)) (fun _ => ?_)
    refine x_lr (z := none) T_138_52 rfl ?_
    refine x_nul T_138_54 (fun _ => ?_) (fun a0 h0 => absurd h0 (by simp))
    refine x_lr (z := some 2175) T_138_69 rfl ?_
    refine x_gR (z := some 2178) T_138_70 F_14_2 (hP.o xo_2175) (hP.rc xo_2175 rfl rfl) ?_
    refine x_gI (z := 1) T_138_73 (Or.inr (Or.inl F_5_3)) (hP.o xo_2178) (Eq.trans (hP.gi xo_2178 (key := 2163) rfl) hz1) ?_
    refine x_if T_138_76 (fun _ => ?_) (fun h => absurd (show ¬ (1 : Int) = 0 by decide) h)
    refine x_lr (z := none) T_138_81 rfl ?_
    refine x_nnul T_138_83 (fun a0 h0 => absurd h0 (by simp)) (fun _ => ?_)
    refine x_lr (z := some 2175) T_138_86 rfl ?_
    refine x_lr (z := some pr) T_138_87 rfl ?_
    refine x_gR (z := some (pr + 3)) T_138_88 F_6_2 (hP.o hpo) (hP.rc hpo rfl rfl) ?_
    refine x_cv2 T_138_91 mN_139 mL_139 (Nat.le_of_ble_eq_true rfl) mO_139 (hP.o xo_2175) (Nat.le_of_ble_eq_true rfl) (hli σ V V3 hcr hP ⟨hXV, hch, hlv2, FCM_fk hFV (by decide), RG_fk hFV (by decide)⟩) ?_
    clear hP hli
    rintro _ σ ⟨rfl, V7, V8, hP, hX7, hv7, hF7, hR7⟩
    refine cI ?_
    refine x_ri T_138_94 ?_
    exact ⟨rfl, V7, V8, hP, XW.mono hX7 (by omega), hF7⟩
  rw [if_neg q2]
  have hd2 : ∀ (V : qR) (V3 : rR), CHX V V3 2178 (s, f, pa, kd, cp) → V3 2178 2164 = V3 (grO (cp / 8) + 1) (cp % 8) := fun V V3 h => (hd2 V V3 h).trans (if_neg q2)
  rcases hpt with hpt | ⟨hp1, hp2, hp3, hp4⟩
  · omega
  have hdf : KF (kDrop Q (s, f, pa, kd, cp)) P := KF_tr KF_tP (show KF Q P from hwf)
  have h44 : cp % 8 < kDrop Q (s, f, pa, kd, cp) 2334 (cp / 8) := by
    rw [nsR_kf hdf 2334 _ rfl, show cp / 8 = P 2323 p by omega]
    omega
  have h55 : ¬ kDrop Q (s, f, pa, kd, cp) 2320 p = 0 := by
    rw [nsR_kf hdf 2320 _ rfl]
    exact hlv
  have hO2 := hO.2 (by omega)
  have hmn : 0 ≤ P 2337 cp ∧ P 2337 cp ≤ 6 := IV.a hIV 2337 0 64 rfl rfl rfl (by omega) (by omega)
  have hmq : kDrop Q (s, f, pa, kd, cp) 2337 cp = P 2337 cp := nsR_kf hdf 2337 _ rfl
  obtain ⟨gy, hgy⟩ : ∃ gy, grO (cp / 8) + 1 = gy := ⟨_, rfl⟩
  have hpgx : ∃ y0, R gy (cp % 8) = some y0 := by
    have hg := (hX.1.2.2.1.2.1 (cp / 8) (by omega) (by omega))
    obtain ⟨i, hi, hi2⟩ := hg.pt (k := cp % 8) ⟨by omega, by omega⟩
    rw [hgy] at hi2
    exact ⟨_, hi2⟩
  obtain ⟨y0, hy0⟩ := hpgx
  have hrg := grO_rng (g := cp / 8) ⟨by omega, by omega⟩
  rw [hgy] at hd2
  obtain ⟨DQ, hDQ⟩ : ∃ q, kDrop Q (s, f, pa, kd, cp) = q := ⟨_, rfl⟩
  rw [hDQ] at h44 h55 hmq hO2 hck
  rw [hDQ]
  have hgo := fun (σ : hM) (V7 : qR) (V8 : rR) (x6 : Option AV) (hP : PX σ0 V7 V8 σ) (hX7 : XW K (T + 304) U V7 V8 DQ) (hF7 : FCM W V7 R V8) (hR7 : RG R V8) => (x_ls_mem (fb := fb) (d := d) (n := P 2337 cp) hp ⟨by omega, by omega⟩ hmn.2 hC.1 (by rw [hgy]; exact hy0) (DQ 2337 cp).toNat 0 (T + 304) σ V7 V8 DQ x6 (by rw [hmq]; omega) (by decide) hmq h44 hO2 (by rw [hmq]; omega) hP hX7 h55 hF7 hR7).mono (Q := XCM σ0 K (T + 2000) U W R (lsM p cp (DQ 2337 cp).toNat 0 DQ)) (fun r σ' h => by
    obtain ⟨r1, W2, R2, r2, r3, r4⟩ := h
    exact ⟨r1, W2, R2, r2, XW.mono r3 (by rw [hmq]; omega), r4⟩)
  have hgn : grO (cp / 8) = 229 + 125 * (cp / 8).toNat := rfl
  have hd3 : ∀ (V : qR) (V3 : rR), CHX V V3 2178 (s, f, pa, kd, cp) → RG R V3 → V3 2178 2164 = some y0 := fun V V3 h1 h2 => (hd2 V V3 h1).trans ((h2 _ _ (by omega) (by omega)).trans hy0)
  have hyo : tX y0 = some (Sum.inl 4) := by
    have hg := (hX.1.2.2.1.2.1 (cp / 8) (by omega) (by omega))
    obtain ⟨i, hi, hi2⟩ := hg.pt (k := cp % 8) ⟨by omega, by omega⟩
    rw [hgy] at hi2
    rw [Option.some.inj (hy0.symm.trans hi2)]
    exact ptO_o ⟨by omega, by omega⟩ hi
  obtain ⟨pr, hpr⟩ : ∃ q, prO p = q := ⟨_, rfl⟩
  simp only [hpr] at hre hpo hot3 hgo ⊢
  refine CL_in mL_138 rfl ?_
  show WP fb _ 138 0 [some (vR (some 2175)), some (vR (some pr)), some (vR (some k)), none, none, none, none] [] σ _
  refine x_lr (z := some k) T_138_0 rfl ?_
  refine x_gI (z := 2) T_138_1 (Or.inl F_16_4) (hP.o hC.1) (Eq.trans (hP.gi hC.1 (key := 2516) rfl) h5) ?_
  refine x_ic T_138_4 ?_
  refine x_ic2 T_138_5 (fun _ => ?_) (fun h => absurd (show (2 : Int) = 2 by decide) h)
  refine x_lr (z := some 2175) T_138_11 rfl ?_
  refine x_gR (z := some 129) T_138_12 F_14_0 (hP.o xo_2175) (hP.rc xo_2175 rfl rfl) ?_
  refine x_lr (z := some pr) T_138_15 rfl ?_
  refine x_lr (z := some k) T_138_16 rfl ?_
  refine x_ic T_138_17 ?_
  refine x_lr (z := some 2175) T_138_18 rfl ?_
  refine x_gR (z := some 2178) T_138_19 F_14_2 (hP.o xo_2175) (hP.rc xo_2175 rfl rfl) ?_
  refine x_ic T_138_22 ?_
  refine x_cv6 T_138_23 mN_117 mL_117 (Nat.le_of_ble_eq_true rfl) mO_117 (hP.o xo_129) (Nat.le_of_ble_eq_true rfl) (hre) ?_
  clear hP hre
  rintro _ σ ⟨rfl, V, V3, hP, hXV, hq, hFV⟩
  obtain ⟨⟨hch, hcr⟩, -⟩ := hq rfl
  have hz1 := hd1 V V3 hch
  have hz2 := hd3 V V3 hch (RG_fk hFV (by decide))
  refine cI ?_
  refine x_si (ls1 := [some (vR (some 2175)), some (vR (some pr)), some (vR (some k)), some (vI 0), none, none, none]) T_138_26 rfl ?_
  refine x_li (z := 0) T_138_27 rfl ?_
  refine x_if T_138_28 (fun _ => ?_) (fun h => absurd (show (0 : Int) = 0 by rfl) h)
  refine x_lr (z := some 2175) T_138_33 rfl ?_
  refine x_gR (z := some 2178) T_138_34 F_14_2 (hP.o xo_2175) (hP.rc xo_2175 rfl rfl) ?_
  refine x_gR (z := some y0) T_138_37 F_5_4 (hP.o xo_2178) (Eq.trans (hP.rm xo_2178 rfl (key := 2164) rfl) hz2) ?_
  refine x_sr (ls1 := [some (vR (some 2175)), some (vR (some pr)), some (vR (some k)), some (vI 0), some (vR (some y0)), none, none]) T_138_40 rfl ?_
  refine x_lr (z := some 2175) T_138_42 rfl ?_
  refine x_gR (z := some 2178) T_138_43 F_14_2 (hP.o xo_2175) (hP.rc xo_2175 rfl rfl) ?_
  refine x_gI (z := 1) T_138_46 (Or.inr (Or.inl F_5_3)) (hP.o xo_2178) (Eq.trans (hP.gi xo_2178 (key := 2163) rfl) hz1) ?_
  refine x_if T_138_49 (fun h => absurd (show (1 : Int) = 0 from h) (by decide)) (fun _ => ?_)
  refine x_lr (z := some y0) T_138_52 rfl ?_
  refine x_nul T_138_54 (fun h0 => absurd h0 (by simp)) (fun _ _ => ?_)
  refine x_lr (z := some 2175) T_138_57 rfl ?_
  refine x_gR (z := some 129) T_138_58 F_14_0 (hP.o xo_2175) (hP.rc xo_2175 rfl rfl) ?_
  refine x_lr (z := some 2175) T_138_61 rfl ?_
  refine x_gR (z := some 2178) T_138_62 F_14_2 (hP.o xo_2175) (hP.rc xo_2175 rfl rfl) ?_
  refine x_cv2 T_138_65 mN_132 mL_132 (Nat.le_of_ble_eq_true rfl) mO_132 (hP.o xo_129) (Nat.le_of_ble_eq_true rfl) (hck σ V V3 hP hXV hch hcr) ?_
  clear hP hck
  rintro _ σ ⟨e3, rfl, V7, V8, hP, hX7, hF7⟩
  have hz7 := (hk5 V V7 V3 V8 hF7).trans hz1
  refine cI ?_
  refine x_popI T_138_68 ?_
  refine x_lr (z := some 2175) T_138_69 rfl ?_
  refine x_gR (z := some 2178) T_138_70 F_14_2 (hP.o xo_2175) (hP.rc xo_2175 rfl rfl) ?_
  refine x_gI (z := 1) T_138_73 (Or.inr (Or.inl F_5_3)) (hP.o xo_2178) (Eq.trans (hP.gi xo_2178 (key := 2163) rfl) hz7) ?_
  refine x_if T_138_76 (fun _ => ?_) (fun h => absurd (show ¬ (1 : Int) = 0 by decide) h)
  refine x_lr (z := some y0) T_138_81 rfl ?_
  refine x_nnul T_138_83 (fun _ _ => ?_) (fun h0 => absurd h0 (by simp))
  refine x_ic T_138_95 ?_
  refine x_si (ls1 := [some (vR (some 2175)), some (vR (some pr)), some (vR (some k)), some (vI 0), some (vR (some y0)), some (vI 0), none]) T_138_96 rfl ?_
  exact hgo σ V7 V8 _ hP (XW.mono hX7 (by omega)) (FCM_tr (FCM_fk hFV (by decide)) (FCM_fa hF7)) (RG_tr (RG_fk hFV (by decide)) (RG_fa hF7))
end XLSV
