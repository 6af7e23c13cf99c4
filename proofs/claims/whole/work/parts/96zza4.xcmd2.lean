/-! The class's commands: size, chmod. -/
theorem T_159_0 : hTab 159 0 = some ((3, 2, 2, []), 1) := rfl
theorem T_159_1 : hTab 159 1 = some ((0, 0, 1, []), 2) := rfl
theorem T_159_2 : hTab 159 2 = some ((31, 160, 0, []), 5) := rfl
theorem T_159_5 : hTab 159 5 = some ((4, 3, 0, []), 6) := rfl
theorem T_159_6 : hTab 159 6 = some ((3, 2, 2, []), 7) := rfl
theorem T_159_7 : hTab 159 7 = some ((24, 16, Int.ofNat 4, []), 10) := rfl
theorem T_159_10 : hTab 159 10 = some ((0, 0, 3, []), 11) := rfl
theorem T_159_11 : hTab 159 11 = some ((19, 1, Int.ofNat 19, []), 14) := rfl
theorem T_159_14 : hTab 159 14 = some ((3, 3, 0, []), 15) := rfl
theorem T_159_15 : hTab 159 15 = some ((0, 0, (-1), []), 16) := rfl
theorem T_159_16 : hTab 159 16 = some ((19, 1, Int.ofNat 22, []), 19) := rfl
theorem T_159_19 : hTab 159 19 = some ((0, 0, 18, []), 21) := rfl
theorem T_159_21 : hTab 159 21 = some ((33, 1, 0, []), 22) := rfl
theorem T_159_22 : hTab 159 22 = some ((3, 0, 2, []), 23) := rfl
theorem T_159_23 : hTab 159 23 = some ((24, 14, Int.ofNat 0, []), 26) := rfl
theorem T_159_26 : hTab 159 26 = some ((3, 1, 2, []), 27) := rfl
theorem T_159_27 : hTab 159 27 = some ((3, 2, 2, []), 28) := rfl
theorem T_159_28 : hTab 159 28 = some ((0, 0, 2, []), 29) := rfl
theorem T_159_29 : hTab 159 29 = some ((3, 0, 2, []), 30) := rfl
theorem T_159_30 : hTab 159 30 = some ((24, 14, Int.ofNat 2, []), 33) := rfl
theorem T_159_33 : hTab 159 33 = some ((0, 0, 0, []), 34) := rfl
theorem T_159_34 : hTab 159 34 = some ((31, 117, 0, []), 37) := rfl
theorem T_159_37 : hTab 159 37 = some ((4, 4, 0, []), 39) := rfl
theorem T_159_39 : hTab 159 39 = some ((3, 4, 0, []), 41) := rfl
theorem T_159_41 : hTab 159 41 = some ((18, 1, Int.ofNat 91, []), 44) := rfl
theorem T_159_44 : hTab 159 44 = some ((3, 0, 2, []), 45) := rfl
theorem T_159_45 : hTab 159 45 = some ((3, 0, 2, []), 46) := rfl
theorem T_159_46 : hTab 159 46 = some ((24, 14, Int.ofNat 2, []), 49) := rfl
theorem T_159_49 : hTab 159 49 = some ((3, 0, 2, []), 50) := rfl
theorem T_159_50 : hTab 159 50 = some ((24, 14, Int.ofNat 0, []), 53) := rfl
theorem T_159_53 : hTab 159 53 = some ((3, 0, 2, []), 54) := rfl
theorem T_159_54 : hTab 159 54 = some ((24, 14, Int.ofNat 2, []), 57) := rfl
theorem T_159_57 : hTab 159 57 = some ((24, 5, Int.ofNat 1, []), 60) := rfl
theorem T_159_60 : hTab 159 60 = some ((1, 0, (-1), []), 63) := rfl
theorem T_159_63 : hTab 159 63 = some ((3, 3, 0, []), 64) := rfl
theorem T_159_64 : hTab 159 64 = some ((14, 0, 0, []), 65) := rfl
theorem T_159_65 : hTab 159 65 = some ((3, 2, 2, []), 66) := rfl
theorem T_159_66 : hTab 159 66 = some ((24, 16, Int.ofNat 0, []), 69) := rfl
theorem T_159_69 : hTab 159 69 = some ((0, 0, 0, []), 70) := rfl
theorem T_159_70 : hTab 159 70 = some ((0, 0, 0, []), 71) := rfl
theorem T_159_71 : hTab 159 71 = some ((31, 158, 0, []), 74) := rfl
theorem T_159_74 : hTab 159 74 = some ((31, 136, 0, []), 77) := rfl
theorem T_159_77 : hTab 159 77 = some ((4, 4, 0, []), 79) := rfl
theorem T_159_79 : hTab 159 79 = some ((3, 0, 2, []), 80) := rfl
theorem T_159_80 : hTab 159 80 = some ((24, 14, Int.ofNat 0, []), 83) := rfl
theorem T_159_83 : hTab 159 83 = some ((3, 0, 2, []), 84) := rfl
theorem T_159_84 : hTab 159 84 = some ((24, 14, Int.ofNat 2, []), 87) := rfl
theorem T_159_87 : hTab 159 87 = some ((31, 132, 0, []), 90) := rfl
theorem T_159_90 : hTab 159 90 = some ((7, 0, 0, []), 91) := rfl
theorem T_159_91 : hTab 159 91 = some ((3, 4, 0, []), 93) := rfl
theorem T_159_93 : hTab 159 93 = some ((33, 1, 0, []), 94) := rfl
theorem T_161_0 : hTab 161 0 = some ((3, 2, 2, []), 1) := rfl
theorem T_161_1 : hTab 161 1 = some ((0, 0, 1, []), 2) := rfl
theorem T_161_2 : hTab 161 2 = some ((31, 149, 0, []), 5) := rfl
theorem T_161_5 : hTab 161 5 = some ((4, 3, 0, []), 6) := rfl
theorem T_161_6 : hTab 161 6 = some ((3, 2, 2, []), 7) := rfl
theorem T_161_7 : hTab 161 7 = some ((24, 16, Int.ofNat 4, []), 10) := rfl
theorem T_161_10 : hTab 161 10 = some ((0, 0, 3, []), 11) := rfl
theorem T_161_11 : hTab 161 11 = some ((19, 1, Int.ofNat 19, []), 14) := rfl
theorem T_161_14 : hTab 161 14 = some ((3, 3, 0, []), 15) := rfl
theorem T_161_15 : hTab 161 15 = some ((0, 0, (-1), []), 16) := rfl
theorem T_161_16 : hTab 161 16 = some ((19, 1, Int.ofNat 22, []), 19) := rfl
theorem T_161_19 : hTab 161 19 = some ((0, 0, 18, []), 21) := rfl
theorem T_161_21 : hTab 161 21 = some ((33, 1, 0, []), 22) := rfl
theorem T_161_22 : hTab 161 22 = some ((3, 0, 2, []), 23) := rfl
theorem T_161_23 : hTab 161 23 = some ((24, 14, Int.ofNat 0, []), 26) := rfl
theorem T_161_26 : hTab 161 26 = some ((3, 1, 2, []), 27) := rfl
theorem T_161_27 : hTab 161 27 = some ((3, 2, 2, []), 28) := rfl
theorem T_161_28 : hTab 161 28 = some ((0, 0, 2, []), 29) := rfl
theorem T_161_29 : hTab 161 29 = some ((3, 0, 2, []), 30) := rfl
theorem T_161_30 : hTab 161 30 = some ((24, 14, Int.ofNat 2, []), 33) := rfl
theorem T_161_33 : hTab 161 33 = some ((0, 0, 0, []), 34) := rfl
theorem T_161_34 : hTab 161 34 = some ((31, 117, 0, []), 37) := rfl
theorem T_161_37 : hTab 161 37 = some ((4, 4, 0, []), 39) := rfl
theorem T_161_39 : hTab 161 39 = some ((3, 4, 0, []), 41) := rfl
theorem T_161_41 : hTab 161 41 = some ((18, 0, Int.ofNat 47, []), 44) := rfl
theorem T_161_44 : hTab 161 44 = some ((3, 4, 0, []), 46) := rfl
theorem T_161_46 : hTab 161 46 = some ((33, 1, 0, []), 47) := rfl
theorem T_161_47 : hTab 161 47 = some ((3, 0, 2, []), 48) := rfl
theorem T_161_48 : hTab 161 48 = some ((3, 0, 2, []), 49) := rfl
theorem T_161_49 : hTab 161 49 = some ((24, 14, Int.ofNat 2, []), 52) := rfl
theorem T_161_52 : hTab 161 52 = some ((3, 0, 2, []), 53) := rfl
theorem T_161_53 : hTab 161 53 = some ((24, 14, Int.ofNat 0, []), 56) := rfl
theorem T_161_56 : hTab 161 56 = some ((0, 0, 124, []), 58) := rfl
theorem T_161_58 : hTab 161 58 = some ((3, 0, 2, []), 59) := rfl
theorem T_161_59 : hTab 161 59 = some ((24, 14, Int.ofNat 2, []), 62) := rfl
theorem T_161_62 : hTab 161 62 = some ((24, 5, Int.ofNat 1, []), 65) := rfl
theorem T_161_65 : hTab 161 65 = some ((31, 131, 0, []), 68) := rfl
theorem T_161_68 : hTab 161 68 = some ((31, 136, 0, []), 71) := rfl
theorem T_161_71 : hTab 161 71 = some ((4, 4, 0, []), 73) := rfl
theorem T_161_73 : hTab 161 73 = some ((3, 4, 0, []), 75) := rfl
theorem T_161_75 : hTab 161 75 = some ((18, 1, Int.ofNat 135, []), 78) := rfl
theorem T_161_78 : hTab 161 78 = some ((3, 0, 2, []), 79) := rfl
theorem T_161_79 : hTab 161 79 = some ((24, 14, Int.ofNat 0, []), 82) := rfl
theorem T_161_82 : hTab 161 82 = some ((24, 1, Int.ofNat 2, []), 85) := rfl
theorem T_161_85 : hTab 161 85 = some ((0, 0, 30, []), 87) := rfl
theorem T_161_87 : hTab 161 87 = some ((0, 0, 4, []), 88) := rfl
theorem T_161_88 : hTab 161 88 = some ((31, 29, 0, []), 91) := rfl
theorem T_161_91 : hTab 161 91 = some ((1, 0, (-512), []), 94) := rfl
theorem T_161_94 : hTab 161 94 = some ((11, 5, 0, []), 95) := rfl
theorem T_161_95 : hTab 161 95 = some ((3, 3, 0, []), 96) := rfl
theorem T_161_96 : hTab 161 96 = some ((14, 0, 0, []), 97) := rfl
theorem T_161_97 : hTab 161 97 = some ((11, 6, 0, []), 98) := rfl
theorem T_161_98 : hTab 161 98 = some ((4, 5, 1, []), 100) := rfl
theorem T_161_100 : hTab 161 100 = some ((3, 0, 2, []), 101) := rfl
theorem T_161_101 : hTab 161 101 = some ((3, 0, 2, []), 102) := rfl
theorem T_161_102 : hTab 161 102 = some ((24, 14, Int.ofNat 2, []), 105) := rfl
theorem T_161_105 : hTab 161 105 = some ((3, 0, 2, []), 106) := rfl
theorem T_161_106 : hTab 161 106 = some ((24, 14, Int.ofNat 0, []), 109) := rfl
theorem T_161_109 : hTab 161 109 = some ((3, 0, 2, []), 110) := rfl
theorem T_161_110 : hTab 161 110 = some ((24, 14, Int.ofNat 2, []), 113) := rfl
theorem T_161_113 : hTab 161 113 = some ((24, 5, Int.ofNat 1, []), 116) := rfl
theorem T_161_116 : hTab 161 116 = some ((3, 5, 1, []), 118) := rfl
theorem T_161_118 : hTab 161 118 = some ((1, 0, (-1), []), 121) := rfl
theorem T_161_121 : hTab 161 121 = some ((3, 2, 2, []), 122) := rfl
theorem T_161_122 : hTab 161 122 = some ((24, 16, Int.ofNat 0, []), 125) := rfl
theorem T_161_125 : hTab 161 125 = some ((0, 0, 0, []), 126) := rfl
theorem T_161_126 : hTab 161 126 = some ((0, 0, 0, []), 127) := rfl
theorem T_161_127 : hTab 161 127 = some ((31, 158, 0, []), 130) := rfl
theorem T_161_130 : hTab 161 130 = some ((31, 136, 0, []), 133) := rfl
theorem T_161_133 : hTab 161 133 = some ((4, 4, 0, []), 135) := rfl
theorem T_161_135 : hTab 161 135 = some ((3, 0, 2, []), 136) := rfl
theorem T_161_136 : hTab 161 136 = some ((24, 14, Int.ofNat 0, []), 139) := rfl
theorem T_161_139 : hTab 161 139 = some ((3, 0, 2, []), 140) := rfl
theorem T_161_140 : hTab 161 140 = some ((24, 14, Int.ofNat 2, []), 143) := rfl
theorem T_161_143 : hTab 161 143 = some ((31, 132, 0, []), 146) := rfl
theorem T_161_146 : hTab 161 146 = some ((7, 0, 0, []), 147) := rfl
theorem T_161_147 : hTab 161 147 = some ((3, 4, 0, []), 149) := rfl
theorem T_161_149 : hTab 161 149 = some ((33, 1, 0, []), 150) := rfl
theorem mN_159 : hmN 159 = 3 := by decide +kernel
theorem mL_159 : hmL 159 = 5 := by decide +kernel
theorem mK_159 : hmK 159 = 1 := by decide +kernel
theorem mO_159 : hmO 159 = 14 := by decide +kernel
theorem mN_161 : hmN 161 = 3 := by decide +kernel
theorem mL_161 : hmL 161 = 7 := by decide +kernel
theorem mK_161 : hmK 161 = 1 := by decide +kernel
theorem mO_161 : hmO 161 = 14 := by decide +kernel
section XCMDB
variable {fb : Bool} {d b q m k c : Nat} {σ0 σ : hM} {W W0 W1 W2 W3 P Q : qR} {R R1 R2 : rR} {i j x z v s e w p o n g K T U thr : Int} {l l0 lo nm raw pre wd M : List Int} {ns : List (Int × Int)} {f : Int} {ch : Ch}
theorem CMD.at2 (h : CMD W k l) (hw : 0 ≤ w ∧ w < ((lnW l).length : Int)) : ∃ a e : Int, 0 ≤ a ∧ a < e ∧ e ≤ (l.length : Int) ∧ l.length ≤ 100 ∧ lnB l w = seg (lg l) a (e - a).toNat ∧ ∀ (V : qR) (V3 : rR), FCM W V R V3 → V (k + 5) w = a ∧ V (k + 6) w = e := by
  obtain ⟨g, a, e, ha, he, h1, h2, h3, h4⟩ := h.word hw
  have hk := h.2.2.1
  have hl : k + 6 < 2281 := h.2.1.2.2
  exact ⟨a, e, h1, h2, h3, h.2.2.2.1.2.2.2.2.1, h4, fun V V3 hF => ⟨(hF.1 _ _ (by omega) (by omega) (by omega)).trans ha, (hF.1 _ _ (by omega) (by omega) (by omega)).trans he⟩⟩
/-- channel `one` is clunked -/
theorem x_clunk1 {V : qR} {V3 : rR} {Q2 : qR} {T2 : Int} (hP : PX σ0 V V3 σ) (hX : XW K T2 U V V3 Q2) (hT : T2 + 110 ≤ 2147483000) (hch : CHX V V3 2178 ch) (hcr : chR ch) : CL fb (d + 8) 132 [vR (some 129), vR (some 2178)] σ (XE σ0 K (T2 + 4) U V V3 (tE Q2 ch.1 (mOne 120 ch.2.1)) (kDrop Q2 ch)) := x_clunkK hP hX hT one_o hch.1 hch.2.1 hcr.1 hcr.2.1
theorem x_size_c (hP : PX σ0 W R σ) (hX : XW K T U W R P) (hT : T + 1200 ≤ 2147483000) (hp : 0 ≤ p ∧ p < 8) (hlv : ¬ P 2320 p = 0) (hC : CMD W k l) (hw : ((lnW l).length : Int) = 3) : CL fb (d + 10) 159 [vR (some 2175), vR (some (prO p)), vR (some k)] σ (XCM σ0 K (T + 312) U W R (cSize P p (lnB l 1) (lnB l 2))) := by
  have hre := x_reach (fb := fb) (d := d) (thr := 0) hP hX (by omega) hp hlv hC (w := 2) ⟨by decide, by omega⟩ one_o (by decide) (Or.inl rfl)
  have hde := x_decimal (fb := fb) (d := d + 6) (w := 1) hP hC (by decide)
  rw [if_pos (by omega)] at hde
  have hnr := nmN_rng (wd := lnB l 1)
  have eK : cSize P p (lnB l 1) (lnB l 2) = if nmN (lnB l 1) 10 4 < 0 then (18, P, []) else if 0 < (kWW P p 0 (lnB l 2)).1 then ((kWW P p 0 (lnB l 2)).1, (kWW P p 0 (lnB l 2)).2.1, []) else (tE (kWW P p 0 (lnB l 2)).2.1 (kWW P p 0 (lnB l 2)).2.2.1 (mWst (kWW P p 0 (lnB l 2)).2.2.2.1 [] 4294967295 (nmN (lnB l 1) 10 4)), tP (kWW P p 0 (lnB l 2)).2.1 (kWW P p 0 (lnB l 2)).2.2.1 (mWst (kWW P p 0 (lnB l 2)).2.2.2.1 [] 4294967295 (nmN (lnB l 1) 10 4)), [(kWW P p 0 (lnB l 2)).2.2]) := rfl
  obtain ⟨n, hn⟩ : ∃ q, nmN (lnB l 1) 10 4 = q := ⟨_, rfl⟩
  rw [hn] at hde hnr eK
  have hpo := prO_o hp
  have h5 := hC.2.2.2.2.1.trans hw
  obtain ⟨pr, hpr⟩ : ∃ q, prO p = q := ⟨_, rfl⟩
  rw [hpr] at hre hpo ⊢
  have hr0 := (KF_kWW (thr := 0) (wd := lnB l 2) hX.1.2.2.2.1.iv hX.1.2.2.2.2.2.2 hp).2
  obtain ⟨A, hA⟩ : ∃ A, kWW P p 0 (lnB l 2) = A := ⟨_, rfl⟩
  rw [hA] at hre eK hr0
  rw [eK]
  obtain ⟨e, Q, s, f, pa, kd, cp⟩ := A
  by_cases q0 : n < 0
  · rw [if_pos q0]
    have hn1 : n = -1 := by omega
    subst hn1
    refine CL_in mL_159 rfl ?_
    show WP fb _ 159 0 [some (vR (some 2175)), some (vR (some pr)), some (vR (some k)), none, none] [] σ _
    refine x_lr (z := some k) T_159_0 rfl ?_
    refine x_ic T_159_1 ?_
    refine x_cv2 T_159_2 mN_160 mL_160 (Nat.le_of_ble_eq_true rfl) mO_160 (hP.o hC.1) (Nat.le_of_ble_eq_true rfl) (hde) ?_
    rintro _ σ ⟨rfl, rfl⟩
    refine cI ?_
    refine x_si (ls1 := [some (vR (some 2175)), some (vR (some pr)), some (vR (some k)), some (vI (-1)), none]) T_159_5 rfl ?_
    refine x_lr (z := some k) T_159_6 rfl ?_
    refine x_gI (z := 3) T_159_7 (Or.inl F_16_4) (hP.o hC.1) (Eq.trans (hP.gi hC.1 (key := 2516) rfl) h5) ?_
    refine x_ic T_159_10 ?_
    refine x_ic2 T_159_11 (fun h => absurd (show ¬ (3 : Int) = 3 from h) (by decide)) (fun _ => ?_)
    refine x_li (z := (-1)) T_159_14 rfl ?_
    refine x_ic T_159_15 ?_
    refine x_ic2 T_159_16 (fun h => absurd (show ¬ ((-1) : Int) = (-1) from h) (by decide)) (fun _ => ?_)
    refine x_ic T_159_19 ?_
    refine x_ri T_159_21 ?_
    exact ⟨rfl, W, R, hP, XW.mono hX (by omega), FCM_rfl⟩
  rw [if_neg q0]
  by_cases q : e = 0
  · subst q
    rw [if_neg (show ¬ (0 : Int) < 0 by decide)]
    show CL fb (d + 10) 159 _ σ (XCM σ0 K (T + 312) U W R (tE Q s (mWst f [] 4294967295 n), tP Q s (mWst f [] 4294967295 n), [(s, f, pa, kd, cp)]))
    have hte := fun (σ : hM) (V : qR) (V3 : rR) (hP : PX σ0 V V3 σ) (hf : 0 ≤ f ∧ f ≤ 47) (hCV : CMD V k l) => x_telling (fb := fb) (d := d + 6) (f := f) (md := -1) (ln := n) (s := 0) (e := 0) (nm := []) hP ⟨by omega, by omega⟩ (by decide) ⟨by omega, by omega⟩ hCV.2.2.2.1 (by have := hC.2.2.1; omega) ⟨by decide, by decide, by omega⟩ rfl (by decide)
    have hse := fun (σ : hM) (V : qR) (V3 : rR) (hX : XW K (T + 300) U V V3 Q) (V4 : qR) (hP : PX σ0 V4 V3 σ) (hF : FR1 V V4) (hB : BY V4 138 300 (mFr (mWst f [] (-1) n))) (hs0 : V4 2178 2160 = s) (hs : 0 ≤ s ∧ s < 3) => mWst_s (fb := fb) (d := d + 1) hP (hX.fr1 hF) (by omega) hs0 one_o hs (by decide) hB
    simp only [mWst_m1] at hse hte
    obtain ⟨e2, he2⟩ : ∃ q, tE Q s (mWst f [] 4294967295 n) = q := ⟨_, rfl⟩
    simp only [he2] at hse ⊢
    have hck := fun (σ : hM) (V : qR) (V3 : rR) (hP : PX σ0 V V3 σ) (hX : XW K (T + 300 + 4) U V V3 (tP Q s (mWst f [] 4294967295 n))) (hch : CHX V V3 2178 (s, f, pa, kd, cp)) (hcr : chR (s, f, pa, kd, cp)) => x_clunk1 (fb := fb) (d := d + 1) hP hX (by omega) hch hcr
    obtain ⟨e3, he3⟩ : ∃ q, tE (tP Q s (mWst f [] 4294967295 n)) (s, f, pa, kd, cp).1 (mOne 120 (s, f, pa, kd, cp).2.1) = q := ⟨_, rfl⟩
    simp only [he3] at hck
    refine CL_in mL_159 rfl ?_
    show WP fb _ 159 0 [some (vR (some 2175)), some (vR (some pr)), some (vR (some k)), none, none] [] σ _
    refine x_lr (z := some k) T_159_0 rfl ?_
    refine x_ic T_159_1 ?_
    refine x_cv2 T_159_2 mN_160 mL_160 (Nat.le_of_ble_eq_true rfl) mO_160 (hP.o hC.1) (Nat.le_of_ble_eq_true rfl) (hde) ?_
    rintro _ σ ⟨rfl, rfl⟩
    refine cI ?_
    refine x_si (ls1 := [some (vR (some 2175)), some (vR (some pr)), some (vR (some k)), some (vI n), none]) T_159_5 rfl ?_
    refine x_lr (z := some k) T_159_6 rfl ?_
    refine x_gI (z := 3) T_159_7 (Or.inl F_16_4) (hP.o hC.1) (Eq.trans (hP.gi hC.1 (key := 2516) rfl) h5) ?_
    refine x_ic T_159_10 ?_
    refine x_ic2 T_159_11 (fun h => absurd (show ¬ (3 : Int) = 3 from h) (by decide)) (fun _ => ?_)
    refine x_li (z := n) T_159_14 rfl ?_
    refine x_ic T_159_15 ?_
    refine x_ic2 T_159_16 (fun _ => ?_) (fun h => absurd (show ¬ n = (-1) by omega) h)
    refine x_lr (z := some 2175) T_159_22 rfl ?_
    refine x_gR (z := some 129) T_159_23 F_14_0 (hP.o xo_2175) (hP.rc xo_2175 rfl rfl) ?_
    refine x_lr (z := some pr) T_159_26 rfl ?_
    refine x_lr (z := some k) T_159_27 rfl ?_
    refine x_ic T_159_28 ?_
    refine x_lr (z := some 2175) T_159_29 rfl ?_
    refine x_gR (z := some 2178) T_159_30 F_14_2 (hP.o xo_2175) (hP.rc xo_2175 rfl rfl) ?_
    refine x_ic T_159_33 ?_
    refine x_cv6 T_159_34 mN_117 mL_117 (Nat.le_of_ble_eq_true rfl) mO_117 (hP.o xo_129) (Nat.le_of_ble_eq_true rfl) (hre) ?_
    clear hP hre
    rintro _ σ ⟨rfl, V, V3, hP, hXV, hq, hFV⟩
    obtain ⟨⟨hch, hcr⟩, -⟩ := hq rfl
    have hf0 : V 2178 2161 = f := hch.2.1
    have hCV := hC.fcm (FCM_fk hFV (by decide))
    refine cI ?_
    refine x_si (ls1 := [some (vR (some 2175)), some (vR (some pr)), some (vR (some k)), some (vI n), some (vI 0)]) T_159_37 rfl ?_
    refine x_li (z := 0) T_159_39 rfl ?_
    refine x_if T_159_41 (fun h => absurd (show ¬ (0 : Int) = 0 from h) (by decide)) (fun _ => ?_)
    refine x_lr (z := some 2175) T_159_44 rfl ?_
    refine x_lr (z := some 2175) T_159_45 rfl ?_
    refine x_gR (z := some 2178) T_159_46 F_14_2 (hP.o xo_2175) (hP.rc xo_2175 rfl rfl) ?_
    refine x_lr (z := some 2175) T_159_49 rfl ?_
    refine x_gR (z := some 129) T_159_50 F_14_0 (hP.o xo_2175) (hP.rc xo_2175 rfl rfl) ?_
    refine x_lr (z := some 2175) T_159_53 rfl ?_
    refine x_gR (z := some 2178) T_159_54 F_14_2 (hP.o xo_2175) (hP.rc xo_2175 rfl rfl) ?_
    refine x_gI (z := f) T_159_57 (Or.inl F_5_1) (hP.o xo_2178) (Eq.trans (hP.gi xo_2178 (key := 2161) rfl) hf0) ?_
    refine x_lc T_159_60 ?_
    refine x_li (z := n) T_159_63 rfl ?_
    refine x_i2l T_159_64 ?_
    refine x_lr (z := some k) T_159_65 rfl ?_
    refine x_gR (z := some (k + 1)) T_159_66 F_16_0 (hP.o hC.1) (hP.rc hC.1 rfl rfl) ?_
    refine x_ic T_159_69 ?_
    refine x_ic T_159_70 ?_
    refine x_cv7 T_159_71 mN_158 mL_158 (Nat.le_of_ble_eq_true rfl) mO_158 (hP.o xo_129) (Nat.le_of_ble_eq_true rfl) (hte σ V V3 hP hcr.2.1 hCV) ?_
    clear hP hte
    rintro _ σ ⟨rfl, V4, hP, hB4, hF4⟩
    refine cR ?_
    refine x_cv3 T_159_74 mN_136 mL_136 (Nat.le_of_ble_eq_true rfl) mO_136 (hP.o xo_2175) (Nat.le_of_ble_eq_true rfl) (hse σ V V3 hXV V4 hP hF4 hB4 (hch.sf hF4 (by decide)).1 hcr.1) ?_
    clear hP hse
    rintro _ σ ⟨rfl, V5, V6, hP, hX5, hB5, hF5⟩
    have hch5 := (hch.fa (FA_fr hF4) (by decide) (by decide) hcr.2.2).fa (FA_fs hF5) (by decide) (by decide) hcr.2.2
    refine cI ?_
    refine x_si (ls1 := [some (vR (some 2175)), some (vR (some pr)), some (vR (some k)), some (vI n), some (vI e2)]) T_159_77 rfl ?_
    refine x_lr (z := some 2175) T_159_79 rfl ?_
    refine x_gR (z := some 129) T_159_80 F_14_0 (hP.o xo_2175) (hP.rc xo_2175 rfl rfl) ?_
    refine x_lr (z := some 2175) T_159_83 rfl ?_
    refine x_gR (z := some 2178) T_159_84 F_14_2 (hP.o xo_2175) (hP.rc xo_2175 rfl rfl) ?_
    refine x_cv2 T_159_87 mN_132 mL_132 (Nat.le_of_ble_eq_true rfl) mO_132 (hP.o xo_129) (Nat.le_of_ble_eq_true rfl) (hck σ V5 V6 hP hX5 hch5 hcr) ?_
    clear hP hck
    rintro _ σ ⟨rfl, V7, V8, hP, hX7, hF7⟩
    refine cI ?_
    refine x_popI T_159_90 ?_
    refine x_li (z := e2) T_159_91 rfl ?_
    refine x_ri T_159_93 ?_
    exact ⟨rfl, V7, V8, hP, hX7.mono (by omega), FCM_tr (FCM_fk hFV (by decide)) (FCM_tr (FCM_fr hF4) (FCM_tr (FCM_fs hF5) (FCM_fa hF7)))⟩
  · rw [if_pos (show 0 < e by have : 0 ≤ e := hr0; omega)]
    show CL fb (d + 10) 159 _ σ (XCM σ0 K (T + 312) U W R (e, Q, []))
    refine CL_in mL_159 rfl ?_
    show WP fb _ 159 0 [some (vR (some 2175)), some (vR (some pr)), some (vR (some k)), none, none] [] σ _
    refine x_lr (z := some k) T_159_0 rfl ?_
    refine x_ic T_159_1 ?_
    refine x_cv2 T_159_2 mN_160 mL_160 (Nat.le_of_ble_eq_true rfl) mO_160 (hP.o hC.1) (Nat.le_of_ble_eq_true rfl) (hde) ?_
    rintro _ σ ⟨rfl, rfl⟩
    refine cI ?_
    refine x_si (ls1 := [some (vR (some 2175)), some (vR (some pr)), some (vR (some k)), some (vI n), none]) T_159_5 rfl ?_
    refine x_lr (z := some k) T_159_6 rfl ?_
    refine x_gI (z := 3) T_159_7 (Or.inl F_16_4) (hP.o hC.1) (Eq.trans (hP.gi hC.1 (key := 2516) rfl) h5) ?_
    refine x_ic T_159_10 ?_
    refine x_ic2 T_159_11 (fun h => absurd (show ¬ (3 : Int) = 3 from h) (by decide)) (fun _ => ?_)
    refine x_li (z := n) T_159_14 rfl ?_
    refine x_ic T_159_15 ?_
    refine x_ic2 T_159_16 (fun _ => ?_) (fun h => absurd (show ¬ n = (-1) by omega) h)
    refine x_lr (z := some 2175) T_159_22 rfl ?_
    refine x_gR (z := some 129) T_159_23 F_14_0 (hP.o xo_2175) (hP.rc xo_2175 rfl rfl) ?_
    refine x_lr (z := some pr) T_159_26 rfl ?_
    refine x_lr (z := some k) T_159_27 rfl ?_
    refine x_ic T_159_28 ?_
    refine x_lr (z := some 2175) T_159_29 rfl ?_
    refine x_gR (z := some 2178) T_159_30 F_14_2 (hP.o xo_2175) (hP.rc xo_2175 rfl rfl) ?_
    refine x_ic T_159_33 ?_
    refine x_cv6 T_159_34 mN_117 mL_117 (Nat.le_of_ble_eq_true rfl) mO_117 (hP.o xo_129) (Nat.le_of_ble_eq_true rfl) (hre) ?_
    clear hP hre
    rintro _ σ ⟨rfl, V, V3, hP, hXV, hq, hFV⟩
    refine cI ?_
    refine x_si (ls1 := [some (vR (some 2175)), some (vR (some pr)), some (vR (some k)), some (vI n), some (vI e)]) T_159_37 rfl ?_
    refine x_li (z := e) T_159_39 rfl ?_
    refine x_if T_159_41 (fun _ => ?_) (fun h => absurd (show ¬ e = 0 by omega) h)
    refine x_li (z := e) T_159_91 rfl ?_
    refine x_ri T_159_93 ?_
    exact ⟨rfl, V, V3, hP, XW.mono hXV (by omega), FCM_fk hFV (by decide)⟩
theorem md_rng {u : Int} (hu : 0 ≤ u ∧ u < 4294967296) (hn : 0 ≤ n ∧ n ≤ 999) : 0 ≤ or64 (and64 u (-512)) n ∧ or64 (and64 u (-512)) n < 281474976710656 := by
  rw [and64_m512 hu]
  obtain ⟨a, ha⟩ : ∃ a : Nat, u / 512 * 512 = (a : Int) := ⟨(u / 512 * 512).toNat, by omega⟩
  obtain ⟨b, hb⟩ : ∃ b : Nat, n = (b : Int) := ⟨n.toNat, by omega⟩
  rw [ha, hb, or64_nat (by omega) (by omega)]
  have h : (a ||| b) < 2 ^ 48 := Nat.or_lt_two_pow (by omega) (by omega)
  omega
theorem x_chmod (hP : PX σ0 W R σ) (hX : XW K T U W R P) (hT : T + 1200 ≤ 2147483000) (hp : 0 ≤ p ∧ p < 8) (hlv : ¬ P 2320 p = 0) (hC : CMD W k l) (hw : ((lnW l).length : Int) = 3) : CL fb (d + 10) 161 [vR (some 2175), vR (some (prO p)), vR (some k)] σ (XCM σ0 K (T + 316) U W R (cChm P p (lnB l 1) (lnB l 2))) := by
  have hre := x_reach (fb := fb) (d := d) (thr := 0) hP hX (by omega) hp hlv hC (w := 2) ⟨by decide, by omega⟩ one_o (by decide) (Or.inl rfl)
  have hde := x_octal (fb := fb) (d := d + 6) (w := 1) hP hC (by decide)
  rw [if_pos (by omega)] at hde
  have hnr := nmN_r8 (wd := lnB l 1)
  have eK : cChm P p (lnB l 1) (lnB l 2) = if nmN (lnB l 1) 8 3 < 0 then (18, P, []) else if 0 < (kWW P p 0 (lnB l 2)).1 then ((kWW P p 0 (lnB l 2)).1, (kWW P p 0 (lnB l 2)).2.1, []) else cChm2 (kWW P p 0 (lnB l 2)).2.1 (kWW P p 0 (lnB l 2)).2.2 (nmN (lnB l 1) 8 3) := rfl
  obtain ⟨n, hn⟩ : ∃ q, nmN (lnB l 1) 8 3 = q := ⟨_, rfl⟩
  rw [hn] at hde hnr eK
  have hpo := prO_o hp
  have h5 := hC.2.2.2.2.1.trans hw
  obtain ⟨pr, hpr⟩ : ∃ q, prO p = q := ⟨_, rfl⟩
  rw [hpr] at hre hpo ⊢
  have hr0 := (KF_kWW (thr := 0) (wd := lnB l 2) hX.1.2.2.2.1.iv hX.1.2.2.2.2.2.2 hp).2
  obtain ⟨A, hA⟩ : ∃ A, kWW P p 0 (lnB l 2) = A := ⟨_, rfl⟩
  rw [hA] at hre eK hr0
  rw [eK]
  obtain ⟨e, Q, s, f, pa, kd, cp⟩ := A
  by_cases q0 : n < 0
  · rw [if_pos q0]
    have hn1 : n = -1 := by omega
    subst hn1
    refine CL_in mL_161 rfl ?_
    show WP fb _ 161 0 [some (vR (some 2175)), some (vR (some pr)), some (vR (some k)), none, none, none, none] [] σ _
    refine x_lr (z := some k) T_161_0 rfl ?_
    refine x_ic T_161_1 ?_
    refine x_cv2 T_161_2 mN_149 mL_149 (Nat.le_of_ble_eq_true rfl) mO_149 (hP.o hC.1) (Nat.le_of_ble_eq_true rfl) (hde) ?_
    rintro _ σ ⟨rfl, rfl⟩
    refine cI ?_
    refine x_si (ls1 := [some (vR (some 2175)), some (vR (some pr)), some (vR (some k)), some (vI (-1)), none, none, none]) T_161_5 rfl ?_
    refine x_lr (z := some k) T_161_6 rfl ?_
    refine x_gI (z := 3) T_161_7 (Or.inl F_16_4) (hP.o hC.1) (Eq.trans (hP.gi hC.1 (key := 2516) rfl) h5) ?_
    refine x_ic T_161_10 ?_
    refine x_ic2 T_161_11 (fun h => absurd (show ¬ (3 : Int) = 3 from h) (by decide)) (fun _ => ?_)
    refine x_li (z := (-1)) T_161_14 rfl ?_
    refine x_ic T_161_15 ?_
    refine x_ic2 T_161_16 (fun h => absurd (show ¬ ((-1) : Int) = (-1) from h) (by decide)) (fun _ => ?_)
    refine x_ic T_161_19 ?_
    refine x_ri T_161_21 ?_
    exact ⟨rfl, W, R, hP, XW.mono hX (by omega), FCM_rfl⟩
  rw [if_neg q0]
  by_cases q : e = 0
  rotate_left
  · rw [if_pos (show 0 < e by have : 0 ≤ e := hr0; omega)]
    show CL fb (d + 10) 161 _ σ (XCM σ0 K (T + 316) U W R (e, Q, []))
    refine CL_in mL_161 rfl ?_
    show WP fb _ 161 0 [some (vR (some 2175)), some (vR (some pr)), some (vR (some k)), none, none, none, none] [] σ _
    refine x_lr (z := some k) T_161_0 rfl ?_
    refine x_ic T_161_1 ?_
    refine x_cv2 T_161_2 mN_149 mL_149 (Nat.le_of_ble_eq_true rfl) mO_149 (hP.o hC.1) (Nat.le_of_ble_eq_true rfl) (hde) ?_
    rintro _ σ ⟨rfl, rfl⟩
    refine cI ?_
    refine x_si (ls1 := [some (vR (some 2175)), some (vR (some pr)), some (vR (some k)), some (vI n), none, none, none]) T_161_5 rfl ?_
    refine x_lr (z := some k) T_161_6 rfl ?_
    refine x_gI (z := 3) T_161_7 (Or.inl F_16_4) (hP.o hC.1) (Eq.trans (hP.gi hC.1 (key := 2516) rfl) h5) ?_
    refine x_ic T_161_10 ?_
    refine x_ic2 T_161_11 (fun h => absurd (show ¬ (3 : Int) = 3 from h) (by decide)) (fun _ => ?_)
    refine x_li (z := n) T_161_14 rfl ?_
    refine x_ic T_161_15 ?_
    refine x_ic2 T_161_16 (fun _ => ?_) (fun h => absurd (show ¬ n = (-1) by omega) h)
    refine x_lr (z := some 2175) T_161_22 rfl ?_
    refine x_gR (z := some 129) T_161_23 F_14_0 (hP.o xo_2175) (hP.rc xo_2175 rfl rfl) ?_
    refine x_lr (z := some pr) T_161_26 rfl ?_
    refine x_lr (z := some k) T_161_27 rfl ?_
    refine x_ic T_161_28 ?_
    refine x_lr (z := some 2175) T_161_29 rfl ?_
    refine x_gR (z := some 2178) T_161_30 F_14_2 (hP.o xo_2175) (hP.rc xo_2175 rfl rfl) ?_
    refine x_ic T_161_33 ?_
    refine x_cv6 T_161_34 mN_117 mL_117 (Nat.le_of_ble_eq_true rfl) mO_117 (hP.o xo_129) (Nat.le_of_ble_eq_true rfl) (hre) ?_
    clear hP hre
    rintro _ σ ⟨rfl, V, V3, hP, hXV, hq, hFV⟩
    refine cI ?_
    refine x_si (ls1 := [some (vR (some 2175)), some (vR (some pr)), some (vR (some k)), some (vI n), some (vI e), none, none]) T_161_37 rfl ?_
    refine x_li (z := e) T_161_39 rfl ?_
    refine x_if T_161_41 (fun h => absurd (show e = 0 from h) (by omega)) (fun _ => ?_)
    refine x_li (z := e) T_161_44 rfl ?_
    refine x_ri T_161_46 ?_
    exact ⟨rfl, V, V3, hP, XW.mono hXV (by omega), FCM_fk hFV (by decide)⟩
  subst q
  rw [if_neg (show ¬ (0 : Int) < 0 by decide)]
  have e2K : cChm2 Q (s, f, pa, kd, cp) n = if 0 < tE Q s (mOne 124 f) then (tE Q s (mOne 124 f), tP Q s (mOne 124 f), [(s, f, pa, kd, cp)]) else (tE (tP Q s (mOne 124 f)) s (mWst f [] (or64 (and64 (nu (lg (tA Q s (mOne 124 f))) 30 4) (-512)) n) (-1)), tP (tP Q s (mOne 124 f)) s (mWst f [] (or64 (and64 (nu (lg (tA Q s (mOne 124 f))) 30 4) (-512)) n) (-1)), [(s, f, pa, kd, cp)]) := rfl
  show CL fb (d + 10) 161 _ σ (XCM σ0 K (T + 316) U W R (cChm2 Q (s, f, pa, kd, cp) n))
  rw [e2K]
  have hab := fun (σ : hM) (V : qR) (V3 : rR) (hP : PX σ0 V V3 σ) (hf : 0 ≤ f ∧ f ≤ 47) => x_about (fb := fb) (d := d + 6) (t := 124) (f := f) hP (by decide) ⟨by omega, by omega⟩
  have hs1 := fun (σ : hM) (V : qR) (V3 : rR) (hX : XW K (T + 300) U V V3 Q) (V4 : qR) (hP : PX σ0 V4 V3 σ) (hF : FR1 V V4) (hB : BY V4 138 300 (mFr (mOne 124 f))) (hs0 : V4 2178 2160 = s) (hs : 0 ≤ s ∧ s < 3) => mOne_s (fb := fb) (d := d + 1) hP (hX.fr1 hF) (by omega) hs0 one_o hs (Or.inr (Or.inr rfl)) hB
  have her := tE_rng (P := Q) (s := s) (l := mOne 124 f)
  have hst : 0 ≤ s ∧ s < 3 → tE Q s (mOne 124 f) = 0 → 50 ≤ (tA Q s (mOne 124 f)).length := fun hs hz => by
    obtain ⟨n, h1, -⟩ := stat_ok (P := Q) hs hz
    rw [h1]
    have := statL_ge (P := gM1 Q (seg (msgA (mOne 124 f)) 0 (4 + ((mOne 124 f).length : Int)).toNat)) (s := s) (n := n)
    unfold ansL
    simp only [List.length_append, leb_len, List.length_cons, List.length_nil]
    omega
  obtain ⟨A, hA⟩ : ∃ A, tA Q s (mOne 124 f) = A := ⟨_, rfl⟩
  obtain ⟨Q1, hQ1⟩ : ∃ A, tP Q s (mOne 124 f) = A := ⟨_, rfl⟩
  obtain ⟨e1, he1⟩ : ∃ q, tE Q s (mOne 124 f) = q := ⟨_, rfl⟩
  rw [he1] at her
  rw [hA, he1] at hst
  simp only [hA, hQ1, he1] at hs1 ⊢
  by_cases q1 : e1 = 0
  rotate_left
  · rw [if_pos (show 0 < e1 by omega)]
    have hck := fun (σ : hM) (V : qR) (V3 : rR) (hP : PX σ0 V V3 σ) (hX : XW K (T + 300 + 4) U V V3 Q1) (hch : CHX V V3 2178 (s, f, pa, kd, cp)) (hcr : chR (s, f, pa, kd, cp)) => x_clunk1 (fb := fb) (d := d + 1) hP hX (by omega) hch hcr
    obtain ⟨e3, he3⟩ : ∃ q, tE Q1 (s, f, pa, kd, cp).1 (mOne 120 (s, f, pa, kd, cp).2.1) = q := ⟨_, rfl⟩
    simp only [he3] at hck
    refine CL_in mL_161 rfl ?_
    show WP fb _ 161 0 [some (vR (some 2175)), some (vR (some pr)), some (vR (some k)), none, none, none, none] [] σ _
    refine x_lr (z := some k) T_161_0 rfl ?_
    refine x_ic T_161_1 ?_
    refine x_cv2 T_161_2 mN_149 mL_149 (Nat.le_of_ble_eq_true rfl) mO_149 (hP.o hC.1) (Nat.le_of_ble_eq_true rfl) (hde) ?_
    rintro _ σ ⟨rfl, rfl⟩
    refine cI ?_
    refine x_si (ls1 := [some (vR (some 2175)), some (vR (some pr)), some (vR (some k)), some (vI n), none, none, none]) T_161_5 rfl ?_
    refine x_lr (z := some k) T_161_6 rfl ?_
    refine x_gI (z := 3) T_161_7 (Or.inl F_16_4) (hP.o hC.1) (Eq.trans (hP.gi hC.1 (key := 2516) rfl) h5) ?_
    refine x_ic T_161_10 ?_
    refine x_ic2 T_161_11 (fun h => absurd (show ¬ (3 : Int) = 3 from h) (by decide)) (fun _ => ?_)
    refine x_li (z := n) T_161_14 rfl ?_
    refine x_ic T_161_15 ?_
    refine x_ic2 T_161_16 (fun _ => ?_) (fun h => absurd (show ¬ n = (-1) by omega) h)
    refine x_lr (z := some 2175) T_161_22 rfl ?_
    refine x_gR (z := some 129) T_161_23 F_14_0 (hP.o xo_2175) (hP.rc xo_2175 rfl rfl) ?_
    refine x_lr (z := some pr) T_161_26 rfl ?_
    refine x_lr (z := some k) T_161_27 rfl ?_
    refine x_ic T_161_28 ?_
    refine x_lr (z := some 2175) T_161_29 rfl ?_
    refine x_gR (z := some 2178) T_161_30 F_14_2 (hP.o xo_2175) (hP.rc xo_2175 rfl rfl) ?_
    refine x_ic T_161_33 ?_
    refine x_cv6 T_161_34 mN_117 mL_117 (Nat.le_of_ble_eq_true rfl) mO_117 (hP.o xo_129) (Nat.le_of_ble_eq_true rfl) (hre) ?_
    clear hP hre
    rintro _ σ ⟨rfl, V, V3, hP, hXV, hq, hFV⟩
    obtain ⟨⟨hch, hcr⟩, -⟩ := hq rfl
    have hf0 : V 2178 2161 = f := hch.2.1
    have hCV := hC.fcm (FCM_fk hFV (by decide))
    refine cI ?_
    refine x_si (ls1 := [some (vR (some 2175)), some (vR (some pr)), some (vR (some k)), some (vI n), some (vI 0), none, none]) T_161_37 rfl ?_
    refine x_li (z := 0) T_161_39 rfl ?_
    refine x_if T_161_41 (fun _ => ?_) (fun h => absurd (show (0 : Int) = 0 by rfl) h)
    refine x_lr (z := some 2175) T_161_47 rfl ?_
    refine x_lr (z := some 2175) T_161_48 rfl ?_
    refine x_gR (z := some 2178) T_161_49 F_14_2 (hP.o xo_2175) (hP.rc xo_2175 rfl rfl) ?_
    refine x_lr (z := some 2175) T_161_52 rfl ?_
    refine x_gR (z := some 129) T_161_53 F_14_0 (hP.o xo_2175) (hP.rc xo_2175 rfl rfl) ?_
    refine x_ic T_161_56 ?_
    refine x_lr (z := some 2175) T_161_58 rfl ?_
    refine x_gR (z := some 2178) T_161_59 F_14_2 (hP.o xo_2175) (hP.rc xo_2175 rfl rfl) ?_
    refine x_gI (z := f) T_161_62 (Or.inl F_5_1) (hP.o xo_2178) (Eq.trans (hP.gi xo_2178 (key := 2161) rfl) hf0) ?_
    refine x_cv3 T_161_65 mN_131 mL_131 (Nat.le_of_ble_eq_true rfl) mO_131 (hP.o xo_129) (Nat.le_of_ble_eq_true rfl) (hab σ V V3 hP hcr.2.1) ?_
    clear hP hab
    rintro _ σ ⟨rfl, V4, hP, hB4, hF4⟩
    refine cR ?_
    refine x_cv3 T_161_68 mN_136 mL_136 (Nat.le_of_ble_eq_true rfl) mO_136 (hP.o xo_2175) (Nat.le_of_ble_eq_true rfl) (hs1 σ V V3 hXV V4 hP hF4 hB4 (hch.sf hF4 (by decide)).1 hcr.1) ?_
    clear hP hs1
    rintro _ σ ⟨rfl, V5, V6, hP, hX5, hB5, hF5⟩
    have hch5 := (hch.fa (FA_fr hF4) (by decide) (by decide) hcr.2.2).fa (FA_fs hF5) (by decide) (by decide) hcr.2.2
    refine cI ?_
    refine x_si (ls1 := [some (vR (some 2175)), some (vR (some pr)), some (vR (some k)), some (vI n), some (vI e1), none, none]) T_161_71 rfl ?_
    refine x_li (z := e1) T_161_73 rfl ?_
    refine x_if T_161_75 (fun _ => ?_) (fun h => absurd (show ¬ e1 = 0 by omega) h)
    refine x_lr (z := some 2175) T_161_135 rfl ?_
    refine x_gR (z := some 129) T_161_136 F_14_0 (hP.o xo_2175) (hP.rc xo_2175 rfl rfl) ?_
    refine x_lr (z := some 2175) T_161_139 rfl ?_
    refine x_gR (z := some 2178) T_161_140 F_14_2 (hP.o xo_2175) (hP.rc xo_2175 rfl rfl) ?_
    refine x_cv2 T_161_143 mN_132 mL_132 (Nat.le_of_ble_eq_true rfl) mO_132 (hP.o xo_129) (Nat.le_of_ble_eq_true rfl) (hck σ V5 V6 hP hX5 hch5 hcr) ?_
    clear hP hck
    rintro _ σ ⟨rfl, V7, V8, hP, hX7, hF7⟩
    refine cI ?_
    refine x_popI T_161_146 ?_
    refine x_li (z := e1) T_161_147 rfl ?_
    refine x_ri T_161_149 ?_
    exact ⟨rfl, V7, V8, hP, hX7.mono (by omega), FCM_tr (FCM_fk hFV (by decide)) (FCM_tr (FCM_fr hF4) (FCM_tr (FCM_fs hF5) (FCM_fa hF7)))⟩
  subst q1
  rw [if_neg (show ¬ (0 : Int) < 0 by decide)]
  obtain ⟨u, hu⟩ : ∃ q, nu (lg A) 30 4 = q := ⟨_, rfl⟩
  have hnu := fun (σ : hM) (V : qR) (V3 : rR) (hP : PX σ0 V V3 σ) (hB : BY V 134 300 A) (h50 : 50 ≤ A.length) => x_num (fb := fb) (d := d + 9) (s := 30) (k := 4) 4 hP hB rfl rfl (by decide) (by decide) (by omega) hu
  rw [hu]
  have hub : byt A → 0 ≤ u ∧ u < 4294967296 := fun hA => by
    have := nu_rng (f := lg A) (i := 30) 4 (fun k hk => hA _ (by omega))
    have e4 : (256 : Int) ^ 4 = 4294967296 := by decide
    rw [hu] at this
    omega
  have hmr : byt A → 0 ≤ or64 (and64 u (-512)) n ∧ or64 (and64 u (-512)) n < 281474976710656 := fun hA => md_rng (hub hA) ⟨by omega, by omega⟩
  obtain ⟨md, hmd⟩ : ∃ q, or64 (and64 u (-512)) n = q := ⟨_, rfl⟩
  rw [hmd] at hmr ⊢
  have hte := fun (σ : hM) (V : qR) (V3 : rR) (hP : PX σ0 V V3 σ) (hf : 0 ≤ f ∧ f ≤ 47) (hCV : CMD V k l) (hm : 0 ≤ md ∧ md < 281474976710656) => x_telling (fb := fb) (d := d + 6) (f := f) (md := md) (ln := -1) (s := 0) (e := 0) (nm := []) hP ⟨by omega, by omega⟩ ⟨by omega, by omega⟩ (by decide) hCV.2.2.2.1 (by have := hC.2.2.1; omega) ⟨by decide, by decide, by omega⟩ rfl (by decide)
  have hse := fun (σ : hM) (V : qR) (V3 : rR) (hX : XW K (T + 300 + 4) U V V3 Q1) (V4 : qR) (hP : PX σ0 V4 V3 σ) (hF : FR1 V V4) (hB : BY V4 138 300 (mFr (mWst f [] md (-1)))) (hs0 : V4 2178 2160 = s) (hs : 0 ≤ s ∧ s < 3) => mWst_s (fb := fb) (d := d + 1) hP (hX.fr1 hF) (by omega) hs0 one_o hs (by decide) hB
  obtain ⟨e2, he2⟩ : ∃ q, tE Q1 s (mWst f [] md (-1)) = q := ⟨_, rfl⟩
  simp only [he2] at hse ⊢
  have hck := fun (σ : hM) (V : qR) (V3 : rR) (hP : PX σ0 V V3 σ) (hX : XW K (T + 300 + 4 + 4) U V V3 (tP Q1 s (mWst f [] md (-1)))) (hch : CHX V V3 2178 (s, f, pa, kd, cp)) (hcr : chR (s, f, pa, kd, cp)) => x_clunk1 (fb := fb) (d := d + 1) hP hX (by omega) hch hcr
  obtain ⟨e3, he3⟩ : ∃ q, tE (tP Q1 s (mWst f [] md (-1))) (s, f, pa, kd, cp).1 (mOne 120 (s, f, pa, kd, cp).2.1) = q := ⟨_, rfl⟩
  simp only [he3] at hck
  refine CL_in mL_161 rfl ?_
  show WP fb _ 161 0 [some (vR (some 2175)), some (vR (some pr)), some (vR (some k)), none, none, none, none] [] σ _
  refine x_lr (z := some k) T_161_0 rfl ?_
  refine x_ic T_161_1 ?_
  refine x_cv2 T_161_2 mN_149 mL_149 (Nat.le_of_ble_eq_true rfl) mO_149 (hP.o hC.1) (Nat.le_of_ble_eq_true rfl) (hde) ?_
  rintro _ σ ⟨rfl, rfl⟩
  refine cI ?_
  refine x_si (ls1 := [some (vR (some 2175)), some (vR (some pr)), some (vR (some k)), some (vI n), none, none, none]) T_161_5 rfl ?_
  refine x_lr (z := some k) T_161_6 rfl ?_
  refine x_gI (z := 3) T_161_7 (Or.inl F_16_4) (hP.o hC.1) (Eq.trans (hP.gi hC.1 (key := 2516) rfl) h5) ?_
  refine x_ic T_161_10 ?_
  refine x_ic2 T_161_11 (fun h => absurd (show ¬ (3 : Int) = 3 from h) (by decide)) (fun _ => ?_)
  refine x_li (z := n) T_161_14 rfl ?_
  refine x_ic T_161_15 ?_
  refine x_ic2 T_161_16 (fun _ => ?_) (fun h => absurd (show ¬ n = (-1) by omega) h)
  refine x_lr (z := some 2175) T_161_22 rfl ?_
  refine x_gR (z := some 129) T_161_23 F_14_0 (hP.o xo_2175) (hP.rc xo_2175 rfl rfl) ?_
  refine x_lr (z := some pr) T_161_26 rfl ?_
  refine x_lr (z := some k) T_161_27 rfl ?_
  refine x_ic T_161_28 ?_
  refine x_lr (z := some 2175) T_161_29 rfl ?_
  refine x_gR (z := some 2178) T_161_30 F_14_2 (hP.o xo_2175) (hP.rc xo_2175 rfl rfl) ?_
  refine x_ic T_161_33 ?_
  refine x_cv6 T_161_34 mN_117 mL_117 (Nat.le_of_ble_eq_true rfl) mO_117 (hP.o xo_129) (Nat.le_of_ble_eq_true rfl) (hre) ?_
  clear hP hre
  rintro _ σ ⟨rfl, V, V3, hP, hXV, hq, hFV⟩
  obtain ⟨⟨hch, hcr⟩, -⟩ := hq rfl
  have hf0 : V 2178 2161 = f := hch.2.1
  have hCV := hC.fcm (FCM_fk hFV (by decide))
  refine cI ?_
  refine x_si (ls1 := [some (vR (some 2175)), some (vR (some pr)), some (vR (some k)), some (vI n), some (vI 0), none, none]) T_161_37 rfl ?_
  refine x_li (z := 0) T_161_39 rfl ?_
  refine x_if T_161_41 (fun _ => ?_) (fun h => absurd (show (0 : Int) = 0 by rfl) h)
  refine x_lr (z := some 2175) T_161_47 rfl ?_
  refine x_lr (z := some 2175) T_161_48 rfl ?_
  refine x_gR (z := some 2178) T_161_49 F_14_2 (hP.o xo_2175) (hP.rc xo_2175 rfl rfl) ?_
  refine x_lr (z := some 2175) T_161_52 rfl ?_
  refine x_gR (z := some 129) T_161_53 F_14_0 (hP.o xo_2175) (hP.rc xo_2175 rfl rfl) ?_
  refine x_ic T_161_56 ?_
  refine x_lr (z := some 2175) T_161_58 rfl ?_
  refine x_gR (z := some 2178) T_161_59 F_14_2 (hP.o xo_2175) (hP.rc xo_2175 rfl rfl) ?_
  refine x_gI (z := f) T_161_62 (Or.inl F_5_1) (hP.o xo_2178) (Eq.trans (hP.gi xo_2178 (key := 2161) rfl) hf0) ?_
  refine x_cv3 T_161_65 mN_131 mL_131 (Nat.le_of_ble_eq_true rfl) mO_131 (hP.o xo_129) (Nat.le_of_ble_eq_true rfl) (hab σ V V3 hP hcr.2.1) ?_
  clear hP hab
  rintro _ σ ⟨rfl, V4, hP, hB4, hF4⟩
  refine cR ?_
  refine x_cv3 T_161_68 mN_136 mL_136 (Nat.le_of_ble_eq_true rfl) mO_136 (hP.o xo_2175) (Nat.le_of_ble_eq_true rfl) (hs1 σ V V3 hXV V4 hP hF4 hB4 (hch.sf hF4 (by decide)).1 hcr.1) ?_
  clear hP hs1
  rintro _ σ ⟨rfl, V5, V6, hP, hX5, hB5, hF5⟩
  have hch5 := (hch.fa (FA_fr hF4) (by decide) (by decide) hcr.2.2).fa (FA_fs hF5) (by decide) (by decide) hcr.2.2
  have hf5 : V5 2178 2161 = f := hch5.2.1
  have hCV5 := (hCV.fcm (FCM_fr (R := V3) hF4)).fcm (FCM_fs hF5)
  refine cI ?_
  refine x_si (ls1 := [some (vR (some 2175)), some (vR (some pr)), some (vR (some k)), some (vI n), some (vI 0), none, none]) T_161_71 rfl ?_
  refine x_li (z := 0) T_161_73 rfl ?_
  refine x_if T_161_75 (fun h => absurd (show ¬ (0 : Int) = 0 from h) (by decide)) (fun _ => ?_)
  refine x_lr (z := some 2175) T_161_78 rfl ?_
  refine x_gR (z := some 129) T_161_79 F_14_0 (hP.o xo_2175) (hP.rc xo_2175 rfl rfl) ?_
  refine x_gR (z := some 134) T_161_82 F_1_2 (hP.o xo_129) (hP.rc xo_129 rfl rfl) ?_
  refine x_ic T_161_85 ?_
  refine x_ic T_161_87 ?_
  refine x_cv3 T_161_88 mN_29 mL_29 (Nat.le_of_ble_eq_true rfl) mO_29 (hP.o xo_134) (Nat.le_of_ble_eq_true rfl) (hnu σ V5 V6 hP hB5 (hst hcr.1 rfl)) ?_
  rintro _ σ ⟨rfl, rfl⟩
  refine cL ?_
  refine x_lc T_161_91 ?_
  refine x_lb (w := (and64 u (-512))) T_161_94 (fun h => absurd h.1 (by decide)) rfl ?_
  refine x_li (z := n) T_161_95 rfl ?_
  refine x_i2l T_161_96 ?_
  refine x_lb (w := md) T_161_97 (fun h => absurd h.1 (by decide)) hmd ?_
  refine x_sl (ls1 := [some (vR (some 2175)), some (vR (some pr)), some (vR (some k)), some (vI n), some (vI 0), some (vL md), none]) T_161_98 rfl ?_
  refine x_lr (z := some 2175) T_161_100 rfl ?_
  refine x_lr (z := some 2175) T_161_101 rfl ?_
  refine x_gR (z := some 2178) T_161_102 F_14_2 (hP.o xo_2175) (hP.rc xo_2175 rfl rfl) ?_
  refine x_lr (z := some 2175) T_161_105 rfl ?_
  refine x_gR (z := some 129) T_161_106 F_14_0 (hP.o xo_2175) (hP.rc xo_2175 rfl rfl) ?_
  refine x_lr (z := some 2175) T_161_109 rfl ?_
  refine x_gR (z := some 2178) T_161_110 F_14_2 (hP.o xo_2175) (hP.rc xo_2175 rfl rfl) ?_
  refine x_gI (z := f) T_161_113 (Or.inl F_5_1) (hP.o xo_2178) (Eq.trans (hP.gi xo_2178 (key := 2161) rfl) hf5) ?_
  refine x_ll (z := md) T_161_116 rfl ?_
  refine x_lc T_161_118 ?_
  refine x_lr (z := some k) T_161_121 rfl ?_
  refine x_gR (z := some (k + 1)) T_161_122 F_16_0 (hP.o hC.1) (hP.rc hC.1 rfl rfl) ?_
  refine x_ic T_161_125 ?_
  refine x_ic T_161_126 ?_
  refine x_cv7 T_161_127 mN_158 mL_158 (Nat.le_of_ble_eq_true rfl) mO_158 (hP.o xo_129) (Nat.le_of_ble_eq_true rfl) (hte σ V5 V6 hP hcr.2.1 hCV5 (hmr hB5.2.2.2.2.2.1)) ?_
  clear hP hte
  rintro _ σ ⟨rfl, V9, hP, hB9, hF9⟩
  refine cR ?_
  refine x_cv3 T_161_130 mN_136 mL_136 (Nat.le_of_ble_eq_true rfl) mO_136 (hP.o xo_2175) (Nat.le_of_ble_eq_true rfl) (hse σ V5 V6 hX5 V9 hP hF9 hB9 (hch5.sf hF9 (by decide)).1 hcr.1) ?_
  clear hP hse
  rintro _ σ ⟨rfl, Y5, Y6, hP, hY5, hBY5, hFY5⟩
  have hchy := (hch5.fa (FA_fr hF9) (by decide) (by decide) hcr.2.2).fa (FA_fs hFY5) (by decide) (by decide) hcr.2.2
  refine cI ?_
  refine x_si (ls1 := [some (vR (some 2175)), some (vR (some pr)), some (vR (some k)), some (vI n), some (vI e2), some (vL md), none]) T_161_133 rfl ?_
  refine x_lr (z := some 2175) T_161_135 rfl ?_
  refine x_gR (z := some 129) T_161_136 F_14_0 (hP.o xo_2175) (hP.rc xo_2175 rfl rfl) ?_
  refine x_lr (z := some 2175) T_161_139 rfl ?_
  refine x_gR (z := some 2178) T_161_140 F_14_2 (hP.o xo_2175) (hP.rc xo_2175 rfl rfl) ?_
  refine x_cv2 T_161_143 mN_132 mL_132 (Nat.le_of_ble_eq_true rfl) mO_132 (hP.o xo_129) (Nat.le_of_ble_eq_true rfl) (hck σ Y5 Y6 hP hY5 hchy hcr) ?_
  clear hP hck
  rintro _ σ ⟨rfl, V7, V8, hP, hX7, hF7⟩
  refine cI ?_
  refine x_popI T_161_146 ?_
  refine x_li (z := e2) T_161_147 rfl ?_
  refine x_ri T_161_149 ?_
  exact ⟨rfl, V7, V8, hP, hX7.mono (by omega), FCM_tr (FCM_fk hFV (by decide)) (FCM_tr (FCM_fr hF4) (FCM_tr (FCM_fs hF5) (FCM_tr (FCM_fr hF9) (FCM_tr (FCM_fs hFY5) (FCM_fa hF7)))))⟩
end XCMDB
