/-! The class's unmount: all of it. -/
theorem T_181_0 : hTab 181 0 = some ((3, 2, 2, []), 1) := rfl
theorem T_181_1 : hTab 181 1 = some ((24, 16, Int.ofNat 4, []), 4) := rfl
theorem T_181_4 : hTab 181 4 = some ((0, 0, 2, []), 5) := rfl
theorem T_181_5 : hTab 181 5 = some ((19, 2, Int.ofNat 16, []), 8) := rfl
theorem T_181_8 : hTab 181 8 = some ((3, 2, 2, []), 9) := rfl
theorem T_181_9 : hTab 181 9 = some ((24, 16, Int.ofNat 4, []), 12) := rfl
theorem T_181_12 : hTab 181 12 = some ((0, 0, 3, []), 13) := rfl
theorem T_181_13 : hTab 181 13 = some ((19, 5, Int.ofNat 19, []), 16) := rfl
theorem T_181_16 : hTab 181 16 = some ((0, 0, 18, []), 18) := rfl
theorem T_181_18 : hTab 181 18 = some ((33, 1, 0, []), 19) := rfl
theorem T_181_19 : hTab 181 19 = some ((3, 0, 2, []), 20) := rfl
theorem T_181_20 : hTab 181 20 = some ((24, 14, Int.ofNat 0, []), 23) := rfl
theorem T_181_23 : hTab 181 23 = some ((3, 1, 2, []), 24) := rfl
theorem T_181_24 : hTab 181 24 = some ((3, 2, 2, []), 25) := rfl
theorem T_181_25 : hTab 181 25 = some ((0, 0, 1, []), 26) := rfl
theorem T_181_26 : hTab 181 26 = some ((3, 0, 2, []), 27) := rfl
theorem T_181_27 : hTab 181 27 = some ((24, 14, Int.ofNat 2, []), 30) := rfl
theorem T_181_30 : hTab 181 30 = some ((0, 0, 0, []), 31) := rfl
theorem T_181_31 : hTab 181 31 = some ((31, 117, 0, []), 34) := rfl
theorem T_181_34 : hTab 181 34 = some ((4, 3, 0, []), 35) := rfl
theorem T_181_35 : hTab 181 35 = some ((3, 2, 2, []), 36) := rfl
theorem T_181_36 : hTab 181 36 = some ((24, 16, Int.ofNat 4, []), 39) := rfl
theorem T_181_39 : hTab 181 39 = some ((0, 0, 3, []), 40) := rfl
theorem T_181_40 : hTab 181 40 = some ((19, 1, Int.ofNat 75, []), 43) := rfl
theorem T_181_43 : hTab 181 43 = some ((3, 3, 0, []), 44) := rfl
theorem T_181_44 : hTab 181 44 = some ((18, 1, Int.ofNat 56, []), 47) := rfl
theorem T_181_47 : hTab 181 47 = some ((3, 0, 2, []), 48) := rfl
theorem T_181_48 : hTab 181 48 = some ((3, 1, 2, []), 49) := rfl
theorem T_181_49 : hTab 181 49 = some ((3, 2, 2, []), 50) := rfl
theorem T_181_50 : hTab 181 50 = some ((31, 173, 0, []), 53) := rfl
theorem T_181_53 : hTab 181 53 = some ((22, 0, Int.ofNat 57, []), 56) := rfl
theorem T_181_56 : hTab 181 56 = some ((3, 3, 0, []), 57) := rfl
theorem T_181_57 : hTab 181 57 = some ((4, 3, 0, []), 58) := rfl
theorem T_181_58 : hTab 181 58 = some ((3, 3, 0, []), 59) := rfl
theorem T_181_59 : hTab 181 59 = some ((18, 1, Int.ofNat 73, []), 62) := rfl
theorem T_181_62 : hTab 181 62 = some ((3, 0, 2, []), 63) := rfl
theorem T_181_63 : hTab 181 63 = some ((3, 1, 2, []), 64) := rfl
theorem T_181_64 : hTab 181 64 = some ((24, 6, Int.ofNat 9, []), 67) := rfl
theorem T_181_67 : hTab 181 67 = some ((31, 182, 0, []), 70) := rfl
theorem T_181_70 : hTab 181 70 = some ((22, 0, Int.ofNat 74, []), 73) := rfl
theorem T_181_73 : hTab 181 73 = some ((3, 3, 0, []), 74) := rfl
theorem T_181_74 : hTab 181 74 = some ((33, 1, 0, []), 75) := rfl
theorem T_181_75 : hTab 181 75 = some ((3, 3, 0, []), 76) := rfl
theorem T_181_76 : hTab 181 76 = some ((18, 0, Int.ofNat 81, []), 79) := rfl
theorem T_181_79 : hTab 181 79 = some ((3, 3, 0, []), 80) := rfl
theorem T_181_80 : hTab 181 80 = some ((33, 1, 0, []), 81) := rfl
theorem T_181_81 : hTab 181 81 = some ((3, 0, 2, []), 82) := rfl
theorem T_181_82 : hTab 181 82 = some ((24, 14, Int.ofNat 0, []), 85) := rfl
theorem T_181_85 : hTab 181 85 = some ((3, 0, 2, []), 86) := rfl
theorem T_181_86 : hTab 181 86 = some ((24, 14, Int.ofNat 2, []), 89) := rfl
theorem T_181_89 : hTab 181 89 = some ((31, 132, 0, []), 92) := rfl
theorem T_181_92 : hTab 181 92 = some ((7, 0, 0, []), 93) := rfl
theorem T_181_93 : hTab 181 93 = some ((3, 1, 2, []), 94) := rfl
theorem T_181_94 : hTab 181 94 = some ((24, 6, Int.ofNat 9, []), 97) := rfl
theorem T_181_97 : hTab 181 97 = some ((3, 0, 2, []), 98) := rfl
theorem T_181_98 : hTab 181 98 = some ((24, 14, Int.ofNat 2, []), 101) := rfl
theorem T_181_101 : hTab 181 101 = some ((24, 5, Int.ofNat 0, []), 104) := rfl
theorem T_181_104 : hTab 181 104 = some ((3, 0, 2, []), 105) := rfl
theorem T_181_105 : hTab 181 105 = some ((24, 14, Int.ofNat 2, []), 108) := rfl
theorem T_181_108 : hTab 181 108 = some ((24, 5, Int.ofNat 2, []), 111) := rfl
theorem T_181_111 : hTab 181 111 = some ((31, 129, 0, []), 114) := rfl
theorem T_181_114 : hTab 181 114 = some ((4, 4, 2, []), 116) := rfl
theorem T_181_116 : hTab 181 116 = some ((3, 4, 2, []), 118) := rfl
theorem T_181_118 : hTab 181 118 = some ((20, 1, Int.ofNat 123, []), 121) := rfl
theorem T_181_121 : hTab 181 121 = some ((0, 0, 1, []), 122) := rfl
theorem T_181_122 : hTab 181 122 = some ((33, 1, 0, []), 123) := rfl
theorem T_181_123 : hTab 181 123 = some ((3, 0, 2, []), 124) := rfl
theorem T_181_124 : hTab 181 124 = some ((24, 14, Int.ofNat 0, []), 127) := rfl
theorem T_181_127 : hTab 181 127 = some ((3, 4, 2, []), 129) := rfl
theorem T_181_129 : hTab 181 129 = some ((31, 178, 0, []), 132) := rfl
theorem T_181_132 : hTab 181 132 = some ((3, 1, 2, []), 133) := rfl
theorem T_181_133 : hTab 181 133 = some ((24, 6, Int.ofNat 9, []), 136) := rfl
theorem T_181_136 : hTab 181 136 = some ((3, 4, 2, []), 138) := rfl
theorem T_181_138 : hTab 181 138 = some ((31, 184, 0, []), 141) := rfl
theorem T_181_141 : hTab 181 141 = some ((0, 0, 0, []), 142) := rfl
theorem T_181_142 : hTab 181 142 = some ((33, 1, 0, []), 143) := rfl
theorem mN_181 : hmN 181 = 3 := by decide +kernel
theorem mL_181 : hmL 181 = 5 := by decide +kernel
theorem mK_181 : hmK 181 = 1 := by decide +kernel
theorem mO_181 : hmO 181 = 14 := by decide +kernel
section XUNO
variable {fb : Bool} {d b c n a0 y0 ga : Nat} {σ0 σ : hM} {W W1 W2 V P Q : qR} {R R1 R2 V3 : rR} {i j k x z v s e w f g u p pt pa sv K T U t N C n0 : Int} {l l0 lo nm M A wd : List Int} {c1 c2 ch : Ch} {kk : Nat}
theorem drM_kf : ∀ (m : Nat) (j : Int) (A : qR), KF (kDrM pt m j A) A
  | 0, _, _ => KF_rfl
  | m + 1, j, A => KF_tr (drM_kf m (j + 1) _) KF_tP
theorem grQ_kf (h : KF Q P) : grQ P Q g := ⟨nsR_kf h 2334 _ rfl, fun q _ _ => ⟨nsR_kf h 2335 _ rfl, nsR_kf h 2336 _ rfl, nsR_kf h 2337 _ rfl⟩, fun m _ _ => ⟨nsR_kf h 2338 _ rfl, nsR_kf h 2339 _ rfl, nsR_kf h 2340 _ rfl, nsR_kf h 2341 _ rfl, nsR_kf h 2342 _ rfl⟩⟩
/-- a point without members goes from its group -/
theorem un2_fin {V4 V6 : rR} {V5 P5 P2 : qR} (hX2 : XW K T U V V4 P2) (hg : 0 ≤ g ∧ g < 8) (hk : 0 ≤ k ∧ k < P2 2334 g) (hy : V4 (grO g + 1) k = some y0) (hkf : KF P5 P2) (hM : XM K (T + 24) U V5 V6 P5) (hF : FCL y0 V V5 V4 V6) : V5 (grO g) 2097 = P2 2334 g ∧ ARP V6 (grO g + 1) 8 (grO g + 2) 8 ∧ V6 (grO g + 1) k = some y0 ∧ XW K (T + 24) U (rU V5 (grO g) 2097 (P2 2334 g - 1)) (rmR V6 (grO g) k (P2 2334 g)) (gRmP P5 g (8 * g + k)) ∧ FCM V (rU V5 (grO g) 2097 (P2 2334 g - 1)) V4 (rmR V6 (grO g) k (P2 2334 g)) := by
  have hI2 := hX2.1.2.2.2.1.iv
  have hpb : 0 ≤ P2 2334 g ∧ P2 2334 g ≤ 8 := IV.a hI2 2334 0 8 rfl rfl rfl (by omega) (by omega)
  have hgr := hX2.1.2.2.1.2.1 g hg.1 hg.2
  have hns := fun (f : Nat) (k : Int) (hf : nsR.elem f = true) => nsR_kf hkf f k hf
  have hrg := grO_rng hg
  obtain ⟨iy, hiy, hy2⟩ := hgr.pt (k := k) ⟨hk.1, by omega⟩
  have ey : y0 = grO g + 2 + 8 * iy := Option.some.inj (hy.symm.trans hy2)
  have hC5 : P5 2334 g = P2 2334 g := hns 2334 _ rfl
  have hI5 := hM.2.2.1.iv
  have hgr5 : XGR V V6 P5 g := hgr.fr hg hI2 (fun _ _ _ _ _ => rfl) (fun x k _ x1 => hF.2 x k (Or.inl x1)) hns
  obtain ⟨C, hC⟩ : ∃ C, P2 2334 g = C := ⟨_, rfl⟩
  rw [hC] at hk hpb hC5
  have h97 : V5 (grO g) 2097 = C := (hF.1 _ _ (by omega) (Or.inl (by omega)) (by omega) (by decide) (by omega)).trans (hgr.1.trans hC)
  have hy6 : V6 (grO g + 1) k = some y0 := (hF.2 _ _ (Or.inl (by omega))).trans hy
  rw [hC]
  have hXG : XGR (rU V5 (grO g) 2097 (C - 1)) (rmR V6 (grO g) k C) (gRmP P5 g (8 * g + k)) g := hgr5.rmG hI5 hg hC5 hpb.2 hk rU_s ((rU_k (by decide)).trans (hF.1 _ _ (by omega) (Or.inl (by omega)) (by omega) (by decide) (by omega))) (fun k2 x k0 k1 hne hx => by
    obtain ⟨x2, hx2, b1, b2, b3, b4⟩ := hgr5.2.2.2.2 k2 k0 (by omega)
    have : x2 = x := Option.some.inj (hx2.symm.trans hx)
    subst this
    have hxy : x2 ≠ y0 := fun e => hne (hgr5.2.2.1.2 k2 k k0 (by omega) hk.1 (by omega) (hx2.trans (by rw [e]; exact hy6.symm)))
    obtain ⟨i, hi, hx3⟩ := hgr5.pt (k := k2) ⟨k0, by omega⟩
    have ex : x2 = grO g + 2 + 8 * i := Option.some.inj (hx2.symm.trans hx3)
    have hw : ∀ (x : Nat) (k : Int), 229 ≤ x → x < 1293 → k ≠ 2198 → k ≠ 2097 → ¬ (x = y0 ∧ k = 2131) → rU V5 (grO g) 2097 (C - 1) x k = V x k := fun x k a b c e f => (rU_j e).trans (hF.1 x k a (Or.inl b) (by omega) c f)
    refine ⟨(hw _ _ (by omega) (by omega) (by decide) (by decide) (by omega)).trans b1, (hw _ _ (by omega) (by omega) (by decide) (by decide) (by omega)).trans b2, (hw _ _ (by omega) (by omega) (by decide) (by decide) (by omega)).trans b3, fun j j0 j1 => ?_⟩
    have hmb : 0 ≤ P5 2337 (8 * g + k2) ∧ P5 2337 (8 * g + k2) ≤ 6 := IV.a hI5 2337 0 64 rfl rfl rfl (by omega) (by omega)
    obtain ⟨c, c1, d1, d2, d3, d4, d5⟩ := b4 j j0 j1
    obtain ⟨y, hy, hc2⟩ := hgr5.mb hi (j := j) ⟨j0, by omega⟩
    have ec : c = grO g + 4 + 8 * i + y := by
      rw [show x2 + 1 = grO g + 3 + 8 * i by omega] at c1
      exact Option.some.inj (c1.symm.trans hc2)
    exact ⟨c, c1, (hw _ _ (by omega) (by omega) (by decide) (by decide) (by omega)).trans d1, (hw _ _ (by omega) (by omega) (by decide) (by decide) (by omega)).trans d2, (hw _ _ (by omega) (by omega) (by decide) (by decide) (by omega)).trans d3, (hw _ _ (by omega) (by omega) (by decide) (by decide) (by omega)).trans d4, (hw _ _ (by omega) (by omega) (by decide) (by decide) (by omega)).trans d5⟩)
  have hPT5 : PTS P5 := hX2.1.2.2.2.2.2.2.of hkf
  obtain ⟨uG, uT, uR⟩ := gRmP_ok (pt := 8 * g + k) hM.2.2.1 hPT5 hg ⟨by omega, by omega⟩
  have hGF : GRF g V5 (rU V5 (grO g) 2097 (C - 1)) V6 (rmR V6 (grO g) k C) := ⟨fun x k hx => if_neg (by omega), fun x k2 hx => by
    rcases hx with hx | hx
    · exact rmR_o (by omega)
    · exact rmR_row (by omega) (by omega) hk⟩
  have hN := hX2.1.2.2.1.grf (Q := gRmP P5 g (8 * g + k)) (W2 := rU V5 (grO g) 2097 (C - 1)) (R2 := rmR V6 (grO g) k C) hI2 hg (fun f k hf hf2 => (uR f k hf2).trans (hns f k hf)) (fun x k a b c e => (hGF.1 x k (Or.inl c)).trans (hF.1 x k a (Or.inl b) (by omega) e (by omega))) (fun x k a b c => (hGF.2 x k (Or.inl c)).trans (hF.2 x k (Or.inl b))) (fun g2 g0 g1 hne => grQ_tr (grQ_kf hkf) (gRmP_oth hC5 hpb.2 hk hne)) hXG
  have hMG := hM.grf (Q := gRmP P5 g (8 * g + k)) (fun p p0 p1 hl => by
    rw [hns 2320 _ rfl] at hl
    have hrp := prO_rng (p := p) ⟨p0, p1⟩
    rw [hns 2323 _ rfl, hF.2 _ _ (Or.inl (by omega))]
    exact ((hX2.1.2.2.1.1 p p0 p1).2.2.2 hl).2.2.1) hg uR uG hGF (by rw [gRmP_points, if_pos rfl, hC5]; exact rU_s) (fun g2 g0 g1 hne => by rw [gRmP_points, if_neg hne])
  have hGO : GO (gRmP P5 g (8 * g + k)) := hX2.1.2.2.2.2.2.1.fr (fun k => (uR 2320 k rfl).trans (hns _ _ rfl)) (fun k => (uR 2327 k rfl).trans (hns _ _ rfl)) (fun k => (uR 2330 k rfl).trans (hns _ _ rfl))
  exact ⟨h97, hgr5.2.2.1, hy6, hMG.xw hN hGO uT, FCM_tr ⟨fun x k a b c => hF.1 x k (by omega) (Or.inr (by omega)) b c (by omega), fun x k a => hF.2 x k (Or.inr (by omega))⟩ (GRF_fcm hg hGF)⟩
theorem un2_81 (hP : PX σ0 W R σ) (hX : XW K T U W R P) (hT : T + 700 ≤ 2147483000) (hp : 0 ≤ p ∧ p < 8) (hlv : ¬ P 2320 p = 0) (hko : tX kk = some (Sum.inl 16)) (h1 : CHX W R 2178 c1) (r1 : chR c1) : WP fb (d + 10) 181 81 [some (vR (some 2175)), some (vR (some (prO p))), some (vR (some kk)), some (vI 0), none] [] σ (XCM σ0 K (T + 40) U W R (cUnm2 P p c1 c1 [c1] 2)) := by
  have hI := hX.1.2.2.2.1.iv
  have hgR : 0 ≤ P 2323 p ∧ P 2323 p ≤ 7 := IV.a hI 2323 0 8 rfl rfl rfl (by omega) (by omega)
  have l3 := ((hX.1.2.2.1.1 p hp.1 hp.2).2.2.2 hlv).2.2.1
  have hrp := prO_rng hp
  have hpo := prO_o hp
  obtain ⟨g, hg⟩ : ∃ g, P 2323 p = g := ⟨_, rfl⟩
  rw [hg] at hgR l3
  have hg8 : 0 ≤ g ∧ g < 8 := ⟨hgR.1, by omega⟩
  have hgo3 := grO_o hg8
  have hck1 := x_clunkC (fb := fb) (d := d + 1) hP hX (by omega) one_o h1 r1
  have hkf : KF (kDrop P c1) P := KF_tP
  have hqp := qPoint_kf (p := p) (s := c1.1) (path := c1.2.2.1) hkf
  have eC : cUnm2 P p c1 c1 [c1] 2 = if qPoint P p c1.1 c1.2.2.1 < 0 then (1, kDrop P c1, []) else (0, gRmP (kDrM (qPoint P p c1.1 c1.2.2.1) (kDrop P c1 2337 (qPoint P p c1.1 c1.2.2.1)).toNat 0 (kDrop P c1)) (P 2323 p) (qPoint P p c1.1 c1.2.2.1), []) := rfl
  rw [eC, ← hqp, hg]
  obtain ⟨e1, he1⟩ : ∃ q, tE P c1.1 (mOne 120 c1.2.1) = q := ⟨_, rfl⟩
  rw [he1] at hck1
  obtain ⟨P2, hP2⟩ : ∃ q, kDrop P c1 = q := ⟨_, rfl⟩
  rw [hP2] at hkf hck1 ⊢
  have hg2 : P2 2323 p = g := (nsR_kf hkf 2323 _ rfl).trans hg
  have hpa := fun (σ : hM) (V : qR) (V4 : rR) (hP : PX σ0 V V4 σ) (hX2 : XW K (T + 4) U V V4 P2) => x_pointAt (fb := fb) (d := d + 9) (s := c1.1) (path := c1.2.2.1) hP hX2.1.2.2.1 hX2.1.2.2.2.1.iv hp
  simp only [hg2] at hpa
  obtain ⟨pt, hpt⟩ : ∃ q, qPoint P2 p c1.1 c1.2.2.1 = q := ⟨_, rfl⟩
  simp only [hpt] at hpa
  rw [hpt]
  have hch2 : ∀ (V : qR) (V4 : rR), FA W V R V4 → V 2178 2160 = c1.1 ∧ V 2178 2162 = c1.2.2.1 ∧ V4 (prO p) 2201 = some (grO g) := fun V V4 hA => by
    have := h1.fa hA (by decide) (by decide) r1.2.2
    exact ⟨this.1, this.2.2.1, (hA.ns.2 _ _ (by omega) (by omega)).trans l3⟩
  obtain ⟨sv2, hsv2⟩ : ∃ q, c1.1 = q := ⟨_, rfl⟩
  obtain ⟨pa2, hpa2⟩ : ∃ q, c1.2.2.1 = q := ⟨_, rfl⟩
  simp only [hsv2, hpa2] at hpa hch2
  by_cases q1 : pt < 0
  · rw [if_pos q1]
    simp only [if_pos q1] at hpa
    obtain ⟨ga, hga⟩ : ∃ q, grO g = q := ⟨_, rfl⟩
    obtain ⟨pr, hpr⟩ : ∃ q, prO p = q := ⟨_, rfl⟩
    simp only [hga] at hpa hgo3
    simp only [hga, hpr] at hch2 hpo ⊢
    refine x_lr (z := some 2175) T_181_81 rfl ?_
    refine x_gR (z := some 129) T_181_82 F_14_0 (hP.o xo_2175) (hP.rc xo_2175 rfl rfl) ?_
    refine x_lr (z := some 2175) T_181_85 rfl ?_
    refine x_gR (z := some 2178) T_181_86 F_14_2 (hP.o xo_2175) (hP.rc xo_2175 rfl rfl) ?_
    refine x_cv2 T_181_89 mN_132 mL_132 (Nat.le_of_ble_eq_true rfl) mO_132 (hP.o xo_129) (Nat.le_of_ble_eq_true rfl) (hck1) ?_
    clear hP hck1
    rintro _ σ ⟨rfl, V, V4, hP, hX2, hA⟩
    obtain ⟨z1, z2, z3⟩ := hch2 _ _ hA
    have hpa := hpa σ V V4 hP hX2
    refine cI ?_
    refine x_popI T_181_92 ?_
    refine x_lr (z := some pr) T_181_93 rfl ?_
    refine x_gR (z := some ga) T_181_94 F_6_9 (hP.o hpo) (Eq.trans (hP.rm hpo rfl (key := 2201) rfl) z3) ?_
    refine x_lr (z := some 2175) T_181_97 rfl ?_
    refine x_gR (z := some 2178) T_181_98 F_14_2 (hP.o xo_2175) (hP.rc xo_2175 rfl rfl) ?_
    refine x_gI (z := sv2) T_181_101 (Or.inl F_5_0) (hP.o xo_2178) (Eq.trans (hP.gi xo_2178 (key := 2160) rfl) z1) ?_
    refine x_lr (z := some 2175) T_181_104 rfl ?_
    refine x_gR (z := some 2178) T_181_105 F_14_2 (hP.o xo_2175) (hP.rc xo_2175 rfl rfl) ?_
    refine x_gI (z := pa2) T_181_108 (Or.inl F_5_2) (hP.o xo_2178) (Eq.trans (hP.gi xo_2178 (key := 2162) rfl) z2) ?_
    refine x_cv3 T_181_111 mN_129 mL_129 (Nat.le_of_ble_eq_true rfl) mO_129 (hP.o hgo3) (Nat.le_of_ble_eq_true rfl) (hpa) ?_
    rintro _ σ ⟨rfl, rfl⟩
    refine cR ?_
    refine x_sr (ls1 := [some (vR (some 2175)), some (vR (some pr)), some (vR (some kk)), some (vI 0), some (vR none)]) T_181_114 rfl ?_
    refine x_lr (z := none) T_181_116 rfl ?_
    refine x_nnul T_181_118 (fun a0 h0 => absurd h0 (by simp)) (fun _ => ?_)
    refine x_ic T_181_121 ?_
    refine x_ri T_181_122 ?_
    exact ⟨rfl, V, V4, hP, hX2.mono (by omega), FCM_fa hA⟩
  · rw [if_neg q1]
    simp only [if_neg q1] at hpa
    have key : ∀ (V : qR) (V4 : rR), XW K (T + 4) U V V4 P2 → ∃ y0 : Nat, V4 (grO g + 1) (pt - 8 * g) = some y0 ∧ PTM V V4 y0 P2 pt ∧ (0 ≤ pt - 8 * g ∧ pt - 8 * g < P2 2334 g) := fun V V4 hX2 => by
      have hI2 := hX2.1.2.2.2.1.iv
      have hqr := qPoint_rng (s := c1.1) (path := c1.2.2.1) hI2 hp
      rw [hpt, hg2] at hqr
      have hgr := hX2.1.2.2.1.2.1 g hg8.1 hg8.2
      obtain ⟨y0, hy0, hPM⟩ := PTM_of hgr hg8 hI2 (k := pt - 8 * g) ⟨by omega, by omega⟩
      rw [show 8 * g + (pt - 8 * g) = pt by omega] at hPM
      exact ⟨y0, hy0, hPM, by omega, by omega⟩
    have hcm := fun (σ : hM) (V : qR) (V4 : rR) (y0 : Nat) (hP : PX σ0 V V4 σ) (hX2 : XW K (T + 4) U V V4 P2) (hM : PTM V V4 y0 P2 pt) (hpp : 0 ≤ pt ∧ pt < 64) => x_clunkM (fb := fb) (d := d + 1) hP hX2.mid hM hpp rfl (by omega)
    have hfin := fun (V : qR) (V4 : rR) (V5 : qR) (V6 : rR) (y0 : Nat) (hX2 : XW K (T + 4) U V V4 P2) (hk : 0 ≤ pt - 8 * g ∧ pt - 8 * g < P2 2334 g) (hy : V4 (grO g + 1) (pt - 8 * g) = some y0) => un2_fin (V5 := V5) (V6 := V6) (P5 := kDrM pt (P2 2337 pt).toNat 0 P2) hX2 hg8 hk hy (drM_kf _ _ _)
    have hpb := fun (V : qR) (V4 : rR) (hX2 : XW K (T + 4) U V V4 P2) => (IV.a hX2.1.2.2.2.1.iv 2334 0 8 rfl rfl rfl hg8.1 hg8.2 : 0 ≤ P2 2334 g ∧ P2 2334 g ≤ 8)
    have hrG := fun (σ : hM) (V : qR) (V4 : rR) (y0 : Nat) (hP : PX σ0 V V4 σ) (h1 : V (grO g) 2097 = P2 2334 g) (hpb : 0 ≤ P2 2334 g ∧ P2 2334 g ≤ 8) (h2 : ARP V4 (grO g + 1) 8 (grO g + 2) 8) (hk : 0 ≤ pt - 8 * g ∧ pt - 8 * g < P2 2334 g) (h3 : V4 (grO g + 1) (pt - 8 * g) = some y0) => x_removeG (fb := fb) (d := d + 9) hP hg8 h1 hpb.2 h2 hk h3
    rw [show 8 * g + (pt - 8 * g) = pt by omega] at hfin
    obtain ⟨kx, hkx⟩ : ∃ q, pt - 8 * g = q := ⟨_, rfl⟩
    simp only [hkx] at hpa key hfin hrG
    obtain ⟨P5, hP5⟩ : ∃ q, kDrM pt (P2 2337 pt).toNat 0 P2 = q := ⟨_, rfl⟩
    simp only [hP5] at hcm hfin ⊢
    obtain ⟨C, hC⟩ : ∃ C, P2 2334 g = C := ⟨_, rfl⟩
    simp only [hC] at key hfin hrG hpb
    have hpt64 : ∀ k : Int, 0 ≤ kx ∧ kx < k → k ≤ 8 → 0 ≤ pt ∧ pt < 64 := fun k h1 h2 => by omega
    obtain ⟨ga, hga⟩ : ∃ q, grO g = q := ⟨_, rfl⟩
    obtain ⟨pr, hpr⟩ : ∃ q, prO p = q := ⟨_, rfl⟩
    simp only [hga] at hpa hgo3 key hfin hrG
    simp only [hga, hpr] at hch2 hpo ⊢
    have hprw : (pr < 1293) := by omega
    refine x_lr (z := some 2175) T_181_81 rfl ?_
    refine x_gR (z := some 129) T_181_82 F_14_0 (hP.o xo_2175) (hP.rc xo_2175 rfl rfl) ?_
    refine x_lr (z := some 2175) T_181_85 rfl ?_
    refine x_gR (z := some 2178) T_181_86 F_14_2 (hP.o xo_2175) (hP.rc xo_2175 rfl rfl) ?_
    refine x_cv2 T_181_89 mN_132 mL_132 (Nat.le_of_ble_eq_true rfl) mO_132 (hP.o xo_129) (Nat.le_of_ble_eq_true rfl) (hck1) ?_
    clear hP hck1
    rintro _ σ ⟨rfl, V, V4, hP, hX2, hA⟩
    obtain ⟨z1, z2, z3⟩ := hch2 _ _ hA
    have hpa := hpa σ V V4 hP hX2
    obtain ⟨y0, hy0, hPM, hk2⟩ := key V V4 hX2
    have hyo := hPM.1
    rw [hy0] at hpa
    have hpb := hpb V V4 hX2
    have hcm := hcm σ V V4 y0 hP hX2 hPM (hpt64 C hk2 hpb.2)
    refine cI ?_
    refine x_popI T_181_92 ?_
    refine x_lr (z := some pr) T_181_93 rfl ?_
    refine x_gR (z := some ga) T_181_94 F_6_9 (hP.o hpo) (Eq.trans (hP.rm hpo rfl (key := 2201) rfl) z3) ?_
    refine x_lr (z := some 2175) T_181_97 rfl ?_
    refine x_gR (z := some 2178) T_181_98 F_14_2 (hP.o xo_2175) (hP.rc xo_2175 rfl rfl) ?_
    refine x_gI (z := sv2) T_181_101 (Or.inl F_5_0) (hP.o xo_2178) (Eq.trans (hP.gi xo_2178 (key := 2160) rfl) z1) ?_
    refine x_lr (z := some 2175) T_181_104 rfl ?_
    refine x_gR (z := some 2178) T_181_105 F_14_2 (hP.o xo_2175) (hP.rc xo_2175 rfl rfl) ?_
    refine x_gI (z := pa2) T_181_108 (Or.inl F_5_2) (hP.o xo_2178) (Eq.trans (hP.gi xo_2178 (key := 2162) rfl) z2) ?_
    refine x_cv3 T_181_111 mN_129 mL_129 (Nat.le_of_ble_eq_true rfl) mO_129 (hP.o hgo3) (Nat.le_of_ble_eq_true rfl) (hpa) ?_
    rintro _ σ ⟨rfl, rfl⟩
    refine cR ?_
    refine x_sr (ls1 := [some (vR (some 2175)), some (vR (some pr)), some (vR (some kk)), some (vI 0), some (vR (some y0))]) T_181_114 rfl ?_
    refine x_lr (z := some y0) T_181_116 rfl ?_
    refine x_nnul T_181_118 (fun _ _ => ?_) (fun h0 => absurd h0 (by simp))
    refine x_lr (z := some 2175) T_181_123 rfl ?_
    refine x_gR (z := some 129) T_181_124 F_14_0 (hP.o xo_2175) (hP.rc xo_2175 rfl rfl) ?_
    refine x_lr (z := some y0) T_181_127 rfl ?_
    refine x_cv2 T_181_129 mN_178 mL_178 (Nat.le_of_ble_eq_true rfl) mO_178 (hP.o xo_129) (Nat.le_of_ble_eq_true rfl) (hcm) ?_
    clear hP hcm
    rintro _ σ ⟨rfl, V5, V6, hP, hX5, hF5, -⟩
    obtain ⟨f1, f2, f3, f4, f5⟩ := hfin V V4 V5 V6 y0 hX2 hk2 hy0 hX5 hF5
    have hrG := hrG σ V5 V6 y0 hP f1 hpb f2 hk2 f3
    have z4 := (hF5.2 pr 2201 (Or.inl hprw)).trans z3
    refine cV ?_
    refine x_lr (z := some pr) T_181_132 rfl ?_
    refine x_gR (z := some ga) T_181_133 F_6_9 (hP.o hpo) (Eq.trans (hP.rm hpo rfl (key := 2201) rfl) z4) ?_
    refine x_lr (z := some y0) T_181_136 rfl ?_
    refine x_cv2 T_181_138 mN_184 mL_184 (Nat.le_of_ble_eq_true rfl) mO_184 (hP.o hgo3) (Nat.le_of_ble_eq_true rfl) (hrG) ?_
    clear hP hrG
    rintro _ σ ⟨rfl, hP⟩
    refine cV ?_
    refine x_ic T_181_141 ?_
    refine x_ri T_181_142 ?_
    exact ⟨rfl, _, _, hP, XW.mono f4 (by omega), FCM_tr (FCM_fa hA) f5⟩
theorem x_unmount (hP : PX σ0 W R σ) (hX : XW K T U W R P) (hT : T + 1600 ≤ 2147483000) (hp : 0 ≤ p ∧ p < 8) (hlv : ¬ P 2320 p = 0) (hC : CMD W kk l) (hN : ((lnW l).length : Int) = N) (hN2 : N = 2 ∨ N = 3) : CL fb (d + 10) 181 [vR (some 2175), vR (some (prO p)), vR (some kk)] σ (XCM σ0 K (T + 632) U W R (cUnm P p l)) := by
  have hre := x_reach (fb := fb) (d := d) (thr := 0) hP hX (by omega) hp hlv hC (w := 1) ⟨by decide, by omega⟩ one_o (by decide) (Or.inl rfl)
  have hpo := prO_o hp
  have hrp := prO_rng hp
  have h5 := hC.2.2.2.2.1.trans hN
  have hkw := KF_kWW (thr := 0) (wd := lnB l 1) hX.1.2.2.2.1.iv hX.1.2.2.2.2.2.2 hp
  unfold cUnm
  rw [hN]
  obtain ⟨A, hA⟩ : ∃ A, kWW P p 0 (lnB l 1) = A := ⟨_, rfl⟩
  rw [hA] at hre hkw ⊢
  obtain ⟨e, Q, c1⟩ := A
  dsimp only at hkw hre ⊢
  obtain ⟨hkf, hr0⟩ := hkw
  have hko := hC.1
  have hlQ : ¬ Q 2320 p = 0 := XW.lv hkf hlv
  have h5V := fun (V : qR) (V3 : rR) (hF : FK 2178 W V R V3) => (hC.fcm (FCM_fk hF (by decide))).2.2.2.2.1.trans hN
  by_cases q : e = 0
  rotate_left
  · rw [if_pos (show 0 < e by omega)]
    obtain ⟨pr, hpr⟩ : ∃ q, prO p = q := ⟨_, rfl⟩
    rw [hpr] at hre hpo ⊢
    by_cases q3 : N = 3
    · skip
      refine CL_in mL_181 rfl ?_
      show WP fb _ 181 0 [some (vR (some 2175)), some (vR (some pr)), some (vR (some kk)), none, none] [] σ _
      refine x_lr (z := some kk) T_181_0 rfl ?_
      refine x_gI (z := N) T_181_1 (Or.inl F_16_4) (hP.o hko) (Eq.trans (hP.gi hko (key := 2516) rfl) h5) ?_
      refine x_ic T_181_4 ?_
      refine x_ic2 T_181_5 (fun h => absurd (show N < 2 from h) (by omega)) (fun _ => ?_)
      refine x_lr (z := some kk) T_181_8 rfl ?_
      refine x_gI (z := N) T_181_9 (Or.inl F_16_4) (hP.o hko) (Eq.trans (hP.gi hko (key := 2516) rfl) h5) ?_
      refine x_ic T_181_12 ?_
      refine x_ic2 T_181_13 (fun _ => ?_) (fun h => absurd (show N ≤ 3 by omega) h)
      refine x_lr (z := some 2175) T_181_19 rfl ?_
      refine x_gR (z := some 129) T_181_20 F_14_0 (hP.o xo_2175) (hP.rc xo_2175 rfl rfl) ?_
      refine x_lr (z := some pr) T_181_23 rfl ?_
      refine x_lr (z := some kk) T_181_24 rfl ?_
      refine x_ic T_181_25 ?_
      refine x_lr (z := some 2175) T_181_26 rfl ?_
      refine x_gR (z := some 2178) T_181_27 F_14_2 (hP.o xo_2175) (hP.rc xo_2175 rfl rfl) ?_
      refine x_ic T_181_30 ?_
      refine x_cv6 T_181_31 mN_117 mL_117 (Nat.le_of_ble_eq_true rfl) mO_117 (hP.o xo_129) (Nat.le_of_ble_eq_true rfl) (hre) ?_
      clear hP hre
      rintro _ σ ⟨rfl, V, V3, hP, hXV, hq, hFV⟩
      have h5V := h5V V V3 hFV
      refine cI ?_
      refine x_si (ls1 := [some (vR (some 2175)), some (vR (some pr)), some (vR (some kk)), some (vI e), none]) T_181_34 rfl ?_
      refine x_lr (z := some kk) T_181_35 rfl ?_
      refine x_gI (z := N) T_181_36 (Or.inl F_16_4) (hP.o hko) (Eq.trans (hP.gi hko (key := 2516) rfl) h5V) ?_
      refine x_ic T_181_39 ?_
      refine x_ic2 T_181_40 (fun h => absurd (show ¬ N = 3 from h) (by omega)) (fun _ => ?_)
      refine x_li (z := e) T_181_43 rfl ?_
      refine x_if T_181_44 (fun _ => ?_) (fun h => absurd (show ¬ e = 0 by omega) h)
      refine x_li (z := e) T_181_56 rfl ?_
      refine x_si (ls1 := [some (vR (some 2175)), some (vR (some pr)), some (vR (some kk)), some (vI e), none]) T_181_57 rfl ?_
      refine x_li (z := e) T_181_58 rfl ?_
      refine x_if T_181_59 (fun _ => ?_) (fun h => absurd (show ¬ e = 0 by omega) h)
      refine x_li (z := e) T_181_73 rfl ?_
      refine x_ri T_181_74 ?_
      exact ⟨rfl, V, V3, hP, XW.mono hXV (by omega), FCM_fk hFV (by decide)⟩
    · skip
      refine CL_in mL_181 rfl ?_
      show WP fb _ 181 0 [some (vR (some 2175)), some (vR (some pr)), some (vR (some kk)), none, none] [] σ _
      refine x_lr (z := some kk) T_181_0 rfl ?_
      refine x_gI (z := N) T_181_1 (Or.inl F_16_4) (hP.o hko) (Eq.trans (hP.gi hko (key := 2516) rfl) h5) ?_
      refine x_ic T_181_4 ?_
      refine x_ic2 T_181_5 (fun h => absurd (show N < 2 from h) (by omega)) (fun _ => ?_)
      refine x_lr (z := some kk) T_181_8 rfl ?_
      refine x_gI (z := N) T_181_9 (Or.inl F_16_4) (hP.o hko) (Eq.trans (hP.gi hko (key := 2516) rfl) h5) ?_
      refine x_ic T_181_12 ?_
      refine x_ic2 T_181_13 (fun _ => ?_) (fun h => absurd (show N ≤ 3 by omega) h)
      refine x_lr (z := some 2175) T_181_19 rfl ?_
      refine x_gR (z := some 129) T_181_20 F_14_0 (hP.o xo_2175) (hP.rc xo_2175 rfl rfl) ?_
      refine x_lr (z := some pr) T_181_23 rfl ?_
      refine x_lr (z := some kk) T_181_24 rfl ?_
      refine x_ic T_181_25 ?_
      refine x_lr (z := some 2175) T_181_26 rfl ?_
      refine x_gR (z := some 2178) T_181_27 F_14_2 (hP.o xo_2175) (hP.rc xo_2175 rfl rfl) ?_
      refine x_ic T_181_30 ?_
      refine x_cv6 T_181_31 mN_117 mL_117 (Nat.le_of_ble_eq_true rfl) mO_117 (hP.o xo_129) (Nat.le_of_ble_eq_true rfl) (hre) ?_
      clear hP hre
      rintro _ σ ⟨rfl, V, V3, hP, hXV, hq, hFV⟩
      have h5V := h5V V V3 hFV
      refine cI ?_
      refine x_si (ls1 := [some (vR (some 2175)), some (vR (some pr)), some (vR (some kk)), some (vI e), none]) T_181_34 rfl ?_
      refine x_lr (z := some kk) T_181_35 rfl ?_
      refine x_gI (z := N) T_181_36 (Or.inl F_16_4) (hP.o hko) (Eq.trans (hP.gi hko (key := 2516) rfl) h5V) ?_
      refine x_ic T_181_39 ?_
      refine x_ic2 T_181_40 (fun _ => ?_) (fun h => absurd (show ¬ N = 3 by omega) h)
      refine x_li (z := e) T_181_75 rfl ?_
      refine x_if T_181_76 (fun h => absurd (show e = 0 from h) (by omega)) (fun _ => ?_)
      refine x_li (z := e) T_181_79 rfl ?_
      refine x_ri T_181_80 ?_
      exact ⟨rfl, V, V3, hP, XW.mono hXV (by omega), FCM_fk hFV (by decide)⟩
  subst q
  rw [if_neg (show ¬ (0 : Int) < 0 by decide)]
  by_cases q3 : N = 3
  rotate_left
  · rw [if_neg q3]
    have h81 := fun (σ : hM) (V : qR) (V3 : rR) (hP : PX σ0 V V3 σ) (hXV : XW K (T + 300) U V V3 Q) (h1 : CHX V V3 2178 c1) (r1 : chR c1) (hF : FK 2178 W V R V3) => WP.mono (un2_81 (fb := fb) (d := d) (kk := kk) hP hXV (by omega) hp hlQ hko h1 r1) (Q := XCM σ0 K (T + 632) U W R (cUnm2 Q p c1 c1 [c1] 2)) (fun r σ' h => by
      obtain ⟨rfl, W5, R5, g1, g2, g3⟩ := h
      exact ⟨rfl, W5, R5, g1, XW.mono g2 (by omega), FCM_tr (FCM_fk hF (by decide)) g3⟩)
    obtain ⟨pr, hpr⟩ : ∃ q, prO p = q := ⟨_, rfl⟩
    rw [hpr] at hre hpo
    simp only [hpr] at h81 ⊢
    refine CL_in mL_181 rfl ?_
    show WP fb _ 181 0 [some (vR (some 2175)), some (vR (some pr)), some (vR (some kk)), none, none] [] σ _
    refine x_lr (z := some kk) T_181_0 rfl ?_
    refine x_gI (z := N) T_181_1 (Or.inl F_16_4) (hP.o hko) (Eq.trans (hP.gi hko (key := 2516) rfl) h5) ?_
    refine x_ic T_181_4 ?_
    refine x_ic2 T_181_5 (fun h => absurd (show N < 2 from h) (by omega)) (fun _ => ?_)
    refine x_lr (z := some kk) T_181_8 rfl ?_
    refine x_gI (z := N) T_181_9 (Or.inl F_16_4) (hP.o hko) (Eq.trans (hP.gi hko (key := 2516) rfl) h5) ?_
    refine x_ic T_181_12 ?_
    refine x_ic2 T_181_13 (fun _ => ?_) (fun h => absurd (show N ≤ 3 by omega) h)
    refine x_lr (z := some 2175) T_181_19 rfl ?_
    refine x_gR (z := some 129) T_181_20 F_14_0 (hP.o xo_2175) (hP.rc xo_2175 rfl rfl) ?_
    refine x_lr (z := some pr) T_181_23 rfl ?_
    refine x_lr (z := some kk) T_181_24 rfl ?_
    refine x_ic T_181_25 ?_
    refine x_lr (z := some 2175) T_181_26 rfl ?_
    refine x_gR (z := some 2178) T_181_27 F_14_2 (hP.o xo_2175) (hP.rc xo_2175 rfl rfl) ?_
    refine x_ic T_181_30 ?_
    refine x_cv6 T_181_31 mN_117 mL_117 (Nat.le_of_ble_eq_true rfl) mO_117 (hP.o xo_129) (Nat.le_of_ble_eq_true rfl) (hre) ?_
    clear hP hre
    rintro _ σ ⟨rfl, V, V3, hP, hXV, hq, hFV⟩
    have h5V := h5V V V3 hFV
    obtain ⟨⟨hch, hcr⟩, -⟩ := hq rfl
    refine cI ?_
    refine x_si (ls1 := [some (vR (some 2175)), some (vR (some pr)), some (vR (some kk)), some (vI 0), none]) T_181_34 rfl ?_
    refine x_lr (z := some kk) T_181_35 rfl ?_
    refine x_gI (z := N) T_181_36 (Or.inl F_16_4) (hP.o hko) (Eq.trans (hP.gi hko (key := 2516) rfl) h5V) ?_
    refine x_ic T_181_39 ?_
    refine x_ic2 T_181_40 (fun _ => ?_) (fun h => absurd (show ¬ N = 3 by omega) h)
    refine x_li (z := 0) T_181_75 rfl ?_
    refine x_if T_181_76 (fun _ => ?_) (fun h => absurd (show (0 : Int) = 0 by decide) h)
    exact h81 σ V V3 hP hXV hch hcr hFV
  rw [if_pos q3]
  subst q3
  have hr2 := fun (σ : hM) (V : qR) (V3 : rR) (hP : PX σ0 V V3 σ) (hXV : XW K (T + 300) U V V3 Q) (h1 : CHX V V3 2178 c1) (r1 : chR c1) (hF : FK 2178 W V R V3) => x_reachTwo (fb := fb) (d := d) hP hXV (by omega) hp hlQ (hC.fcm (FCM_fk hF (by decide))) hN (by decide) h1 r1
  rw [show (3 : Int) - 1 = 2 by decide] at hr2
  have hkw2 := fun (V : qR) (V3 : rR) (hXV : XW K (T + 300) U V V3 Q) => KF_kWW (thr := 0) (wd := lnB l 2) hXV.1.2.2.2.1.iv hXV.1.2.2.2.2.2.2 hp
  obtain ⟨A2, hA2⟩ : ∃ A, kWW Q p 0 (lnB l 2) = A := ⟨_, rfl⟩
  simp only [hA2] at hr2 hkw2 ⊢
  obtain ⟨e2, Q2, c2⟩ := A2
  dsimp only at hr2 hkw2 ⊢
  have l3f := fun (V : qR) (V3 : rR) (hX : XW K (T + 600) U V V3 Q2) (hkf2 : KF Q2 Q) => ((hX.1.2.2.1.1 p hp.1 hp.2).2.2.2 (XW.lv hkf2 hlQ)).2.2.1
  by_cases q4 : e2 = 0
  rotate_left
  · have hfin : 0 ≤ e2 → (if 0 < e2 then (e2, Q2, [c1]) else cUnm2 Q2 p c1 c2 [c1, c2] 3) = (e2, Q2, [c1]) := fun h => if_pos (by omega)
    have hfin2 : ∀ (V : qR) (V3 : rR), XW K (T + 300) U V V3 Q → (if 0 < e2 then (e2, Q2, [c1]) else cUnm2 Q2 p c1 c2 [c1, c2] 3) = (e2, Q2, [c1]) := fun V V3 h => hfin (hkw2 V V3 h).2
    obtain ⟨B, hB⟩ : ∃ B, (if 0 < e2 then (e2, Q2, [c1]) else cUnm2 Q2 p c1 c2 [c1, c2] 3) = B := ⟨_, rfl⟩
    rw [hB]
    simp only [hB] at hfin2
    obtain ⟨pr, hpr⟩ : ∃ q, prO p = q := ⟨_, rfl⟩
    rw [hpr] at hre hpo ⊢
    simp only [hpr] at hr2
    refine CL_in mL_181 rfl ?_
    show WP fb _ 181 0 [some (vR (some 2175)), some (vR (some pr)), some (vR (some kk)), none, none] [] σ _
    refine x_lr (z := some kk) T_181_0 rfl ?_
    refine x_gI (z := 3) T_181_1 (Or.inl F_16_4) (hP.o hko) (Eq.trans (hP.gi hko (key := 2516) rfl) h5) ?_
    refine x_ic T_181_4 ?_
    refine x_ic2 T_181_5 (fun h => absurd (show (3 : Int) < 2 from h) (by decide)) (fun _ => ?_)
    refine x_lr (z := some kk) T_181_8 rfl ?_
    refine x_gI (z := 3) T_181_9 (Or.inl F_16_4) (hP.o hko) (Eq.trans (hP.gi hko (key := 2516) rfl) h5) ?_
    refine x_ic T_181_12 ?_
    refine x_ic2 T_181_13 (fun _ => ?_) (fun h => absurd (show (3 : Int) ≤ 3 by decide) h)
    refine x_lr (z := some 2175) T_181_19 rfl ?_
    refine x_gR (z := some 129) T_181_20 F_14_0 (hP.o xo_2175) (hP.rc xo_2175 rfl rfl) ?_
    refine x_lr (z := some pr) T_181_23 rfl ?_
    refine x_lr (z := some kk) T_181_24 rfl ?_
    refine x_ic T_181_25 ?_
    refine x_lr (z := some 2175) T_181_26 rfl ?_
    refine x_gR (z := some 2178) T_181_27 F_14_2 (hP.o xo_2175) (hP.rc xo_2175 rfl rfl) ?_
    refine x_ic T_181_30 ?_
    refine x_cv6 T_181_31 mN_117 mL_117 (Nat.le_of_ble_eq_true rfl) mO_117 (hP.o xo_129) (Nat.le_of_ble_eq_true rfl) (hre) ?_
    clear hP hre
    rintro _ σ ⟨rfl, V, V3, hP, hXV, hq, hFV⟩
    have h5V := h5V V V3 hFV
    obtain ⟨⟨hch, hcr⟩, -⟩ := hq rfl
    have hr2 := hr2 σ V V3 hP hXV hch hcr hFV
    refine cI ?_
    refine x_si (ls1 := [some (vR (some 2175)), some (vR (some pr)), some (vR (some kk)), some (vI 0), none]) T_181_34 rfl ?_
    refine x_lr (z := some kk) T_181_35 rfl ?_
    refine x_gI (z := 3) T_181_36 (Or.inl F_16_4) (hP.o hko) (Eq.trans (hP.gi hko (key := 2516) rfl) h5V) ?_
    refine x_ic T_181_39 ?_
    refine x_ic2 T_181_40 (fun h => absurd (show ¬ (3 : Int) = 3 from h) (by decide)) (fun _ => ?_)
    refine x_li (z := 0) T_181_43 rfl ?_
    refine x_if T_181_44 (fun h => absurd (show ¬ (0 : Int) = 0 from h) (by decide)) (fun _ => ?_)
    refine x_lr (z := some 2175) T_181_47 rfl ?_
    refine x_lr (z := some pr) T_181_48 rfl ?_
    refine x_lr (z := some kk) T_181_49 rfl ?_
    refine x_cv3 T_181_50 mN_173 mL_173 (Nat.le_of_ble_eq_true rfl) mO_173 (hP.o xo_2175) (Nat.le_of_ble_eq_true rfl) (hr2) ?_
    clear hP hr2
    rintro _ σ ⟨rfl, V5, V6, hP, hF6, -, hX6⟩
    have hX6 := hX6 q4
    refine cI ?_
    refine x_goto T_181_53 ?_
    refine x_si (ls1 := [some (vR (some 2175)), some (vR (some pr)), some (vR (some kk)), some (vI e2), none]) T_181_57 rfl ?_
    refine x_li (z := e2) T_181_58 rfl ?_
    refine x_if T_181_59 (fun _ => ?_) (fun h => absurd (show ¬ e2 = 0 by omega) h)
    refine x_li (z := e2) T_181_73 rfl ?_
    refine x_ri T_181_74 ?_
    rw [hfin2 V V3 hXV]
    exact ⟨rfl, V5, V6, hP, XW.mono hX6 (by omega), FCM_tr (FCM_fk hFV (by decide)) (FCM_fk hF6 (by decide))⟩
  · subst q4
    rw [if_neg (show ¬ (0 : Int) < 0 by decide)]
    obtain ⟨g, hg⟩ : ∃ g, Q2 2323 p = g := ⟨_, rfl⟩
    simp only [hg] at l3f
    have hun := fun (σ : hM) (V : qR) (V3 : rR) (hP : PX σ0 V V3 σ) (hX6 : XW K (T + 600) U V V3 Q2) (h1 : CHX V V3 2178 c1) (r1 : chR c1) (h2 : CHX V V3 2179 c2) (r2 : chR c2) => x_unmountOne (fb := fb) (d := d) hP hX6 (by omega) hp hg h1 r1 h2 r2
    have hgRf := fun (V : qR) (V3 : rR) (hX : XW K (T + 600) U V V3 Q2) => (IV.a hX.1.2.2.2.1.iv 2323 0 8 rfl rfl rfl hp.1 hp.2 : 0 ≤ Q2 2323 p ∧ Q2 2323 p ≤ 7)
    simp only [hg] at hgRf
    have hgof := fun (h : 0 ≤ g ∧ g ≤ 7) => grO_o (g := g) ⟨h.1, by omega⟩
    obtain ⟨B, hB⟩ : ∃ B, cUnm2 Q2 p c1 c2 [c1, c2] 3 = B := ⟨_, rfl⟩
    simp only [hB] at hun ⊢
    obtain ⟨b1, b2, b3⟩ := B
    obtain ⟨ga, hga⟩ : ∃ q, grO g = q := ⟨_, rfl⟩
    obtain ⟨pr, hpr⟩ : ∃ q, prO p = q := ⟨_, rfl⟩
    rw [hpr] at hre hpo
    simp only [hpr, hga] at hr2 hun l3f hgof ⊢
    refine CL_in mL_181 rfl ?_
    show WP fb _ 181 0 [some (vR (some 2175)), some (vR (some pr)), some (vR (some kk)), none, none] [] σ _
    refine x_lr (z := some kk) T_181_0 rfl ?_
    refine x_gI (z := 3) T_181_1 (Or.inl F_16_4) (hP.o hko) (Eq.trans (hP.gi hko (key := 2516) rfl) h5) ?_
    refine x_ic T_181_4 ?_
    refine x_ic2 T_181_5 (fun h => absurd (show (3 : Int) < 2 from h) (by decide)) (fun _ => ?_)
    refine x_lr (z := some kk) T_181_8 rfl ?_
    refine x_gI (z := 3) T_181_9 (Or.inl F_16_4) (hP.o hko) (Eq.trans (hP.gi hko (key := 2516) rfl) h5) ?_
    refine x_ic T_181_12 ?_
    refine x_ic2 T_181_13 (fun _ => ?_) (fun h => absurd (show (3 : Int) ≤ 3 by decide) h)
    refine x_lr (z := some 2175) T_181_19 rfl ?_
    refine x_gR (z := some 129) T_181_20 F_14_0 (hP.o xo_2175) (hP.rc xo_2175 rfl rfl) ?_
    refine x_lr (z := some pr) T_181_23 rfl ?_
    refine x_lr (z := some kk) T_181_24 rfl ?_
    refine x_ic T_181_25 ?_
    refine x_lr (z := some 2175) T_181_26 rfl ?_
    refine x_gR (z := some 2178) T_181_27 F_14_2 (hP.o xo_2175) (hP.rc xo_2175 rfl rfl) ?_
    refine x_ic T_181_30 ?_
    refine x_cv6 T_181_31 mN_117 mL_117 (Nat.le_of_ble_eq_true rfl) mO_117 (hP.o xo_129) (Nat.le_of_ble_eq_true rfl) (hre) ?_
    clear hP hre
    rintro _ σ ⟨rfl, V, V3, hP, hXV, hq, hFV⟩
    have h5V := h5V V V3 hFV
    obtain ⟨⟨hch, hcr⟩, -⟩ := hq rfl
    have hr2 := hr2 σ V V3 hP hXV hch hcr hFV
    refine cI ?_
    refine x_si (ls1 := [some (vR (some 2175)), some (vR (some pr)), some (vR (some kk)), some (vI 0), none]) T_181_34 rfl ?_
    refine x_lr (z := some kk) T_181_35 rfl ?_
    refine x_gI (z := 3) T_181_36 (Or.inl F_16_4) (hP.o hko) (Eq.trans (hP.gi hko (key := 2516) rfl) h5V) ?_
    refine x_ic T_181_39 ?_
    refine x_ic2 T_181_40 (fun h => absurd (show ¬ (3 : Int) = 3 from h) (by decide)) (fun _ => ?_)
    refine x_li (z := 0) T_181_43 rfl ?_
    refine x_if T_181_44 (fun h => absurd (show ¬ (0 : Int) = 0 from h) (by decide)) (fun _ => ?_)
    refine x_lr (z := some 2175) T_181_47 rfl ?_
    refine x_lr (z := some pr) T_181_48 rfl ?_
    refine x_lr (z := some kk) T_181_49 rfl ?_
    refine x_cv3 T_181_50 mN_173 mL_173 (Nat.le_of_ble_eq_true rfl) mO_173 (hP.o xo_2175) (Nat.le_of_ble_eq_true rfl) (hr2) ?_
    clear hP hr2
    rintro _ σ ⟨rfl, V5, V6, hP, hF6, hX6, -⟩
    obtain ⟨hX6, z1, z2, z3⟩ := hX6 (by trivial)
    have hX6 := hX6.mono (T2 := T + 600) (by omega)
    have l3 := l3f V5 V6 hX6 (hkw2 V V3 hXV).1
    have hgo3 := hgof (hgRf V5 V6 hX6)
    have hun := hun σ V5 V6 hP hX6 z1 hcr z2 z3
    refine cI ?_
    refine x_goto T_181_53 ?_
    refine x_si (ls1 := [some (vR (some 2175)), some (vR (some pr)), some (vR (some kk)), some (vI 0), none]) T_181_57 rfl ?_
    refine x_li (z := 0) T_181_58 rfl ?_
    refine x_if T_181_59 (fun h => absurd (show ¬ (0 : Int) = 0 from h) (by decide)) (fun _ => ?_)
    refine x_lr (z := some 2175) T_181_62 rfl ?_
    refine x_lr (z := some pr) T_181_63 rfl ?_
    refine x_gR (z := some ga) T_181_64 F_6_9 (hP.o hpo) (Eq.trans (hP.rm hpo rfl (key := 2201) rfl) l3) ?_
    refine x_cv2 T_181_67 mN_182 mL_182 (Nat.le_of_ble_eq_true rfl) mO_182 (hP.o xo_2175) (Nat.le_of_ble_eq_true rfl) (hun) ?_
    clear hP hun
    rintro _ σ ⟨rfl, V7, V8, hP, hX8, hF8⟩
    refine cI ?_
    refine x_goto T_181_70 ?_
    refine x_ri T_181_74 ?_
    exact ⟨rfl, V7, V8, hP, XW.mono hX8 (by omega), FCM_tr (FCM_fk hFV (by decide)) (FCM_tr (FCM_fk hF6 (by decide)) hF8)⟩
theorem x_unmount18 (hP : PX σ0 W R σ) (hp : 0 ≤ p ∧ p < 8) (hC : CMD W kk l) (hN : ((lnW l).length : Int) = N) (hN2 : ¬ (2 ≤ N ∧ N ≤ 3)) : CL fb (d + 10) 181 [vR (some 2175), vR (some (prO p)), vR (some kk)] σ (rP 18 σ) := by
  have hk := hC.1
  have h5 := hC.2.2.2.2.1.trans hN
  obtain ⟨pr, hpr⟩ : ∃ q, prO p = q := ⟨_, rfl⟩
  rw [hpr]
  by_cases q : N < 2
  · skip
    refine CL_in mL_181 rfl ?_
    show WP fb _ 181 0 [some (vR (some 2175)), some (vR (some pr)), some (vR (some kk)), none, none] [] σ _
    refine x_lr (z := some kk) T_181_0 rfl ?_
    refine x_gI (z := N) T_181_1 (Or.inl F_16_4) (hP.o hk) (Eq.trans (hP.gi hk (key := 2516) rfl) h5) ?_
    refine x_ic T_181_4 ?_
    refine x_ic2 T_181_5 (fun _ => ?_) (fun h => absurd (show N < 2 by omega) h)
    refine x_ic T_181_16 ?_
    refine x_ri T_181_18 ?_
    exact ⟨rfl, rfl⟩
  · skip
    refine CL_in mL_181 rfl ?_
    show WP fb _ 181 0 [some (vR (some 2175)), some (vR (some pr)), some (vR (some kk)), none, none] [] σ _
    refine x_lr (z := some kk) T_181_0 rfl ?_
    refine x_gI (z := N) T_181_1 (Or.inl F_16_4) (hP.o hk) (Eq.trans (hP.gi hk (key := 2516) rfl) h5) ?_
    refine x_ic T_181_4 ?_
    refine x_ic2 T_181_5 (fun h => absurd (show N < 2 from h) (by omega)) (fun _ => ?_)
    refine x_lr (z := some kk) T_181_8 rfl ?_
    refine x_gI (z := N) T_181_9 (Or.inl F_16_4) (hP.o hk) (Eq.trans (hP.gi hk (key := 2516) rfl) h5) ?_
    refine x_ic T_181_12 ?_
    refine x_ic2 T_181_13 (fun h => absurd (show N ≤ 3 from h) (by omega)) (fun _ => ?_)
    refine x_ic T_181_16 ?_
    refine x_ri T_181_18 ?_
    exact ⟨rfl, rfl⟩
end XUNO
