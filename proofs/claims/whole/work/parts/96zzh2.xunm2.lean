/-! The class's unmount. -/
theorem T_182_0 : hTab 182 0 = some ((3, 0, 2, []), 1) := rfl
theorem T_182_1 : hTab 182 1 = some ((24, 14, Int.ofNat 0, []), 4) := rfl
theorem T_182_4 : hTab 182 4 = some ((3, 0, 2, []), 5) := rfl
theorem T_182_5 : hTab 182 5 = some ((24, 14, Int.ofNat 3, []), 8) := rfl
theorem T_182_8 : hTab 182 8 = some ((31, 132, 0, []), 11) := rfl
theorem T_182_11 : hTab 182 11 = some ((7, 0, 0, []), 12) := rfl
theorem T_182_12 : hTab 182 12 = some ((3, 0, 2, []), 13) := rfl
theorem T_182_13 : hTab 182 13 = some ((24, 14, Int.ofNat 0, []), 16) := rfl
theorem T_182_16 : hTab 182 16 = some ((3, 0, 2, []), 17) := rfl
theorem T_182_17 : hTab 182 17 = some ((24, 14, Int.ofNat 2, []), 20) := rfl
theorem T_182_20 : hTab 182 20 = some ((31, 132, 0, []), 23) := rfl
theorem T_182_23 : hTab 182 23 = some ((7, 0, 0, []), 24) := rfl
theorem T_182_24 : hTab 182 24 = some ((3, 1, 2, []), 25) := rfl
theorem T_182_25 : hTab 182 25 = some ((3, 0, 2, []), 26) := rfl
theorem T_182_26 : hTab 182 26 = some ((24, 14, Int.ofNat 3, []), 29) := rfl
theorem T_182_29 : hTab 182 29 = some ((24, 5, Int.ofNat 0, []), 32) := rfl
theorem T_182_32 : hTab 182 32 = some ((3, 0, 2, []), 33) := rfl
theorem T_182_33 : hTab 182 33 = some ((24, 14, Int.ofNat 3, []), 36) := rfl
theorem T_182_36 : hTab 182 36 = some ((24, 5, Int.ofNat 2, []), 39) := rfl
theorem T_182_39 : hTab 182 39 = some ((31, 129, 0, []), 42) := rfl
theorem T_182_42 : hTab 182 42 = some ((4, 2, 2, []), 43) := rfl
theorem T_182_43 : hTab 182 43 = some ((0, 0, 0, []), 44) := rfl
theorem T_182_44 : hTab 182 44 = some ((4, 3, 0, []), 45) := rfl
theorem T_182_99 : hTab 182 99 = some ((3, 0, 2, []), 100) := rfl
theorem T_182_100 : hTab 182 100 = some ((24, 14, Int.ofNat 0, []), 103) := rfl
theorem T_182_103 : hTab 182 103 = some ((3, 4, 2, []), 105) := rfl
theorem T_182_105 : hTab 182 105 = some ((31, 132, 0, []), 108) := rfl
theorem T_182_108 : hTab 182 108 = some ((7, 0, 0, []), 109) := rfl
theorem T_182_109 : hTab 182 109 = some ((3, 2, 2, []), 110) := rfl
theorem T_182_110 : hTab 182 110 = some ((3, 3, 0, []), 111) := rfl
theorem T_182_111 : hTab 182 111 = some ((31, 183, 0, []), 114) := rfl
theorem T_182_114 : hTab 182 114 = some ((3, 2, 2, []), 115) := rfl
theorem T_182_115 : hTab 182 115 = some ((24, 4, Int.ofNat 3, []), 118) := rfl
theorem T_182_118 : hTab 182 118 = some ((18, 1, Int.ofNat 126, []), 121) := rfl
theorem T_182_121 : hTab 182 121 = some ((3, 1, 2, []), 122) := rfl
theorem T_182_122 : hTab 182 122 = some ((3, 2, 2, []), 123) := rfl
theorem T_182_123 : hTab 182 123 = some ((31, 184, 0, []), 126) := rfl
theorem T_182_126 : hTab 182 126 = some ((0, 0, 0, []), 127) := rfl
theorem T_182_127 : hTab 182 127 = some ((33, 1, 0, []), 128) := rfl
theorem T_182_134 : hTab 182 134 = some ((0, 0, 1, []), 135) := rfl
theorem T_182_135 : hTab 182 135 = some ((33, 1, 0, []), 136) := rfl
section XUNN
variable {fb : Bool} {d b c n a0 y0 ga : Nat} {σ0 σ : hM} {W W1 W2 V P Q : qR} {R R1 R2 V3 : rR} {i j k x z v s e w f g u p pt pa sv K T U t N C n0 : Int} {l l0 lo nm M A wd : List Int} {c1 c2 ch : Ch} {kk : Nat}
theorem unD_rf {pq : Int} : RF (2334 :: ptR) (unD P g pq j) P := by
  have h1 : RF (2334 :: ptR) (gMvD pq (P 2337 pq - 1 - j).toNat j (rU P 2337 pq (P 2337 pq - 1))) P := fun f k hf => (gMvD_rf _ _ _ f k (elem_sub (l1 := mbR) (l2 := 2334 :: ptR) (by decide) hf)).trans (rU_f (fun q => by rw [q] at hf; exact absurd hf (by decide)))
  unfold unD
  split
  · exact RF_tr gRmP_rf h1
  · exact h1
/-- the member that was found goes -/
theorem un1_99 {cc : Nat} (hP : PX σ0 W R σ) (hX : XW K T U W R P) (hT : T + 400 ≤ 2147483000) (hg : 0 ≤ g ∧ g < 8) (hk : 0 ≤ k ∧ k < P 2334 g) (hy : R (grO g + 1) k = some y0) (hn : P 2337 (8 * g + k) = n0) (hj : 0 ≤ j ∧ j < n0) (hcc : tX cc = some (Sum.inl 5)) (hm : MBC W P cc (6 * (8 * g + k) + j)) : WP fb (d + 9) 182 99 [some (vR (some 2175)), some (vR (some (grO g))), some (vR (some y0)), some (vI j), some (vR (some cc))] [] σ (XCM σ0 K (T + 4) U W R (0, unD (tP P (P 2338 (6 * (8 * g + k) + j)) (mOne 120 (P 2339 (6 * (8 * g + k) + j)))) g (8 * g + k) j, [])) := by
  have hI := hX.1.2.2.2.1.iv
  have hpb : 0 ≤ P 2334 g ∧ P 2334 g ≤ 8 := IV.a hI 2334 0 8 rfl rfl rfl (by omega) (by omega)
  have hmn : 0 ≤ P 2337 (8 * g + k) ∧ P 2337 (8 * g + k) ≤ 6 := IV.a hI 2337 0 64 rfl rfl rfl (by omega) (by omega)
  have hb1 : 0 ≤ P 2338 (6 * (8 * g + k) + j) ∧ P 2338 (6 * (8 * g + k) + j) ≤ 2 := IV.a hI 2338 0 384 rfl rfl rfl (by omega) (by omega)
  have hb2 : 0 ≤ P 2339 (6 * (8 * g + k) + j) ∧ P 2339 (6 * (8 * g + k) + j) ≤ 47 := IV.a hI 2339 0 384 rfl rfl rfl (by omega) (by omega)
  rw [hn] at hmn
  obtain ⟨m1, m2, -, -, -⟩ := hm
  obtain ⟨s, hs⟩ : ∃ q, P 2338 (6 * (8 * g + k) + j) = q := ⟨_, rfl⟩
  obtain ⟨f, hf⟩ : ∃ q, P 2339 (6 * (8 * g + k) + j) = q := ⟨_, rfl⟩
  rw [hs] at m1 hb1
  rw [hf] at m2 hb2
  rw [hs, hf]
  have hck := x_clunkK (fb := fb) (d := d) hP hX (by omega) hcc m1 m2 ⟨hb1.1, by omega⟩ hb2
  obtain ⟨e, he⟩ : ∃ q, tE P s (mOne 120 f) = q := ⟨_, rfl⟩
  have hkf : KF (tP P s (mOne 120 f)) P := KF_tP
  obtain ⟨P3, hP3⟩ : ∃ q, tP P s (mOne 120 f) = q := ⟨_, rfl⟩
  rw [hP3] at hkf
  unfold XE at hck
  rw [he, hP3] at hck
  rw [hP3]
  have hns := fun (f : Nat) (k : Int) (hf : nsR.elem f = true) => nsR_kf hkf f k hf
  have hgr0 := hX.1.2.2.1.2.1 g hg.1 hg.2
  obtain ⟨iy, hiy, hy2⟩ := hgr0.pt (k := k) ⟨hk.1, by omega⟩
  have ey : y0 = grO g + 2 + 8 * iy := Option.some.inj (hy.symm.trans hy2)
  have hrg := grO_rng hg
  have hY : PYO y0 := by rw [ey]; exact PYO_of hg hiy
  obtain ⟨C, hC⟩ : ∃ C, P 2334 g = C := ⟨_, rfl⟩
  rw [hC] at hpb hk
  have hC3 : P3 2334 g = C := (hns 2334 _ rfl).trans hC
  have hn3 : P3 2337 (8 * g + k) = n0 := (hns 2337 _ rfl).trans hn
  have key : ∀ (V : qR) (V4 : rR), XW K (T + 4) U V V4 P3 → FA W V R V4 → V y0 2131 = n0 ∧ ARP V4 (y0 + 1) 6 (y0 + 2) 1 ∧ V (grO g) 2097 = C ∧ ARP (rmR V4 y0 j n0) (grO g + 1) 8 (grO g + 2) 8 ∧ rmR V4 y0 j n0 (grO g + 1) k = some y0 ∧ (¬ n0 - 1 = 0 → XW K (T + 4) U (rU V y0 2131 (n0 - 1)) (rmR V4 y0 j n0) (unD P3 g (8 * g + k) j) ∧ FCM W (rU V y0 2131 (n0 - 1)) R (rmR V4 y0 j n0)) ∧ (n0 - 1 = 0 → XW K (T + 4) U (rU (rU V y0 2131 (n0 - 1)) (grO g) 2097 (C - 1)) (rmR (rmR V4 y0 j n0) (grO g) k C) (unD P3 g (8 * g + k) j) ∧ FCM W (rU (rU V y0 2131 (n0 - 1)) (grO g) 2097 (C - 1)) R (rmR (rmR V4 y0 j n0) (grO g) k C)) := fun V V4 hX2 hA => by
    have hI3 := hX2.1.2.2.2.1.iv
    have hgr := hX2.1.2.2.1.2.1 g hg.1 hg.2
    have hyV : V4 (grO g + 1) k = some y0 := (hA.ns.2 _ _ (by omega) (by omega)).trans hy
    have hX6 := hgr.rmM hI3 hg (k := k) ⟨hk.1, by omega⟩ hyV hn3 hj
    obtain ⟨uG, uT⟩ := unD_ok (j := j) hX2.1.2.2.2.1 hX2.1.2.2.2.2.2.2 hg (pt := 8 * g + k) ⟨by omega, by omega⟩ ⟨hj.1, by omega⟩
    have uR : RF (2334 :: ptR) (unD P3 g (8 * g + k) j) P3 := unD_rf
    have eU : unD P3 g (8 * g + k) j = if n0 - 1 = 0 then gRmP (gMvD (8 * g + k) (n0 - 1 - j).toNat j (rU P3 2337 (8 * g + k) (n0 - 1))) g (8 * g + k) else gMvD (8 * g + k) (n0 - 1 - j).toNat j (rU P3 2337 (8 * g + k) (n0 - 1)) := by
      unfold unD
      rw [hn3]
    have hoth : ∀ g2 : Int, 0 ≤ g2 → g2 < 8 → g2 ≠ g → grQ P3 (gMvD (8 * g + k) (n0 - 1 - j).toNat j (rU P3 2337 (8 * g + k) (n0 - 1))) g2 := fun g2 _ _ hne => gMvD_oth (g := g) ⟨by omega, by omega⟩ ⟨hj.1, by omega⟩ hne
    have hCQ : gMvD (8 * g + k) (n0 - 1 - j).toNat j (rU P3 2337 (8 * g + k) (n0 - 1)) 2334 g = C := (gMvD_rf _ _ _ 2334 g rfl).trans ((rU_f (by decide)).trans hC3)
    have hGF : GRF g V (rU V y0 2131 (n0 - 1)) V4 (rmR V4 y0 j n0) := ⟨fun x k hx => if_neg (by omega), fun x k hx => by
      rcases hx with hx | hx
      · exact rmR_o (by omega)
      · exact rmR_row (by omega) (by omega) hj⟩
    obtain ⟨Q1, hQ1⟩ : ∃ q, gMvD (8 * g + k) (n0 - 1 - j).toNat j (rU P3 2337 (8 * g + k) (n0 - 1)) = q := ⟨_, rfl⟩
    rw [hQ1] at hX6 eU hoth hCQ
    have hym := hgr.2.2.2.1 iy hiy
    rw [show grO g + 3 + 8 * iy = y0 + 1 by omega, show grO g + 4 + 8 * iy = y0 + 2 by omega] at hym
    obtain ⟨x0, hx0, p1, p2, p3, p4⟩ := hgr.2.2.2.2 k hk.1 (by omega)
    have hxy : x0 = y0 := Option.some.inj (hx0.symm.trans hyV)
    rw [hxy] at p3
    refine ⟨p3.trans hn3, hym, hgr.1.trans hC3, hX6.2.2.1, (rmR_o (by omega)).trans hyV, fun q => ?_, fun q => ?_⟩
    · rw [if_neg q] at eU
      rw [eU] at uG uT uR ⊢
      exact ⟨hX2.grf hg uR uG uT hGF hoth hX6, FCM_tr (FCM_fa hA) (GRF_fcm hg hGF)⟩
    · rw [if_pos q] at eU
      rw [eU] at uG uT uR ⊢
      have hIQ : IV false (T + 4) U Q1 := by
        have hG1 := GI_one (f := 2337) (j := 8 * g + k) (v := n0 - 1) (ty := 0) (len := 64) hX2.1.2.2.2.1 rfl (show 0 ≤ n0 - 1 ∧ n0 - 1 ≤ 6 by omega) rfl rfl rfl rfl rfl rfl rfl rfl rfl (by decide) (by decide)
        rw [← hQ1]
        exact (GI_gMvD (pt := 8 * g + k) ⟨by omega, by omega⟩ _ j _ hj.1 (by omega) hG1).iv
      have hX7 := hX6.rmG hIQ hg hCQ hpb.2 hk (W2 := rU (rU V y0 2131 (n0 - 1)) (grO g) 2097 (C - 1)) rU_s (rU_k (by decide)) (fun k2 x k0 k1 _ hx => by
        obtain ⟨x2, hx2, b1, b2, b3, b4⟩ := hX6.2.2.2.2 k2 k0 (by omega)
        have : x2 = x := Option.some.inj (hx2.symm.trans hx)
        subst this
        refine ⟨(rU_j (by decide)).trans b1, (rU_j (by decide)).trans b2, (rU_j (by decide)).trans b3, fun j j0 j1 => ?_⟩
        obtain ⟨c, c1, d1, d2, d3, d4, d5⟩ := b4 j j0 j1
        exact ⟨c, c1, (rU_j (by decide)).trans d1, (rU_j (by decide)).trans d2, (rU_j (by decide)).trans d3, (rU_j (by decide)).trans d4, (rU_j (by decide)).trans d5⟩)
      have hGF2 : GRF g V (rU (rU V y0 2131 (n0 - 1)) (grO g) 2097 (C - 1)) V4 (rmR (rmR V4 y0 j n0) (grO g) k C) := GRF_tr hGF ⟨fun x k hx => if_neg (by omega), fun x k2 hx => by
        rcases hx with hx | hx
        · exact rmR_o (by omega)
        · exact rmR_row (by omega) (by omega) hk⟩
      exact ⟨hX2.grf hg uR uG uT hGF2 (fun g2 g0 g1 hne => grQ_tr (hoth g2 g0 g1 hne) (gRmP_oth hCQ hpb.2 hk hne)) hX7, FCM_tr (FCM_fa hA) (GRF_fcm hg hGF2)⟩
  have hrm := fun (σ : hM) (V : qR) (V4 : rR) (hP : PX σ0 V V4 σ) (h1 : V y0 2131 = n0) (h2 : ARP V4 (y0 + 1) 6 (y0 + 2) 1) => x_removeM (fb := fb) (d := d + 8) (j := j) hP hY h2 h1 hmn.2 hj
  have hrG := fun (σ : hM) (V : qR) (V4 : rR) (hP : PX σ0 V V4 σ) (h1 : V (grO g) 2097 = C) (h2 : ARP V4 (grO g + 1) 8 (grO g + 2) 8) (h3 : V4 (grO g + 1) k = some y0) => x_removeG (fb := fb) (d := d + 8) hP hg h1 hpb.2 h2 hk h3
  have hyo := hY.1
  have hgo3 := grO_o hg
  have hyg : grO g ≠ y0 := by omega
  obtain ⟨pt, hpt⟩ : ∃ q, 8 * g + k = q := ⟨_, rfl⟩
  rw [hpt] at key ⊢
  obtain ⟨ga, hga⟩ : ∃ q, grO g = q := ⟨_, rfl⟩
  simp only [hga] at key hrG hgo3 hyg ⊢
  by_cases q : n0 - 1 = 0
  · skip
    refine x_lr (z := some 2175) T_182_99 rfl ?_
    refine x_gR (z := some 129) T_182_100 F_14_0 (hP.o xo_2175) (hP.rc xo_2175 rfl rfl) ?_
    refine x_lr (z := some cc) T_182_103 rfl ?_
    refine x_cv2 T_182_105 mN_132 mL_132 (Nat.le_of_ble_eq_true rfl) mO_132 (hP.o xo_129) (Nat.le_of_ble_eq_true rfl) (hck) ?_
    clear hP hck
    rintro _ σ ⟨rfl, V, V4, hP, hX2, hA⟩
    obtain ⟨h1, h2, h3, h4, h5, -, h7⟩ := key V V4 hX2 hA
    obtain ⟨h7, h8⟩ := h7 q
    have hrm := hrm σ V V4 hP h1 h2
    refine cI ?_
    refine x_popI T_182_108 ?_
    refine x_lr (z := some y0) T_182_109 rfl ?_
    refine x_li (z := j) T_182_110 rfl ?_
    refine x_cv2 T_182_111 mN_183 mL_183 (Nat.le_of_ble_eq_true rfl) mO_183 (hP.o hyo) (Nat.le_of_ble_eq_true rfl) (hrm) ?_
    clear hP hrm
    rintro _ σ ⟨rfl, hP⟩
    have hrG := hrG σ _ _ hP ((rU_f hyg).trans h3) h4 h5
    refine cV ?_
    refine x_lr (z := some y0) T_182_114 rfl ?_
    refine x_gI (z := (n0 - 1)) T_182_115 (Or.inl F_4_3) (hP.o hyo) (Eq.trans (hP.gi hyo (key := 2131) rfl) (rU_s)) ?_
    refine x_if T_182_118 (fun h => absurd (show ¬ (n0 - 1) = 0 from h) (by omega)) (fun _ => ?_)
    refine x_lr (z := some ga) T_182_121 rfl ?_
    refine x_lr (z := some y0) T_182_122 rfl ?_
    refine x_cv2 T_182_123 mN_184 mL_184 (Nat.le_of_ble_eq_true rfl) mO_184 (hP.o hgo3) (Nat.le_of_ble_eq_true rfl) (hrG) ?_
    clear hP hrG
    rintro _ σ ⟨rfl, hP⟩
    refine cV ?_
    refine x_ic T_182_126 ?_
    refine x_ri T_182_127 ?_
    exact ⟨rfl, _, _, hP, h7, h8⟩
  · skip
    refine x_lr (z := some 2175) T_182_99 rfl ?_
    refine x_gR (z := some 129) T_182_100 F_14_0 (hP.o xo_2175) (hP.rc xo_2175 rfl rfl) ?_
    refine x_lr (z := some cc) T_182_103 rfl ?_
    refine x_cv2 T_182_105 mN_132 mL_132 (Nat.le_of_ble_eq_true rfl) mO_132 (hP.o xo_129) (Nat.le_of_ble_eq_true rfl) (hck) ?_
    clear hP hck
    rintro _ σ ⟨rfl, V, V4, hP, hX2, hA⟩
    obtain ⟨h1, h2, h3, h4, h5, h6, -⟩ := key V V4 hX2 hA
    obtain ⟨h6, h8⟩ := h6 q
    have hrm := hrm σ V V4 hP h1 h2
    refine cI ?_
    refine x_popI T_182_108 ?_
    refine x_lr (z := some y0) T_182_109 rfl ?_
    refine x_li (z := j) T_182_110 rfl ?_
    refine x_cv2 T_182_111 mN_183 mL_183 (Nat.le_of_ble_eq_true rfl) mO_183 (hP.o hyo) (Nat.le_of_ble_eq_true rfl) (hrm) ?_
    clear hP hrm
    rintro _ σ ⟨rfl, hP⟩
    refine cV ?_
    refine x_lr (z := some y0) T_182_114 rfl ?_
    refine x_gI (z := (n0 - 1)) T_182_115 (Or.inl F_4_3) (hP.o hyo) (Eq.trans (hP.gi hyo (key := 2131) rfl) (rU_s)) ?_
    refine x_if T_182_118 (fun _ => ?_) (fun h => absurd (show ¬ (n0 - 1) = 0 by omega) h)
    refine x_ic T_182_126 ?_
    refine x_ri T_182_127 ?_
    exact ⟨rfl, _, _, hP, h6, h8⟩
theorem x_unmountOne (hP : PX σ0 W R σ) (hX : XW K T U W R P) (hT : T + 700 ≤ 2147483000) (hp : 0 ≤ p ∧ p < 8) (hg : P 2323 p = g) (h1 : CHX W R 2178 c1) (r1 : chR c1) (h2 : CHX W R 2179 c2) (r2 : chR c2) : CL fb (d + 9) 182 [vR (some 2175), vR (some (grO g))] σ (XCM σ0 K (T + 12) U W R (cUnm2 P p c1 c2 [c1, c2] 3)) := by
  have hI := hX.1.2.2.2.1.iv
  have hgR : 0 ≤ P 2323 p ∧ P 2323 p ≤ 7 := IV.a hI 2323 0 8 rfl rfl rfl (by omega) (by omega)
  rw [hg] at hgR
  have hg8 : 0 ≤ g ∧ g < 8 := ⟨hgR.1, by omega⟩
  have hgo3 := grO_o hg8
  have hck2 := x_clunkC (fb := fb) (d := d) hP hX (by omega) two_o h2 r2
  have hck1 := fun (σ : hM) (V : qR) (V4 : rR) (hP : PX σ0 V V4 σ) (hX2 : XW K (T + 4) U V V4 (kDrop P c2)) (hA : FA W V R V4) => x_clunkC (fb := fb) (d := d) hP hX2 (by omega) one_o (h1.fa hA (by decide) (by decide) r1.2.2) r1
  have eD : kDrops P [c1, c2] = kDrop (kDrop P c2) c1 := rfl
  have hkf : KF (kDrops P [c1, c2]) P := KF_drops [c1, c2] P
  rw [eD] at hkf
  have hqp := qPoint_kf (p := p) (s := c2.1) (path := c2.2.2.1) hkf
  unfold cUnm2
  rw [if_neg (show ¬ (3 : Int) = 2 by decide), eD, ← hqp, hg]
  obtain ⟨e2, he2⟩ : ∃ q, tE P c2.1 (mOne 120 c2.2.1) = q := ⟨_, rfl⟩
  obtain ⟨e1, he1⟩ : ∃ q, tE (kDrop P c2) c1.1 (mOne 120 c1.2.1) = q := ⟨_, rfl⟩
  rw [he2] at hck2
  simp only [he1] at hck1
  obtain ⟨P2, hP2⟩ : ∃ q, kDrop (kDrop P c2) c1 = q := ⟨_, rfl⟩
  rw [hP2] at hkf ⊢
  simp only [hP2] at hck1
  have hg2 : P2 2323 p = g := (nsR_kf hkf 2323 _ rfl).trans hg
  have hpa := fun (σ : hM) (V : qR) (V4 : rR) (hP : PX σ0 V V4 σ) (hX2 : XW K (T + 8) U V V4 P2) => x_pointAt (fb := fb) (d := d + 8) (s := c2.1) (path := c2.2.2.1) hP hX2.1.2.2.1 hX2.1.2.2.2.1.iv hp
  simp only [hg2] at hpa
  obtain ⟨pt, hpt⟩ : ∃ q, qPoint P2 p c2.1 c2.2.2.1 = q := ⟨_, rfl⟩
  simp only [hpt] at hpa
  rw [hpt]
  obtain ⟨sv2, hsv2⟩ : ∃ q, c2.1 = q := ⟨_, rfl⟩
  obtain ⟨pa2, hpa2⟩ : ∃ q, c2.2.2.1 = q := ⟨_, rfl⟩
  have hch2 : ∀ (V : qR) (V4 : rR), FA W V R V4 → V 2179 2160 = sv2 ∧ V 2179 2162 = pa2 := fun V V4 hA => by
    have := h2.fa hA (by decide) (by decide) r2.2.2
    exact ⟨this.1.trans hsv2, this.2.2.1.trans hpa2⟩
  simp only [hsv2, hpa2] at hpa
  by_cases q1 : pt < 0
  · rw [if_pos q1]
    simp only [if_pos q1] at hpa
    obtain ⟨ga, hga⟩ : ∃ q, grO g = q := ⟨_, rfl⟩
    simp only [hga] at hpa hgo3 ⊢
    refine CL_in mL_182 rfl ?_
    show WP fb _ 182 0 [some (vR (some 2175)), some (vR (some ga)), none, none, none] [] σ _
    refine x_lr (z := some 2175) T_182_0 rfl ?_
    refine x_gR (z := some 129) T_182_1 F_14_0 (hP.o xo_2175) (hP.rc xo_2175 rfl rfl) ?_
    refine x_lr (z := some 2175) T_182_4 rfl ?_
    refine x_gR (z := some 2179) T_182_5 F_14_3 (hP.o xo_2175) (hP.rc xo_2175 rfl rfl) ?_
    refine x_cv2 T_182_8 mN_132 mL_132 (Nat.le_of_ble_eq_true rfl) mO_132 (hP.o xo_129) (Nat.le_of_ble_eq_true rfl) (hck2) ?_
    clear hP hck2
    rintro _ σ ⟨rfl, V, V4, hP, hX2, hA⟩
    have hck1 := hck1 σ V V4 hP hX2 hA
    refine cI ?_
    refine x_popI T_182_11 ?_
    refine x_lr (z := some 2175) T_182_12 rfl ?_
    refine x_gR (z := some 129) T_182_13 F_14_0 (hP.o xo_2175) (hP.rc xo_2175 rfl rfl) ?_
    refine x_lr (z := some 2175) T_182_16 rfl ?_
    refine x_gR (z := some 2178) T_182_17 F_14_2 (hP.o xo_2175) (hP.rc xo_2175 rfl rfl) ?_
    refine x_cv2 T_182_20 mN_132 mL_132 (Nat.le_of_ble_eq_true rfl) mO_132 (hP.o xo_129) (Nat.le_of_ble_eq_true rfl) (hck1) ?_
    clear hP hck1
    rintro _ σ ⟨rfl, V5, V6, hP, hX3, hA3⟩
    have hA4 := FA_tr hA hA3
    obtain ⟨z1, z2⟩ := hch2 _ _ hA4
    have hpa := hpa σ V5 V6 hP (hX3.mono (by omega))
    refine cI ?_
    refine x_popI T_182_23 ?_
    refine x_lr (z := some ga) T_182_24 rfl ?_
    refine x_lr (z := some 2175) T_182_25 rfl ?_
    refine x_gR (z := some 2179) T_182_26 F_14_3 (hP.o xo_2175) (hP.rc xo_2175 rfl rfl) ?_
    refine x_gI (z := sv2) T_182_29 (Or.inl F_5_0) (hP.o xo_2179) (Eq.trans (hP.gi xo_2179 (key := 2160) rfl) z1) ?_
    refine x_lr (z := some 2175) T_182_32 rfl ?_
    refine x_gR (z := some 2179) T_182_33 F_14_3 (hP.o xo_2175) (hP.rc xo_2175 rfl rfl) ?_
    refine x_gI (z := pa2) T_182_36 (Or.inl F_5_2) (hP.o xo_2179) (Eq.trans (hP.gi xo_2179 (key := 2162) rfl) z2) ?_
    refine x_cv3 T_182_39 mN_129 mL_129 (Nat.le_of_ble_eq_true rfl) mO_129 (hP.o hgo3) (Nat.le_of_ble_eq_true rfl) (hpa) ?_
    rintro _ σ ⟨rfl, rfl⟩
    refine cR ?_
    refine x_sr (ls1 := [some (vR (some 2175)), some (vR (some ga)), some (vR none), none, none]) T_182_42 rfl ?_
    refine x_ic T_182_43 ?_
    refine x_si (ls1 := [some (vR (some 2175)), some (vR (some ga)), some (vR none), some (vI 0), none]) T_182_44 rfl ?_
    refine x_lr (z := none) T_182_45 rfl ?_
    refine x_nul T_182_46 (fun _ => ?_) (fun a0 h0 => absurd h0 (by simp))
    refine x_ic T_182_134 ?_
    refine x_ri T_182_135 ?_
    exact ⟨rfl, V5, V6, hP, hX3.mono (by omega), FCM_fa hA4⟩
  · rw [if_neg q1]
    simp only [if_neg q1] at hpa
    have hqr := qPoint_rng (P := P2) (p := p) (s := c2.1) (path := c2.2.2.1) (T := T + 8) (U := U)
    unfold unM
    have key : ∀ (σ : hM) (V : qR) (V4 : rR), PX σ0 V V4 σ → XW K (T + 8) U V V4 P2 → FA W V R V4 → ∃ y0 : Nat, V4 (grO g + 1) (pt - 8 * g) = some y0 ∧ tX y0 = some (Sum.inl 4) ∧ ∀ x4, WP fb (d + 9) 182 45 [some (vR (some 2175)), some (vR (some (grO g))), some (vR (some y0)), some (vI 0), x4] [] σ (XCM σ0 K (T + 12) U W R ((if unJ P2 pt c1.1 c1.2.2.1 (P2 2337 pt).toNat 0 = P2 2337 pt then ((1 : Int), P2) else (0, unD (tP P2 (P2 2338 (6 * pt + unJ P2 pt c1.1 c1.2.2.1 (P2 2337 pt).toNat 0)) (mOne 120 (P2 2339 (6 * pt + unJ P2 pt c1.1 c1.2.2.1 (P2 2337 pt).toNat 0)))) g pt (unJ P2 pt c1.1 c1.2.2.1 (P2 2337 pt).toNat 0))).1, (if unJ P2 pt c1.1 c1.2.2.1 (P2 2337 pt).toNat 0 = P2 2337 pt then ((1 : Int), P2) else (0, unD (tP P2 (P2 2338 (6 * pt + unJ P2 pt c1.1 c1.2.2.1 (P2 2337 pt).toNat 0)) (mOne 120 (P2 2339 (6 * pt + unJ P2 pt c1.1 c1.2.2.1 (P2 2337 pt).toNat 0)))) g pt (unJ P2 pt c1.1 c1.2.2.1 (P2 2337 pt).toNat 0))).2, [])) := fun σ V V4 hP hX2 hA => by
      have hI2 := hX2.1.2.2.2.1.iv
      have hqr := qPoint_rng (s := c2.1) (path := c2.2.2.1) hI2 hp
      rw [hpt, hg2] at hqr
      have hgr := hX2.1.2.2.1.2.1 g hg8.1 hg8.2
      obtain ⟨y0, hy0, hPM⟩ := PTM_of hgr hg8 hI2 (k := pt - 8 * g) ⟨by omega, by omega⟩
      rw [show 8 * g + (pt - 8 * g) = pt by omega] at hPM
      have hc1 := h1.fa hA (by decide) (by decide) r1.2.2
      have hmb : 0 ≤ P2 2337 pt ∧ P2 2337 pt ≤ 6 := IV.a hI2 2337 0 64 rfl rfl rfl (by omega) (by omega)
      refine ⟨y0, hy0, hPM.1, fun x4 => ?_⟩
      refine unm_find (d := d) (n0 := P2 2337 pt) hP (grO_o hg8) hPM rfl hmb hc1.1 hc1.2.2.1 (fun hu x4 => ?_) (fun j cc hu j0 j1 hcc hco hmm => ?_) (P2 2337 pt).toNat 0 x4 (by omega) (by decide) rfl
      · rw [if_pos hu]
        dsimp only
        have hyo := hPM.1
        have hgo3 := grO_o hg8
        obtain ⟨n0, hn0⟩ : ∃ q, P2 2337 pt = q := ⟨_, rfl⟩
        rw [hn0]
        obtain ⟨ga, hga⟩ : ∃ q, grO g = q := ⟨_, rfl⟩
        rw [hga] at hgo3 ⊢
        refine x_ic T_182_134 ?_
        refine x_ri T_182_135 ?_
        exact ⟨rfl, V, V4, hP, hX2.mono (by omega), FCM_fa hA⟩
      · rw [hu, if_neg (by omega)]
        dsimp only
        have h99 := un1_99 (fb := fb) (d := d) (k := pt - 8 * g) (n0 := P2 2337 pt) (j := j) hP hX2 (by omega) hg8 ⟨by omega, by omega⟩ hy0 (by rw [show 8 * g + (pt - 8 * g) = pt by omega]) ⟨j0, j1⟩ hco (by rw [show 8 * g + (pt - 8 * g) = pt by omega]; exact hmm)
        rw [show 8 * g + (pt - 8 * g) = pt by omega] at h99
        refine h99.mono ?_
        rintro r σ' ⟨rfl, W5, R5, g1, g2, g3⟩
        exact ⟨rfl, W5, R5, g1, XW.mono g2 (by omega), FCM_tr (FCM_fa hA) g3⟩
    clear hqr
    obtain ⟨B, hB⟩ : ∃ B, (if unJ P2 pt c1.1 c1.2.2.1 (P2 2337 pt).toNat 0 = P2 2337 pt then ((1 : Int), P2) else (0, unD (tP P2 (P2 2338 (6 * pt + unJ P2 pt c1.1 c1.2.2.1 (P2 2337 pt).toNat 0)) (mOne 120 (P2 2339 (6 * pt + unJ P2 pt c1.1 c1.2.2.1 (P2 2337 pt).toNat 0)))) g pt (unJ P2 pt c1.1 c1.2.2.1 (P2 2337 pt).toNat 0))) = B := ⟨_, rfl⟩
    rw [hB]
    simp only [hB] at key
    obtain ⟨ga, hga⟩ : ∃ q, grO g = q := ⟨_, rfl⟩
    simp only [hga] at hpa hgo3 key ⊢
    obtain ⟨kx, hkx⟩ : ∃ q, pt - 8 * g = q := ⟨_, rfl⟩
    simp only [hkx] at hpa key
    refine CL_in mL_182 rfl ?_
    show WP fb _ 182 0 [some (vR (some 2175)), some (vR (some ga)), none, none, none] [] σ _
    refine x_lr (z := some 2175) T_182_0 rfl ?_
    refine x_gR (z := some 129) T_182_1 F_14_0 (hP.o xo_2175) (hP.rc xo_2175 rfl rfl) ?_
    refine x_lr (z := some 2175) T_182_4 rfl ?_
    refine x_gR (z := some 2179) T_182_5 F_14_3 (hP.o xo_2175) (hP.rc xo_2175 rfl rfl) ?_
    refine x_cv2 T_182_8 mN_132 mL_132 (Nat.le_of_ble_eq_true rfl) mO_132 (hP.o xo_129) (Nat.le_of_ble_eq_true rfl) (hck2) ?_
    clear hP hck2
    rintro _ σ ⟨rfl, V, V4, hP, hX2, hA⟩
    have hck1 := hck1 σ V V4 hP hX2 hA
    refine cI ?_
    refine x_popI T_182_11 ?_
    refine x_lr (z := some 2175) T_182_12 rfl ?_
    refine x_gR (z := some 129) T_182_13 F_14_0 (hP.o xo_2175) (hP.rc xo_2175 rfl rfl) ?_
    refine x_lr (z := some 2175) T_182_16 rfl ?_
    refine x_gR (z := some 2178) T_182_17 F_14_2 (hP.o xo_2175) (hP.rc xo_2175 rfl rfl) ?_
    refine x_cv2 T_182_20 mN_132 mL_132 (Nat.le_of_ble_eq_true rfl) mO_132 (hP.o xo_129) (Nat.le_of_ble_eq_true rfl) (hck1) ?_
    clear hP hck1
    rintro _ σ ⟨rfl, V5, V6, hP, hX3, hA3⟩
    have hA4 := FA_tr hA hA3
    obtain ⟨z1, z2⟩ := hch2 _ _ hA4
    have hX8 := hX3.mono (T2 := T + 8) (by omega)
    have hpa := hpa σ V5 V6 hP hX8
    obtain ⟨y0, hy0, hyo, hgo⟩ := key σ V5 V6 hP hX8 hA4
    rw [hy0] at hpa
    refine cI ?_
    refine x_popI T_182_23 ?_
    refine x_lr (z := some ga) T_182_24 rfl ?_
    refine x_lr (z := some 2175) T_182_25 rfl ?_
    refine x_gR (z := some 2179) T_182_26 F_14_3 (hP.o xo_2175) (hP.rc xo_2175 rfl rfl) ?_
    refine x_gI (z := sv2) T_182_29 (Or.inl F_5_0) (hP.o xo_2179) (Eq.trans (hP.gi xo_2179 (key := 2160) rfl) z1) ?_
    refine x_lr (z := some 2175) T_182_32 rfl ?_
    refine x_gR (z := some 2179) T_182_33 F_14_3 (hP.o xo_2175) (hP.rc xo_2175 rfl rfl) ?_
    refine x_gI (z := pa2) T_182_36 (Or.inl F_5_2) (hP.o xo_2179) (Eq.trans (hP.gi xo_2179 (key := 2162) rfl) z2) ?_
    refine x_cv3 T_182_39 mN_129 mL_129 (Nat.le_of_ble_eq_true rfl) mO_129 (hP.o hgo3) (Nat.le_of_ble_eq_true rfl) (hpa) ?_
    rintro _ σ ⟨rfl, rfl⟩
    refine cR ?_
    refine x_sr (ls1 := [some (vR (some 2175)), some (vR (some ga)), some (vR (some y0)), none, none]) T_182_42 rfl ?_
    refine x_ic T_182_43 ?_
    refine x_si (ls1 := [some (vR (some 2175)), some (vR (some ga)), some (vR (some y0)), some (vI 0), none]) T_182_44 rfl ?_
    exact hgo _
end XUNN
