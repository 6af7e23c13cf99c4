/-! The class's kernel: a path is walked, one name after another. -/
theorem T_121_88 : hTab 121 88 = some ((3, 7, 0, []), 90) := rfl
theorem T_121_90 : hTab 121 90 = some ((3, 3, 0, []), 91) := rfl
theorem T_121_91 : hTab 121 91 = some ((19, 3, Int.ofNat 302, []), 94) := rfl
theorem T_121_94 : hTab 121 94 = some ((3, 6, 0, []), 96) := rfl
theorem T_121_96 : hTab 121 96 = some ((18, 1, Int.ofNat 302, []), 99) := rfl
theorem T_121_99 : hTab 121 99 = some ((3, 2, 2, []), 100) := rfl
theorem T_121_100 : hTab 121 100 = some ((24, 5, Int.ofNat 0, []), 103) := rfl
theorem T_121_103 : hTab 121 103 = some ((4, 8, 0, []), 105) := rfl
theorem T_121_105 : hTab 121 105 = some ((3, 2, 2, []), 106) := rfl
theorem T_121_106 : hTab 121 106 = some ((24, 5, Int.ofNat 1, []), 109) := rfl
theorem T_121_109 : hTab 121 109 = some ((4, 9, 0, []), 111) := rfl
theorem T_121_111 : hTab 121 111 = some ((3, 1, 2, []), 112) := rfl
theorem T_121_112 : hTab 121 112 = some ((24, 6, Int.ofNat 9, []), 115) := rfl
theorem T_121_115 : hTab 121 115 = some ((3, 8, 0, []), 117) := rfl
theorem T_121_117 : hTab 121 117 = some ((3, 2, 2, []), 118) := rfl
theorem T_121_118 : hTab 121 118 = some ((24, 5, Int.ofNat 2, []), 121) := rfl
theorem T_121_121 : hTab 121 121 = some ((31, 129, 0, []), 124) := rfl
theorem T_121_124 : hTab 121 124 = some ((4, 10, 2, []), 126) := rfl
theorem T_121_126 : hTab 121 126 = some ((3, 10, 2, []), 128) := rfl
theorem T_121_128 : hTab 121 128 = some ((20, 1, Int.ofNat 135, []), 131) := rfl
theorem T_121_131 : hTab 121 131 = some ((0, 0, 1, []), 132) := rfl
theorem T_121_132 : hTab 121 132 = some ((22, 0, Int.ofNat 140, []), 135) := rfl
theorem T_121_135 : hTab 121 135 = some ((3, 10, 2, []), 137) := rfl
theorem T_121_137 : hTab 121 137 = some ((24, 4, Int.ofNat 3, []), 140) := rfl
theorem T_121_140 : hTab 121 140 = some ((4, 11, 0, []), 142) := rfl
theorem T_121_142 : hTab 121 142 = some ((0, 0, 1, []), 143) := rfl
theorem T_121_143 : hTab 121 143 = some ((4, 6, 0, []), 145) := rfl
theorem T_121_145 : hTab 121 145 = some ((0, 0, 0, []), 146) := rfl
theorem T_121_146 : hTab 121 146 = some ((4, 12, 0, []), 148) := rfl
theorem T_121_148 : hTab 121 148 = some ((3, 12, 0, []), 150) := rfl
theorem T_121_150 : hTab 121 150 = some ((3, 11, 0, []), 152) := rfl
theorem T_121_152 : hTab 121 152 = some ((19, 3, Int.ofNat 273, []), 155) := rfl
theorem T_121_155 : hTab 121 155 = some ((3, 6, 0, []), 157) := rfl
theorem T_121_157 : hTab 121 157 = some ((18, 0, Int.ofNat 273, []), 160) := rfl
theorem T_121_160 : hTab 121 160 = some ((3, 10, 2, []), 162) := rfl
theorem T_121_162 : hTab 121 162 = some ((20, 1, Int.ofNat 169, []), 165) := rfl
theorem T_121_165 : hTab 121 165 = some ((3, 2, 2, []), 166) := rfl
theorem T_121_166 : hTab 121 166 = some ((22, 0, Int.ofNat 176, []), 169) := rfl
theorem T_121_169 : hTab 121 169 = some ((3, 10, 2, []), 171) := rfl
theorem T_121_171 : hTab 121 171 = some ((3, 12, 0, []), 173) := rfl
theorem T_121_173 : hTab 121 173 = some ((31, 130, 0, []), 176) := rfl
theorem T_121_176 : hTab 121 176 = some ((4, 13, 2, []), 178) := rfl
theorem T_121_178 : hTab 121 178 = some ((3, 13, 2, []), 180) := rfl
theorem T_121_180 : hTab 121 180 = some ((20, 0, Int.ofNat 267, []), 183) := rfl
theorem T_121_267 : hTab 121 267 = some ((5, 12, 1, []), 270) := rfl
theorem T_121_270 : hTab 121 270 = some ((22, 0, Int.ofNat 148, []), 273) := rfl
theorem T_121_273 : hTab 121 273 = some ((3, 0, 2, []), 274) := rfl
theorem T_121_274 : hTab 121 274 = some ((3, 8, 0, []), 276) := rfl
theorem T_121_276 : hTab 121 276 = some ((31, 122, 0, []), 279) := rfl
theorem T_121_279 : hTab 121 279 = some ((0, 0, 0, []), 280) := rfl
theorem T_121_280 : hTab 121 280 = some ((3, 0, 2, []), 281) := rfl
theorem T_121_281 : hTab 121 281 = some ((0, 0, 120, []), 283) := rfl
theorem T_121_283 : hTab 121 283 = some ((3, 9, 0, []), 285) := rfl
theorem T_121_285 : hTab 121 285 = some ((31, 131, 0, []), 288) := rfl
theorem T_121_288 : hTab 121 288 = some ((3, 0, 2, []), 289) := rfl
theorem T_121_289 : hTab 121 289 = some ((24, 1, Int.ofNat 2, []), 292) := rfl
theorem T_121_292 : hTab 121 292 = some ((31, 26, 0, []), 295) := rfl
theorem T_121_295 : hTab 121 295 = some ((7, 0, 0, []), 296) := rfl
theorem T_121_296 : hTab 121 296 = some ((5, 7, 1, []), 299) := rfl
theorem T_121_299 : hTab 121 299 = some ((22, 0, Int.ofNat 88, []), 302) := rfl
section XWLKB
variable {fb : Bool} {d S b c q m f0 pr y0 : Nat} {σ0 σ : hM} {W W0 W1 W2 W3 P Q : qR} {R R0 R1 R2 R3 : rR} {i j k x z v s e w f g u p n K T U t TE most thr at5 path pt : Int} {l l0 lo nm M A : List Int} {nms : List (List Int)} {r : Option Nat} {ch : Ch} {x6 x7 x8 x9 x10 x11 x12 x13 : Option AV}
theorem kStC_ch (h : kStE P s f nm = 0) (hs : 0 ≤ s ∧ s < 3) : chR (kStC P s f nm) := by
  have hg : ¬ qNewF P s < 0 := fun c => by unfold kStE at h; rw [if_pos c] at h; omega
  have := qNewF_rng (P := P) (s := s)
  exact ⟨hs, ⟨by show 0 ≤ qNewF P s; omega, by show qNewF P s ≤ 47; omega⟩, by show (-1 : Int) < 64; decide⟩
/-- a channel's object stays -/
theorem CHX.fa (h : CHX W R c ch) (hF : FA W W2 R R2) (hc2 : 2175 ≤ c) (hc : c < 2281) (hp : ch.2.2.2.2 < 64) : CHX W2 R2 c ch := by
  obtain ⟨a1, a2, a3, a4, a5⟩ := h
  have hw := hF.cm.1
  refine ⟨(hw _ _ hc2 (by omega) (by decide)).trans a1, (hw _ _ hc2 (by omega) (by decide)).trans a2, (hw _ _ hc2 (by omega) (by decide)).trans a3, (hw _ _ hc2 (by omega) (by decide)).trans a4, ((hF.cm.2 _ _ hc2).trans a5).trans ?_⟩
  by_cases q : ch.2.2.2.2 < 0
  · rw [if_pos q, if_pos q]
  · rw [if_neg q, if_neg q]
    have hr := grO_rng (g := ch.2.2.2.2 / 8) ⟨by omega, by omega⟩
    exact (hF.2 _ _ (Or.inl (by omega))).symm
theorem KMs (hI : IV false T U P) (hv : P 2337 pt = v) (hv0 : 0 ≤ v ∧ v ≤ 6) : ((kMems P pt).length : Int) = v ∧ ∀ i : Nat, i < (kMems P pt).length → P 2338 (6 * pt + (0 + (i : Int))) = ((kMems P pt).getD i (0, 0)).1 ∧ P 2339 (6 * pt + (0 + (i : Int))) = ((kMems P pt).getD i (0, 0)).2 := by
  refine ⟨by rw [kMems_len, hv]; omega, fun i hi => ?_⟩
  rw [kMems_get hi, Int.zero_add]
  exact ⟨rfl, rfl⟩
theorem wk_mems {Post : Option AV → hM → Prop} (hc : tX c = some (Sum.inl 5)) (hc2 : 2175 ≤ c) (hi : 0 ≤ i ∧ i < n ∧ i < 100) (hnl : nm.length ≤ 200) (hnb : byt nm) (hpt : 0 ≤ pt ∧ pt < 64) (hv : v ≤ 6) : ∀ (ms : List (Int × Int)) (j T e : Int) (P W : qR) (R : rR) (σ : hM) (x13 : Option AV), j + ms.length = v → 0 ≤ j → P 2337 pt = v → (∀ i : Nat, i < ms.length → P 2338 (6 * pt + (j + (i : Int))) = (ms.getD i (0, 0)).1 ∧ P 2339 (6 * pt + (j + (i : Int))) = (ms.getD i (0, 0)).2) → ¬ e = 0 → PX σ0 W R σ → XW K T U W R P → T + 4 * ms.length + 330 ≤ 2147483000 → PTM W R y0 P pt → BY W 145 161 lo → W 129 2038 = n → NMX W lo i nm → (∀ (σ : hM) (W2 : qR) (R2 : rR) (x12 x13 : Option AV), PX σ0 W2 R2 σ → XW K (T + 4 * ms.length) U W2 R2 (kTry P nm e ms).2.1 → ((kTry P nm e ms).1 = 0 → CHX W2 R2 c (kTry P nm e ms).2.2 ∧ chR (kTry P nm e ms).2.2) → FC c W W2 R R2 → WP fb (d + 8) 121 273 [some (vR (some 129)), some (vR (some pr)), some (vR (some c)), some (vI most), some (vI thr), some (vI at5), some (vI (kTry P nm e ms).1), some (vI i), x8, x9, some (vR (some y0)), some (vI v), x12, x13] [] σ Post) → WP fb (d + 8) 121 148 [some (vR (some 129)), some (vR (some pr)), some (vR (some c)), some (vI most), some (vI thr), some (vI at5), some (vI e), some (vI i), x8, x9, some (vR (some y0)), some (vI v), some (vI j), x13] [] σ Post := by
  intro ms
  induction ms with
  | nil =>
    intro j T e P W R σ x13 h1 h2 h3 h4 h5 hP hX hT hM hB hn hN hgo
    have h1 : j + ((0 : Nat) : Int) = v := h1
    refine x_li (z := j) T_121_148 rfl ?_
    refine x_li (z := v) T_121_150 rfl ?_
    refine x_ic2 T_121_152 (fun _ => ?_) (fun h => absurd (show v ≤ j by omega) h)
    exact hgo σ W R _ _ hP (hX.mono (by omega)) (fun c => absurd c h5) (FC_fa FA_rfl)
  | cons ms0 r ih =>
    intro j T e P W R σ x13 h1 h2 h3 h4 h5 hP hX hT hM hB hn hN hgo
    rw [List.length_cons] at h1 hT
    have hg4 := h4 0 (by rw [List.length_cons]; omega)
    rw [show j + ((0 : Nat) : Int) = j by omega] at hg4
    obtain ⟨b1, b2⟩ : P 2338 (6 * pt + j) = ms0.1 ∧ P 2339 (6 * pt + j) = ms0.2 := hg4
    have hI := hX.1.2.2.2.1.iv
    have r1 : 0 ≤ P 2338 (6 * pt + j) ∧ P 2338 (6 * pt + j) ≤ 2 := IV.a hI 2338 0 384 rfl rfl rfl (by omega) (by omega)
    have r2 : 0 ≤ P 2339 (6 * pt + j) ∧ P 2339 (6 * pt + j) ≤ 47 := IV.a hI 2339 0 384 rfl rfl rfl (by omega) (by omega)
    obtain ⟨hyo, hya, hyr, hyc, hym⟩ := hM
    have hM : PTM W R y0 P pt := ⟨hyo, hya, hyr, hyc, hym⟩
    obtain ⟨f0, c0', c1, c2, c3⟩ := hym j h2 (by omega)
    have hmo := x_memberOf (fb := fb) (d := d + 7) (k := j) (many := v) hP hyo hya (by omega) (hyc.trans h3) ⟨by omega, hv⟩ (fun _ _ => c0')
    rw [if_pos ⟨h2, by omega⟩] at hmo
    rw [b1] at r1
    rw [b2] at r2
    by_cases qe : kStE P ms0.1 ms0.2 nm = 0
    · have hg := wk_try (fb := fb) (d := d) (Post := Post) (most := most) (thr := thr) (at5 := at5) (pr := pr) (x6 := some (vI e)) (x8 := x8) (x9 := x9) (x10 := some (vR (some y0))) (x11 := some (vI v)) (x12 := some (vI j)) (s := ms0.1) (f := ms0.2) hP hX (by omega) c1 (Or.inr c2) (c3.1.trans b1) (c3.2.1.trans b2) ⟨r1.1, by omega⟩ r2 hc hc2 hB hn hi hN hnl hnb (fun c => absurd qe c) (fun _ σ W2 R2 hP hX2 hC hF => by
        have ek : kTry P nm e (ms0 :: r) = (0, kStP P ms0.1 ms0.2 nm, kStC P ms0.1 ms0.2 nm) := if_pos qe
        rw [ek] at hgo
        have hfin := fun x12 => hgo σ W2 R2 x12 (some (vR (some f0))) hP (hX2.mono (by rw [List.length_cons]; omega)) (fun _ => ⟨hC, kStC_ch qe ⟨r1.1, by omega⟩⟩) hF
        by_cases q : j + 1 < v
        · skip
          refine x_inc (w := (j + 1)) (ls1 := [some (vR (some 129)), some (vR (some pr)), some (vR (some c)), some (vI most), some (vI thr), some (vI at5), some (vI 0), some (vI i), x8, x9, some (vR (some y0)), some (vI v), some (vI (j + 1)), some (vR (some f0))]) T_121_267 rfl (w32_id (by omega) (by omega)) rfl ?_
          refine x_goto T_121_270 ?_
          refine x_li (z := (j + 1)) T_121_148 rfl ?_
          refine x_li (z := v) T_121_150 rfl ?_
          refine x_ic2 T_121_152 (fun h => absurd (show v ≤ (j + 1) from h) (by omega)) (fun _ => ?_)
          refine x_li (z := 0) T_121_155 rfl ?_
          refine x_if T_121_157 (fun _ => ?_) (fun h => absurd (show (0 : Int) = 0 by rfl) h)
          exact hfin _
        · skip
          refine x_inc (w := (j + 1)) (ls1 := [some (vR (some 129)), some (vR (some pr)), some (vR (some c)), some (vI most), some (vI thr), some (vI at5), some (vI 0), some (vI i), x8, x9, some (vR (some y0)), some (vI v), some (vI (j + 1)), some (vR (some f0))]) T_121_267 rfl (w32_id (by omega) (by omega)) rfl ?_
          refine x_goto T_121_270 ?_
          refine x_li (z := (j + 1)) T_121_148 rfl ?_
          refine x_li (z := v) T_121_150 rfl ?_
          refine x_ic2 T_121_152 (fun _ => ?_) (fun h => absurd (show v ≤ (j + 1) by omega) h)
          exact hfin _
        )
      refine x_li (z := j) T_121_148 rfl ?_
      refine x_li (z := v) T_121_150 rfl ?_
      refine x_ic2 T_121_152 (fun h => absurd (show v ≤ j from h) (by omega)) (fun _ => ?_)
      refine x_li (z := e) T_121_155 rfl ?_
      refine x_if T_121_157 (fun h => absurd (show e = 0 from h) (by omega)) (fun _ => ?_)
      refine x_lr (z := some y0) T_121_160 rfl ?_
      refine x_nnul T_121_162 (fun _ _ => ?_) (fun h0 => absurd h0 (by simp))
      refine x_lr (z := some y0) T_121_169 rfl ?_
      refine x_li (z := j) T_121_171 rfl ?_
      refine x_cv2 T_121_173 mN_130 mL_130 (Nat.le_of_ble_eq_true rfl) mO_130 (hP.o hyo) (Nat.le_of_ble_eq_true rfl) (hmo) ?_
      rintro _ σ ⟨rfl, rfl⟩
      refine cR ?_
      refine x_sr (ls1 := [some (vR (some 129)), some (vR (some pr)), some (vR (some c)), some (vI most), some (vI thr), some (vI at5), some (vI e), some (vI i), x8, x9, some (vR (some y0)), some (vI v), some (vI j), some (vR (some f0))]) T_121_176 rfl ?_
      refine x_lr (z := some f0) T_121_178 rfl ?_
      refine x_nul T_121_180 (fun h0 => absurd h0 (by simp)) (fun _ _ => ?_)
      exact hg
    · have ek : kTry P nm e (ms0 :: r) = kTry (kStP P ms0.1 ms0.2 nm) nm (kStE P ms0.1 ms0.2 nm) r := if_neg qe
      rw [ek] at hgo
      have hg := wk_try (fb := fb) (d := d) (Post := Post) (most := most) (thr := thr) (at5 := at5) (pr := pr) (x6 := some (vI e)) (x8 := x8) (x9 := x9) (x10 := some (vR (some y0))) (x11 := some (vI v)) (x12 := some (vI j)) (s := ms0.1) (f := ms0.2) hP hX (by omega) c1 (Or.inr c2) (c3.1.trans b1) (c3.2.1.trans b2) ⟨r1.1, by omega⟩ r2 hc hc2 hB hn hi hN hnl hnb (fun _ σ W2 R2 hP hX2 hF => by
        have hk : KF (kStP P ms0.1 ms0.2 nm) P := KF_st
        have hFC : FC c W W2 R R2 := FC_fa hF
        have hns := nsR_kf hk
        have hgo2 := ih (j + 1) (T + 4) (kStE P ms0.1 ms0.2 nm) (kStP P ms0.1 ms0.2 nm) W2 R2 σ (some (vR (some f0))) (by omega) (by omega) ((hns 2337 _ rfl).trans h3) (fun i hi => by
          have := h4 (i + 1) (by rw [List.length_cons]; omega)
          rw [show j + ((i + 1 : Nat) : Int) = j + 1 + (i : Int) by omega] at this
          rw [hns 2338 _ rfl, hns 2339 _ rfl]
          exact this) qe hP hX2 (by omega) (hM.frn hF.ns.1 hF.ns.2 hns) (hFC.by hB hc2 (by decide) (by decide) (by decide)) ((hFC.kn hc2).1.trans hn) (by
          obtain ⟨k1, k2⟩ := (hFC.kn hc2).2.2 i (by omega)
          unfold NMX at hN ⊢
          rw [k1, k2]
          exact hN) (fun σ W3 R3 y12 y13 g1 g2 g3 g4 => hgo σ W3 R3 y12 y13 g1 (g2.mono (by rw [List.length_cons]; omega)) g3 (FC_tr hFC g4))
        obtain ⟨e2, he2⟩ : ∃ q, kStE P ms0.1 ms0.2 nm = q := ⟨_, rfl⟩
        rw [he2] at hgo2 ⊢
        refine x_inc (w := (j + 1)) (ls1 := [some (vR (some 129)), some (vR (some pr)), some (vR (some c)), some (vI most), some (vI thr), some (vI at5), some (vI e2), some (vI i), x8, x9, some (vR (some y0)), some (vI v), some (vI (j + 1)), some (vR (some f0))]) T_121_267 rfl (w32_id (by omega) (by omega)) rfl ?_
        refine x_goto T_121_270 ?_
        exact hgo2
        ) (fun c => absurd c qe)
      refine x_li (z := j) T_121_148 rfl ?_
      refine x_li (z := v) T_121_150 rfl ?_
      refine x_ic2 T_121_152 (fun h => absurd (show v ≤ j from h) (by omega)) (fun _ => ?_)
      refine x_li (z := e) T_121_155 rfl ?_
      refine x_if T_121_157 (fun h => absurd (show e = 0 from h) (by omega)) (fun _ => ?_)
      refine x_lr (z := some y0) T_121_160 rfl ?_
      refine x_nnul T_121_162 (fun _ _ => ?_) (fun h0 => absurd h0 (by simp))
      refine x_lr (z := some y0) T_121_169 rfl ?_
      refine x_li (z := j) T_121_171 rfl ?_
      refine x_cv2 T_121_173 mN_130 mL_130 (Nat.le_of_ble_eq_true rfl) mO_130 (hP.o hyo) (Nat.le_of_ble_eq_true rfl) (hmo) ?_
      rintro _ σ ⟨rfl, rfl⟩
      refine cR ?_
      refine x_sr (ls1 := [some (vR (some 129)), some (vR (some pr)), some (vR (some c)), some (vI most), some (vI thr), some (vI at5), some (vI e), some (vI i), x8, x9, some (vR (some y0)), some (vI v), some (vI j), some (vR (some f0))]) T_121_176 rfl ?_
      refine x_lr (z := some f0) T_121_178 rfl ?_
      refine x_nul T_121_180 (fun h0 => absurd h0 (by simp)) (fun _ _ => ?_)
      exact hg
/-- the fid that was walked from goes -/
theorem wk_drop {Post : Option AV → hM → Prop} (hP : PX σ0 W R σ) (hX : XW K T U W R Q) (hT : T + 110 ≤ 2147483000) (hs : 0 ≤ s ∧ s < 3) (hf : 0 ≤ f ∧ f ≤ 47) (hi : 0 ≤ i ∧ i < 100) (hgo : ∀ (σ : hM) (W2 : qR) (R2 : rR), PX σ0 W2 R2 σ → XW K (T + 4) U W2 R2 (tP Q s (mOne 120 f)) → FA W W2 R R2 → WP fb (d + 8) 121 88 [some (vR (some 129)), some (vR (some pr)), some (vR (some c)), some (vI most), some (vI thr), some (vI at5), some (vI e), some (vI (i + 1)), some (vI s), some (vI f), x10, x11, x12, x13] [] σ Post) : WP fb (d + 8) 121 273 [some (vR (some 129)), some (vR (some pr)), some (vR (some c)), some (vI most), some (vI thr), some (vI at5), some (vI e), some (vI i), some (vI s), some (vI f), x10, x11, x12, x13] [] σ Post := by
  have hho := x_host (fb := fb) (d := d + 7) (s := s) hP hs
  have hab := x_about (fb := fb) (d := d + 4) (t := 120) (f := f) hP (by decide) ⟨by omega, by omega⟩
  obtain ⟨m1, m2, m3, m4⟩ := mOne_ok (t := 120) (f := f) (Or.inl rfl)
  have hak := fun (σ : hM) (W2 : qR) (hP : PX σ0 W2 R σ) (hF : FR1 W W2) (hB : BY W2 138 300 (mFr (mOne 120 f))) => x_askM (fb := fb) (d := d) hP (hX.fr1 hF) hT hs hB m1 m2 m3 m4
  have hO := srv_o hs
  obtain ⟨e3, he⟩ : ∃ q, tE Q s (mOne 120 f) = q := ⟨_, rfl⟩
  obtain ⟨sv, hsv⟩ : ∃ q, 1293 + 294 * s.toNat = q := ⟨_, rfl⟩
  rw [hsv] at hho hO
  simp only [he, hsv] at hak
  refine x_lr (z := some 129) T_121_273 rfl ?_
  refine x_li (z := s) T_121_274 rfl ?_
  refine x_cv2 T_121_276 mN_122 mL_122 (Nat.le_of_ble_eq_true rfl) mO_122 (hP.o xo_129) (Nat.le_of_ble_eq_true rfl) (hho) ?_
  rintro _ σ ⟨rfl, rfl⟩
  refine cR ?_
  refine x_ic T_121_279 ?_
  refine x_lr (z := some 129) T_121_280 rfl ?_
  refine x_ic T_121_281 ?_
  refine x_li (z := f) T_121_283 rfl ?_
  refine x_cv3 T_121_285 mN_131 mL_131 (Nat.le_of_ble_eq_true rfl) mO_131 (hP.o xo_129) (Nat.le_of_ble_eq_true rfl) (hab) ?_
  clear hP hab
  rintro _ σ ⟨rfl, W2, hP, hB2, hF2⟩
  refine cR ?_
  refine x_lr (z := some 129) T_121_288 rfl ?_
  refine x_gR (z := some 134) T_121_289 F_1_2 (hP.o xo_129) (hP.rc xo_129 rfl rfl) ?_
  refine x_cv4 T_121_292 mN_26 mL_26 (Nat.le_of_ble_eq_true rfl) mO_26 (hP.o hO) (Nat.le_of_ble_eq_true rfl) (hak σ W2 hP hF2 hB2) ?_
  clear hP hak
  rintro _ σ ⟨rfl, W3, R3, hP, hX3, hB3, hF3⟩
  refine cI ?_
  refine x_popI T_121_295 ?_
  refine x_inc (w := (i + 1)) (ls1 := [some (vR (some 129)), some (vR (some pr)), some (vR (some c)), some (vI most), some (vI thr), some (vI at5), some (vI e), some (vI (i + 1)), some (vI s), some (vI f), x10, x11, x12, x13]) T_121_296 rfl (w32_id (by omega) (by omega)) rfl ?_
  refine x_goto T_121_299 ?_
  exact hgo σ W3 R3 hP hX3 (FA_tr (FA_fr hF2) (FA_fs hF3))
/-- one name -/
theorem wk_next {Post : Option AV → hM → Prop} (hP : PX σ0 W R σ) (hX : XW K T U W R P) (hT : T + 400 ≤ 2147483000) (hp : 0 ≤ p ∧ p < 8) (hpr : prO p = pr) (hlv : ¬ P 2320 p = 0) (hc : tX c = some (Sum.inl 5)) (hc2 : 2175 ≤ c) (hch : CHX W R c ch) (hcr : chR ch) (hi : 0 ≤ i ∧ i < n ∧ i < 100) (him : i < most) (hnl : nm.length ≤ 200) (hnb : byt nm) (hB : BY W 145 161 lo) (hn : W 129 2038 = n) (hN : NMX W lo i nm) (hgo : ∀ (σ : hM) (W2 : qR) (R2 : rR) (x8 x9 x10 x11 x12 x13 : Option AV), PX σ0 W2 R2 σ → XW K (T + 28) U W2 R2 (kDrop (kNext P p ch nm).2.1 ch) → ((kNext P p ch nm).1 = 0 → CHX W2 R2 c (kNext P p ch nm).2.2 ∧ chR (kNext P p ch nm).2.2) → FC c W W2 R R2 → WP fb (d + 8) 121 88 [some (vR (some 129)), some (vR (some pr)), some (vR (some c)), some (vI most), some (vI thr), some (vI at5), some (vI (kNext P p ch nm).1), some (vI (i + 1)), x8, x9, x10, x11, x12, x13] [] σ Post) : WP fb (d + 8) 121 88 [some (vR (some 129)), some (vR (some pr)), some (vR (some c)), some (vI most), some (vI thr), some (vI at5), some (vI 0), some (vI i), x8, x9, x10, x11, x12, x13] [] σ Post := by
  obtain ⟨s, f, pa, kd, cp⟩ := ch
  have hs0 : W c 2160 = s := hch.1
  have hf0 : W c 2161 = f := hch.2.1
  have hp0 : W c 2162 = pa := hch.2.2.1
  have hs : 0 ≤ s ∧ s < 3 := hcr.1
  have hf : 0 ≤ f ∧ f ≤ 47 := hcr.2.1
  have hcl := (tX_o hc).2
  have hIV := hX.1.2.2.2.1.iv
  have hXN := hX.1.2.2.1
  have hPT := hX.1.2.2.2.2.2.2
  have hgR : 0 ≤ P 2323 p ∧ P 2323 p ≤ 7 := IV.a hIV 2323 0 8 rfl rfl rfl (by omega) (by omega)
  have hgr := ((hXN.1 p hp.1 hp.2).2.2.2 hlv).2.2.1
  have hpo := prO_o hp
  have hgo0 := grO_o (g := P 2323 p) ⟨hgR.1, by omega⟩
  have hpa := x_pointAt (fb := fb) (d := d + 7) (s := s) (path := pa) hP hXN hIV hp
  have hqr := qPoint_rng (P := P) (s := s) (path := pa) hIV hp
  have hptm := fun (h : 0 ≤ qPoint P p s pa) => PTM_of (k := qPoint P p s pa - 8 * P 2323 p) (hXN.2.1 _ hgR.1 (by omega)) ⟨hgR.1, by omega⟩ hIV ⟨by omega, by omega⟩
  have eN : kNext P p (s, f, pa, kd, cp) nm = if qPoint P p s pa < 0 then (kStE P s f nm, kStP P s f nm, kStC P s f nm) else kTry P nm (-1) (kMems P (qPoint P p s pa)) := rfl
  have hpp := fun h => PTS.pt (s := s) (path := pa) hIV hPT hp h
  rw [hpr] at hgr hpo
  obtain ⟨ga, hga⟩ : ∃ q, grO (P 2323 p) = q := ⟨_, rfl⟩
  rw [hga] at hgr hpa hgo0 hptm
  obtain ⟨pt, hpt⟩ : ∃ q, qPoint P p s pa = q := ⟨_, rfl⟩
  rw [hpt] at hpa hqr hptm eN hpp
  have hdr : ∀ (e T2 : Int) (Q V : qR) (V3 : rR) (σ : hM) (x10 x11 x12 x13 : Option AV), kNext P p (s, f, pa, kd, cp) nm = (e, Q, (kNext P p (s, f, pa, kd, cp) nm).2.2) → PX σ0 V V3 σ → XW K T2 U V V3 Q → T2 ≤ T + 24 → (e = 0 → CHX V V3 c (kNext P p (s, f, pa, kd, cp) nm).2.2 ∧ chR (kNext P p (s, f, pa, kd, cp) nm).2.2) → FC c W V R V3 → WP fb (d + 8) 121 273 [some (vR (some 129)), some (vR (some pr)), some (vR (some c)), some (vI most), some (vI thr), some (vI at5), some (vI e), some (vI i), some (vI s), some (vI f), x10, x11, x12, x13] [] σ Post := fun e T2 Q V V3 σ x10 x11 x12 x13 hk hP hX2 hT2 hC hF => by
    rw [hk] at hgo
    refine wk_drop (e := e) hP hX2 (by omega) hs hf ⟨hi.1, hi.2.2⟩ (fun σ W3 R3 g1 g2 g3 => hgo σ W3 R3 _ _ _ _ _ _ g1 (XW.mono g2 (by omega)) (fun q => ⟨(hC q).1.fa g3 hc2 hcl (hC q).2.2.2, (hC q).2⟩) (FC_tr hF (FC_fa g3)))
  by_cases q0 : pt < 0
  · rw [if_pos q0] at hpa eN
    have hw := fun (y : Option AV) => wk_try (fb := fb) (d := d) (Post := Post) (most := most) (thr := thr) (at5 := at5) (pr := pr) (x6 := some (vI 1)) (x8 := some (vI s)) (x9 := some (vI f)) (x10 := some (vR none)) (x11 := some (vI 1)) (x12 := some (vI 0)) hP hX (by omega) hc (Or.inl hc2) hs0 hf0 hs hf hc hc2 hB hn hi hN hnl hnb (fun qe σ W2 R2 hP hX2 hF => by
      have hfin := fun x12 => hdr _ _ _ W2 R2 σ (some (vR none)) (some (vI 1)) x12 (some (vR (some c))) (by rw [eN]) hP hX2 (by omega) (fun q => absurd q qe) (FC_fa hF)
      obtain ⟨e2, he2⟩ : ∃ q, kStE P s f nm = q := ⟨_, rfl⟩
      rw [he2] at hfin ⊢
      refine x_inc (w := 1) (ls1 := [some (vR (some 129)), some (vR (some pr)), some (vR (some c)), some (vI most), some (vI thr), some (vI at5), some (vI e2), some (vI i), some (vI s), some (vI f), some (vR none), some (vI 1), some (vI 1), some (vR (some c))]) T_121_267 rfl (w32_id (by omega) (by omega)) rfl ?_
      refine x_goto T_121_270 ?_
      refine x_li (z := 1) T_121_148 rfl ?_
      refine x_li (z := 1) T_121_150 rfl ?_
      refine x_ic2 T_121_152 (fun _ => ?_) (fun h => absurd (show 1 ≤ (1 : Int) by decide) h)
      exact hfin _
      ) (fun qe σ W2 R2 hP hX2 hC hF => by
      have hfin := fun x12 => hdr _ _ _ W2 R2 σ (some (vR none)) (some (vI 1)) x12 (some (vR (some c))) (by rw [eN]) hP hX2 (by omega) (fun _ => by rw [eN]; exact ⟨hC, kStC_ch qe hs⟩) hF
      rw [qe] at hfin
      refine x_inc (w := 1) (ls1 := [some (vR (some 129)), some (vR (some pr)), some (vR (some c)), some (vI most), some (vI thr), some (vI at5), some (vI 0), some (vI i), some (vI s), some (vI f), some (vR none), some (vI 1), some (vI 1), some (vR (some c))]) T_121_267 rfl (w32_id (by omega) (by omega)) rfl ?_
      refine x_goto T_121_270 ?_
      refine x_li (z := 1) T_121_148 rfl ?_
      refine x_li (z := 1) T_121_150 rfl ?_
      refine x_ic2 T_121_152 (fun _ => ?_) (fun h => absurd (show 1 ≤ (1 : Int) by decide) h)
      exact hfin _
      )
    refine x_li (z := i) T_121_88 rfl ?_
    refine x_li (z := most) T_121_90 rfl ?_
    refine x_ic2 T_121_91 (fun h => absurd (show most ≤ i from h) (by omega)) (fun _ => ?_)
    refine x_li (z := 0) T_121_94 rfl ?_
    refine x_if T_121_96 (fun h => absurd (show ¬ (0 : Int) = 0 from h) (by decide)) (fun _ => ?_)
    refine x_lr (z := some c) T_121_99 rfl ?_
    refine x_gI (z := s) T_121_100 (Or.inl F_5_0) (hP.o hc) (Eq.trans (hP.gi hc (key := 2160) rfl) hs0) ?_
    refine x_si (ls1 := [some (vR (some 129)), some (vR (some pr)), some (vR (some c)), some (vI most), some (vI thr), some (vI at5), some (vI 0), some (vI i), some (vI s), x9, x10, x11, x12, x13]) T_121_103 rfl ?_
    refine x_lr (z := some c) T_121_105 rfl ?_
    refine x_gI (z := f) T_121_106 (Or.inl F_5_1) (hP.o hc) (Eq.trans (hP.gi hc (key := 2161) rfl) hf0) ?_
    refine x_si (ls1 := [some (vR (some 129)), some (vR (some pr)), some (vR (some c)), some (vI most), some (vI thr), some (vI at5), some (vI 0), some (vI i), some (vI s), some (vI f), x10, x11, x12, x13]) T_121_109 rfl ?_
    refine x_lr (z := some pr) T_121_111 rfl ?_
    refine x_gR (z := some ga) T_121_112 F_6_9 (hP.o hpo) (Eq.trans (hP.rm hpo rfl (key := 2201) rfl) hgr) ?_
    refine x_li (z := s) T_121_115 rfl ?_
    refine x_lr (z := some c) T_121_117 rfl ?_
    refine x_gI (z := pa) T_121_118 (Or.inl F_5_2) (hP.o hc) (Eq.trans (hP.gi hc (key := 2162) rfl) hp0) ?_
    refine x_cv3 T_121_121 mN_129 mL_129 (Nat.le_of_ble_eq_true rfl) mO_129 (hP.o hgo0) (Nat.le_of_ble_eq_true rfl) (hpa) ?_
    rintro _ σ ⟨rfl, rfl⟩
    refine cR ?_
    refine x_sr (ls1 := [some (vR (some 129)), some (vR (some pr)), some (vR (some c)), some (vI most), some (vI thr), some (vI at5), some (vI 0), some (vI i), some (vI s), some (vI f), some (vR none), x11, x12, x13]) T_121_124 rfl ?_
    refine x_lr (z := none) T_121_126 rfl ?_
    refine x_nnul T_121_128 (fun a0 h0 => absurd h0 (by simp)) (fun _ => ?_)
    refine x_ic T_121_131 ?_
    refine x_goto T_121_132 ?_
    refine x_si (ls1 := [some (vR (some 129)), some (vR (some pr)), some (vR (some c)), some (vI most), some (vI thr), some (vI at5), some (vI 0), some (vI i), some (vI s), some (vI f), some (vR none), some (vI 1), x12, x13]) T_121_140 rfl ?_
    refine x_ic T_121_142 ?_
    refine x_si (ls1 := [some (vR (some 129)), some (vR (some pr)), some (vR (some c)), some (vI most), some (vI thr), some (vI at5), some (vI 1), some (vI i), some (vI s), some (vI f), some (vR none), some (vI 1), x12, x13]) T_121_143 rfl ?_
    refine x_ic T_121_145 ?_
    refine x_si (ls1 := [some (vR (some 129)), some (vR (some pr)), some (vR (some c)), some (vI most), some (vI thr), some (vI at5), some (vI 1), some (vI i), some (vI s), some (vI f), some (vR none), some (vI 1), some (vI 0), x13]) T_121_146 rfl ?_
    refine x_li (z := 0) T_121_148 rfl ?_
    refine x_li (z := 1) T_121_150 rfl ?_
    refine x_ic2 T_121_152 (fun h => absurd (show 1 ≤ (0 : Int) from h) (by decide)) (fun _ => ?_)
    refine x_li (z := 1) T_121_155 rfl ?_
    refine x_if T_121_157 (fun h => absurd (show (1 : Int) = 0 from h) (by decide)) (fun _ => ?_)
    refine x_lr (z := none) T_121_160 rfl ?_
    refine x_nnul T_121_162 (fun a0 h0 => absurd h0 (by simp)) (fun _ => ?_)
    refine x_lr (z := some c) T_121_165 rfl ?_
    refine x_goto T_121_166 ?_
    refine x_sr (ls1 := [some (vR (some 129)), some (vR (some pr)), some (vR (some c)), some (vI most), some (vI thr), some (vI at5), some (vI 1), some (vI i), some (vI s), some (vI f), some (vR none), some (vI 1), some (vI 0), some (vR (some c))]) T_121_176 rfl ?_
    refine x_lr (z := some c) T_121_178 rfl ?_
    refine x_nul T_121_180 (fun h0 => absurd h0 (by simp)) (fun _ _ => ?_)
    exact hw none
  · rw [if_neg q0] at hpa eN
    obtain ⟨y0, hy0, hM⟩ := hptm (by omega)
    rw [hy0] at hpa
    rw [show 8 * P 2323 p + (pt - 8 * P 2323 p) = pt by omega] at hM
    obtain ⟨p1, p2, p3⟩ := hpp (by omega)
    have p1 : 1 ≤ P 2337 pt := p1
    have p2 : P 2337 pt ≤ 6 := p2
    obtain ⟨hyo, -, -, hyc, -⟩ := id hM
    obtain ⟨v, hv⟩ : ∃ q, P 2337 pt = q := ⟨_, rfl⟩
    rw [hv] at hyc p1 p2
    obtain ⟨k1, k2⟩ := KMs (pt := pt) hIV hv ⟨by omega, p2⟩
    have ek : kTry P nm (-1) (kMems P pt) = kTry P nm 1 (kMems P pt) := by
      cases hm : kMems P pt with
      | nil => rw [hm, List.length_nil] at k1; omega
      | cons _ _ => rfl
    rw [ek] at eN
    have hw := wk_mems (fb := fb) (d := d) (Post := Post) (most := most) (thr := thr) (at5 := at5) (pr := pr) (x8 := some (vI s)) (x9 := some (vI f)) (y0 := y0) hc hc2 hi hnl hnb (pt := pt) ⟨by omega, p3⟩ p2 (kMems P pt) 0 T 1 P W R σ x13 (by omega) (by decide) hv k2 (by decide) hP hX (by omega) hM hB hn hN (fun σ W2 R2 y12 y13 g1 g2 g3 g4 => hdr _ _ _ W2 R2 σ _ _ y12 y13 (by rw [eN]) g1 g2 (by omega) (by rw [eN]; exact g3) g4)
    refine x_li (z := i) T_121_88 rfl ?_
    refine x_li (z := most) T_121_90 rfl ?_
    refine x_ic2 T_121_91 (fun h => absurd (show most ≤ i from h) (by omega)) (fun _ => ?_)
    refine x_li (z := 0) T_121_94 rfl ?_
    refine x_if T_121_96 (fun h => absurd (show ¬ (0 : Int) = 0 from h) (by decide)) (fun _ => ?_)
    refine x_lr (z := some c) T_121_99 rfl ?_
    refine x_gI (z := s) T_121_100 (Or.inl F_5_0) (hP.o hc) (Eq.trans (hP.gi hc (key := 2160) rfl) hs0) ?_
    refine x_si (ls1 := [some (vR (some 129)), some (vR (some pr)), some (vR (some c)), some (vI most), some (vI thr), some (vI at5), some (vI 0), some (vI i), some (vI s), x9, x10, x11, x12, x13]) T_121_103 rfl ?_
    refine x_lr (z := some c) T_121_105 rfl ?_
    refine x_gI (z := f) T_121_106 (Or.inl F_5_1) (hP.o hc) (Eq.trans (hP.gi hc (key := 2161) rfl) hf0) ?_
    refine x_si (ls1 := [some (vR (some 129)), some (vR (some pr)), some (vR (some c)), some (vI most), some (vI thr), some (vI at5), some (vI 0), some (vI i), some (vI s), some (vI f), x10, x11, x12, x13]) T_121_109 rfl ?_
    refine x_lr (z := some pr) T_121_111 rfl ?_
    refine x_gR (z := some ga) T_121_112 F_6_9 (hP.o hpo) (Eq.trans (hP.rm hpo rfl (key := 2201) rfl) hgr) ?_
    refine x_li (z := s) T_121_115 rfl ?_
    refine x_lr (z := some c) T_121_117 rfl ?_
    refine x_gI (z := pa) T_121_118 (Or.inl F_5_2) (hP.o hc) (Eq.trans (hP.gi hc (key := 2162) rfl) hp0) ?_
    refine x_cv3 T_121_121 mN_129 mL_129 (Nat.le_of_ble_eq_true rfl) mO_129 (hP.o hgo0) (Nat.le_of_ble_eq_true rfl) (hpa) ?_
    rintro _ σ ⟨rfl, rfl⟩
    refine cR ?_
    refine x_sr (ls1 := [some (vR (some 129)), some (vR (some pr)), some (vR (some c)), some (vI most), some (vI thr), some (vI at5), some (vI 0), some (vI i), some (vI s), some (vI f), some (vR (some y0)), x11, x12, x13]) T_121_124 rfl ?_
    refine x_lr (z := some y0) T_121_126 rfl ?_
    refine x_nnul T_121_128 (fun _ _ => ?_) (fun h0 => absurd h0 (by simp))
    refine x_lr (z := some y0) T_121_135 rfl ?_
    refine x_gI (z := v) T_121_137 (Or.inl F_4_3) (hP.o hyo) (Eq.trans (hP.gi hyo (key := 2131) rfl) hyc) ?_
    refine x_si (ls1 := [some (vR (some 129)), some (vR (some pr)), some (vR (some c)), some (vI most), some (vI thr), some (vI at5), some (vI 0), some (vI i), some (vI s), some (vI f), some (vR (some y0)), some (vI v), x12, x13]) T_121_140 rfl ?_
    refine x_ic T_121_142 ?_
    refine x_si (ls1 := [some (vR (some 129)), some (vR (some pr)), some (vR (some c)), some (vI most), some (vI thr), some (vI at5), some (vI 1), some (vI i), some (vI s), some (vI f), some (vR (some y0)), some (vI v), x12, x13]) T_121_143 rfl ?_
    refine x_ic T_121_145 ?_
    refine x_si (ls1 := [some (vR (some 129)), some (vR (some pr)), some (vR (some c)), some (vI most), some (vI thr), some (vI at5), some (vI 1), some (vI i), some (vI s), some (vI f), some (vR (some y0)), some (vI v), some (vI 0), x13]) T_121_146 rfl ?_
    exact hw
end XWLKB
