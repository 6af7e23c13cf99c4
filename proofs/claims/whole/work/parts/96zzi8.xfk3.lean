/-! The class's kernel: a group is copied, whole. -/
theorem T_188_5 : hTab 188 5 = some ((3, 4, 0, []), 7) := rfl
theorem T_188_7 : hTab 188 7 = some ((3, 1, 2, []), 8) := rfl
theorem T_188_8 : hTab 188 8 = some ((24, 3, Int.ofNat 1, []), 11) := rfl
theorem T_188_11 : hTab 188 11 = some ((19, 3, Int.ofNat 148, []), 14) := rfl
theorem T_188_14 : hTab 188 14 = some ((3, 3, 0, []), 15) := rfl
theorem T_188_15 : hTab 188 15 = some ((18, 1, Int.ofNat 148, []), 18) := rfl
theorem T_188_18 : hTab 188 18 = some ((3, 1, 2, []), 19) := rfl
theorem T_188_19 : hTab 188 19 = some ((3, 4, 0, []), 21) := rfl
theorem T_188_21 : hTab 188 21 = some ((31, 189, 0, []), 24) := rfl
theorem T_188_24 : hTab 188 24 = some ((4, 5, 2, []), 26) := rfl
theorem T_188_26 : hTab 188 26 = some ((3, 5, 2, []), 28) := rfl
theorem T_188_28 : hTab 188 28 = some ((20, 1, Int.ofNat 34, []), 31) := rfl
theorem T_188_34 : hTab 188 34 = some ((3, 2, 2, []), 35) := rfl
theorem T_188_35 : hTab 188 35 = some ((3, 5, 2, []), 37) := rfl
theorem T_188_37 : hTab 188 37 = some ((24, 4, Int.ofNat 1, []), 40) := rfl
theorem T_188_40 : hTab 188 40 = some ((3, 5, 2, []), 42) := rfl
theorem T_188_42 : hTab 188 42 = some ((24, 4, Int.ofNat 2, []), 45) := rfl
theorem T_188_45 : hTab 188 45 = some ((31, 177, 0, []), 48) := rfl
theorem T_188_48 : hTab 188 48 = some ((4, 6, 2, []), 50) := rfl
theorem T_188_50 : hTab 188 50 = some ((0, 0, 0, []), 51) := rfl
theorem T_188_51 : hTab 188 51 = some ((4, 7, 0, []), 53) := rfl
theorem T_188_142 : hTab 188 142 = some ((5, 4, 1, []), 145) := rfl
theorem T_188_145 : hTab 188 145 = some ((22, 0, Int.ofNat 5, []), 148) := rfl
/-- all copies of a group's points are its members anew -/
def SGK (P0 : qR) (g : Int) (sg : List (List Ch)) : Prop := ∀ k : Int, 0 ≤ k → k < sg.length → SG1 P0 (8 * g + k) (sg.getD k.toNat [])
section XFK3
variable {fb : Bool} {d b c n a0 a1 y y5 y6 i6 ga ga2 m2 : Nat} {σ0 σ : hM} {W W1 W2 V P P0 Q B : qR} {R R1 R2 V3 : rR} {i j k x z v s e w f g u p pt pa dr sv K T U t N C fr mk n6 to T0 : Int} {l l0 lo nm M wd : List Int} {c1 c2 ch : Ch} {h h0 h2 : List Ch} {sg : List (List Ch)} {x8 : Option AV}
theorem XGR.fcy (h : XGR W R P g) (hI : IV false T U P) (hg : 0 ≤ g ∧ g < 8) (hF : FCY a0 n W W2 R R2) (hd : grO g + 66 ≤ a0 ∨ a0 + n ≤ grO g) (hk : KF Q P) : XGR W2 R2 Q g := by
  have hr := grO_rng hg
  exact h.at2 hg hI (fun x k a b c => hF.1 x k (by omega) (Or.inl (by omega)) (by omega) c (by omega)) (fun x k a b => hF.2 x k (Or.inl (by omega)) (by omega)) (qPn_fr (fun k => nsR_kf hk 2320 k rfl) (fun k => nsR_kf hk 2323 k rfl) 8 0) (grQ_kf hk)
theorem gr_dis (hg : 0 ≤ g ∧ g < 8) (hto : 0 ≤ to ∧ to < 8) (hne : g ≠ to) : grO g + 66 ≤ grO to ∨ grO to + 66 ≤ grO g := by
  unfold grO
  rcases Nat.lt_trichotomy g.toNat to.toNat with q | q | q
  · exact Or.inl (by omega)
  · exact absurd (show g = to by omega) hne
  · exact Or.inr (by omega)
theorem SGK.snoc (h : SGK P0 g sg) (hk : (sg.length : Int) = k) (h2k : SG1 P0 (8 * g + k) h2) : SGK P0 g (sg ++ [h2]) := fun k2 k0 k1 => by
  rw [List.length_append] at k1
  have k1 : k2 < ((sg.length + 1 : Nat) : Int) := k1
  rw [getD_snoc]
  by_cases q : k2 = k
  · rw [if_neg (by omega), if_pos (by omega), q]
    exact h2k
  · rw [if_pos (by omega)]
    exact h k2 k0 (by omega)
theorem cg_out (hI0 : IV false T0 U P0) (hg : 0 ≤ g ∧ g < 8) (hto : 0 ≤ to ∧ to < 8) (hne : g ≠ to) (hC : P0 2334 g = C) (hC8 : C ≤ 8) {Qf : Option AV → hM → Prop} : ∀ (m : Nat) (k T : Int) (σ : hM) (V : qR) (V3 : rR) (Q : qR) (sg : List (List Ch)) (l5 l6 l7 l8 : Option AV), k + m = C → 0 ≤ k → KF Q P0 → T + 24 * m + 150 ≤ 2147483000 → PX σ0 V V3 σ → XM K T U V V3 Q → XGR V V3 Q g → (∀ p : Int, 0 ≤ p → p < 8 → ¬ P0 2320 p = 0 → V3 (295 + 125 * p.toNat) 2201 ≠ some (grO to)) → CGD V V3 P0 g to sg → (sg.length : Int) = k → SGK P0 g sg → (∀ (σ : hM) (V2 : qR) (V4 : rR) (sg2 : List (List Ch)) (k2 : Int) (l5 l6 l7 l8 : Option AV), PX σ0 V2 V4 σ → XM K (T + 24 * m) U V2 V4 (fkP g m k Q (h0 ++ sg.flatten)).2.1 → (fkP g m k Q (h0 ++ sg.flatten)).2.2 = h0 ++ sg2.flatten → CGD V2 V4 P0 g to sg2 → sg2.length ≤ 8 → ((fkP g m k Q (h0 ++ sg.flatten)).1 = 0 → (sg2.length : Int) = C ∧ SGK P0 g sg2) → FCY (grO to) 66 V V2 V3 V4 → WP fb (d + 9) 188 148 [some (vR (some 129)), some (vR (some (grO g))), some (vR (some (grO to))), some (vI (fkP g m k Q (h0 ++ sg.flatten)).1), some (vI k2), l5, l6, l7, l8] [] σ Qf) → WP fb (d + 9) 188 5 [some (vR (some 129)), some (vR (some (grO g))), some (vR (some (grO to))), some (vI 0), some (vI k), l5, l6, l7, l8] [] σ Qf := by
  have hgo3 := grO_o hg
  have hto3 := grO_o hto
  have hrg := grO_rng hg
  have hrt := grO_rng hto
  have hdis := gr_dis hg hto hne
  intro m
  induction m with
  | zero =>
    intro k T σ V V3 Q sg l5 l6 l7 l8 g1 g2 g4 g5 hP hX hG hNL hD hs hS hc
    have g1 : k + ((0 : Nat) : Int) = C := g1
    have hk : k = C := by omega
    subst hk
    have h97 := hG.1.trans ((nsR_kf g4 2334 _ rfl).trans hC)
    have hgo : WP fb (d + 9) 188 148 [some (vR (some 129)), some (vR (some (grO g))), some (vR (some (grO to))), some (vI 0), some (vI k), l5, l6, l7, l8] [] σ Qf := hc σ V V3 sg k l5 l6 l7 l8 hP (hX.mono (by omega)) rfl hD (by omega) (fun _ => ⟨hs, hS⟩) FCY_rfl
    obtain ⟨ga, hga⟩ : ∃ q, grO g = q := ⟨_, rfl⟩
    obtain ⟨ga2, hga2⟩ : ∃ q, grO to = q := ⟨_, rfl⟩
    rw [hga] at hgo3 h97
    rw [hga2] at hto3
    rw [hga, hga2] at hgo ⊢
    refine x_li (z := k) T_188_5 rfl ?_
    refine x_lr (z := some ga) T_188_7 rfl ?_
    refine x_gI (z := k) T_188_8 (Or.inl F_3_1) (hP.o hgo3) (Eq.trans (hP.gi hgo3 (key := 2097) rfl) h97) ?_
    refine x_ic2 T_188_11 (fun _ => ?_) (fun h => absurd (show k ≤ k by omega) h)
    exact hgo
  | succ m ih =>
    intro k T σ V V3 Q sg l5 l6 l7 l8 g1 g2 g4 g5 hP hX hG hNL hD hs hS hc
    have hI := hX.2.2.1.iv
    have hC2 := (nsR_kf g4 2334 g rfl).trans hC
    have h97 := hG.1.trans hC2
    have hk8 : k < 8 := by omega
    obtain ⟨y5, hy5, hPM⟩ := PTM_of hG hg hI (k := k) ⟨g2, by omega⟩
    obtain ⟨i5, hi5, hy5b⟩ := hG.pt (k := k) ⟨g2, hk8⟩
    have ey5 : y5 = grO g + 2 + 8 * i5 := Option.some.inj (hy5.symm.trans hy5b)
    obtain ⟨y9, hy9, b1, b2, b3, b4⟩ := hG.2.2.2.2 k g2 (by omega)
    have : y9 = y5 := Option.some.inj (hy9.symm.trans hy5)
    subst this
    rw [nsR_kf g4 2335 _ rfl] at b1
    rw [nsR_kf g4 2336 _ rfl] at b2
    have hcr : ∀ (j : Int) (cc : Nat), 0 ≤ j → j < 6 → V3 (y9 + 1) j = some cc → y9 ≤ cc ∧ cc < y9 + 8 := fun j cc j0 j1 hcc => by
      obtain ⟨t, ht, hmm⟩ := hG.mb hi5 (j := j) ⟨j0, j1⟩
      rw [show y9 + 1 = grO g + 3 + 8 * i5 by omega] at hcc
      have := Option.some.inj (hcc.symm.trans hmm)
      omega
    have hyo := hPM.1
    obtain ⟨⟨d1, d2⟩, d3, d4, d5⟩ := id hD
    obtain ⟨i6, hi6, hy6⟩ := d3.1 k g2 (by omega)
    obtain ⟨y6, hyy6⟩ : ∃ y6, grO to + 2 + 8 * i6 = y6 := ⟨_, rfl⟩
    have hY6 : PYO y6 := by rw [← hyy6]; exact PYO_of hto hi6
    have hyo6 := hY6.1
    have hpo := x_pointOfG (fb := fb) (d := d + 8) hP hg h97 hC8 (k := k) ⟨g2, by omega⟩ hy5
    obtain ⟨s, hsv⟩ : ∃ q, P0 2335 (8 * g + k) = q := ⟨_, rfl⟩
    obtain ⟨pa, hpa⟩ : ∃ q, P0 2336 (8 * g + k) = q := ⟨_, rfl⟩
    rw [hsv] at b1
    rw [hpa] at b2
    have hd1 : V (grO to) 2097 = k := d1.trans hs
    rw [hyy6] at hy6
    have hac := x_addG (fb := fb) (d := d + 8) (s := s) (pa := pa) hP hto hd1 ⟨g2, hk8⟩ hy6 hyo6
    obtain ⟨V1, hV1⟩ : ∃ V1, rU (rU (rU (rU V (grO to) 2097 (k + 1)) y6 2129 s) y6 2130 pa) y6 2131 0 = V1 := ⟨_, rfl⟩
    have hX1 : XM K T U V1 V3 Q := by
      rw [← hV1]
      exact hX.add hto hi6 hyy6.symm (fun p p0 p1 hl => hNL p p0 p1 (by rw [← nsR_kf g4 2320 _ rfl]; exact hl))
    rw [hV1] at hac
    have hF01 : FCY (grO to) 66 V V1 V3 V3 := ⟨fun x k _ _ _ _ c => by
      rw [← hV1]
      exact (if_neg (by omega)).trans ((if_neg (by omega)).trans ((if_neg (by omega)).trans (if_neg (by omega)))), fun _ _ _ _ => rfl⟩
    have hPM1 : PTM V1 V3 y9 Q (8 * g + k) := by
      obtain ⟨u1, u2, u3, u4, u5⟩ := hPM
      refine ⟨u1, u2, u3, (hF01.1 _ _ (by omega) (Or.inl (by omega)) (by omega) (by decide) (by omega)).trans u4, fun j j0 j1 => ?_⟩
      obtain ⟨c9, v1, v2, v3, v4⟩ := u5 j j0 j1
      have hmb : 0 ≤ Q 2337 (8 * g + k) ∧ Q 2337 (8 * g + k) ≤ 6 := IV.a hI 2337 0 64 rfl rfl rfl (by omega) (by omega)
      have hc9 := hcr j c9 j0 (by omega) v1
      exact ⟨c9, v1, v2, v3, v4.at2 (fun k hk => hF01.1 _ _ (by omega) (Or.inl (by omega)) (by omega) hk (by omega)) ⟨rfl, rfl, rfl, rfl, rfl⟩⟩
    have hL0 : PTL V1 V3 y6 (nwL P0 (8 * g + k) 0 [] 0) := by
      refine ⟨by rw [← hV1]; exact rU_s, ?_, fun j j0 j1 => absurd j1 (by show ¬ j < ((0 : Nat) : Int); omega)⟩
      have h4 := d4 i6 hi6
      rw [show grO to + 3 + 8 * i6 = y6 + 1 by omega, show grO to + 4 + 8 * i6 = y6 + 2 by omega] at h4
      exact h4
    have hmm : Q 2337 (8 * g + k) = P0 2337 (8 * g + k) := nsR_kf g4 2337 _ rfl
    have hmb : 0 ≤ P0 2337 (8 * g + k) ∧ P0 2337 (8 * g + k) ≤ 6 := IV.a hI0 2337 0 64 rfl rfl rfl (by omega) (by omega)
    obtain ⟨n6, hn6⟩ : ∃ n6, P0 2337 (8 * g + k) = n6 := ⟨_, rfl⟩
    rw [hn6] at hmb hmm
    have eK : fkP g (m + 1) k Q (h0 ++ sg.flatten) = if 0 < (kCps (8 * g + k) n6.toNat 0 Q (h0 ++ sg.flatten)).1 then kCps (8 * g + k) n6.toNat 0 Q (h0 ++ sg.flatten) else fkP g m (k + 1) (kCps (8 * g + k) n6.toNat 0 Q (h0 ++ sg.flatten)).2.1 (kCps (8 * g + k) n6.toNat 0 Q (h0 ++ sg.flatten)).2.2 := by
      rw [← hmm]
      rfl
    have hkc := kCps_kf (fr := 8 * g + k) n6.toNat 0 Q (h0 ++ sg.flatten)
    have hka := kCps_at (P0 := P0) (fr := 8 * g + k) n6.toNat 0 Q (h0 ++ sg.flatten) g4
    obtain ⟨-, -, -, hkr⟩ := kCps_app (fr := 8 * g + k) n6.toNat 0 Q (h0 ++ sg.flatten)
    rw [eK] at hc
    have hin := fun (σ : hM) (hP : PX σ0 V1 V3 σ) (x8 : Option AV) (h142 : _) => cg_in (fb := fb) (d := d) (σ0 := σ0) (K := K) (U := U) (P0 := P0) (h0 := h0 ++ sg.flatten) (Qf := Qf) (k := k) hI0 hto hi6 hyy6.symm (fr := 8 * g + k) ⟨by omega, by omega⟩ hmb.2 hgo3 hto3 (y5 := y9) ⟨⟨by omega, by omega⟩, by omega⟩ n6.toNat 0 T σ V1 V3 Q [] x8 (by omega) (by decide) hmm g4 (by omega) hP hX1 hPM1 hcr hL0 rfl (fun c hc => absurd hc List.not_mem_nil) h142
    rw [List.append_nil] at hin
    obtain ⟨A, hA⟩ : ∃ A, kCps (8 * g + k) n6.toNat 0 Q (h0 ++ sg.flatten) = A := ⟨_, rfl⟩
    rw [hA] at hin hc hkc hka hkr
    obtain ⟨e, Q2, hh⟩ := A
    dsimp only at hin hc hkc hka hkr
    have h53 : ∀ (σ : hM) (x8 : Option AV), PX σ0 V1 V3 σ → WP fb (d + 9) 188 53 [some (vR (some 129)), some (vR (some (grO g))), some (vR (some (grO to))), some (vI 0), some (vI k), some (vR (some y9)), some (vR (some y6)), some (vI 0), x8] [] σ Qf := fun σ x8 hP => by
      refine hin σ hP x8 ?_
      clear hP
      intro σ V2 V4 h2 j2 x8 hP hX2 hE hL2 hr2 h6 hF2
      have hF02 : FCY (grO to) 66 V V2 V3 V4 := FCY_tr hF01 (FCY_in hF2.1 (by omega) (by omega))
      have hD2 : CGD V2 V4 P0 g to (sg ++ [h2]) := hD.snoc (W1 := V1) hto hs hk8 hi6 (by rw [hyy6]; exact hy6) (by rw [← hV1, hyy6, hsv, hpa]) (by rw [hyy6]; exact hF2.1) (by rw [hyy6]; exact hF2.2 _ (by decide) (by decide)) (by rw [hyy6]; exact hF2.2 _ (by decide) (by decide)) (by rw [hyy6]; exact hL2) h6 hr2
      by_cases q : e = 0
      · subst q
        simp only [if_neg (show ¬ (0 : Int) < 0 by decide)] at hc
        obtain ⟨t9, ht9, hlt, hct⟩ := hka rfl
        have htt : h2 = t9 := List.append_cancel_left (hE.symm.trans ht9)
        have hS2 : SGK P0 g (sg ++ [h2]) := hS.snoc hs ⟨by rw [htt, hlt, hn6]; omega, fun i hi => by
          rw [htt] at hi ⊢
          have := hct i (by omega)
          rw [Int.zero_add] at this
          exact this⟩
        have hfl : h0 ++ (sg ++ [h2]).flatten = hh := by rw [flat_snoc, hE, List.append_assoc]
        have hgo := fun (l7 l8 : Option AV) => ih (k + 1) (T + 24) σ V2 V4 Q2 (sg ++ [h2]) (some (vR (some y9))) (some (vR (some y6))) l7 l8 (by omega) (by omega) (KF_tr hkc g4) (by omega) hP (hX2.mono (by omega)) (hG.fcy hI hg hF02 (by omega) hkc) (fun p p0 p1 hl => by
          have hrp := prO_rng (p := p) ⟨p0, p1⟩
          have epp : prO p = 295 + 125 * p.toNat := rfl
          have w1 := pr_gr (y := grO to) (to := to) (p := p) (Nat.le_refl _) (by omega)
          have w2 := pr_gr (y := grO to + 65) (to := to) (p := p) (by omega) (by omega)
          have w3 : ¬ (grO to ≤ 295 + 125 * p.toNat ∧ 295 + 125 * p.toNat < grO to + 66) := by
            have egg : grO to = 229 + 125 * to.toNat := rfl
            rcases Nat.lt_or_ge p.toNat to.toNat with q | q <;> omega
          rw [hF02.2 _ _ (Or.inl (by omega)) w3]
          exact hNL p p0 p1 hl) hD2 (by rw [List.length_append]; show ((sg.length + 1 : Nat) : Int) = k + 1; omega) hS2 (by
          rw [hfl]
          intro σ V5 V6 sg2 k2 l5 l6 l7 l8 a1 a2 a3 a4 a5 a6 a7
          exact hc σ V5 V6 sg2 k2 l5 l6 l7 l8 a1 (a2.mono (by omega)) a3 a4 a5 a6 (FCY_tr hF02 a7))
        obtain ⟨ga, hga⟩ : ∃ q, grO g = q := ⟨_, rfl⟩
        obtain ⟨ga2, hga2⟩ : ∃ q, grO to = q := ⟨_, rfl⟩
        rw [hga] at hgo3
        rw [hga2] at hto3
        simp only [hga, hga2] at hgo ⊢
        refine x_inc (w := (k + 1)) (ls1 := [some (vR (some 129)), some (vR (some ga)), some (vR (some ga2)), some (vI 0), some (vI (k + 1)), some (vR (some y9)), some (vR (some y6)), some (vI j2), x8]) T_188_142 rfl (w32_id (by omega) (by omega)) rfl ?_
        refine x_goto T_188_145 ?_
        exact hgo _ _
      · simp only [if_pos (show 0 < e by omega)] at hc
        have hfl : hh = h0 ++ (sg ++ [h2]).flatten := by rw [flat_snoc, hE, List.append_assoc]
        have h148 := fun (k2 : Int) (l7 l8 : Option AV) => hc σ V2 V4 (sg ++ [h2]) k2 (some (vR (some y9))) (some (vR (some y6))) l7 l8 hP (hX2.mono (by omega)) hfl hD2 (by rw [List.length_append]; show sg.length + 1 ≤ 8; omega) (fun c => absurd c q) hF02
        have h97b : V2 (grO g) 2097 = C := (hF02.1 _ _ (by omega) (Or.inl (by omega)) (by omega) (by decide) (by omega)).trans h97
        obtain ⟨ga, hga⟩ : ∃ q, grO g = q := ⟨_, rfl⟩
        obtain ⟨ga2, hga2⟩ : ∃ q, grO to = q := ⟨_, rfl⟩
        rw [hga] at hgo3 h97b
        rw [hga2] at hto3
        simp only [hga, hga2] at h148 ⊢
        by_cases q9 : C ≤ k + 1
        · skip
          refine x_inc (w := (k + 1)) (ls1 := [some (vR (some 129)), some (vR (some ga)), some (vR (some ga2)), some (vI e), some (vI (k + 1)), some (vR (some y9)), some (vR (some y6)), some (vI j2), x8]) T_188_142 rfl (w32_id (by omega) (by omega)) rfl ?_
          refine x_goto T_188_145 ?_
          refine x_li (z := (k + 1)) T_188_5 rfl ?_
          refine x_lr (z := some ga) T_188_7 rfl ?_
          refine x_gI (z := C) T_188_8 (Or.inl F_3_1) (hP.o hgo3) (Eq.trans (hP.gi hgo3 (key := 2097) rfl) h97b) ?_
          refine x_ic2 T_188_11 (fun _ => ?_) (fun h => absurd (show C ≤ (k + 1) by omega) h)
          exact h148 _ _ _
        · skip
          refine x_inc (w := (k + 1)) (ls1 := [some (vR (some 129)), some (vR (some ga)), some (vR (some ga2)), some (vI e), some (vI (k + 1)), some (vR (some y9)), some (vR (some y6)), some (vI j2), x8]) T_188_142 rfl (w32_id (by omega) (by omega)) rfl ?_
          refine x_goto T_188_145 ?_
          refine x_li (z := (k + 1)) T_188_5 rfl ?_
          refine x_lr (z := some ga) T_188_7 rfl ?_
          refine x_gI (z := C) T_188_8 (Or.inl F_3_1) (hP.o hgo3) (Eq.trans (hP.gi hgo3 (key := 2097) rfl) h97b) ?_
          refine x_ic2 T_188_11 (fun h => absurd (show C ≤ (k + 1) from h) (by omega)) (fun _ => ?_)
          refine x_li (z := e) T_188_14 rfl ?_
          refine x_if T_188_15 (fun _ => ?_) (fun h => absurd (show ¬ e = 0 by omega) h)
          exact h148 _ _ _
    obtain ⟨ga, hga⟩ : ∃ q, grO g = q := ⟨_, rfl⟩
    obtain ⟨ga2, hga2⟩ : ∃ q, grO to = q := ⟨_, rfl⟩
    rw [hga] at hgo3 h97 hpo
    rw [hga2] at hto3 hac
    simp only [hga, hga2] at h53 ⊢
    refine x_li (z := k) T_188_5 rfl ?_
    refine x_lr (z := some ga) T_188_7 rfl ?_
    refine x_gI (z := C) T_188_8 (Or.inl F_3_1) (hP.o hgo3) (Eq.trans (hP.gi hgo3 (key := 2097) rfl) h97) ?_
    refine x_ic2 T_188_11 (fun h => absurd (show C ≤ k from h) (by omega)) (fun _ => ?_)
    refine x_li (z := 0) T_188_14 rfl ?_
    refine x_if T_188_15 (fun h => absurd (show ¬ (0 : Int) = 0 from h) (by decide)) (fun _ => ?_)
    refine x_lr (z := some ga) T_188_18 rfl ?_
    refine x_li (z := k) T_188_19 rfl ?_
    refine x_cv2 T_188_21 mN_189 mL_189 (Nat.le_of_ble_eq_true rfl) mO_189 (hP.o hgo3) (Nat.le_of_ble_eq_true rfl) (hpo) ?_
    rintro _ σ ⟨rfl, rfl⟩
    refine cR ?_
    refine x_sr (ls1 := [some (vR (some 129)), some (vR (some ga)), some (vR (some ga2)), some (vI 0), some (vI k), some (vR (some y9)), l6, l7, l8]) T_188_24 rfl ?_
    refine x_lr (z := some y9) T_188_26 rfl ?_
    refine x_nnul T_188_28 (fun _ _ => ?_) (fun h0 => absurd h0 (by simp))
    refine x_lr (z := some ga2) T_188_34 rfl ?_
    refine x_lr (z := some y9) T_188_35 rfl ?_
    refine x_gI (z := s) T_188_37 (Or.inl F_4_1) (hP.o hyo) (Eq.trans (hP.gi hyo (key := 2129) rfl) b1) ?_
    refine x_lr (z := some y9) T_188_40 rfl ?_
    refine x_gI (z := pa) T_188_42 (Or.inl F_4_2) (hP.o hyo) (Eq.trans (hP.gi hyo (key := 2130) rfl) b2) ?_
    refine x_cv3 T_188_45 mN_177 mL_177 (Nat.le_of_ble_eq_true rfl) mO_177 (hP.o hto3) (Nat.le_of_ble_eq_true rfl) (hac) ?_
    clear hP hac
    rintro _ σ ⟨rfl, hP⟩
    refine cR ?_
    refine x_sr (ls1 := [some (vR (some 129)), some (vR (some ga)), some (vR (some ga2)), some (vI 0), some (vI k), some (vR (some y9)), some (vR (some y6)), l7, l8]) T_188_48 rfl ?_
    refine x_ic T_188_50 ?_
    refine x_si (ls1 := [some (vR (some 129)), some (vR (some ga)), some (vR (some ga2)), some (vI 0), some (vI k), some (vR (some y9)), some (vR (some y6)), some (vI 0), l8]) T_188_51 rfl ?_
    exact h53 σ _ hP
end XFK3
