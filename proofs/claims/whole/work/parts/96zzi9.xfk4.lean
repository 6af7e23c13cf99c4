/-! The class's kernel: copyGroup; the rows of a group that was copied. -/
theorem T_188_0 : hTab 188 0 = some ((0, 0, 0, []), 1) := rfl
theorem T_188_1 : hTab 188 1 = some ((4, 3, 0, []), 2) := rfl
theorem T_188_2 : hTab 188 2 = some ((0, 0, 0, []), 3) := rfl
theorem T_188_3 : hTab 188 3 = some ((4, 4, 0, []), 5) := rfl
theorem T_188_148 : hTab 188 148 = some ((3, 2, 2, []), 149) := rfl
theorem T_188_149 : hTab 188 149 = some ((24, 3, Int.ofNat 1, []), 152) := rfl
theorem T_188_152 : hTab 188 152 = some ((0, 0, 1, []), 153) := rfl
theorem T_188_153 : hTab 188 153 = some ((10, 1, 0, []), 154) := rfl
theorem T_188_154 : hTab 188 154 = some ((4, 4, 0, []), 156) := rfl
theorem T_188_156 : hTab 188 156 = some ((3, 4, 0, []), 158) := rfl
theorem T_188_158 : hTab 188 158 = some ((18, 2, Int.ofNat 181, []), 161) := rfl
theorem T_188_161 : hTab 188 161 = some ((3, 3, 0, []), 162) := rfl
theorem T_188_162 : hTab 188 162 = some ((18, 0, Int.ofNat 181, []), 165) := rfl
theorem T_188_165 : hTab 188 165 = some ((3, 0, 2, []), 166) := rfl
theorem T_188_166 : hTab 188 166 = some ((3, 2, 2, []), 167) := rfl
theorem T_188_167 : hTab 188 167 = some ((3, 4, 0, []), 169) := rfl
theorem T_188_169 : hTab 188 169 = some ((31, 189, 0, []), 172) := rfl
theorem T_188_172 : hTab 188 172 = some ((31, 190, 0, []), 175) := rfl
theorem T_188_175 : hTab 188 175 = some ((5, 4, (-1), []), 178) := rfl
theorem T_188_178 : hTab 188 178 = some ((22, 0, Int.ofNat 156, []), 181) := rfl
theorem T_188_181 : hTab 188 181 = some ((3, 2, 2, []), 182) := rfl
theorem T_188_182 : hTab 188 182 = some ((3, 3, 0, []), 183) := rfl
theorem T_188_183 : hTab 188 183 = some ((18, 1, Int.ofNat 193, []), 186) := rfl
theorem T_188_186 : hTab 188 186 = some ((3, 2, 2, []), 187) := rfl
theorem T_188_187 : hTab 188 187 = some ((24, 3, Int.ofNat 1, []), 190) := rfl
theorem T_188_190 : hTab 188 190 = some ((22, 0, Int.ofNat 194, []), 193) := rfl
theorem T_188_193 : hTab 188 193 = some ((0, 0, 0, []), 194) := rfl
theorem T_188_194 : hTab 188 194 = some ((25, 3, Int.ofNat 1, []), 197) := rfl
theorem T_188_197 : hTab 188 197 = some ((3, 3, 0, []), 198) := rfl
theorem T_188_198 : hTab 188 198 = some ((33, 1, 0, []), 199) := rfl
section XFK4
variable {fb : Bool} {d b c n a0 a1 y y5 y6 i6 ga ga2 m2 : Nat} {σ0 σ : hM} {W W1 W2 V P P0 Q B : qR} {R R1 R2 V3 : rR} {i j k x z v s e w f g u p pt pa dr sv K T U t N C fr mk n6 to T0 old : Int} {l l0 lo nm M wd : List Int} {c1 c2 ch : Ch} {h h0 h2 : List Ch} {sg : List (List Ch)} {x8 l5 l6 l7 l8 : Option AV} {hf : Int → Int}
theorem CGD.fa (h : CGD W R P0 g to sg) (hto : 0 ≤ to ∧ to < 8) (hF : FA W W2 R R2) : CGD W2 R2 P0 g to sg := by
  have hrg := grO_rng hto
  obtain ⟨⟨a1, a2⟩, a3, a4, a5⟩ := h
  refine ⟨⟨(hF.ns.1 _ _ (by omega) (by omega) (by decide)).trans a1, (hF.ns.1 _ _ (by omega) (by omega) (by decide)).trans a2⟩, a3.eqv (fun k _ _ => hF.ns.2 _ _ (by omega) (by omega)), fun i hi => (a4 i hi).eqv (fun k _ _ => hF.ns.2 _ _ (by omega) (by omega)), fun k k0 k1 => ?_⟩
  obtain ⟨i, hi, b1, b2, b3, b4, b5, b6⟩ := a5 k k0 k1
  exact ⟨i, hi, (hF.ns.2 _ _ (by omega) (by omega)).trans b1, (hF.ns.1 _ _ (by omega) (by omega) (by decide)).trans b2, (hF.ns.1 _ _ (by omega) (by omega) (by decide)).trans b3, b4.fcy (a0 := 0) (n := 0) (by rw [nwL_len]; exact b5) (PYO_of hto hi) (FCY_fa hF) (Or.inr (by omega)), b5, b6⟩
theorem XM.cnt (h : XM K T U W R P) (hto : 0 ≤ to ∧ to < 8) (hNL : ∀ p : Int, 0 ≤ p → p < 8 → ¬ P 2320 p = 0 → R (295 + 125 * p.toNat) 2201 ≠ some (grO to)) : XM K T U (rU W (grO to) 2097 C) R P := by
  have hrg := grO_rng hto
  have hW : ∀ (x : Nat) (k : Int), ¬ (x = grO to ∧ k = 2097) → rU W (grO to) 2097 C x k = W x k := fun x k h1 => if_neg h1
  refine h.rowG RF_rfl h.2.2.1 (fun x k hx => hW x k (by omega)) (fun _ _ _ => rfl) (fun p p0 p1 hl => ?_)
  obtain ⟨b1, b2, ⟨b3, b4⟩, ⟨ga, c1, c2, c3, c4⟩, b5⟩ := h.2.2.2.2.1 p p0 p1 hl
  have hne : ga ≠ grO to := fun c => hNL p p0 p1 hl (by rw [← c]; exact c1)
  exact ⟨b1, b2, ⟨(hW _ _ (by omega)).trans b3, b4⟩, ⟨ga, c1, c2, (hW _ _ (fun c => hne c.1)).trans c3, c4⟩, b5⟩
theorem rU_same {f : Nat} {a : qR} (h : a f k = v) : rU a f k v = a := by
  funext x j
  unfold rU
  split
  · rename_i q
    rw [q.1, q.2]
    exact h.symm
  · rfl
/-- the points that don't come about, the latest first -/
theorem bk_loop (hto : 0 ≤ to ∧ to < 8) (hg : 0 ≤ g ∧ g < 8) (hs8 : sg.length ≤ 8) (he : ¬ e = 0) {Qf : Option AV → hM → Prop} : ∀ (m : Nat) (T : Int) (σ : hM) (V : qR) (V3 : rR), m ≤ sg.length → T + 24 * m + 250 ≤ 2147483000 → PX σ0 V V3 σ → XM K T U V V3 (kDrops B (sg.drop m).flatten) → CGD V V3 P0 g to sg → (∀ (σ : hM) (V2 : qR) (V4 : rR) (k2 : Int), PX σ0 V2 V4 σ → XM K (T + 24 * m) U V2 V4 (kDrops B sg.flatten) → CGD V2 V4 P0 g to sg → FA V V2 V3 V4 → WP fb (d + 9) 188 181 [some (vR (some 129)), some (vR (some (grO g))), some (vR (some (grO to))), some (vI e), some (vI k2), l5, l6, l7, l8] [] σ Qf) → WP fb (d + 9) 188 156 [some (vR (some 129)), some (vR (some (grO g))), some (vR (some (grO to))), some (vI e), some (vI ((m : Int) - 1)), l5, l6, l7, l8] [] σ Qf := by
  have hto3 := grO_o hto
  have hgo3 := grO_o hg
  have hrt := grO_rng hto
  intro m
  induction m with
  | zero =>
    intro T σ V V3 h1 g2 hP hX hD hc
    have hX : XM K T U V V3 (kDrops B (List.drop 0 sg).flatten) := hX
    rw [List.drop_zero] at hX
    have hgo := hc σ V V3 (((0 : Nat) : Int) - 1) hP (hX.mono (by omega)) hD FA_rfl
    obtain ⟨ga, hga⟩ : ∃ q, grO g = q := ⟨_, rfl⟩
    obtain ⟨ga2, hga2⟩ : ∃ q, grO to = q := ⟨_, rfl⟩
    rw [hga] at hgo3
    rw [hga2] at hto3
    rw [hga, hga2] at hgo ⊢
    refine x_li (z := (((0 : Nat) : Int) - 1)) T_188_156 rfl ?_
    refine x_if T_188_158 (fun _ => ?_) (fun h => absurd (show (((0 : Nat) : Int) - 1) < 0 by omega) h)
    exact hgo
  | succ m ih =>
    intro T σ V V3 h1 g2 hP hX hD hc
    rw [show ((m + 1 : Nat) : Int) - 1 = (m : Int) by omega]
    have hm : m < sg.length := by omega
    have hget : sg.getD m [] = sg[m] := by rw [List.getD_eq_getElem?_getD, List.getElem?_eq_getElem hm]; rfl
    have eD : kDrops B (sg.drop m).flatten = kDrops (kDrops B (sg.drop (m + 1)).flatten) sg[m] := by
      rw [List.drop_eq_getElem_cons hm, List.flatten_cons, kDrops_app]
    obtain ⟨⟨d1, d2⟩, d3, d4, d5⟩ := id hD
    obtain ⟨i, hi, b1, b2, b3, b4, b5, b6⟩ := d5 (m : Int) (by omega) (by omega)
    rw [Int.toNat_natCast, hget] at b4 b5 b6
    have hpo := x_pointOfG (fb := fb) (d := d + 8) (k := (m : Int)) hP hto d1 (by omega) ⟨by omega, by omega⟩ b1
    have hY : PYO (grO to + 2 + 8 * i) := PYO_of hto hi
    have hyo := hY.1
    have hcb := fun (σ : hM) (hP : PX σ0 V V3 σ) => x_clunkBack (fb := fb) (d := d) hP hX (by omega) hY b5 b6 b4
    rw [← eD] at hcb
    have hgo := fun (σ : hM) (V5 : qR) (V6 : rR) (hP : PX σ0 V5 V6 σ) (hX5 : XM K (T + 24) U V5 V6 (kDrops B (sg.drop m).flatten)) (hA : FA V V5 V3 V6) => ih (T + 24) σ V5 V6 (by omega) (by omega) hP hX5 (hD.fa hto hA) (fun σ V2 V4 k2 a1 a2 a3 a4 => hc σ V2 V4 k2 a1 (a2.mono (by omega)) a3 (FA_tr hA a4))
    obtain ⟨y, hy⟩ : ∃ y, grO to + 2 + 8 * i = y := ⟨_, rfl⟩
    obtain ⟨kk, hkk⟩ : ∃ kk : Int, (m : Int) = kk := ⟨_, rfl⟩
    have hk0 : 0 ≤ kk ∧ kk < 8 := by omega
    rw [hy] at hyo hpo
    simp only [hy] at hcb
    rw [hkk] at hpo
    obtain ⟨ga, hga⟩ : ∃ q, grO g = q := ⟨_, rfl⟩
    obtain ⟨ga2, hga2⟩ : ∃ q, grO to = q := ⟨_, rfl⟩
    rw [hga] at hgo3
    rw [hga2] at hto3 hpo
    simp only [hga, hga2, hkk] at hgo ⊢
    refine x_li (z := kk) T_188_156 rfl ?_
    refine x_if T_188_158 (fun h => absurd (show kk < 0 from h) (by omega)) (fun _ => ?_)
    refine x_li (z := e) T_188_161 rfl ?_
    refine x_if T_188_162 (fun h => absurd (show e = 0 from h) (by omega)) (fun _ => ?_)
    refine x_lr (z := some 129) T_188_165 rfl ?_
    refine x_lr (z := some ga2) T_188_166 rfl ?_
    refine x_li (z := kk) T_188_167 rfl ?_
    refine x_cv2 T_188_169 mN_189 mL_189 (Nat.le_of_ble_eq_true rfl) mO_189 (hP.o hto3) (Nat.le_of_ble_eq_true rfl) (hpo) ?_
    rintro _ σ ⟨rfl, rfl⟩
    refine cR ?_
    refine x_cv2 T_188_172 mN_190 mL_190 (Nat.le_of_ble_eq_true rfl) mO_190 (hP.o xo_129) (Nat.le_of_ble_eq_true rfl) (hcb σ hP) ?_
    clear hP hcb
    rintro _ σ ⟨rfl, V5, V6, hP, hX5, hA5⟩
    refine cV ?_
    refine x_inc (w := (kk + (-1))) (ls1 := [some (vR (some 129)), some (vR (some ga)), some (vR (some ga2)), some (vI e), some (vI (kk + (-1))), l5, l6, l7, l8]) T_188_175 rfl (w32_id (by omega) (by omega)) rfl ?_
    refine x_goto T_188_178 ?_
    exact hgo σ V5 V6 hP hX5 hA5
theorem x_copyGroup (hP : PX σ0 W R σ) (hX : XM K T U W R P) (hT : T + 900 ≤ 2147483000) (hg : 0 ≤ g ∧ g < 8) (hto : 0 ≤ to ∧ to < 8) (hne : g ≠ to) (hG : XGR W R P g) (hNL : ∀ p : Int, 0 ≤ p → p < 8 → ¬ P 2320 p = 0 → R (295 + 125 * p.toNat) 2201 ≠ some (grO to)) (hD0 : CGD W R P g to []) : CL fb (d + 9) 188 [vR (some 129), vR (some (grO g)), vR (some (grO to))] σ (fun r σ' => r = some (vI (fkP g (P 2334 g).toNat 0 P h0).1) ∧ ∃ W2 R2 sg, PX σ0 W2 R2 σ' ∧ (fkP g (P 2334 g).toNat 0 P h0).2.2 = h0 ++ sg.flatten ∧ FCY (grO to) 66 W W2 R R2 ∧ ((fkP g (P 2334 g).toNat 0 P h0).1 = 0 → XM K (T + 192) U W2 R2 (fkP g (P 2334 g).toNat 0 P h0).2.1 ∧ CGD W2 R2 P g to sg ∧ (sg.length : Int) = P 2334 g ∧ SGK P g sg) ∧ (¬ (fkP g (P 2334 g).toNat 0 P h0).1 = 0 → XM K (T + 400) U W2 R2 (kDrops (fkP g (P 2334 g).toNat 0 P h0).2.1 sg.flatten) ∧ CGD W2 R2 P g to [])) := by
  have hI := hX.2.2.1.iv
  have hpb : 0 ≤ P 2334 g ∧ P 2334 g ≤ 8 := IV.a hI 2334 0 8 rfl rfl rfl (by omega) (by omega)
  have hto3 := grO_o hto
  have hgo3 := grO_o hg
  have hrt := grO_rng hto
  have hkf := fkP_kf (g := g) (P 2334 g).toNat 0 P h0
  have hlo := fun (σ : hM) (hP : PX σ0 W R σ) (h148 : _) => cg_out (fb := fb) (d := d) (σ0 := σ0) (K := K) (U := U) (P0 := P) (h0 := h0) (Qf := fun r σ' => r = some (vI (fkP g (P 2334 g).toNat 0 P h0).1) ∧ ∃ W2 R2 sg, PX σ0 W2 R2 σ' ∧ (fkP g (P 2334 g).toNat 0 P h0).2.2 = h0 ++ sg.flatten ∧ FCY (grO to) 66 W W2 R R2 ∧ ((fkP g (P 2334 g).toNat 0 P h0).1 = 0 → XM K (T + 192) U W2 R2 (fkP g (P 2334 g).toNat 0 P h0).2.1 ∧ CGD W2 R2 P g to sg ∧ (sg.length : Int) = P 2334 g ∧ SGK P g sg) ∧ (¬ (fkP g (P 2334 g).toNat 0 P h0).1 = 0 → XM K (T + 400) U W2 R2 (kDrops (fkP g (P 2334 g).toNat 0 P h0).2.1 sg.flatten) ∧ CGD W2 R2 P g to [])) hI hg hto hne rfl hpb.2 (P 2334 g).toNat 0 T σ W R P [] none none none none (by omega) (by decide) KF_rfl (by omega) hP hX hG hNL hD0 rfl (fun k k0 k1 => absurd k1 (by show ¬ k < ((0 : Nat) : Int); omega)) h148
  rw [show ([] : List (List Ch)).flatten = [] from rfl, List.append_nil] at hlo
  obtain ⟨A, hA⟩ : ∃ A, fkP g (P 2334 g).toNat 0 P h0 = A := ⟨_, rfl⟩
  rw [hA] at hlo hkf ⊢
  obtain ⟨e, Q, hh⟩ := A
  dsimp only at hlo hkf ⊢
  have h5 : ∀ σ : hM, PX σ0 W R σ → WP fb (d + 9) 188 5 [some (vR (some 129)), some (vR (some (grO g))), some (vR (some (grO to))), some (vI 0), some (vI 0), none, none, none, none] [] σ (fun r σ' => r = some (vI e) ∧ ∃ W2 R2 sg, PX σ0 W2 R2 σ' ∧ hh = h0 ++ sg.flatten ∧ FCY (grO to) 66 W W2 R R2 ∧ (e = 0 → XM K (T + 192) U W2 R2 Q ∧ CGD W2 R2 P g to sg ∧ (sg.length : Int) = P 2334 g ∧ SGK P g sg) ∧ (¬ e = 0 → XM K (T + 400) U W2 R2 (kDrops Q sg.flatten) ∧ CGD W2 R2 P g to [])) := fun σ hP => by
    refine hlo σ hP ?_
    clear hP
    intro σ V2 V4 sg k2 l5 l6 l7 l8 hP hX2 hE hD hs8 hok hF
    have hX3 : XM K (T + 192) U V2 V4 Q := hX2.mono (by omega)
    have d1 := hD.1.1
    obtain ⟨nn, hnn⟩ : ∃ q : Int, (sg.length : Int) = q := ⟨_, rfl⟩
    rw [hnn] at d1
    have hnr : 0 ≤ nn ∧ nn ≤ 8 := by omega
    by_cases q : e = 0
    · subst q
      obtain ⟨o1, o2⟩ := hok rfl
      have eid : rU V2 (grO to) 2097 nn = V2 := rU_same d1
      have hfin : ∃ W2 R2 sg, PX σ0 W2 R2 σ ∧ hh = h0 ++ sg.flatten ∧ FCY (grO to) 66 W W2 R R2 ∧ ((0 : Int) = 0 → XM K (T + 192) U W2 R2 Q ∧ CGD W2 R2 P g to sg ∧ (sg.length : Int) = P 2334 g ∧ SGK P g sg) ∧ (¬ (0 : Int) = 0 → XM K (T + 400) U W2 R2 (kDrops Q sg.flatten) ∧ CGD W2 R2 P g to []) := ⟨V2, V4, sg, hP, hE, hF, fun _ => ⟨hX3, hD, o1, o2⟩, fun c => absurd rfl c⟩
      have hend : ∀ (k2 : Int), WP fb (d + 9) 188 181 [some (vR (some 129)), some (vR (some (grO g))), some (vR (some (grO to))), some (vI 0), some (vI k2), l5, l6, l7, l8] [] σ (fun r σ' => r = some (vI 0) ∧ ∃ W2 R2 sg, PX σ0 W2 R2 σ' ∧ hh = h0 ++ sg.flatten ∧ FCY (grO to) 66 W W2 R R2 ∧ ((0 : Int) = 0 → XM K (T + 192) U W2 R2 Q ∧ CGD W2 R2 P g to sg ∧ (sg.length : Int) = P 2334 g ∧ SGK P g sg) ∧ (¬ (0 : Int) = 0 → XM K (T + 400) U W2 R2 (kDrops Q sg.flatten) ∧ CGD W2 R2 P g to [])) := fun k2 => by
        have hrt2 : ∀ σ : hM, PX σ0 (rU V2 (grO to) 2097 nn) V4 σ → ∃ W2 R2 sg, PX σ0 W2 R2 σ ∧ hh = h0 ++ sg.flatten ∧ FCY (grO to) 66 W W2 R R2 ∧ ((0 : Int) = 0 → XM K (T + 192) U W2 R2 Q ∧ CGD W2 R2 P g to sg ∧ (sg.length : Int) = P 2334 g ∧ SGK P g sg) ∧ (¬ (0 : Int) = 0 → XM K (T + 400) U W2 R2 (kDrops Q sg.flatten) ∧ CGD W2 R2 P g to []) := fun σ hP => by
          rw [eid] at hP
          exact ⟨V2, V4, sg, hP, hE, hF, fun _ => ⟨hX3, hD, o1, o2⟩, fun c => absurd rfl c⟩
        obtain ⟨ga, hga⟩ : ∃ q, grO g = q := ⟨_, rfl⟩
        obtain ⟨ga2, hga2⟩ : ∃ q, grO to = q := ⟨_, rfl⟩
        rw [hga] at hgo3
        rw [hga2] at hto3 d1
        simp only [hga2] at hrt2
        simp only [hga, hga2] at hrt2 ⊢
        refine x_lr (z := some ga2) T_188_181 rfl ?_
        refine x_li (z := 0) T_188_182 rfl ?_
        refine x_if T_188_183 (fun h => absurd (show ¬ (0 : Int) = 0 from h) (by decide)) (fun _ => ?_)
        refine x_lr (z := some ga2) T_188_186 rfl ?_
        refine x_gI (z := nn) T_188_187 (Or.inl F_3_1) (hP.o hto3) (Eq.trans (hP.gi hto3 (key := 2097) rfl) d1) ?_
        refine x_goto T_188_190 ?_
        refine z_pI hP T_188_194 F_3_1 hto3 (key := 2097) rfl (fun σ hP => ?_)
        refine x_li (z := 0) T_188_197 rfl ?_
        refine x_ri T_188_198 ?_
        exact ⟨rfl, hrt2 _ hP⟩
      obtain ⟨ga, hga⟩ : ∃ q, grO g = q := ⟨_, rfl⟩
      obtain ⟨ga2, hga2⟩ : ∃ q, grO to = q := ⟨_, rfl⟩
      rw [hga] at hgo3
      rw [hga2] at hto3 d1
      simp only [hga, hga2] at hend ⊢
      by_cases q2 : nn - 1 < 0
      · skip
        refine x_lr (z := some ga2) T_188_148 rfl ?_
        refine x_gI (z := nn) T_188_149 (Or.inl F_3_1) (hP.o hto3) (Eq.trans (hP.gi hto3 (key := 2097) rfl) d1) ?_
        refine x_ic T_188_152 ?_
        refine x_ib (w := (nn - 1)) T_188_153 (fun h => absurd h.1 (by decide)) (w32_id (by omega) (by omega)) ?_
        refine x_si (ls1 := [some (vR (some 129)), some (vR (some ga)), some (vR (some ga2)), some (vI 0), some (vI (nn - 1)), l5, l6, l7, l8]) T_188_154 rfl ?_
        refine x_li (z := (nn - 1)) T_188_156 rfl ?_
        refine x_if T_188_158 (fun _ => ?_) (fun h => absurd (show (nn - 1) < 0 by omega) h)
        exact hend _
      · skip
        refine x_lr (z := some ga2) T_188_148 rfl ?_
        refine x_gI (z := nn) T_188_149 (Or.inl F_3_1) (hP.o hto3) (Eq.trans (hP.gi hto3 (key := 2097) rfl) d1) ?_
        refine x_ic T_188_152 ?_
        refine x_ib (w := (nn - 1)) T_188_153 (fun h => absurd h.1 (by decide)) (w32_id (by omega) (by omega)) ?_
        refine x_si (ls1 := [some (vR (some 129)), some (vR (some ga)), some (vR (some ga2)), some (vI 0), some (vI (nn - 1)), l5, l6, l7, l8]) T_188_154 rfl ?_
        refine x_li (z := (nn - 1)) T_188_156 rfl ?_
        refine x_if T_188_158 (fun h => absurd (show (nn - 1) < 0 from h) (by omega)) (fun _ => ?_)
        refine x_li (z := 0) T_188_161 rfl ?_
        refine x_if T_188_162 (fun _ => ?_) (fun h => absurd (show (0 : Int) = 0 by decide) h)
        exact hend _
    · have h181 : ∀ (σ : hM) (V5 : qR) (V6 : rR) (k2 : Int), PX σ0 V5 V6 σ → XM K (T + 192 + 24 * (sg.length : Int)) U V5 V6 (kDrops Q sg.flatten) → CGD V5 V6 P g to sg → FA V2 V5 V4 V6 → WP fb (d + 9) 188 181 [some (vR (some 129)), some (vR (some (grO g))), some (vR (some (grO to))), some (vI e), some (vI k2), l5, l6, l7, l8] [] σ (fun r σ' => r = some (vI e) ∧ ∃ W2 R2 sg, PX σ0 W2 R2 σ' ∧ hh = h0 ++ sg.flatten ∧ FCY (grO to) 66 W W2 R R2 ∧ (e = 0 → XM K (T + 192) U W2 R2 Q ∧ CGD W2 R2 P g to sg ∧ (sg.length : Int) = P 2334 g ∧ SGK P g sg) ∧ (¬ e = 0 → XM K (T + 400) U W2 R2 (kDrops Q sg.flatten) ∧ CGD W2 R2 P g to [])) := fun σ V5 V6 k2 hP hX5 hD5 hA => by
        have hF5 : FCY (grO to) 66 W V5 R V6 := FCY_tr hF (FCY_fa hA)
        have hkd : KF (kDrops Q sg.flatten) P := KF_tr (KF_drops _ _) hkf
        have hNL5 : ∀ p : Int, 0 ≤ p → p < 8 → ¬ kDrops Q sg.flatten 2320 p = 0 → V6 (295 + 125 * p.toNat) 2201 ≠ some (grO to) := fun p p0 p1 hl => by
          rw [nsR_kf hkd 2320 _ rfl] at hl
          have hrp := prO_rng (p := p) ⟨p0, p1⟩
          have epp : prO p = 295 + 125 * p.toNat := rfl
          have w3 : ¬ (grO to ≤ 295 + 125 * p.toNat ∧ 295 + 125 * p.toNat < grO to + 66) := by
            have egg : grO to = 229 + 125 * to.toNat := rfl
            rcases Nat.lt_or_ge p.toNat to.toNat with q | q <;> omega
          rw [hF5.2 _ _ (Or.inl (by omega)) w3]
          exact hNL p p0 p1 hl
        have hX6 : XM K (T + 400) U (rU V5 (grO to) 2097 0) V6 (kDrops Q sg.flatten) := (hX5.cnt hto hNL5).mono (by omega)
        have hD6 : CGD (rU V5 (grO to) 2097 0) V6 P g to [] := ⟨⟨rU_s, (rU_k (by decide)).trans hD5.1.2⟩, hD5.2.1, hD5.2.2.1, fun k k0 k1 => absurd k1 (by show ¬ k < ((0 : Nat) : Int); omega)⟩
        have hF6 : FCY (grO to) 66 W (rU V5 (grO to) 2097 0) R V6 := FCY_tr hF5 ⟨fun x k _ _ _ _ c => if_neg (by omega), fun _ _ _ _ => rfl⟩
        have hrt2 : ∀ σ : hM, PX σ0 (rU V5 (grO to) 2097 0) V6 σ → ∃ W2 R2 sg, PX σ0 W2 R2 σ ∧ hh = h0 ++ sg.flatten ∧ FCY (grO to) 66 W W2 R R2 ∧ (e = 0 → XM K (T + 192) U W2 R2 Q ∧ CGD W2 R2 P g to sg ∧ (sg.length : Int) = P 2334 g ∧ SGK P g sg) ∧ (¬ e = 0 → XM K (T + 400) U W2 R2 (kDrops Q sg.flatten) ∧ CGD W2 R2 P g to []) := fun σ hP => ⟨_, V6, sg, hP, hE, hF6, fun c => absurd c q, fun _ => ⟨hX6, hD6⟩⟩
        obtain ⟨ga, hga⟩ : ∃ q, grO g = q := ⟨_, rfl⟩
        obtain ⟨ga2, hga2⟩ : ∃ q, grO to = q := ⟨_, rfl⟩
        rw [hga] at hgo3
        rw [hga2] at hto3
        simp only [hga2] at hrt2
        simp only [hga, hga2] at hrt2 ⊢
        refine x_lr (z := some ga2) T_188_181 rfl ?_
        refine x_li (z := e) T_188_182 rfl ?_
        refine x_if T_188_183 (fun _ => ?_) (fun h => absurd (show ¬ e = 0 by omega) h)
        refine x_ic T_188_193 ?_
        refine z_pI hP T_188_194 F_3_1 hto3 (key := 2097) rfl (fun σ hP => ?_)
        refine x_li (z := e) T_188_197 rfl ?_
        refine x_ri T_188_198 ?_
        exact ⟨rfl, hrt2 _ hP⟩
      have hbk := bk_loop (fb := fb) (d := d) (σ0 := σ0) (K := K) (U := U) (B := Q) (P0 := P) (l5 := l5) (l6 := l6) (l7 := l7) (l8 := l8) hto hg hs8 q sg.length (T + 192) σ V2 V4 (Nat.le_refl _) (by omega) hP (by rw [List.drop_length]; exact hX3) hD h181
      rw [hnn] at hbk
      obtain ⟨ga, hga⟩ : ∃ q, grO g = q := ⟨_, rfl⟩
      obtain ⟨ga2, hga2⟩ : ∃ q, grO to = q := ⟨_, rfl⟩
      rw [hga] at hgo3
      rw [hga2] at hto3 d1
      simp only [hga, hga2] at hbk ⊢
      refine x_lr (z := some ga2) T_188_148 rfl ?_
      refine x_gI (z := nn) T_188_149 (Or.inl F_3_1) (hP.o hto3) (Eq.trans (hP.gi hto3 (key := 2097) rfl) d1) ?_
      refine x_ic T_188_152 ?_
      refine x_ib (w := (nn - 1)) T_188_153 (fun h => absurd h.1 (by decide)) (w32_id (by omega) (by omega)) ?_
      refine x_si (ls1 := [some (vR (some 129)), some (vR (some ga)), some (vR (some ga2)), some (vI e), some (vI (nn - 1)), l5, l6, l7, l8]) T_188_154 rfl ?_
      exact hbk
  obtain ⟨ga, hga⟩ : ∃ q, grO g = q := ⟨_, rfl⟩
  obtain ⟨ga2, hga2⟩ : ∃ q, grO to = q := ⟨_, rfl⟩
  rw [hga] at hgo3
  rw [hga2] at hto3
  simp only [hga, hga2] at h5 ⊢
  refine CL_in mL_188 rfl ?_
  show WP fb _ 188 0 [some (vR (some 129)), some (vR (some ga)), some (vR (some ga2)), none, none, none, none, none, none] [] σ _
  refine x_ic T_188_0 ?_
  refine x_si (ls1 := [some (vR (some 129)), some (vR (some ga)), some (vR (some ga2)), some (vI 0), none, none, none, none, none]) T_188_1 rfl ?_
  refine x_ic T_188_2 ?_
  refine x_si (ls1 := [some (vR (some 129)), some (vR (some ga)), some (vR (some ga2)), some (vI 0), some (vI 0), none, none, none, none]) T_188_3 rfl ?_
  exact h5 σ hP
end XFK4
