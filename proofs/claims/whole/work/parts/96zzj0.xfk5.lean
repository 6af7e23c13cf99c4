/-! The class's kernel: a group that was copied is the reference's. -/
section XFK5
variable {fb : Bool} {d b c n a0 a1 y5 y6 i6 ga ga2 m2 : Nat} {σ0 σ : hM} {W W1 W2 V P P0 Q B X : qR} {R R1 R2 V3 : rR} {i j k x y t z v s e w g u p pt pa dr sv K T U N C fr mk n6 to T0 old : Int} {l l0 lo nm M wd : List Int} {c1 c2 ch : Ch} {h h0 h2 : List Ch} {sg : List (List Ch)} {hf mm : Int → Int}
theorem cgM_x {f : Nat} (hm : mbR.elem f = true) (hne : f ≠ 2339) (ho : old ≠ pt) : ∀ (m : Nat) (j i : Int) (P : qR), 0 ≤ j → j + m ≤ 6 → cgM hf old pt m j i P f x = if 6 * pt + j ≤ x ∧ x < 6 * pt + j + m then P f (6 * old + (x - 6 * pt)) else P f x
  | 0, j, i, P, _, _ => by rw [if_neg (by omega)]; rfl
  | m + 1, j, i, P, h0, h1 => by
    have e : ∀ x, rU (gMv P (6 * old + j) (6 * pt + j)) 2339 (6 * pt + j) (hf i) f x = if x = 6 * pt + j then P f (6 * old + j) else P f x := fun x => (rU_f hne).trans (gMv_at hm)
    show cgM hf old pt m (j + 1) (i + 1) (rU (gMv P (6 * old + j) (6 * pt + j)) 2339 (6 * pt + j) (hf i)) f x = _
    rw [cgM_x hm hne ho m (j + 1) (i + 1) _ (by omega) (by omega), e, e]
    by_cases q2 : 6 * pt + (j + 1) ≤ x ∧ x < 6 * pt + (j + 1) + m
    · rw [if_pos q2, if_neg (show ¬ 6 * old + (x - 6 * pt) = 6 * pt + j by omega), if_pos ⟨by omega, by omega⟩]
    · rw [if_neg q2]
      by_cases q : x = 6 * pt + j
      · rw [if_pos q, if_pos ⟨by omega, by omega⟩, q, show 6 * pt + j - 6 * pt = j by omega]
      · rw [if_neg q, if_neg (by omega)]
theorem cgM_fid : ∀ (m : Nat) (j i : Int) (P : qR), 0 ≤ j → j + m ≤ 6 → cgM hf old pt m j i P 2339 x = if 6 * pt + j ≤ x ∧ x < 6 * pt + j + m then hf (i + (x - 6 * pt - j)) else P 2339 x
  | 0, j, i, P, _, _ => by rw [if_neg (by omega)]; rfl
  | m + 1, j, i, P, h0, h1 => by
    have e : ∀ x, x ≠ 6 * pt + j → rU (gMv P (6 * old + j) (6 * pt + j)) 2339 (6 * pt + j) (hf i) 2339 x = P 2339 x := fun x hx => (rU_k hx).trans ((gMv_at rfl).trans (if_neg hx))
    show cgM hf old pt m (j + 1) (i + 1) (rU (gMv P (6 * old + j) (6 * pt + j)) 2339 (6 * pt + j) (hf i)) 2339 x = _
    rw [cgM_fid m (j + 1) (i + 1) _ (by omega) (by omega)]
    by_cases q2 : 6 * pt + (j + 1) ≤ x ∧ x < 6 * pt + (j + 1) + m
    · rw [if_pos q2, if_pos ⟨by omega, by omega⟩, show i + 1 + (x - 6 * pt - (j + 1)) = i + (x - 6 * pt - j) by omega]
    · rw [if_neg q2]
      by_cases q : x = 6 * pt + j
      · rw [q, rU_s, if_pos ⟨by omega, by omega⟩, show i + (6 * pt + j - 6 * pt - j) = i by omega]
      · rw [e x q, if_neg (by omega)]
theorem cg1_pc {f : Nat} (hf2 : pcR.elem f = true) : cg1 P old pt f x = if x = pt then P f old else P f x := by
  rcases pcR_3 hf2 with q | q | q <;> (subst q; by_cases q : x = pt)
  all_goals simp [cg1, rU, q]
theorem cg1_o {f : Nat} (h : pcR.elem f = false) : cg1 P old pt f x = P f x := by
  have h1 : f ≠ 2335 := fun e => by rw [e] at h; exact absurd h (by decide)
  have h2 : f ≠ 2336 := fun e => by rw [e] at h; exact absurd h (by decide)
  have h3 : f ≠ 2337 := fun e => by rw [e] at h; exact absurd h (by decide)
  exact (rU_f h3).trans ((rU_f h2).trans (rU_f h1))
theorem mbR_pc {f : Nat} (h : mbR.elem f = true) : pcR.elem f = false := by
  rcases mbR_5 h with q | q | q | q | q <;> (subst q; rfl)
theorem pcR_mb {f : Nat} (h : pcR.elem f = true) : mbR.elem f = false := by
  rcases pcR_3 h with q | q | q <;> (subst q; rfl)
theorem cgP_outp {f : Nat} (hf2 : pcR.elem f = true) : ∀ (m : Nat) (k i : Int) (P : qR), ¬ (8 * to + k ≤ x ∧ x < 8 * to + k + m) → cgP hf g to m k i P f x = P f x
  | 0, _, _, _, _ => rfl
  | m + 1, k, i, P, h => by
    show cgP hf g to m (k + 1) (i + P 2337 (8 * g + k)) (cgM hf (8 * g + k) (8 * to + k) (P 2337 (8 * g + k)).toNat 0 i (cg1 P (8 * g + k) (8 * to + k))) f x = P f x
    rw [cgP_outp hf2 m (k + 1) _ _ (by omega), cgM_rf _ _ _ _ f x (pcR_mb hf2), cg1_pc hf2, if_neg (by omega)]
theorem cgM_o {f : Nat} (hm : mbR.elem f = true) (ho : old ≠ pt) {m : Nat} (hm6 : m ≤ 6) (hx : ¬ (6 * pt ≤ x ∧ x < 6 * pt + 6)) : cgM hf old pt m 0 i P f x = P f x := by
  by_cases q : f = 2339
  · subst q
    rw [cgM_fid m 0 i P (by decide) (by omega), if_neg (by omega)]
  · rw [cgM_x hm q ho m 0 i P (by decide) (by omega), if_neg (by omega)]
theorem cgP_out {f : Nat} (hm : mbR.elem f = true) (hg : 0 ≤ g ∧ g < 8) (hto : 0 ≤ to ∧ to < 8) (hne : g ≠ to) (hmm : ∀ y : Int, 0 ≤ y → y < 8 → 0 ≤ mm y ∧ mm y ≤ 6) : ∀ (m : Nat) (k i : Int) (P : qR), 0 ≤ k → k + m ≤ 8 → (∀ y : Int, 0 ≤ y → y < 8 → P 2337 (8 * g + y) = mm y) → ¬ (6 * (8 * to + k) ≤ x ∧ x < 6 * (8 * to + k + m)) → cgP hf g to m k i P f x = P f x
  | 0, _, _, _, _, _, _, _ => rfl
  | m + 1, k, i, P, h0, h1, hP, h => by
    have e1 := hP k h0 (by omega)
    have e2 := hmm k h0 (by omega)
    show cgP hf g to m (k + 1) (i + P 2337 (8 * g + k)) (cgM hf (8 * g + k) (8 * to + k) (P 2337 (8 * g + k)).toNat 0 i (cg1 P (8 * g + k) (8 * to + k))) f x = P f x
    rw [cgP_out hm hg hto hne hmm m (k + 1) _ _ (by omega) (by omega) (fun y y0 y1 => by
      rw [cgM_rf _ _ _ _ 2337 _ rfl, cg1_pc rfl, if_neg (by omega)]
      exact hP y y0 y1) (by omega), cgM_o hm (by omega) (by omega) (by omega), cg1_o (mbR_pc hm)]
/-- the rows of the point y -/
theorem cgP_rows (hg : 0 ≤ g ∧ g < 8) (hto : 0 ≤ to ∧ to < 8) (hne : g ≠ to) (hmm : ∀ y : Int, 0 ≤ y → y < 8 → 0 ≤ mm y ∧ mm y ≤ 6) : ∀ (m : Nat) (k i : Int) (P : qR), 0 ≤ k → k + m ≤ 8 → (∀ y : Int, 0 ≤ y → y < 8 → P 2337 (8 * g + y) = mm y) → ∀ yn : Nat, yn < m → (∀ f, pcR.elem f = true → cgP hf g to m k i P f (8 * to + (k + (yn : Int))) = P f (8 * g + (k + (yn : Int)))) ∧ (∀ t : Int, 0 ≤ t → t < mm (k + (yn : Int)) → (∀ f, mbR.elem f = true → f ≠ 2339 → cgP hf g to m k i P f (6 * (8 * to + (k + (yn : Int))) + t) = P f (6 * (8 * g + (k + (yn : Int))) + t)) ∧ cgP hf g to m k i P 2339 (6 * (8 * to + (k + (yn : Int))) + t) = hf (i + sm mm k yn + t))
  | 0, _, _, _, _, _, _, yn, h => absurd h (Nat.not_lt_zero _)
  | m + 1, k, i, P, h0, h1, hP, yn, hy => by
    have e1 := hP k h0 (by omega)
    have e2 := hmm k h0 (by omega)
    have hP' : ∀ y : Int, 0 ≤ y → y < 8 → cgM hf (8 * g + k) (8 * to + k) (P 2337 (8 * g + k)).toNat 0 i (cg1 P (8 * g + k) (8 * to + k)) 2337 (8 * g + y) = mm y := fun y y0 y1 => by
      rw [cgM_rf _ _ _ _ 2337 _ rfl, cg1_pc rfl, if_neg (by omega)]
      exact hP y y0 y1
    have eU : cgP hf g to (m + 1) k i P = cgP hf g to m (k + 1) (i + P 2337 (8 * g + k)) (cgM hf (8 * g + k) (8 * to + k) (P 2337 (8 * g + k)).toNat 0 i (cg1 P (8 * g + k) (8 * to + k))) := rfl
    rw [eU]
    cases yn with
    | zero =>
      rw [show k + ((0 : Nat) : Int) = k by omega]
      refine ⟨fun f hf2 => ?_, fun t t0 t1 => ⟨fun f hf2 hfn => ?_, ?_⟩⟩
      · rw [cgP_outp hf2 m (k + 1) _ _ (by omega), cgM_rf _ _ _ _ f _ (pcR_mb hf2), cg1_pc hf2, if_pos rfl]
      · rw [cgP_out hf2 hg hto hne hmm m (k + 1) _ _ (by omega) (by omega) hP' (by omega), cgM_x hf2 hfn (by omega) _ 0 i _ (by decide) (by omega), if_pos ⟨by omega, by omega⟩, cg1_o (mbR_pc hf2), show 6 * (8 * g + k) + (6 * (8 * to + k) + t - 6 * (8 * to + k)) = 6 * (8 * g + k) + t by omega]
      · rw [cgP_out rfl hg hto hne hmm m (k + 1) _ _ (by omega) (by omega) hP' (by omega), cgM_fid _ 0 i _ (by decide) (by omega), if_pos ⟨by omega, by omega⟩, show sm mm k 0 = 0 from rfl, show i + (6 * (8 * to + k) + t - 6 * (8 * to + k) - 0) = i + 0 + t by omega]
    | succ yn =>
      obtain ⟨a1, a2⟩ := cgP_rows hg hto hne hmm m (k + 1) (i + P 2337 (8 * g + k)) _ (by omega) (by omega) hP' yn (by omega)
      rw [show k + 1 + (yn : Int) = k + ((yn + 1 : Nat) : Int) by omega] at a1 a2
      refine ⟨fun f hf2 => ?_, fun t t0 t1 => ⟨fun f hf2 hfn => ?_, ?_⟩⟩
      · rw [a1 f hf2, cgM_rf _ _ _ _ f _ (pcR_mb hf2), cg1_pc hf2, if_neg (by omega)]
      · have e6 := hmm (k + ((yn + 1 : Nat) : Int)) (by omega) (by omega)
        rw [(a2 t t0 t1).1 f hf2 hfn, cgM_o hf2 (by omega) (by omega) (by omega), cg1_o (mbR_pc hf2)]
      · rw [(a2 t t0 t1).2, e1, show sm mm k (yn + 1) = mm k + sm mm (k + 1) yn from rfl]
        congr 1
        omega
theorem sm_nn (hmm : ∀ y : Int, 0 ≤ y → 0 ≤ mm y) : ∀ (m : Nat) (k : Int), 0 ≤ k → 0 ≤ sm mm k m
  | 0, _, _ => Int.le_refl 0
  | m + 1, k, h => by
    have := sm_nn hmm m (k + 1) (by omega)
    have := hmm k h
    show 0 ≤ mm k + sm mm (k + 1) m
    omega
theorem flat_get : ∀ (sg : List (List Ch)) (k : Int) (y t : Nat), (∀ k' : Nat, k' < sg.length → ((sg.getD k' []).length : Int) = mm (k + (k' : Int))) → y < sg.length → t < (sg.getD y []).length → 0 ≤ sm mm k y ∧ sg.flatten.getD ((sm mm k y).toNat + t) c0 = (sg.getD y []).getD t c0
  | [], _, _, _, _, h, _ => absurd h (Nat.not_lt_zero _)
  | s :: r, k, 0, t, hl, _, ht => by
    refine ⟨Int.le_refl 0, ?_⟩
    have ht : t < s.length := ht
    rw [show (sm mm k 0).toNat + t = t by show (0 : Int).toNat + t = t; omega, List.flatten_cons]
    show (s ++ r.flatten).getD t c0 = s.getD t c0
    rw [List.getD_eq_getElem?_getD, List.getD_eq_getElem?_getD, List.getElem?_append_left ht]
  | s :: r, k, y + 1, t, hl, hy, ht => by
    have h0 := hl 0 (by rw [List.length_cons]; omega)
    have h0 : (s.length : Int) = mm (k + ((0 : Nat) : Int)) := h0
    rw [show k + ((0 : Nat) : Int) = k by omega] at h0
    obtain ⟨g1, g2⟩ := flat_get r (k + 1) y t (fun k' hk => by
      have := hl (k' + 1) (by rw [List.length_cons]; omega)
      rw [show k + ((k' + 1 : Nat) : Int) = k + 1 + (k' : Int) by omega] at this
      exact this) (by rw [List.length_cons] at hy; omega) ht
    have e : sm mm k (y + 1) = mm k + sm mm (k + 1) y := rfl
    refine ⟨by rw [e]; omega, ?_⟩
    rw [e, List.flatten_cons, List.getD_eq_getElem?_getD, List.getElem?_append_right (by omega), ← List.getD_eq_getElem?_getD, show (mm k + sm mm (k + 1) y).toNat + t - s.length = (sm mm (k + 1) y).toNat + t by omega, g2]
    rfl
theorem nwL_get : ∀ (r : List Ch) (j : Int) (i : Nat), i < r.length → (nwL P fr mk r j).getD i nw0 = chN (r.getD i c0) (if mk = 1 ∨ ¬ P 2342 (6 * fr + (j + (i : Int))) = 0 then 1 else 0)
  | [], _, _, h => absurd h (Nat.not_lt_zero _)
  | c :: r, j, 0, _ => by
    rw [show j + ((0 : Nat) : Int) = j by omega]
    rfl
  | c :: r, j, i + 1, h => by
    have := nwL_get r (j + 1) i (Nat.lt_of_succ_lt_succ h)
    rw [show j + 1 + (i : Int) = j + ((i + 1 : Nat) : Int) by omega] at this
    exact this
/-- the copied group stands for the reference's rows -/
theorem XGR_cpg {rt : Ch} (hI : IV false T U P0) (hg : 0 ≤ g ∧ g < 8) (hto : 0 ≤ to ∧ to < 8) (hne : g ≠ to) (hD : CGD W R P0 g to sg) (hS : SGK P0 g sg) (hl : (sg.length : Int) = P0 2334 g) (hX1 : X 2334 g = P0 2334 g) (hX2 : ∀ (f : Nat) (i : Int), (mbR.elem f = true ∨ pcR.elem f = true) → X f i = P0 f i) (hq : qPn X to 8 0 = 0) : XGR W R (gCpG (hfL ([rt] ++ sg.flatten)) X g to) to := by
  have hpb : 0 ≤ P0 2334 g ∧ P0 2334 g ≤ 8 := IV.a hI 2334 0 8 rfl rfl rfl (by omega) (by omega)
  have hmm : ∀ y : Int, 0 ≤ y → y < 8 → 0 ≤ P0 2337 (8 * g + y) ∧ P0 2337 (8 * g + y) ≤ 6 := fun y y0 y1 => IV.a hI 2337 0 64 rfl rfl rfl (by omega) (by omega)
  obtain ⟨⟨d1, d2⟩, d3, d4, d5⟩ := hD
  have hrg := grO_rng hto
  have hrf := cgP_rf (hf := hfL ([rt] ++ sg.flatten)) (g := g) (to := to) (X 2334 g).toNat 0 1 (rU X 2334 to (X 2334 g))
  have eG : gCpG (hfL ([rt] ++ sg.flatten)) X g to = cgP (hfL ([rt] ++ sg.flatten)) g to (X 2334 g).toNat 0 1 (rU X 2334 to (X 2334 g)) := rfl
  obtain ⟨Q, hQ⟩ : ∃ Q, gCpG (hfL ([rt] ++ sg.flatten)) X g to = Q := ⟨_, rfl⟩
  rw [← eG, hQ] at hrf
  have eP : Q 2334 to = P0 2334 g := by rw [hrf 2334 _ rfl, rU_s, hX1]
  rw [hQ]
  refine ⟨by rw [eP, ← hl]; exact d1, ?_, d3, d4, fun k k0 k1 => ?_⟩
  · rw [d2, qPn_fr (P := X) (fun k => (hrf 2320 k rfl).trans (rU_f (by decide))) (fun k => (hrf 2323 k rfl).trans (rU_f (by decide)))]
    exact hq.symm
  · rw [eP] at k1
    have eX : ∀ (f : Nat) (i : Int), (mbR.elem f = true ∨ pcR.elem f = true) → rU X 2334 to (X 2334 g) f i = P0 f i := fun f i h => (rU_f (fun e => by rw [e] at h; exact absurd h (by decide))).trans (hX2 f i h)
    have hrows := cgP_rows (hf := hfL ([rt] ++ sg.flatten)) (mm := fun y => P0 2337 (8 * g + y)) hg hto hne hmm (X 2334 g).toNat 0 1 (rU X 2334 to (X 2334 g)) (by decide) (by rw [hX1]; omega) (fun y _ _ => eX _ _ (Or.inr rfl)) k.toNat (by rw [hX1]; omega)
    rw [← eG, hQ, show (0 : Int) + (k.toNat : Int) = k by omega] at hrows
    obtain ⟨r1, r2⟩ := hrows
    obtain ⟨i, hi, b1, b2, b3, b4, b5, b6⟩ := d5 k k0 (by omega)
    obtain ⟨s1, s2⟩ := hS k k0 (by omega)
    have h2131 := b4.1
    rw [nwL_len, s1] at h2131
    refine ⟨_, b1, by rw [r1 _ rfl, eX _ _ (Or.inr rfl)]; exact b2, by rw [r1 _ rfl, eX _ _ (Or.inr rfl)]; exact b3, by rw [r1 _ rfl, eX _ _ (Or.inr rfl)]; exact h2131, fun j j0 j1 => ?_⟩
    rw [r1 _ rfl, eX _ _ (Or.inr rfl)] at j1
    obtain ⟨r3, r4⟩ := r2 j j0 j1
    obtain ⟨c, c1, m1, m2, m3, m4, m5⟩ := b4.2.2 j j0 (by rw [nwL_len, s1]; exact j1)
    obtain ⟨t1, t2, t3⟩ := s2 j.toNat (by omega)
    rw [nwL_get _ _ _ (by omega)] at m1 m2 m3 m4 m5
    have hb5 : 0 ≤ P0 2342 (6 * (8 * g + k) + j) ∧ P0 2342 (6 * (8 * g + k) + j) ≤ 1 := IV.a hI 2342 2 384 rfl rfl rfl (by omega) (by have := hmm k k0 (by omega); omega)
    rw [show ((j.toNat : Nat) : Int) = j by omega] at t1 t2 t3
    have efid : hfL ([rt] ++ sg.flatten) (1 + sm (fun y => P0 2337 (8 * g + y)) 0 k.toNat + j) = ((sg.getD k.toNat []).getD j.toNat c0).2.1 := by
      obtain ⟨w1, w2⟩ := flat_get (mm := fun y => P0 2337 (8 * g + y)) sg 0 k.toNat j.toNat (fun k' hk => by
        have := (hS (k' : Int) (by omega) (by omega)).1
        rw [Int.toNat_natCast] at this
        rw [Int.zero_add]
        exact this) (by omega) (by omega)
      unfold hfL
      rw [List.getD_eq_getElem?_getD, List.getElem?_append_right (by show 1 ≤ _; omega), ← List.getD_eq_getElem?_getD]
      rw [show (1 + sm (fun y => P0 2337 (8 * g + y)) 0 k.toNat + j).toNat - ([rt] : List Ch).length = (sm (fun y => P0 2337 (8 * g + y)) 0 k.toNat).toNat + j.toNat by show _ - 1 = _; omega, w2]
    refine ⟨c, c1, by rw [r3 _ rfl (by decide), eX _ _ (Or.inl rfl)]; exact m1.trans t1, by rw [r4, efid]; exact m2, by rw [r3 _ rfl (by decide), eX _ _ (Or.inl rfl)]; exact m3.trans t2, ?_, ?_⟩
    · rw [r3 _ rfl (by decide), eX _ _ (Or.inl rfl), m4, ← t3]
      rfl
    · rw [r3 _ rfl (by decide), eX _ _ (Or.inl rfl), m5]
      show (if (0 : Int) = 1 ∨ ¬ P0 2342 (6 * (8 * g + k) + (0 + (j.toNat : Int))) = 0 then (1 : Int) else 0) = _
      rw [show (0 : Int) + (j.toNat : Int) = j by omega]
      by_cases q : P0 2342 (6 * (8 * g + k) + j) = 0
      · rw [q, if_neg (fun c => by rcases c with c | c; exact absurd c (by decide); exact c rfl)]
      · rw [if_pos (Or.inr q)]
        omega
end XFK5
