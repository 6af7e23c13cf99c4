/-! The class's fork. -/
section XFK9
variable {fb : Bool} {d b c n a0 a1 a : Nat} {σ0 σ : hM} {W W0 W1 W2 V P P0 Q A B X Y : qR} {R R0 R1 R2 V3 : rR} {i j k x y t z v s e w g u p q r pt o K T U N C to gg nf v3 v4 rt how : Int} {l l0 lo dl dq wd : List Int} {vl : Int → List Int} {kk : Nat} {sg : List (List Ch)} {h : List Ch} {mm : Int → Int}
theorem fgR_fr (h1 : ∀ k, Q 2320 k = P 2320 k) (h2 : ∀ k, Q 2323 k = P 2323 k) : ∀ (m : Nat) (k : Int), fgR Q m k = fgR P m k
  | 0, _ => rfl
  | m + 1, k => by
    show (if qPn Q k 8 0 ≤ 0 then k else fgR Q m (k + 1)) = if qPn P k 8 0 ≤ 0 then k else fgR P m (k + 1)
    rw [qPn_fr h1 h2, fgR_fr h1 h2 m (k + 1)]
theorem qFg_kf (h : KF Q P) : qFg Q = qFg P := fgR_fr (fun k => nsR_kf h 2320 k rfl) (fun k => nsR_kf h 2323 k rfl) 8 0
theorem sm_len : ∀ (sg : List (List Ch)) (k : Int), (∀ k' : Nat, k' < sg.length → ((sg.getD k' []).length : Int) = mm (k + (k' : Int))) → sm mm k sg.length = (sg.flatten.length : Int)
  | [], _, _ => rfl
  | s :: r, k, hl => by
    have h0 : (s.length : Int) = mm (k + ((0 : Nat) : Int)) := hl 0 (by rw [List.length_cons]; omega)
    rw [show k + ((0 : Nat) : Int) = k by omega] at h0
    have := sm_len r (k + 1) (fun k' hk => by
      have := hl (k' + 1) (by rw [List.length_cons]; omega)
      rw [show k + ((k' + 1 : Nat) : Int) = k + 1 + (k' : Int) by omega] at this
      exact this)
    show mm k + sm mm (k + 1) r.length = _
    rw [this, List.flatten_cons, List.length_append]
    omega
theorem gCpG_oth {hf : Int → Int} {g2 : Int} (hI : IV false T U P) (hg : 0 ≤ g ∧ g < 8) (hto : 0 ≤ to ∧ to < 8) (hne : g ≠ to) (hn : g2 ≠ to) (h0 : 0 ≤ g2 ∧ g2 < 8) : grQ P (gCpG hf P g to) g2 := by
  have hpb : 0 ≤ P 2334 g ∧ P 2334 g ≤ 8 := IV.a hI 2334 0 8 rfl rfl rfl (by omega) (by omega)
  have hmm : ∀ y : Int, 0 ≤ y → y < 8 → 0 ≤ P 2337 (8 * g + y) ∧ P 2337 (8 * g + y) ≤ 6 := fun y y0 y1 => IV.a hI 2337 0 64 rfl rfl rfl (by omega) (by omega)
  have e : ∀ (f : Nat) (i : Int), f ≠ 2334 → rU P 2334 to (P 2334 g) f i = P f i := fun f i h => rU_f h
  unfold gCpG
  refine ⟨?_, fun q q0 q1 => ⟨?_, ?_, ?_⟩, fun m m0 m1 => ⟨?_, ?_, ?_, ?_, ?_⟩⟩
  · rw [cgP_rf _ _ _ _ 2334 _ rfl]
    exact rU_k hn
  all_goals first
    | (rw [cgP_outp rfl _ _ _ _ (by omega)]; exact e _ _ (by decide))
    | (rw [cgP_out (mm := fun y => P 2337 (8 * g + y)) rfl hg hto hne hmm _ 0 1 _ (by decide) (by omega) (fun y _ _ => e _ _ (by decide)) (by omega)]; exact e _ _ (by decide))
/-- the copied group, as the reference has it -/
theorem fk_cpg {hm : List Ch} {W3 : qR} {R3 : rR} {T2 : Int} (hX : XW K T U W R P) (hg : 0 ≤ g ∧ g < 8) (hto : 0 ≤ to ∧ to < 8) (hne : g ≠ to) (hq0 : qPn P to 8 0 = 0) (hkf : KF Q P) (hT : T ≤ T2) (hM : XM K T2 U W3 R3 Q) (hF : FCY (grO to) 66 W W3 R R3) (hD : CGD W3 R3 P g to sg) (hl : (sg.length : Int) = P 2334 g) (hS : SGK P g sg) (hnf : 0 ≤ nf ∧ nf ≤ 47) : XW K T2 U W3 R3 (gCpG (hfL ([(0, nf, 0, 128, -1)] ++ sg.flatten)) Q g to) := by
  have hI := hX.1.2.2.2.1.iv
  have hIQ := hM.2.2.1.iv
  have hns := fun (f : Nat) (k : Int) (hf : nsR.elem f = true) => nsR_kf hkf f k hf
  have hrt := grO_rng hto
  have hlen : ∀ k' : Nat, k' < sg.length → ((sg.getD k' []).length : Int) = P 2337 (8 * g + (0 + (k' : Int))) := fun k' hk => by
    have := (hS (k' : Int) (by omega) (by omega)).1
    rw [Int.toNat_natCast] at this
    rw [Int.zero_add]
    exact this
  have hsm := sm_len (mm := fun y => P 2337 (8 * g + y)) sg 0 hlen
  have hch : ∀ c ∈ sg.flatten, chR c := fun c hc => by
    obtain ⟨s, hs1, hs2⟩ := List.mem_flatten.mp hc
    obtain ⟨k, hk, hke⟩ := List.getElem_of_mem hs1
    obtain ⟨i, -, -, -, -, -, -, h6⟩ := hD.2.2.2 (k : Int) (by omega) (by omega)
    rw [Int.toNat_natCast, List.getD_eq_getElem?_getD, List.getElem?_eq_getElem hk] at h6
    exact h6 c (by rw [Option.getD_some, hke]; exact hs2)
  have hsQ : sm (fun k => Q 2337 (8 * g + k)) 0 (Q 2334 g).toNat = sm (fun k => P 2337 (8 * g + k)) 0 sg.length := by
    rw [hns 2334 _ rfl, show (P 2334 g).toNat = sg.length by omega]
    exact sm_congr _ _ (fun i _ _ => hns 2337 _ rfl)
  obtain ⟨o1, o2, -⟩ := gCpG_ok (hf := hfL ([(0, nf, 0, 128, -1)] ++ sg.flatten)) (L := 1 + (sg.flatten.length : Int)) hM.2.2.1 hg hto hne (fun i i0 i1 => by
    unfold hfL
    by_cases c : i = 0
    · subst c
      exact hnf
    · rw [List.getD_eq_getElem?_getD, List.getElem?_append_right (by show 1 ≤ _; omega)]
      have hi : i.toNat - ([(0, nf, 0, 128, -1)] : List Ch).length < sg.flatten.length := by show i.toNat - 1 < _; omega
      rw [List.getElem?_eq_getElem hi]
      exact (hch _ (List.getElem_mem hi)).2.1) (by rw [hsQ, hsm]; omega) (hX.1.2.2.2.2.2.2.of hkf)
  obtain ⟨Y, hY⟩ : ∃ Y, gCpG (hfL ([(0, nf, 0, 128, -1)] ++ sg.flatten)) Q g to = Y := ⟨_, rfl⟩
  have hrf : RF (2334 :: ptR) Y Q := by rw [← hY]; exact gCpG_rf
  have hXG : XGR W3 R3 Y to := by
    rw [← hY]
    exact XGR_cpg hI hg hto hne hD hS hl (hns 2334 _ rfl) (fun f i hf => hns f i (by
      rcases hf with hf | hf
      · rcases mbR_5 hf with e | e | e | e | e <;> (subst e; rfl)
      · rcases pcR_3 hf with e | e | e <;> (subst e; rfl))) (by
      rw [qPn_fr (fun k => hns 2320 k rfl) (fun k => hns 2323 k rfl)]
      exact hq0)
  have hot : ∀ g2 : Int, 0 ≤ g2 → g2 < 8 → g2 ≠ to → grQ Q Y g2 := fun g2 a b c => by
    rw [← hY]
    exact gCpG_oth hIQ hg hto hne c ⟨a, b⟩
  rw [hY] at o1 o2 ⊢
  have hL3 : ∀ p : Int, 0 ≤ p → p < 8 → ¬ Q 2320 p = 0 → R3 (295 + 125 * p.toNat) 2201 = some (grO (Q 2323 p)) := fun p p0 p1 hl => by
    rw [hns 2320 _ rfl] at hl
    have hrp := prO_rng (p := p) ⟨p0, p1⟩
    have epp : prO p = 295 + 125 * p.toNat := rfl
    have w3 : ¬ (grO to ≤ 295 + 125 * p.toNat ∧ 295 + 125 * p.toNat < grO to + 66) := by
      have egg : grO to = 229 + 125 * to.toNat := rfl
      rcases Nat.lt_or_ge p.toNat to.toNat with q | q <;> omega
    rw [hns 2323 _ rfl, hF.2 _ _ (Or.inl (by omega)) w3]
    exact ((hX.1.2.2.1.1 p p0 p1).2.2.2 hl).2.2.1
  have hMG := hM.grf (Q := Y) hL3 hto hrf o1 GRF_rfl hXG.1 (fun g2 a b c => (hot g2 a b c).1)
  have hN := hX.1.2.2.1.grf (Q := Y) hI hto (fun f k a b => (hrf f k b).trans (hns f k a)) (fun x k a b c e => hF.1 x k a (Or.inl b) (by omega) e c) (fun x k a b c => hF.2 x k (Or.inl b) c) (fun g2 a b c => grQ_tr (grQ_kf hkf) (hot g2 a b c)) hXG
  exact hMG.xw hN (hX.1.2.2.2.2.2.1.fr (fun k => (hrf 2320 k rfl).trans (hns _ _ rfl)) (fun k => (hrf 2327 k rfl).trans (hns _ _ rfl)) (fun k => (hrf 2330 k rfl).trans (hns _ _ rfl))) o2
/-- the copy that did not come about left nothing -/
theorem fk_non {W3 : qR} {R3 : rR} {T2 : Int} (hX : XW K T U W R P) (hto : 0 ≤ to ∧ to < 8) (hq0 : qPn P to 8 0 = 0) (hp0 : P 2334 to = 0) (hkf : KF Q P) (hT : T ≤ T2) (hM : XM K T2 U W3 R3 Q) (hF : FCY (grO to) 66 W W3 R R3) (hD : CGD W3 R3 P g to []) : XW K T2 U W3 R3 Q := by
  have hI := hX.1.2.2.2.1.iv
  have hns := fun (f : Nat) (k : Int) (hf : nsR.elem f = true) => nsR_kf hkf f k hf
  have hrt := grO_rng hto
  obtain ⟨⟨d1, d2⟩, d3, d4, -⟩ := hD
  have hXG : XGR W3 R3 Q to := ⟨d1.trans ((hns 2334 _ rfl).trans hp0).symm, by
    rw [d2, qPn_fr (fun k => hns 2320 k rfl) (fun k => hns 2323 k rfl)]
    exact hq0.symm, d3, d4, fun k k0 k1 => by
    rw [hns 2334 _ rfl, hp0] at k1
    omega⟩
  have hN := hX.1.2.2.1.grf (Q := Q) hI hto (fun f k a _ => hns f k a) (fun x k a b c e => hF.1 x k a (Or.inl b) (by omega) e c) (fun x k a b c => hF.2 x k (Or.inl b) c) (fun g2 a b c => grQ_kf hkf) hXG
  exact hM.xw hN (hX.1.2.2.2.2.2.1.fr (fun k => hns _ _ rfl) (fun k => hns _ _ rfl) (fun k => hns _ _ rfl)) (hX.1.2.2.2.2.2.2.of hkf)
end XFK9
