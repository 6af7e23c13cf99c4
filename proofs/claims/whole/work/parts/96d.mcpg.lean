/-! The points of a group, copied. -/
theorem T_387_0 : hTab 387 0 = some ((3, 0, 2, []), 1) := rfl
theorem T_387_1 : hTab 387 1 = some ((24, 17, Int.ofNat 64, []), 4) := rfl
theorem T_387_4 : hTab 387 4 = some ((3, 2, 0, []), 5) := rfl
theorem T_387_5 : hTab 387 5 = some ((3, 0, 2, []), 6) := rfl
theorem T_387_6 : hTab 387 6 = some ((24, 17, Int.ofNat 64, []), 9) := rfl
theorem T_387_9 : hTab 387 9 = some ((3, 1, 0, []), 10) := rfl
theorem T_387_10 : hTab 387 10 = some ((26, 0, 0, []), 11) := rfl
theorem T_387_11 : hTab 387 11 = some ((27, 0, 0, []), 12) := rfl
theorem T_387_12 : hTab 387 12 = some ((0, 0, 1, []), 13) := rfl
theorem T_387_13 : hTab 387 13 = some ((4, 3, 0, []), 14) := rfl
theorem T_387_14 : hTab 387 14 = some ((0, 0, 0, []), 15) := rfl
theorem T_387_15 : hTab 387 15 = some ((4, 4, 0, []), 17) := rfl
theorem T_387_17 : hTab 387 17 = some ((3, 4, 0, []), 19) := rfl
theorem T_387_19 : hTab 387 19 = some ((3, 0, 2, []), 20) := rfl
theorem T_387_20 : hTab 387 20 = some ((24, 17, Int.ofNat 64, []), 23) := rfl
theorem T_387_23 : hTab 387 23 = some ((3, 1, 0, []), 24) := rfl
theorem T_387_24 : hTab 387 24 = some ((26, 0, 0, []), 25) := rfl
theorem T_387_25 : hTab 387 25 = some ((19, 3, Int.ofNat 157, []), 28) := rfl
theorem T_387_28 : hTab 387 28 = some ((0, 0, 8, []), 30) := rfl
theorem T_387_30 : hTab 387 30 = some ((3, 1, 0, []), 31) := rfl
theorem T_387_31 : hTab 387 31 = some ((10, 2, 0, []), 32) := rfl
theorem T_387_32 : hTab 387 32 = some ((3, 4, 0, []), 34) := rfl
theorem T_387_34 : hTab 387 34 = some ((10, 0, 0, []), 35) := rfl
theorem T_387_35 : hTab 387 35 = some ((4, 5, 0, []), 37) := rfl
theorem T_387_37 : hTab 387 37 = some ((0, 0, 8, []), 39) := rfl
theorem T_387_39 : hTab 387 39 = some ((3, 2, 0, []), 40) := rfl
theorem T_387_40 : hTab 387 40 = some ((10, 2, 0, []), 41) := rfl
theorem T_387_41 : hTab 387 41 = some ((3, 4, 0, []), 43) := rfl
theorem T_387_43 : hTab 387 43 = some ((10, 0, 0, []), 44) := rfl
theorem T_387_44 : hTab 387 44 = some ((4, 6, 0, []), 46) := rfl
theorem T_387_46 : hTab 387 46 = some ((3, 0, 2, []), 47) := rfl
theorem T_387_47 : hTab 387 47 = some ((24, 17, Int.ofNat 65, []), 50) := rfl
theorem T_387_50 : hTab 387 50 = some ((3, 6, 0, []), 52) := rfl
theorem T_387_52 : hTab 387 52 = some ((3, 0, 2, []), 53) := rfl
theorem T_387_53 : hTab 387 53 = some ((24, 17, Int.ofNat 65, []), 56) := rfl
theorem T_387_56 : hTab 387 56 = some ((3, 5, 0, []), 58) := rfl
theorem T_387_58 : hTab 387 58 = some ((26, 0, 0, []), 59) := rfl
theorem T_387_59 : hTab 387 59 = some ((27, 0, 0, []), 60) := rfl
theorem T_387_60 : hTab 387 60 = some ((3, 0, 2, []), 61) := rfl
theorem T_387_61 : hTab 387 61 = some ((24, 17, Int.ofNat 66, []), 64) := rfl
theorem T_387_64 : hTab 387 64 = some ((3, 6, 0, []), 66) := rfl
theorem T_387_66 : hTab 387 66 = some ((3, 0, 2, []), 67) := rfl
theorem T_387_67 : hTab 387 67 = some ((24, 17, Int.ofNat 66, []), 70) := rfl
theorem T_387_70 : hTab 387 70 = some ((3, 5, 0, []), 72) := rfl
theorem T_387_72 : hTab 387 72 = some ((26, 0, 0, []), 73) := rfl
theorem T_387_73 : hTab 387 73 = some ((27, 0, 0, []), 74) := rfl
theorem T_387_74 : hTab 387 74 = some ((3, 0, 2, []), 75) := rfl
theorem T_387_75 : hTab 387 75 = some ((24, 17, Int.ofNat 67, []), 78) := rfl
theorem T_387_78 : hTab 387 78 = some ((3, 6, 0, []), 80) := rfl
theorem T_387_80 : hTab 387 80 = some ((3, 0, 2, []), 81) := rfl
theorem T_387_81 : hTab 387 81 = some ((24, 17, Int.ofNat 67, []), 84) := rfl
theorem T_387_84 : hTab 387 84 = some ((3, 5, 0, []), 86) := rfl
theorem T_387_86 : hTab 387 86 = some ((26, 0, 0, []), 87) := rfl
theorem T_387_87 : hTab 387 87 = some ((27, 0, 0, []), 88) := rfl
theorem T_387_88 : hTab 387 88 = some ((0, 0, 0, []), 89) := rfl
theorem T_387_89 : hTab 387 89 = some ((4, 7, 0, []), 91) := rfl
theorem T_387_151 : hTab 387 151 = some ((5, 4, 1, []), 154) := rfl
theorem T_387_154 : hTab 387 154 = some ((22, 0, Int.ofNat 17, []), 157) := rfl
theorem T_387_157 : hTab 387 157 = some ((33, 0, 0, []), 158) := rfl
section MCPG
variable {fb : Bool} {d : Nat} {σ0 σ : hM} {P Q R S S1 S2 : qR} {T U s w g u p k e t z o q r pt off n N v to np L : Int} {l l1 l2 nm wd A : List Int} {h : List Ch} {hf mm : Int → Int} {x : Nw} {c c1 c2 : Ch} {ns : List Nw}
def cgR : List Nat := [2338, 2339, 2340, 2341, 2342, 2335, 2336, 2337]
theorem RF_cg {l1 : List Nat} (h : RF l1 Q P) (hs : ∀ f, cgR.elem f = false → l1.elem f = false) : RF cgR Q P := fun f k hf => h f k (hs f hf)
theorem cgM_rfc {m : Nat} {j i : Int} : RF cgR (cgM hf o pt m j i P) P := RF_cg (cgM_rf m j i P) (fun _ => elem_sub (by decide))
theorem cg1_rfc : RF cgR (cg1 P o pt) P := RF_cg cg1_rf (fun _ => elem_sub (by decide))
theorem cgP_rf : ∀ (m : Nat) (k i : Int) (P : qR), RF cgR (cgP hf g to m k i P) P
  | 0, _, _, _ => RF_rfl
  | m + 1, k, i, P => RF_tr (cgP_rf m (k + 1) _ _) (RF_tr cgM_rfc cg1_rfc)
/-- memberMany behind one point's copy -/
theorem cgM_many {m : Nat} {j i y : Int} : cgM hf o pt m j i P 2337 y = P 2337 y := cgM_rf m j i P 2337 y rfl
theorem cg1_m {y : Int} : cg1 P o pt 2337 y = if y = pt then P 2337 o else P 2337 y := by
  unfold cg1
  by_cases q : y = pt
  · rw [if_pos q, q, rU_s]
  · rw [if_neg q, rU_k q, rU_f (by decide), rU_f (by decide)]
theorem GI_cgP (hg : 0 ≤ g ∧ g < 8) (hto : 0 ≤ to ∧ to < 8) (hne : g ≠ to) (hh : ∀ i : Int, 0 ≤ i → i < L → 0 ≤ hf i ∧ hf i ≤ 47) (hm : ∀ i : Int, 0 ≤ i → i < 8 → 0 ≤ mm i ∧ mm i ≤ 6) : ∀ (m : Nat) (k i : Int) (P : qR), 0 ≤ k → k + m ≤ 8 → 0 ≤ i → i + sm mm k m ≤ L → (∀ y, 0 ≤ y → y < 8 → P 2337 (8 * g + y) = mm y) → GI T U P → GI T U (cgP hf g to m k i P) ∧ ∀ y, (∀ b, k ≤ b → b < k + m → ¬ y = 8 * to + b) → cgP hf g to m k i P 2337 y = P 2337 y
  | 0, _, _, _, _, _, _, _, _, h => ⟨h, fun _ _ => rfl⟩
  | m + 1, k, i, P, h0, h1, h2, h3, h4, h => by
    have hmk := hm k h0 (by omega)
    have hmm := h4 k h0 (by omega)
    have h3 : i + (mm k + sm mm (k + 1) m) ≤ L := h3
    have hsn : 0 ≤ sm mm (k + 1) m := by
      have := sm_le (f := fun _ => 0) (g := fun i => if 0 ≤ i ∧ i < 8 then mm i else 0) m (k + 1) (fun i _ _ => by
        show (0 : Int) ≤ if 0 ≤ i ∧ i < 8 then mm i else 0
        split
        · rename_i q; exact (hm i q.1 q.2).1
        · exact Int.le_refl _)
      rw [sm_const, Int.zero_mul, sm_congr (g := mm) m (k + 1) (fun i a b => if_pos ⟨by omega, by omega⟩)] at this
      exact this
    have a1 := GI_cg1 (o := 8 * g + k) (pt := 8 * to + k) h ⟨by omega, by omega⟩ ⟨by omega, by omega⟩
    have a2 := GI_cgM (o := 8 * g + k) (pt := 8 * to + k) ⟨by omega, by omega⟩ ⟨by omega, by omega⟩ hh (P 2337 (8 * g + k)).toNat 0 i _ (by omega) (by omega) h2 (by omega) a1
    have e : ∀ y, cgM hf (8 * g + k) (8 * to + k) (P 2337 (8 * g + k)).toNat 0 i (cg1 P (8 * g + k) (8 * to + k)) 2337 y = if y = 8 * to + k then P 2337 (8 * g + k) else P 2337 y := fun y => cgM_many.trans cg1_m
    obtain ⟨b1, b2⟩ := GI_cgP hg hto hne hh hm m (k + 1) (i + P 2337 (8 * g + k)) _ (by omega) (by omega) (by omega) (by omega) (fun y c1 c2 => by
      rw [e, if_neg (by omega)]
      exact h4 y c1 c2) a2
    refine ⟨b1, fun y hy => ?_⟩
    show cgP hf g to m (k + 1) (i + P 2337 (8 * g + k)) (cgM hf (8 * g + k) (8 * to + k) (P 2337 (8 * g + k)).toNat 0 i (cg1 P (8 * g + k) (8 * to + k))) 2337 y = _
    rw [b2 y (fun b c1 c2 => hy b (by omega) (by omega)), e, if_neg (hy k (by omega) (by omega))]
theorem cgP_at (hg : 0 ≤ g ∧ g < 8) (hto : 0 ≤ to ∧ to < 8) (hne : g ≠ to) : ∀ (m : Nat) (k i : Int) (P : qR), 0 ≤ k → k + m ≤ 8 → ∀ y, k ≤ y → y < k + m → cgP hf g to m k i P 2337 (8 * to + y) = P 2337 (8 * g + y)
  | 0, _, _, _, _, _, y, h1, h2 => by omega
  | m + 1, k, i, P, h0, h1, y, h2, h3 => by
    have e : ∀ y, cgM hf (8 * g + k) (8 * to + k) (P 2337 (8 * g + k)).toNat 0 i (cg1 P (8 * g + k) (8 * to + k)) 2337 y = if y = 8 * to + k then P 2337 (8 * g + k) else P 2337 y := fun y => cgM_many.trans cg1_m
    show cgP hf g to m (k + 1) (i + P 2337 (8 * g + k)) (cgM hf (8 * g + k) (8 * to + k) (P 2337 (8 * g + k)).toNat 0 i (cg1 P (8 * g + k) (8 * to + k))) 2337 (8 * to + y) = _
    by_cases q : y = k
    · subst q
      have key : ∀ (m : Nat) (b i : Int) (P : qR), y < b → cgP hf g to m b i P 2337 (8 * to + y) = P 2337 (8 * to + y) := by
        intro m
        induction m with
        | zero => intro b i P hb; rfl
        | succ m ih =>
          intro b i P hb
          show cgP hf g to m (b + 1) (i + P 2337 (8 * g + b)) (cgM hf (8 * g + b) (8 * to + b) (P 2337 (8 * g + b)).toNat 0 i (cg1 P (8 * g + b) (8 * to + b))) 2337 (8 * to + y) = _
          rw [ih _ _ _ (by omega), cgM_many, cg1_m, if_neg (by omega)]
      rw [key _ _ _ _ (by omega), e, if_pos rfl]
    · rw [cgP_at hg hto hne m (k + 1) _ _ (by omega) (by omega) y (by omega) (by omega), e, if_neg (by omega)]
theorem m_cpg_loop (hg : 0 ≤ g ∧ g < 8) (hto : 0 ≤ to ∧ to < 8) (hne : g ≠ to) (hL : L ≤ 64) (hS : ∀ i : Int, 0 ≤ i → i < L → S 2351 i = hf i) (hh : ∀ i : Int, 0 ≤ i → i < L → 0 ≤ hf i ∧ hf i ≤ 47) (hm : ∀ i : Int, 0 ≤ i → i < 8 → 0 ≤ mm i ∧ mm i ≤ 6) (hnp : np ≤ 8) {Q : Option AV → hM → Prop} : ∀ (m : Nat) (k i : Int) (P : qR) (σ : hM) (l5 l6 l7 : Option AV), k + m = np → 0 ≤ k → 0 ≤ i → i + sm mm k m ≤ L → P 2334 g = np → (∀ y, 0 ≤ y → y < 8 → P 2337 (8 * g + y) = mm y) → PM σ0 P S σ → GI T U P → (∀ σ : hM, PM σ0 (cgP hf g to m k i P) S σ → Q none σ) → WP fb (d + 1) 387 17 [some (vR (some 2281)), some (vI g), some (vI to), some (vI i), some (vI k), l5, l6, l7] [] σ Q := by
  intro m
  induction m with
  | zero =>
    intro k i P σ l5 l6 l7 h1 h2 h3 h4 h5 h6 hP hG hQ
    have h1 : k + ((0 : Nat) : Int) = np := h1
    have hk : k = np := by omega
    subst hk
    have hgo := hQ σ hP
    refine x_li (z := k) T_387_17 rfl ?_
    refine x_lr (z := some 2281) T_387_19 rfl ?_
    refine x_gR (z := some 2334) T_387_20 F_17_64 (PM.t hP) (PM.r hP 64 2334 rfl) ?_
    refine x_li (z := g) T_387_23 rfl ?_
    refine x_alI (z := k) T_387_24 (by decide) (PM.ta hP 2334 0 8 rfl rfl) (by omega) (by omega) (Eq.trans (PM.aP hP 2334 rfl rfl (by omega)) h5) ?_
    refine x_ic2 T_387_25 (fun _ => ?_) (fun h => absurd (show k ≤ k by omega) h)
    refine x_rv T_387_157 ?_
    exact hgo
  | succ m ih =>
    intro k i P σ l5 l6 l7 h1 h2 h3 h4 h5 h6 hP hG hQ
    have hmk := hm k h2 (by omega)
    have hmm := h6 k h2 (by omega)
    have h4 : i + (mm k + sm mm (k + 1) m) ≤ L := h4
    have hsn : 0 ≤ sm mm (k + 1) m := by
      have := sm_le (f := fun _ => 0) (g := fun i => if 0 ≤ i ∧ i < 8 then mm i else 0) m (k + 1) (fun i _ _ => by
        show (0 : Int) ≤ if 0 ≤ i ∧ i < 8 then mm i else 0
        split
        · rename_i q; exact (hm i q.1 q.2).1
        · exact Int.le_refl _)
      rw [sm_const, Int.zero_mul, sm_congr (g := mm) m (k + 1) (fun i a b => if_pos ⟨by omega, by omega⟩)] at this
      exact this
    obtain ⟨o, ho⟩ : ∃ o, 8 * g + k = o := ⟨_, rfl⟩
    obtain ⟨pt, hpt⟩ : ∃ pt, 8 * to + k = pt := ⟨_, rfl⟩
    have ek : cgP hf g to (m + 1) k i P = cgP hf g to m (k + 1) (i + P 2337 (8 * g + k)) (cgM hf (8 * g + k) (8 * to + k) (P 2337 (8 * g + k)).toNat 0 i (cg1 P (8 * g + k) (8 * to + k))) := rfl
    rw [ek] at hQ
    rw [hmm] at hQ
    rw [ho, hpt] at hQ
    rw [ho] at hmm
    have a1 := GI_cg1 (o := o) (pt := pt) hG ⟨by omega, by omega⟩ ⟨by omega, by omega⟩
    have a2 := GI_cgM (o := o) (pt := pt) ⟨by omega, by omega⟩ ⟨by omega, by omega⟩ hh (mm k).toNat 0 i _ (by omega) (by omega) h3 (by omega) a1
    have hnx : ∀ σ : hM, PM σ0 (cgM hf o pt (mm k).toNat 0 i (cg1 P o pt)) S σ → WP fb (d + 1) 387 17 [some (vR (some 2281)), some (vI g), some (vI to), some (vI (i + mm k)), some (vI (k + 1)), some (vI o), some (vI pt), some (vI (mm k))] [] σ Q := fun σ hP => ih (k + 1) (i + mm k) _ σ _ _ _ (by omega) (by omega) (by omega) (by omega) ((cgM_rfc 2334 g rfl).trans ((cg1_rfc 2334 g rfl).trans h5)) (fun y c1 c2 => by
      rw [cgM_many, cg1_m, if_neg (by omega)]
      exact h6 y c1 c2) hP a2 hQ
    have h151 : ∀ σ : hM, PM σ0 (cgM hf o pt (mm k).toNat 0 i (cg1 P o pt)) S σ → WP fb (d + 1) 387 151 [some (vR (some 2281)), some (vI g), some (vI to), some (vI (i + ((mm k).toNat : Int))), some (vI k), some (vI o), some (vI pt), some (vI (mm k))] [] σ Q := fun σ hP => by
      have hgo := hnx σ hP
      rw [show i + (((mm k).toNat : Nat) : Int) = i + mm k by omega]
      refine x_inc (w := (k + 1)) (ls1 := [some (vR (some 2281)), some (vI g), some (vI to), some (vI (i + mm k)), some (vI (k + 1)), some (vI o), some (vI pt), some (vI (mm k))]) T_387_151 rfl (w32_id (by omega) (by omega)) rfl ?_
      refine x_goto T_387_154 ?_
      exact hgo
    have h91 := fun (σ : hM) (hP : PM σ0 (cg1 P o pt) S σ) => m_cpg_mem (fb := fb) (d := d) (g := g) (to := to) (k := k) ⟨by omega, by omega⟩ ⟨by omega, by omega⟩ (by omega) hL hS hh hmk.2 (mm k).toNat 0 i (cg1 P o pt) σ (by omega) (by decide) h3 (by omega) ((cg1_many (by omega)).trans hmm) hP a1 h151
    obtain ⟨y1, hy1⟩ : ∃ y, P 2335 o = y := ⟨_, rfl⟩
    obtain ⟨y2, hy2⟩ : ∃ y, P 2336 o = y := ⟨_, rfl⟩
    unfold cg1 at h91
    rw [hy1, hy2, hmm] at h91
    obtain ⟨y3, hy3⟩ : ∃ y, mm k = y := ⟨_, rfl⟩
    rw [hy3] at h91 hmm
    refine x_li (z := k) T_387_17 rfl ?_
    refine x_lr (z := some 2281) T_387_19 rfl ?_
    refine x_gR (z := some 2334) T_387_20 F_17_64 (PM.t hP) (PM.r hP 64 2334 rfl) ?_
    refine x_li (z := g) T_387_23 rfl ?_
    refine x_alI (z := np) T_387_24 (by decide) (PM.ta hP 2334 0 8 rfl rfl) (by omega) (by omega) (Eq.trans (PM.aP hP 2334 rfl rfl (by omega)) h5) ?_
    refine x_ic2 T_387_25 (fun h => absurd (show np ≤ k from h) (by omega)) (fun _ => ?_)
    refine x_ic T_387_28 ?_
    refine x_li (z := g) T_387_30 rfl ?_
    refine x_ib (w := (8 * g)) T_387_31 (fun h => absurd h.1 (by decide)) (w32_id (by omega) (by omega)) ?_
    refine x_li (z := k) T_387_32 rfl ?_
    refine x_ib (w := o) T_387_34 (fun h => absurd h.1 (by decide)) (w32_e (by omega) (by omega) (by omega)) ?_
    refine x_si (ls1 := [some (vR (some 2281)), some (vI g), some (vI to), some (vI i), some (vI k), some (vI o), l6, l7]) T_387_35 rfl ?_
    refine x_ic T_387_37 ?_
    refine x_li (z := to) T_387_39 rfl ?_
    refine x_ib (w := (8 * to)) T_387_40 (fun h => absurd h.1 (by decide)) (w32_id (by omega) (by omega)) ?_
    refine x_li (z := k) T_387_41 rfl ?_
    refine x_ib (w := pt) T_387_43 (fun h => absurd h.1 (by decide)) (w32_e (by omega) (by omega) (by omega)) ?_
    refine x_si (ls1 := [some (vR (some 2281)), some (vI g), some (vI to), some (vI i), some (vI k), some (vI o), some (vI pt), l7]) T_387_44 rfl ?_
    refine x_lr (z := some 2281) T_387_46 rfl ?_
    refine x_gR (z := some 2335) T_387_47 F_17_65 (PM.t hP) (PM.r hP 65 2335 rfl) ?_
    refine x_li (z := pt) T_387_50 rfl ?_
    refine x_lr (z := some 2281) T_387_52 rfl ?_
    refine x_gR (z := some 2335) T_387_53 F_17_65 (PM.t hP) (PM.r hP 65 2335 rfl) ?_
    refine x_li (z := o) T_387_56 rfl ?_
    refine x_alI (z := y1) T_387_58 (by decide) (PM.ta hP 2335 0 64 rfl rfl) (by omega) (by omega) (Eq.trans (PM.aP hP 2335 rfl rfl (by omega)) hy1) ?_
    refine y_aIP hP T_387_59 2335 64 rfl rfl rfl (by omega) (by omega) (fun σ hP => ?_)
    refine x_lr (z := some 2281) T_387_60 rfl ?_
    refine x_gR (z := some 2336) T_387_61 F_17_66 (PM.t hP) (PM.r hP 66 2336 rfl) ?_
    refine x_li (z := pt) T_387_64 rfl ?_
    refine x_lr (z := some 2281) T_387_66 rfl ?_
    refine x_gR (z := some 2336) T_387_67 F_17_66 (PM.t hP) (PM.r hP 66 2336 rfl) ?_
    refine x_li (z := o) T_387_70 rfl ?_
    refine x_alI (z := y2) T_387_72 (by decide) (PM.ta hP 2336 0 64 rfl rfl) (by omega) (by omega) (Eq.trans (Eq.trans (PM.aP hP 2336 rfl rfl (by omega)) (rU_f (Nat.ne_of_beq_eq_false rfl))) hy2) ?_
    refine y_aIP hP T_387_73 2336 64 rfl rfl rfl (by omega) (by omega) (fun σ hP => ?_)
    refine x_lr (z := some 2281) T_387_74 rfl ?_
    refine x_gR (z := some 2337) T_387_75 F_17_67 (PM.t hP) (PM.r hP 67 2337 rfl) ?_
    refine x_li (z := pt) T_387_78 rfl ?_
    refine x_lr (z := some 2281) T_387_80 rfl ?_
    refine x_gR (z := some 2337) T_387_81 F_17_67 (PM.t hP) (PM.r hP 67 2337 rfl) ?_
    refine x_li (z := o) T_387_84 rfl ?_
    refine x_alI (z := y3) T_387_86 (by decide) (PM.ta hP 2337 0 64 rfl rfl) (by omega) (by omega) (Eq.trans (Eq.trans (PM.aP hP 2337 rfl rfl (by omega)) (Eq.trans (rU_f (Nat.ne_of_beq_eq_false rfl)) (rU_f (Nat.ne_of_beq_eq_false rfl)))) hmm) ?_
    refine y_aIP hP T_387_87 2337 64 rfl rfl rfl (by omega) (by omega) (fun σ hP => ?_)
    refine x_ic T_387_88 ?_
    refine x_si (ls1 := [some (vR (some 2281)), some (vI g), some (vI to), some (vI i), some (vI k), some (vI o), some (vI pt), some (vI 0)]) T_387_89 rfl ?_
    exact h91 σ hP
theorem m_copyGroup (hP : PM σ0 P S σ) (hG : GI T U P) (hg : 0 ≤ g ∧ g < 8) (hto : 0 ≤ to ∧ to < 8) (hne : g ≠ to) (hL : L ≤ 64) (hS : ∀ i : Int, 0 ≤ i → i < L → S 2351 i = hf i) (hh : ∀ i : Int, 0 ≤ i → i < L → 0 ≤ hf i ∧ hf i ≤ 47) (hs : 1 + sm (fun k => P 2337 (8 * g + k)) 0 (P 2334 g).toNat ≤ L) : CL fb (d + 1) 387 [vR (some 2281), vI g, vI to] σ (rV σ0 (gCpG hf P g to) S) := by
  have bp : 0 ≤ P 2334 g ∧ P 2334 g ≤ 8 := IV.a hG.iv 2334 0 8 rfl rfl rfl (by omega) (by omega)
  have bt : 0 ≤ P 2334 to ∧ P 2334 to ≤ 8 := IV.a hG.iv 2334 0 8 rfl rfl rfl (by omega) (by omega)
  unfold gCpG
  obtain ⟨np, hnp⟩ : ∃ np, P 2334 g = np := ⟨_, rfl⟩
  rw [hnp] at bp hs ⊢
  have hG1 : GI T U (rU P 2334 to np) := GI_one (f := 2334) (j := to) (ty := 0) (len := 8) hG rfl bp rfl rfl rfl rfl rfl rfl rfl rfl rfl (by decide) (by decide)
  have hgo := fun (σ : hM) (hP : PM σ0 (rU P 2334 to np) S σ) => m_cpg_loop (fb := fb) (d := d) (σ0 := σ0) (S := S) (to := to) (mm := fun k => P 2337 (8 * g + k)) hg hto hne hL hS hh (fun i a b => IV.a hG.iv 2337 0 64 rfl rfl rfl (by omega) (by omega)) bp.2 (Q := rV σ0 (cgP hf g to np.toNat 0 1 (rU P 2334 to np)) S) np.toNat 0 1 (rU P 2334 to np) σ none none none (by omega) (by decide) (by decide) hs ((rU_k hne).trans hnp) (fun y a b => rU_f (by decide)) hP hG1 (fun σ hP => ⟨rfl, hP⟩)
  refine CL_in mL_387 rfl ?_
  show WP fb _ 387 0 [some (vR (some 2281)), some (vI g), some (vI to), none, none, none, none, none] [] σ _
  refine x_lr (z := some 2281) T_387_0 rfl ?_
  refine x_gR (z := some 2334) T_387_1 F_17_64 (PM.t hP) (PM.r hP 64 2334 rfl) ?_
  refine x_li (z := to) T_387_4 rfl ?_
  refine x_lr (z := some 2281) T_387_5 rfl ?_
  refine x_gR (z := some 2334) T_387_6 F_17_64 (PM.t hP) (PM.r hP 64 2334 rfl) ?_
  refine x_li (z := g) T_387_9 rfl ?_
  refine x_alI (z := np) T_387_10 (by decide) (PM.ta hP 2334 0 8 rfl rfl) (by omega) (by omega) (Eq.trans (PM.aP hP 2334 rfl rfl (by omega)) hnp) ?_
  refine y_aIP hP T_387_11 2334 8 rfl rfl rfl (by omega) (by omega) (fun σ hP => ?_)
  refine x_ic T_387_12 ?_
  refine x_si (ls1 := [some (vR (some 2281)), some (vI g), some (vI to), some (vI 1), none, none, none, none]) T_387_13 rfl ?_
  refine x_ic T_387_14 ?_
  refine x_si (ls1 := [some (vR (some 2281)), some (vI g), some (vI to), some (vI 1), some (vI 0), none, none, none]) T_387_15 rfl ?_
  exact hgo σ hP
theorem gCpG_ok (hG : GI T U P) (hg : 0 ≤ g ∧ g < 8) (hto : 0 ≤ to ∧ to < 8) (hne : g ≠ to) (hh : ∀ i : Int, 0 ≤ i → i < L → 0 ≤ hf i ∧ hf i ≤ 47) (hs : 1 + sm (fun k => P 2337 (8 * g + k)) 0 (P 2334 g).toNat ≤ L) (hPT : PTS P) : GI T U (gCpG hf P g to) ∧ PTS (gCpG hf P g to) ∧ RF (2334 :: cgR) (gCpG hf P g to) P := by
  have bp : 0 ≤ P 2334 g ∧ P 2334 g ≤ 8 := IV.a hG.iv 2334 0 8 rfl rfl rfl (by omega) (by omega)
  have hG1 : GI T U (rU P 2334 to (P 2334 g)) := GI_one (f := 2334) (j := to) (ty := 0) (len := 8) hG rfl bp rfl rfl rfl rfl rfl rfl rfl rfl rfl (by decide) (by decide)
  have h1 := GI_cgP (T := T) (U := U) (hf := hf) (mm := fun k => P 2337 (8 * g + k)) hg hto hne hh (fun i a b => IV.a hG.iv 2337 0 64 rfl rfl rfl (by omega) (by omega)) (P 2334 g).toNat 0 1 (rU P 2334 to (P 2334 g)) (by decide) (by omega) (by decide) hs (fun y a b => rU_f (by decide)) hG1
  have hrf := cgP_rf (hf := hf) (g := g) (to := to) (P 2334 g).toNat 0 1 (rU P 2334 to (P 2334 g))
  unfold gCpG
  refine ⟨h1.1, fun g1 k a1 a2 a3 a4 => ?_, fun f k hf => ?_⟩
  · rw [hrf 2334 g1 rfl] at a4
    by_cases q : g1 = to
    · subst q
      rw [rU_s] at a4
      rw [cgP_at hg hto hne (P 2334 g).toNat 0 1 _ (by decide) (by omega) k (by omega) (by omega), rU_f (by decide)]
      exact hPT g k hg.1 hg.2 a3 a4
    · rw [rU_k q] at a4
      have b1 : 0 ≤ P 2334 g1 ∧ P 2334 g1 ≤ 8 := IV.a hG.iv 2334 0 8 rfl rfl rfl (by omega) (by omega)
      rw [h1.2 _ (fun b c1 c2 => by omega), rU_f (by decide)]
      exact hPT g1 k a1 a2 a3 a4
  · have hf2 : cgR.elem f = false := elem_sub (l1 := cgR) (l2 := 2334 :: cgR) (by decide) hf
    rw [hrf f k hf2]
    exact rU_f (fun q => by rw [q] at hf; exact absurd hf (by decide))
end MCPG
