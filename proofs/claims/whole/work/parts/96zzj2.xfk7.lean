/-! The class's processes: one that follows another, as the reference has it. -/
/-- the rows of points and members are the same -/
def AG (A B : qR) : Prop := ∀ f : Nat, (2334 :: ptR).elem f = true → ∀ i : Int, A f i = B f i
section XFK7
variable {fb : Bool} {d b c n a0 a1 a : Nat} {σ0 σ : hM} {W W0 W1 W2 V P P0 Q A B X : qR} {R R0 R1 R2 V3 : rR} {i j k x y t z v s e w g u p q r pt o K T U N C to gg : Int} {l l0 lo dl dq : List Int} {vl : Int → List Int} {hf : Int → Int}
theorem AG_rU {f : Nat} {v w k : Int} (h : AG A B) (e : v = w) : AG (rU A f k v) (rU B f k w) := fun g hg i => by
  rw [e]
  unfold rU
  split
  · rfl
  · exact h g hg i
theorem AG_mv {a b : Int} (h : AG A B) : AG (gMv A a b) (gMv B a b) := AG_rU (AG_rU (AG_rU (AG_rU (AG_rU h (h _ rfl _)) (h _ rfl _)) (h _ rfl _)) (h _ rfl _)) (h _ rfl _)
theorem AG_cgM {old pt : Int} : ∀ (m : Nat) (j i : Int) (A B : qR), AG A B → AG (cgM hf old pt m j i A) (cgM hf old pt m j i B)
  | 0, _, _, _, _, h => h
  | m + 1, j, i, _, _, h => AG_cgM m (j + 1) (i + 1) _ _ (AG_rU (AG_mv h) rfl)
theorem AG_cg1 {old pt : Int} (h : AG A B) : AG (cg1 A old pt) (cg1 B old pt) := AG_rU (AG_rU (AG_rU h (h _ rfl _)) (h _ rfl _)) (h _ rfl _)
theorem AG_cgP : ∀ (m : Nat) (k i : Int) (A B : qR), AG A B → AG (cgP hf g to m k i A) (cgP hf g to m k i B)
  | 0, _, _, _, _, h => h
  | m + 1, k, i, A, B, h => by
    have e := h 2337 rfl (8 * g + k)
    show AG (cgP hf g to m (k + 1) (i + A 2337 (8 * g + k)) (cgM hf (8 * g + k) (8 * to + k) (A 2337 (8 * g + k)).toNat 0 i (cg1 A (8 * g + k) (8 * to + k)))) (cgP hf g to m (k + 1) (i + B 2337 (8 * g + k)) (cgM hf (8 * g + k) (8 * to + k) (B 2337 (8 * g + k)).toNat 0 i (cg1 B (8 * g + k) (8 * to + k))))
    rw [e]
    exact AG_cgP m (k + 1) _ _ _ (AG_cgM _ _ _ _ _ (AG_cg1 h))
theorem gCpG_rf : RF (2334 :: ptR) (gCpG hf X g to) X := fun f i hf2 => by
  unfold gCpG
  rw [cgP_rf _ _ _ _ f i (elem_sub (l1 := cgR) (l2 := 2334 :: ptR) (by decide) hf2)]
  exact rU_f (fun q => by rw [q] at hf2; exact absurd hf2 (by decide))
theorem gCpG_ag (h : AG A B) : AG (gCpG hf A g to) (gCpG hf B g to) := by
  unfold gCpG
  rw [h 2334 rfl g]
  exact AG_cgP _ _ _ _ _ (AG_rU h rfl)
/-- a process begins, a group is copied, either order -/
theorem gCpG_gBg : gCpG hf (gBg X q u gg r) g to = gBg (gCpG hf X g to) q u gg r := by
  funext f i
  by_cases h1 : (2334 :: ptR).elem f = true
  · have hb : bgR.elem f = false := by
      have h2 : f ∈ (2334 :: ptR) := List.elem_iff.mp h1
      unfold ptR at h2
      simp only [List.mem_cons, List.not_mem_nil, or_false] at h2
      rcases h2 with e | e | e | e | e | e | e | e | e <;> (subst e; rfl)
    rw [gB_f hb]
    exact gCpG_ag (fun f2 hf2 i2 => gB_f (by
      have h2 : f2 ∈ (2334 :: ptR) := List.elem_iff.mp hf2
      unfold ptR at h2
      simp only [List.mem_cons, List.not_mem_nil, or_false] at h2
      rcases h2 with e | e | e | e | e | e | e | e | e <;> (subst e; rfl))) f h1 i
  · have h1 : (2334 :: ptR).elem f = false := by simpa using h1
    have hY : ∀ i, gCpG hf X g to f i = X f i := fun i => gCpG_rf f i h1
    rw [gCpG_rf f i h1]
    by_cases h2 : bgR.elem f = true
    · have h3 : f ∈ bgR := List.elem_iff.mp h2
      unfold bgR at h3
      simp only [List.mem_cons, List.not_mem_nil, or_false] at h3
      rcases h3 with e | e | e | e | e | e | e | e | e | e <;> subst e
      · rw [gB_is, gB_is, hY]
      · rw [gB_dy, gB_dy, hY]
      · rw [gB_us, gB_us, hY]
      · rw [gB_gr, gB_gr, hY]
      · rw [gB_rt, gB_rt, hY]
      · rw [gB_dt, gB_dt, hY]
      · rw [gB_ds, gB_ds, hY]
      · rw [gB_os, gB_os, hY]
      · rw [gB_op, gB_op, hY]
      · rw [gB_vs, gB_vs, hY]
    · have h2 : bgR.elem f = false := by simpa using h2
      rw [gB_f h2, gB_f h2, hY]
theorem gCpG_pt0 (hne : g ≠ to) : gCpG hf (rU X 2334 to 0) g to = gCpG hf X g to := by
  unfold gCpG
  rw [rU_k hne]
  congr 1
  funext f i
  unfold rU
  split
  · rfl
  · rfl
theorem gF_f {f : Nat} (h : foR.elem f = false) : gFol X p q f k = X f k := gFol_rf f k h
theorem gF_op : gFol X p q 2327 i = if 8 * q ≤ i ∧ i < 8 * q + 8 then X 2327 (8 * p + (i - 8 * q)) else X 2327 i := by
  have e : ∀ i, gFo1 X p q 2327 i = X 2327 i := fun i => by
    unfold gFo1
    exact (rU_f (by decide)).trans (rW_f (by decide))
  have e2 : gFol X p q 2327 i = gFo2 (gFo1 X p q) p q 2327 i := by
    unfold gFol gFo3
    exact (rW_f (by decide)).trans (rW_f (by decide))
  rw [e2]
  unfold gFo2
  by_cases c : 8 * q ≤ i ∧ i < 8 * q + 8
  · rw [if_pos c, rW_i (by rw [seg_len]; omega), lg_seg _ _ _ _ (by omega) (by omega), e]
  · rw [if_neg c, rW_o (by rw [seg_len]; omega), e]
theorem gF_ds : gFol X p q 2326 k = if k = q then X 2326 p else X 2326 k := by
  have e2 : gFol X p q 2326 k = gFo1 X p q 2326 k := by
    unfold gFol gFo3 gFo2
    exact (rW_f (by decide)).trans ((rW_f (by decide)).trans (rW_f (by decide)))
  rw [e2]
  unfold gFo1
  by_cases c : k = q
  · rw [if_pos c, c, rU_s]
  · rw [if_neg c, rU_k c, rW_f (by decide)]
theorem gF_dt : gFol X p q 2325 i = if 60 * q ≤ i ∧ i < 60 * q + (X 2326 p).toNat then X 2325 (60 * p + (i - 60 * q)) else X 2325 i := by
  have e2 : gFol X p q 2325 i = rW X 2325 (60 * q) (seg (X 2325) (60 * p) (X 2326 p).toNat) 2325 i := by
    unfold gFol gFo3 gFo2 gFo1
    exact (rW_f (by decide)).trans ((rW_f (by decide)).trans ((rW_f (by decide)).trans (rU_f (by decide))))
  rw [e2]
  by_cases c : 60 * q ≤ i ∧ i < 60 * q + (X 2326 p).toNat
  · rw [if_pos c, rW_i (by rw [seg_len]; omega), lg_seg _ _ _ _ (by omega) (by omega)]
  · rw [if_neg c, rW_o (by rw [seg_len]; omega)]
theorem gF_vs : gFol X p q 2362 i = if 26 * q ≤ i ∧ i < 26 * q + 26 then X 2362 (26 * p + (i - 26 * q)) else X 2362 i := by
  have e : ∀ i, gFo2 (gFo1 X p q) p q 2362 i = X 2362 i := fun i => by
    unfold gFo2 gFo1
    exact (rW_f (by decide)).trans ((rU_f (by decide)).trans (rW_f (by decide)))
  have e2 : gFol X p q 2362 i = rW (gFo2 (gFo1 X p q) p q) 2362 (26 * q) (seg (gFo2 (gFo1 X p q) p q 2362) (26 * p) 26) 2362 i := by
    unfold gFol gFo3
    exact rW_f (by decide)
  rw [e2]
  by_cases c : 26 * q ≤ i ∧ i < 26 * q + 26
  · rw [if_pos c, rW_i (by rw [seg_len]; omega), lg_seg _ _ _ _ (by omega) (by omega), e]
  · rw [if_neg c, rW_o (by rw [seg_len]; omega), e]
theorem gF_vr : gFol X p q 2361 i = if 520 * q ≤ i ∧ i < 520 * q + 520 then X 2361 (520 * p + (i - 520 * q)) else X 2361 i := by
  have e : ∀ i, gFo2 (gFo1 X p q) p q 2361 i = X 2361 i := fun i => by
    unfold gFo2 gFo1
    exact (rW_f (by decide)).trans ((rU_f (by decide)).trans (rW_f (by decide)))
  unfold gFol gFo3
  by_cases c : 520 * q ≤ i ∧ i < 520 * q + 520
  · rw [if_pos c, rW_i (by rw [seg_len]; omega), lg_seg _ _ _ _ (by omega) (by omega), e]
  · rw [if_neg c, rW_o (by rw [seg_len]; omega), rW_f (by decide), e]
theorem gF_us : qUsers (gFol X p q) o = qUsers (gFo2 X p q) o := usR_fr (fun k => (gF_f rfl).trans (by unfold gFo2; exact (rW_f (by decide)).symm)) (fun k => by
  rw [gF_op]
  unfold gFo2
  by_cases c : 8 * q ≤ k ∧ k < 8 * q + 8
  · rw [if_pos c, rW_i (by rw [seg_len]; omega), lg_seg _ _ _ _ (by omega) (by omega)]
  · rw [if_neg c, rW_o (by rw [seg_len]; omega)]) 64 0 0
theorem GO_gFol (h : GO X) (hp : 0 ≤ p ∧ p < 8) (hq : 0 ≤ q ∧ q < 8) (hlp : ¬ X 2320 p = 0) (hm1 : ∀ k : Int, 0 ≤ k → k < 8 → X 2327 (8 * q + k) = -1) : GO (gFol X p q) := by
  refine ⟨fun i i0 i1 c1 c2 => ?_, fun o o0 o1 c => ?_⟩
  · rw [gF_f rfl] at c1
    rw [gF_op] at c2 ⊢
    rw [gF_f rfl]
    by_cases e : 8 * q ≤ i ∧ i < 8 * q + 8
    · rw [if_pos e] at c2 ⊢
      exact h.1 _ (by omega) (by omega) (by rw [show (8 * p + (i - 8 * q)) / 8 = p by omega]; exact hlp) c2
    · rw [if_neg e] at c2 ⊢
      exact h.1 i i0 i1 c1 c2
  · rw [gF_f rfl] at c
    obtain ⟨i, h1, h2, h3⟩ := h.2 o o0 o1 c
    refine ⟨i, h1, by rw [gF_f rfl]; exact h2, ?_⟩
    rw [gF_op, if_neg (fun e => ?_)]
    · exact h3
    · have := hm1 ((i : Int) - 8 * q) (by omega) (by omega)
      rw [show 8 * q + ((i : Int) - 8 * q) = (i : Int) by omega, h3] at this
      omega
theorem XN.fol (h : XN W R X) (hI : IV false T U X) (hp : 0 ≤ p ∧ p < 8) (hq : 0 ≤ q ∧ q < 8) (hpq : p ≠ q) (hlp : ¬ X 2320 p = 0) (hlq : ¬ X 2320 q = 0) (hdl : dl = seg (X 2325) (60 * p) (X 2326 p).toNat) (hvl : ∀ x, vl x = seg (X 2361) (20 * (26 * p + x)) (X 2362 (26 * p + x)).toNat) (f1 : BY W2 (prO q + 1) 60 dl) (f2 : ∀ x : Int, 0 ≤ x → x < 26 → BY W2 (prO q + 7 + 2 * x.toNat) 20 (vl x)) (f3 : ∀ k : Int, 0 ≤ k → k < 8 → R2 (prO q + 6) k = R (prO p + 6) k) (f4 : ∀ (x : Nat) (k : Int), ¬ (x = prO q + 6 ∧ 0 ≤ k ∧ k < 8) → R2 x k = R x k) (f5 : ∀ o : Int, 0 ≤ o → o < 64 → W2 (1229 + o.toNat) 2167 = qUsers (gFo2 X p q) o) (f6 : ∀ (x : Nat) (k : Int), ¬ (1229 ≤ x ∧ x < 1293 ∧ k = 2167) → ¬ (prO q + 7 ≤ x ∧ x < prO q + 59) → ¬ (prO q + 1 ≤ x ∧ x < prO q + 3) → W2 x k = W x k) : XN W2 R2 (gFol X p q) := by
  have hrq := prO_rng hq
  have hrp := prO_rng hp
  have epq : prO q = 295 + 125 * q.toNat := rfl
  have hz : ∀ p2 : Int, 0 ≤ p2 → p2 < 8 → 0 ≤ X 2326 p2 ∧ X 2326 p2 ≤ 60 := fun p2 a b => IV.a hI 2326 0 8 rfl rfl rfl (by omega) (by omega)
  have hvz : ∀ i : Int, 0 ≤ i → i < 208 → 0 ≤ X 2362 i ∧ X 2362 i ≤ 20 := fun i a b => IV.a hI 2362 0 208 rfl rfl rfl (by omega) (by omega)
  refine ⟨fun p2 p0 p1 => ?_, fun g2 g0 g1 => ?_, fun o o0 o1 => ?_⟩
  · obtain ⟨a1, a2, a3, a4⟩ := h.1 p2 p0 p1
    have hr2 := prO_rng (p := p2) ⟨p0, p1⟩
    have ep2 : prO p2 = 295 + 125 * p2.toNat := rfl
    by_cases e : p2 = q
    · subst e
      refine ⟨(f6 _ _ (by omega) (by omega) (by omega)).trans a1, by rw [gF_f rfl, f6 _ _ (by omega) (by omega) (by omega)]; exact a2, fun k k0 k1 => ?_, fun _ => ?_⟩
      · rw [f3 k k0 k1, (h.1 p hp.1 hp.2).2.2.1 k k0 k1, gF_f rfl, gF_op, if_pos (show 8 * p2 ≤ 8 * p2 + k ∧ 8 * p2 + k < 8 * p2 + 8 by omega), show 8 * p + (8 * p2 + k - 8 * p2) = 8 * p + k by omega]
        by_cases c : X 2327 (8 * p + k) < 0
        · rw [if_pos (Or.inr c), if_pos (Or.inr c)]
        · rw [if_neg (fun c2 => by rcases c2 with c2 | c2; exact hlp c2; exact c c2), if_neg (fun c2 => by rcases c2 with c2 | c2; exact hlq c2; exact c c2)]
      · obtain ⟨b1, b2, b3, b4, b5, b6⟩ := a4 hlq
        refine ⟨by rw [gF_f rfl, f6 _ _ (by omega) (by omega) (by omega)]; exact b1, by rw [gF_f rfl, f6 _ _ (by omega) (by omega) (by omega)]; exact b2, by rw [gF_f rfl, f4 _ _ (by omega)]; exact b3, ?_, ?_, fun x x0 x1 => ?_⟩
        · rw [gF_ds, if_pos rfl, show seg (gFol X p p2 2325) (60 * p2) (X 2326 p).toNat = dl by
            rw [hdl]
            refine seg_seg.mpr (fun i i0 i1 => ?_)
            rw [gF_dt, if_pos ⟨by omega, by omega⟩, show 60 * p + (60 * p2 + i - 60 * p2) = 60 * p + i by omega]]
          exact f1
        · rw [gF_f rfl, show gFol X p p2 2328 = X 2328 from funext (fun k => gF_f rfl)]
          obtain ⟨y1, y2, y3, y4, y5, y6, y7⟩ := b5
          exact ⟨y1, y2, y3, (f6 _ _ (by omega) (by omega) (by omega)).trans y4, y5, y6, fun i i0 i1 => (f6 _ _ (by omega) (by omega) (by omega)).trans (y7 i i0 i1)⟩
        · have hz2 := hvz (26 * p + x) (by omega) (by omega)
          rw [gF_vs, if_pos (show 26 * p2 ≤ 26 * p2 + x ∧ 26 * p2 + x < 26 * p2 + 26 by omega), show 26 * p + (26 * p2 + x - 26 * p2) = 26 * p + x by omega, show seg (gFol X p p2 2361) (20 * (26 * p2 + x)) (X 2362 (26 * p + x)).toNat = vl x by
            rw [hvl]
            refine seg_seg.mpr (fun i i0 i1 => ?_)
            rw [gF_vr, if_pos ⟨by omega, by omega⟩, show 520 * p + (20 * (26 * p2 + x) + i - 520 * p2) = 20 * (26 * p + x) + i by omega]]
          exact f2 x x0 x1
    · have hdis : prO q + 59 ≤ prO p2 ∨ prO p2 + 59 ≤ prO q := by
        rcases Nat.lt_trichotomy q.toNat p2.toNat with c | c | c
        · exact Or.inl (by omega)
        · exact absurd (show p2 = q by omega) e
        · exact Or.inr (by omega)
      have hW : ∀ (x : Nat) (k : Int), prO p2 ≤ x → x < prO p2 + 59 → W2 x k = W x k := fun x k x0 x1 => f6 x k (by omega) (by omega) (by omega)
      refine ⟨(hW _ _ (by omega) (by omega)).trans a1, by rw [hW _ _ (by omega) (by omega), gF_f rfl]; exact a2, fun k k0 k1 => ?_, fun hl => ?_⟩
      · rw [gF_f rfl, gF_op, if_neg (show ¬ (8 * q ≤ 8 * p2 + k ∧ 8 * p2 + k < 8 * q + 8) by omega), f4 _ _ (by omega)]
        exact a3 k k0 k1
      · rw [gF_f rfl] at hl
        have hd2 := hz p2 p0 p1
        have hdp := hz p hp.1 hp.2
        refine (a4 hl).at2 ⟨p0, p1⟩ (fun x k x0 x1 _ => hW x k x0 x1) (f4 _ _ (by omega)) (gF_f rfl) (gF_f rfl) (gF_f rfl) ?_ ?_ (fun x x0 x1 => ?_)
        · rw [gF_ds, if_neg e]
          refine seg_seg.mpr (fun i i0 i1 => ?_)
          rw [gF_dt, if_neg (by omega)]
        · rw [gF_f rfl, show gFol X p q 2328 = X 2328 from funext (fun k => gF_f rfl)]
        · have hz2 := hvz (26 * p2 + x) (by omega) (by omega)
          rw [gF_vs, if_neg (show ¬ (26 * q ≤ 26 * p2 + x ∧ 26 * p2 + x < 26 * q + 26) by omega)]
          refine seg_seg.mpr (fun i i0 i1 => ?_)
          rw [gF_vr, if_neg (by omega)]
  · have hr2 := grO_rng (g := g2) ⟨g0, g1⟩
    have hd1 : ∀ x : Nat, grO g2 ≤ x → x < grO g2 + 66 → ¬ (prO q ≤ x ∧ x < prO q + 59) := fun x x0 x1 => by
      have eg2 : grO g2 = 229 + 125 * g2.toNat := rfl
      rcases Nat.lt_or_ge q.toNat g2.toNat with c | c <;> omega
    exact (h.2.1 g2 g0 g1).at2 ⟨g0, g1⟩ hI (fun x k x0 x1 hk => by
      have := hd1 x x0 x1
      exact f6 x k (by omega) (by omega) (by omega)) (fun x k x0 x1 => by
      have := hd1 x x0 x1
      exact f4 x k (by omega)) (qPn_fr (fun k => gF_f rfl) (fun k => gF_f rfl) 8 0) ⟨gF_f rfl, fun _ _ _ => ⟨gF_f rfl, gF_f rfl, gF_f rfl⟩, fun _ _ _ => ⟨gF_f rfl, gF_f rfl, gF_f rfl, gF_f rfl, gF_f rfl⟩⟩
  · obtain ⟨a1, a2⟩ := h.2.2 o o0 o1
    refine ⟨by rw [gF_us]; exact f5 o o0 o1, fun hl => ?_⟩
    rw [gF_f rfl] at hl
    rw [f6 _ _ (by omega) (by omega) (by omega), f6 _ _ (by omega) (by omega) (by omega), f6 _ _ (by omega) (by omega) (by omega), gF_f rfl, gF_f rfl, gF_f rfl]
    exact a2 hl
end XFK7
