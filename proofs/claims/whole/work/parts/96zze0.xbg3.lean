/-! The class's processes: what one is that begins. -/
section XBGU
variable {fb : Bool} {d S b c m : Nat} {σ0 σ : hM} {W W1 W2 P Q : qR} {R R1 R2 : rR} {i j k x z v s e w f g u p p2 q r K T U a g2 h0 : Int} {l l0 lo nm M ord : List Int} {t : Nat → Nat}
theorem gB_is : gBg P q u g r 2320 k = if k = q then 1 else P 2320 k := by
  unfold gBg
  rw [rW_f (by decide), rW_f (by decide)]
  unfold gBg0 rU
  simp
theorem gB_dy : gBg P q u g r 2321 k = if k = q then 0 else P 2321 k := by
  unfold gBg
  rw [rW_f (by decide), rW_f (by decide)]
  unfold gBg0 rU
  simp
theorem gB_us : gBg P q u g r 2322 k = if k = q then u else P 2322 k := by
  unfold gBg
  rw [rW_f (by decide), rW_f (by decide)]
  unfold gBg0 rU
  simp
theorem gB_gr : gBg P q u g r 2323 k = if k = q then g else P 2323 k := by
  unfold gBg
  rw [rW_f (by decide), rW_f (by decide)]
  unfold gBg0 rU
  simp
theorem gB_rt : gBg P q u g r 2324 k = if k = q then r else P 2324 k := by
  unfold gBg
  rw [rW_f (by decide), rW_f (by decide)]
  unfold gBg0 rU
  simp
theorem gB_dt : gBg P q u g r 2325 k = if k = 60 * q then 47 else P 2325 k := by
  unfold gBg
  rw [rW_f (by decide), rW_f (by decide)]
  unfold gBg0 rU
  simp
theorem gB_ds : gBg P q u g r 2326 k = if k = q then 1 else P 2326 k := by
  unfold gBg
  rw [rW_f (by decide), rW_f (by decide)]
  unfold gBg0 rU
  simp
theorem gB_os : gBg P q u g r 2329 k = if k = q then 0 else P 2329 k := by
  unfold gBg
  rw [rW_f (by decide), rW_f (by decide)]
  unfold gBg0 rU
  simp
theorem gB_op : gBg P q u g r 2327 k = if 8 * q ≤ k ∧ k < 8 * q + 8 then -1 else P 2327 k := by
  unfold gBg
  rw [rW_f (by decide)]
  by_cases h : 8 * q ≤ k ∧ k < 8 * q + 8
  · rw [if_pos h, rW_i ⟨h.1, by rw [List.length_replicate]; omega⟩, lg_rep (by omega) (by omega)]
  · rw [if_neg h, rW_o (by rw [List.length_replicate]; omega)]
    unfold gBg0 rU
    simp
theorem gB_vs : gBg P q u g r 2362 k = if 26 * q ≤ k ∧ k < 26 * q + 26 then 0 else P 2362 k := by
  unfold gBg
  by_cases h : 26 * q ≤ k ∧ k < 26 * q + 26
  · rw [if_pos h, rW_i ⟨h.1, by rw [List.length_replicate]; omega⟩, lg_rep (by omega) (by omega)]
  · rw [if_neg h, rW_o (by rw [List.length_replicate]; omega), rW_f (by decide)]
    unfold gBg0 rU
    simp
theorem gB_f {f : Nat} (h : bgR.elem f = false) : gBg P q u g r f k = P f k := gBg_rf f k h
theorem qPn_eq : ∀ (m : Nat) (k : Int), (∀ i, k ≤ i → i < k + (m : Int) → ((¬ Q 2320 i = 0 ∧ Q 2323 i = g) ↔ (¬ P 2320 i = 0 ∧ P 2323 i = g))) → qPn Q g m k = qPn P g m k
  | 0, _, _ => rfl
  | m + 1, k, h => by
    have e : ∀ P : qR, qPn P g (m + 1) k = (if ¬ P 2320 k = 0 ∧ P 2323 k = g then 1 else 0) + qPn P g m (k + 1) := fun _ => rfl
    rw [e, e, qPn_eq m (k + 1) (fun i h1 h2 => h i (by omega) (by omega))]
    congr 1
    have hk := h k (Int.le_refl _) (by omega)
    by_cases z : ¬ P 2320 k = 0 ∧ P 2323 k = g
    · rw [if_pos z, if_pos (hk.mpr z)]
    · rw [if_neg z, if_neg (fun c => z (hk.mp c))]
theorem qPn_set : ∀ (m : Nat) (k : Int), (∀ i, k ≤ i → i < k + (m : Int) → i ≠ a → ((¬ Q 2320 i = 0 ∧ Q 2323 i = g) ↔ (¬ P 2320 i = 0 ∧ P 2323 i = g))) → k ≤ a → a < k + m → qPn Q g m k = qPn P g m k - (if ¬ P 2320 a = 0 ∧ P 2323 a = g then 1 else 0) + (if ¬ Q 2320 a = 0 ∧ Q 2323 a = g then 1 else 0)
  | 0, k, _, h1, h2 => by omega
  | m + 1, k, h, h1, h2 => by
    have e : ∀ P : qR, qPn P g (m + 1) k = (if ¬ P 2320 k = 0 ∧ P 2323 k = g then 1 else 0) + qPn P g m (k + 1) := fun _ => rfl
    by_cases q : k = a
    · subst q
      rw [e, e, qPn_eq m (k + 1) (fun i g1 g2 => h i (by omega) (by omega) (by omega))]
      omega
    · rw [e, e, qPn_set m (k + 1) (fun i g1 g2 g3 => h i (by omega) (by omega) g3) (by omega) (by omega)]
      have hk := h k (Int.le_refl _) (by omega) q
      by_cases z : ¬ P 2320 k = 0 ∧ P 2323 k = g
      · rw [if_pos z, if_pos (hk.mpr z)]
        omega
      · rw [if_neg z, if_neg (fun c => z (hk.mp c))]
        omega
/-- a group's object, but for how many hold it -/
theorem XGR.at3 (h : XGR W R P g) (hg : 0 ≤ g ∧ g < 8) (hI : IV false T U P) (hW : ∀ (x : Nat) (k : Int), grO g ≤ x → x < grO g + 66 → k ≠ 2198 → k ≠ 2098 → W2 x k = W x k) (hR : ∀ (x : Nat) (k : Int), grO g ≤ x → x < grO g + 66 → R2 x k = R x k) (hn : W2 (grO g) 2098 = qPn Q g 8 0) (hQ : grQ P Q g) : XGR W2 R2 Q g := by
  have h0 := h
  obtain ⟨a1, a2, a3, a4, a5⟩ := h
  obtain ⟨q1, q2, q3⟩ := hQ
  have hpb : 0 ≤ P 2334 g ∧ P 2334 g ≤ 8 := IV.a hI 2334 0 8 rfl rfl rfl (by omega) (by omega)
  refine ⟨(hW _ _ (Nat.le_refl _) (by omega) (by decide) (by decide)).trans (a1.trans q1.symm), hn, a3.eqv (fun k _ _ => hR _ _ (by omega) (by omega)), fun i hi => (a4 i hi).eqv (fun k _ _ => hR _ _ (by omega) (by omega)), fun k k0 k1 => ?_⟩
  rw [q1] at k1
  obtain ⟨x, hx, b1, b2, b3, b4⟩ := a5 k k0 k1
  obtain ⟨i, hi, hx2⟩ := h0.pt (k := k) ⟨k0, by omega⟩
  have ex : x = grO g + 2 + 8 * i := Option.some.inj (hx.symm.trans hx2)
  obtain ⟨z1, z2, z3⟩ := q2 (8 * g + k) (by omega) (by omega)
  refine ⟨x, (hR _ _ (by omega) (by omega)).trans hx, (hW _ _ (by omega) (by omega) (by decide) (by decide)).trans (b1.trans z1.symm), (hW _ _ (by omega) (by omega) (by decide) (by decide)).trans (b2.trans z2.symm), (hW _ _ (by omega) (by omega) (by decide) (by decide)).trans (b3.trans z3.symm), fun j j0 j1 => ?_⟩
  rw [z3] at j1
  have hmb : 0 ≤ P 2337 (8 * g + k) ∧ P 2337 (8 * g + k) ≤ 6 := IV.a hI 2337 0 64 rfl rfl rfl (by omega) (by omega)
  obtain ⟨c, hc, m1, m2, m3, m4, m5⟩ := b4 j j0 j1
  obtain ⟨y, hy, hc2⟩ := h0.mb hi (j := j) ⟨j0, by omega⟩
  have ec : c = grO g + 4 + 8 * i + y := by
    rw [show x + 1 = grO g + 3 + 8 * i by omega] at hc
    exact Option.some.inj (hc.symm.trans hc2)
  obtain ⟨y1, y2, y3, y4, y5⟩ := q3 (6 * (8 * g + k) + j) (by omega) (by omega)
  refine ⟨c, (hR _ _ (by omega) (by omega)).trans hc, ?_⟩
  unfold MBC
  rw [y1, y2, y3, y4, y5, hW _ _ (by omega) (by omega) (by decide) (by decide), hW _ _ (by omega) (by omega) (by decide) (by decide), hW _ _ (by omega) (by omega) (by decide) (by decide), hW _ _ (by omega) (by omega) (by decide) (by decide), hW _ _ (by omega) (by omega) (by decide) (by decide)]
  exact ⟨m1, m2, m3, m4, m5⟩
/-- processes, groups, openings where one has begun -/
theorem XN.bgn (h : XN W R P) (hI : IV false T U P) (hq : 0 ≤ q ∧ q < 8) (hd : P 2320 q = 0) (hg : 0 ≤ g ∧ g < 8) (hB : BGN W (prO q) (grO g) u r W1) : XN W1 (oU R (prO q) 2201 (some (grO g))) (gBg P q u g r) := by
  obtain ⟨b1, b2, b3, b4, b5, b6, b7, b8, b9, b10⟩ := hB
  obtain ⟨h1, h2, h3⟩ := h
  have hrq := prO_rng hq
  have hrg := grO_rng hg
  have epq : prO q = 295 + 125 * q.toNat := rfl
  have epg : grO g = 229 + 125 * g.toNat := rfl
  have hR : ∀ (x : Nat) (k : Int), ¬ (x = prO q ∧ k = 2201) → oU R (prO q) 2201 (some (grO g)) x k = R x k := fun x k hx => if_neg hx
  refine ⟨fun p2 p0 p1 => ?_, fun g2 g0 g1 => ?_, fun o o0 o1 => ?_⟩
  · obtain ⟨a1, a2, a3, a4⟩ := h1 p2 p0 p1
    have hr2 := prO_rng (p := p2) ⟨p0, p1⟩
    have ep2 : prO p2 = 295 + 125 * p2.toNat := rfl
    by_cases e : p2 = q
    · subst e
      refine ⟨b10.trans a1, by rw [gB_is, if_pos rfl]; exact b1, fun k k0 k1 => ?_, fun _ => ⟨?_, ?_, ?_, ?_, ?_, fun x x0 x1 => ?_⟩⟩
      · rw [gB_op, if_pos (show 8 * p2 ≤ 8 * p2 + k ∧ 8 * p2 + k < 8 * p2 + 8 by omega), if_pos (Or.inr (by decide)), hR _ _ (by omega), a3 k k0 k1, if_pos (Or.inl hd)]
      · rw [gB_us, if_pos rfl]; exact b3
      · rw [gB_rt, if_pos rfl]; exact b4
      · rw [gB_gr, if_pos rfl]; exact if_pos ⟨rfl, rfl⟩
      · rw [gB_ds, if_pos rfl, show seg (gBg P p2 u g r 2325) (60 * p2) (1 : Int).toNat = [47] from seg_eq.mpr ⟨rfl, fun i i0 i1 => by
          have hi : i = 0 := by have : (1 : Int).toNat = 1 := rfl; omega
          rw [hi, Int.add_zero, gB_dt, if_pos rfl]
          rfl⟩]
        exact b6
      · rw [gB_os, if_pos rfl]
        exact b7
      · rw [gB_vs, if_pos (show 26 * p2 ≤ 26 * p2 + x ∧ 26 * p2 + x < 26 * p2 + 26 by omega)]
        exact b8 x x0 x1
    · have hW : ∀ (x : Nat) (k : Int), prO p2 ≤ x → x < prO p2 + 59 → W1 x k = W x k := fun x k x0 x1 => b9 x k (by omega) (by omega)
      refine ⟨(hW _ _ (by omega) (by omega)).trans a1, by rw [hW _ _ (by omega) (by omega), gB_is, if_neg e]; exact a2, fun k k0 k1 => ?_, fun hl => ?_⟩
      · rw [gB_op, gB_is, if_neg e, if_neg (show ¬ (8 * q ≤ 8 * p2 + k ∧ 8 * p2 + k < 8 * q + 8) by omega), hR _ _ (by omega)]
        exact a3 k k0 k1
      · rw [gB_is, if_neg e] at hl
        have hdz : 0 ≤ P 2326 p2 ∧ P 2326 p2 ≤ 60 := IV.a hI 2326 0 8 rfl rfl rfl (by omega) (by omega)
        refine (a4 hl).at2 ⟨p0, p1⟩ (fun x k x0 x1 _ => hW x k x0 x1) (hR _ _ (by omega)) (by rw [gB_us, if_neg e]) (by rw [gB_rt, if_neg e]) (by rw [gB_gr, if_neg e]) ?_ ?_ (fun x x0 x1 => ?_)
        · rw [gB_ds, if_neg e]
          refine seg_seg.mpr (fun i i0 i1 => ?_)
          rw [gB_dt, if_neg (by omega)]
        · rw [gB_os, if_neg e, show gBg P q u g r 2328 = P 2328 from funext (fun k => gB_f rfl)]
        · rw [gB_vs, if_neg (show ¬ (26 * q ≤ 26 * p2 + x ∧ 26 * p2 + x < 26 * q + 26) by omega), show gBg P q u g r 2361 = P 2361 from funext (fun k => gB_f rfl)]
  · have hr2 := grO_rng (g := g2) ⟨g0, g1⟩
    have eg2 : grO g2 = 229 + 125 * g2.toNat := rfl
    have hn := qPn_set (P := P) (Q := gBg P q u g r) (g := g2) (a := q) 8 0 (fun i _ _ hi => by rw [gB_is, gB_gr, if_neg hi, if_neg hi]) hq.1 (by show q < (0 : Int) + ((8 : Nat) : Int); omega)
    rw [gB_is, gB_gr, if_pos rfl, if_pos rfl, if_neg (show ¬ (¬ P 2320 q = 0 ∧ P 2323 q = g2) from fun c => c.1 hd)] at hn
    have hgq : grQ P (gBg P q u g r) g2 := ⟨gB_f rfl, fun _ _ _ => ⟨gB_f rfl, gB_f rfl, gB_f rfl⟩, fun _ _ _ => ⟨gB_f rfl, gB_f rfl, gB_f rfl, gB_f rfl, gB_f rfl⟩⟩
    have hold := (h2 g2 g0 g1).2.1
    refine (h2 g2 g0 g1).at3 ⟨g0, g1⟩ hI (fun x k x0 x1 _ hk => b9 x k (by omega) (fun c => hk c.2)) (fun x k x0 x1 => hR x k (by omega)) ?_ hgq
    by_cases e : g2 = g
    · subst e
      rw [if_pos ⟨by decide, rfl⟩] at hn
      rw [b5, hold]
      omega
    · rw [if_neg (fun c => e c.2.symm)] at hn
      rw [b9 _ _ (by omega) (by omega), hold]
      omega
  · obtain ⟨a1, a2⟩ := h3 o o0 o1
    have eu : qUsers (gBg P q u g r) o = qUsers P o := usR_eq (m := 64) (k := 0) (nn := 0) (fun i i0 i1 => by
      by_cases e : i / 8 = q
      · rw [e, gB_is, if_pos rfl, gB_op, if_pos (show 8 * q ≤ i ∧ i < 8 * q + 8 by omega)]
        constructor
        · rintro ⟨_, c⟩
          omega
        · rintro ⟨c, _⟩
          exact absurd hd c
      · rw [gB_is, if_neg e, gB_op, if_neg (show ¬ (8 * q ≤ i ∧ i < 8 * q + 8) by omega)])
    rw [b9 _ _ (by omega) (by omega), b9 _ _ (by omega) (by omega), b9 _ _ (by omega) (by omega), b9 _ _ (by omega) (by omega), eu, gB_f rfl, gB_f rfl, gB_f rfl, gB_f rfl]
    exact ⟨a1, a2⟩
theorem GO_gBg (h : GO P) (hq : 0 ≤ q ∧ q < 8) (hd : P 2320 q = 0) : GO (gBg P q u g r) := by
  refine ⟨fun i i0 i1 c1 c2 => ?_, fun o o0 o1 c1 => ?_⟩
  · rw [gB_op] at c2 ⊢
    by_cases e : 8 * q ≤ i ∧ i < 8 * q + 8
    · rw [if_pos e] at c2
      omega
    · rw [if_neg e] at c2 ⊢
      rw [gB_is, if_neg (show ¬ i / 8 = q by omega)] at c1
      rw [gB_f rfl]
      exact h.1 i i0 i1 c1 c2
  · rw [gB_f rfl] at c1
    obtain ⟨i, g1, g2, g3⟩ := h.2 o o0 o1 c1
    have e : ¬ (i : Int) / 8 = q := fun c => by rw [c] at g2; exact g2 hd
    refine ⟨i, g1, by rw [gB_is, if_neg e]; exact g2, ?_⟩
    rw [gB_op, if_neg (by omega)]
    exact g3
end XBGU
