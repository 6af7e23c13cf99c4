/-! The class's processes and groups: what one of them is made of, and what a change elsewhere leaves. -/
/-- rows that a group's object shows -/
def grQ (P Q : qR) (g : Int) : Prop := Q 2334 g = P 2334 g ∧ (∀ q : Int, 8 * g ≤ q → q < 8 * g + 8 → Q 2335 q = P 2335 q ∧ Q 2336 q = P 2336 q ∧ Q 2337 q = P 2337 q) ∧ ∀ m : Int, 48 * g ≤ m → m < 48 * g + 48 → Q 2338 m = P 2338 m ∧ Q 2339 m = P 2339 m ∧ Q 2340 m = P 2340 m ∧ Q 2341 m = P 2341 m ∧ Q 2342 m = P 2342 m
section XLOC
variable {fb : Bool} {d S b c q n a0 m : Nat} {σ0 σ : hM} {W W1 W2 P Q : qR} {R R1 R2 : rR} {i j k x z v s e w f g u p p2 o K T U t a dd pa dr : Int} {l l0 lo nm M wd : List Int} {ch : Ch}
theorem LIV.at2 (h : LIV W R P p) (hp : 0 ≤ p ∧ p < 8) (hW : ∀ (x : Nat) (k : Int), prO p ≤ x → x < prO p + 59 → k ≠ 2198 → W2 x k = W x k) (hR : R2 (prO p) 2201 = R (prO p) 2201) (h1 : Q 2322 p = P 2322 p) (h2 : Q 2324 p = P 2324 p) (h3 : Q 2323 p = P 2323 p) (h4 : seg (Q 2325) (60 * p) (Q 2326 p).toNat = seg (P 2325) (60 * p) (P 2326 p).toNat) (h5 : seg (Q 2328) (1000 * p) (Q 2329 p).toNat = seg (P 2328) (1000 * p) (P 2329 p).toNat) (h6 : ∀ x : Int, 0 ≤ x → x < 26 → seg (Q 2361) (20 * (26 * p + x)) (Q 2362 (26 * p + x)).toNat = seg (P 2361) (20 * (26 * p + x)) (P 2362 (26 * p + x)).toNat) : LIV W2 R2 Q p := by
  obtain ⟨b1, b2, b3, b4, b5, b6⟩ := h
  have by1 : ∀ {b n : Nat} {l : List Int}, BY W b n l → prO p ≤ b → b + 1 < prO p + 59 → BY W2 b n l := fun {b n l} h h0 h1 => by
    obtain ⟨a1, a2, a3, a4, a5, a6, a7⟩ := h
    exact ⟨a1, a2, a3, (hW _ _ h0 (by omega) (by decide)).trans a4, a5, a6, fun i i0 i1 => (hW _ _ (by omega) h1 (by omega)).trans (a7 i i0 i1)⟩
  refine ⟨(hW _ _ (Nat.le_refl _) (by omega) (by decide)).trans (b1.trans h1.symm), (hW _ _ (Nat.le_refl _) (by omega) (by decide)).trans (b2.trans h2.symm), ?_, ?_, ?_, fun x x0 x1 => ?_⟩
  · rw [hR, h3]
    exact b3
  · rw [h4]
    exact by1 b4 (by omega) (by omega)
  · rw [h5]
    exact by1 b5 (by omega) (by omega)
  · rw [h6 x x0 x1]
    exact by1 (b6 x x0 x1) (by omega) (by omega)
theorem MBC.at2 (h : MBC W P c x) (hW : ∀ k : Int, k ≠ 2198 → W2 c k = W c k) (hQ : Q 2338 x = P 2338 x ∧ Q 2339 x = P 2339 x ∧ Q 2340 x = P 2340 x ∧ Q 2341 x = P 2341 x ∧ Q 2342 x = P 2342 x) : MBC W2 Q c x := by
  obtain ⟨a1, a2, a3, a4, a5⟩ := h
  obtain ⟨q1, q2, q3, q4, q5⟩ := hQ
  unfold MBC
  rw [q1, q2, q3, q4, q5, hW _ (by decide), hW _ (by decide), hW _ (by decide), hW _ (by decide), hW _ (by decide)]
  exact ⟨a1, a2, a3, a4, a5⟩
theorem XGR.at2 (h : XGR W R P g) (hg : 0 ≤ g ∧ g < 8) (hI : IV false T U P) (hW : ∀ (x : Nat) (k : Int), grO g ≤ x → x < grO g + 66 → k ≠ 2198 → W2 x k = W x k) (hR : ∀ (x : Nat) (k : Int), grO g ≤ x → x < grO g + 66 → R2 x k = R x k) (hn : qPn Q g 8 0 = qPn P g 8 0) (hQ : grQ P Q g) : XGR W2 R2 Q g := by
  have h0 := h
  obtain ⟨a1, a2, a3, a4, a5⟩ := h
  obtain ⟨q1, q2, q3⟩ := hQ
  have hpb : 0 ≤ P 2334 g ∧ P 2334 g ≤ 8 := IV.a hI 2334 0 8 rfl rfl rfl (by omega) (by omega)
  refine ⟨(hW _ _ (Nat.le_refl _) (by omega) (by decide)).trans (a1.trans q1.symm), (hW _ _ (Nat.le_refl _) (by omega) (by decide)).trans (a2.trans hn.symm), a3.eqv (fun k _ _ => hR _ _ (by omega) (by omega)), fun i hi => (a4 i hi).eqv (fun k _ _ => hR _ _ (by omega) (by omega)), fun k k0 k1 => ?_⟩
  rw [q1] at k1
  obtain ⟨x, hx, b1, b2, b3, b4⟩ := a5 k k0 k1
  obtain ⟨i, hi, hx2⟩ := h0.pt (k := k) ⟨k0, by omega⟩
  have ex : x = grO g + 2 + 8 * i := Option.some.inj (hx.symm.trans hx2)
  obtain ⟨z1, z2, z3⟩ := q2 (8 * g + k) (by omega) (by omega)
  refine ⟨x, (hR _ _ (by omega) (by omega)).trans hx, (hW _ _ (by omega) (by omega) (by decide)).trans (b1.trans z1.symm), (hW _ _ (by omega) (by omega) (by decide)).trans (b2.trans z2.symm), (hW _ _ (by omega) (by omega) (by decide)).trans (b3.trans z3.symm), fun j j0 j1 => ?_⟩
  rw [z3] at j1
  have hmb : 0 ≤ P 2337 (8 * g + k) ∧ P 2337 (8 * g + k) ≤ 6 := IV.a hI 2337 0 64 rfl rfl rfl (by omega) (by omega)
  obtain ⟨c, hc, hm⟩ := b4 j j0 j1
  obtain ⟨y, hy, hc2⟩ := h0.mb hi (j := j) ⟨j0, by omega⟩
  have ec : c = grO g + 4 + 8 * i + y := by
    rw [show x + 1 = grO g + 3 + 8 * i by omega] at hc
    exact Option.some.inj (hc.symm.trans hc2)
  exact ⟨c, (hR _ _ (by omega) (by omega)).trans hc, hm.at2 (fun k hk => hW _ _ (by omega) (by omega) hk) (q3 (6 * (8 * g + k) + j) (by omega) (by omega))⟩
/-- one row of descriptors changes -/
theorem usR_add : ∀ (m : Nat) (k n : Int), usR P x m k n = usR P x m k 0 + n
  | 0, k, n => by show n = 0 + n; omega
  | m + 1, k, n => by
    have e : ∀ n, usR P x (m + 1) k n = usR P x m (k + 1) (if ¬ P 2320 (k / 8) = 0 ∧ P 2327 k = x then n + 1 else n) := fun _ => rfl
    rw [e, e, usR_add m (k + 1) (if ¬ P 2320 (k / 8) = 0 ∧ P 2327 k = x then n + 1 else n), usR_add m (k + 1) (if ¬ P 2320 (k / 8) = 0 ∧ P 2327 k = x then 0 + 1 else 0)]
    split <;> omega
theorem usR_eq {nn : Int} (h : ∀ i, k ≤ i → i < k + (m : Int) → ((¬ Q 2320 (i / 8) = 0 ∧ Q 2327 i = x) ↔ (¬ P 2320 (i / 8) = 0 ∧ P 2327 i = x))) : usR Q x m k nn = usR P x m k nn := by
  induction m generalizing k nn with
  | zero => rfl
  | succ m ih =>
    have e : ∀ P : qR, usR P x (m + 1) k nn = usR P x m (k + 1) (if ¬ P 2320 (k / 8) = 0 ∧ P 2327 k = x then nn + 1 else nn) := fun _ => rfl
    rw [e, e, ih (fun i h1 h2 => h i (by omega) (by omega))]
    congr 1
    by_cases q : ¬ P 2320 (k / 8) = 0 ∧ P 2327 k = x
    · rw [if_pos q, if_pos ((h k (Int.le_refl _) (by omega)).mpr q)]
    · rw [if_neg q, if_neg (fun c => q ((h k (Int.le_refl _) (by omega)).mp c))]
theorem usR_set : ∀ (m : Nat) (k : Int), (∀ i, k ≤ i → i < k + (m : Int) → i ≠ a → ((¬ Q 2320 (i / 8) = 0 ∧ Q 2327 i = x) ↔ (¬ P 2320 (i / 8) = 0 ∧ P 2327 i = x))) → k ≤ a → a < k + m → usR Q x m k 0 = usR P x m k 0 - (if ¬ P 2320 (a / 8) = 0 ∧ P 2327 a = x then 1 else 0) + (if ¬ Q 2320 (a / 8) = 0 ∧ Q 2327 a = x then 1 else 0)
  | 0, k, _, h1, h2 => by omega
  | m + 1, k, h, h1, h2 => by
    have e : ∀ P : qR, usR P x (m + 1) k 0 = usR P x m (k + 1) 0 + (if ¬ P 2320 (k / 8) = 0 ∧ P 2327 k = x then 0 + 1 else 0) := fun P => usR_add m (k + 1) _
    by_cases q : k = a
    · subst q
      rw [e, e, usR_eq (fun i g1 g2 => h i (by omega) (by omega) (by omega))]
      show _ + (if ¬ Q 2320 (k / 8) = 0 ∧ Q 2327 k = x then (1 : Int) else 0) = _ + (if ¬ P 2320 (k / 8) = 0 ∧ P 2327 k = x then (1 : Int) else 0) - _ + _
      omega
    · rw [e, e, usR_set m (k + 1) (fun i g1 g2 g3 => h i (by omega) (by omega) g3) (by omega) (by omega)]
      have hk := h k (Int.le_refl _) (by omega) q
      by_cases z : ¬ P 2320 (k / 8) = 0 ∧ P 2327 k = x
      · rw [if_pos z, if_pos (hk.mpr z)]
        omega
      · rw [if_neg z, if_neg (fun c => z (hk.mp c))]
        omega
theorem dv8 (hp : 0 ≤ dd ∧ dd < 8) : (8 * p + dd) / 8 = p := by omega
/-- a descriptor leads to a new opening -/
def gK1 (P : qR) (p dd o : Int) (c : Ch) : qR := rU (rU (rU (rU (rU P 2330 o 1) 2331 o c.1) 2332 o c.2.1) 2333 o 0) 2327 (8 * p + dd) o
theorem gK1_f {f : Nat} (h1 : f ≠ 2330) (h2 : f ≠ 2331) (h3 : f ≠ 2332) (h4 : f ≠ 2333) (h5 : f ≠ 2327) : gK1 P p dd o ch f k = P f k := (rU_f h5).trans ((rU_f h4).trans ((rU_f h3).trans ((rU_f h2).trans (rU_f h1))))
theorem gK1_op : gK1 P p dd o ch 2327 k = if k = 8 * p + dd then o else P 2327 k := by
  by_cases q : k = 8 * p + dd
  · rw [if_pos q, q]
    exact rU_s
  · rw [if_neg q]
    exact (rU_k q).trans ((rU_f (by decide)).trans ((rU_f (by decide)).trans ((rU_f (by decide)).trans (rU_f (by decide)))))
theorem gK1_is : gK1 P p dd o ch 2330 k = if k = o then 1 else P 2330 k := by
  have e : gK1 P p dd o ch 2330 k = rU P 2330 o 1 2330 k := (rU_f (by decide)).trans ((rU_f (by decide)).trans ((rU_f (by decide)).trans (rU_f (by decide))))
  rw [e]
  by_cases q : k = o
  · rw [if_pos q, q]
    exact rU_s
  · rw [if_neg q]
    exact rU_k q
theorem gK1_sv : gK1 P p dd o ch 2331 k = if k = o then ch.1 else P 2331 k := by
  have e : gK1 P p dd o ch 2331 k = rU (rU P 2330 o 1) 2331 o ch.1 2331 k := (rU_f (by decide)).trans ((rU_f (by decide)).trans (rU_f (by decide)))
  rw [e]
  by_cases q : k = o
  · rw [if_pos q, q]
    exact rU_s
  · rw [if_neg q]
    exact (rU_k q).trans (rU_f (by decide))
theorem gK1_fd : gK1 P p dd o ch 2332 k = if k = o then ch.2.1 else P 2332 k := by
  have e : gK1 P p dd o ch 2332 k = rU (rU (rU P 2330 o 1) 2331 o ch.1) 2332 o ch.2.1 2332 k := (rU_f (by decide)).trans (rU_f (by decide))
  rw [e]
  by_cases q : k = o
  · rw [if_pos q, q]
    exact rU_s
  · rw [if_neg q]
    exact (rU_k q).trans ((rU_f (by decide)).trans (rU_f (by decide)))
theorem gK1_of : gK1 P p dd o ch 2333 k = if k = o then 0 else P 2333 k := by
  have e : gK1 P p dd o ch 2333 k = rU (rU (rU (rU P 2330 o 1) 2331 o ch.1) 2332 o ch.2.1) 2333 o 0 2333 k := rU_f (by decide)
  rw [e]
  by_cases q : k = o
  · rw [if_pos q, q]
    exact rU_s
  · rw [if_neg q]
    exact (rU_k q).trans ((rU_f (by decide)).trans ((rU_f (by decide)).trans (rU_f (by decide))))
theorem GI_gK1 (hG : GI T U P) (hp : 0 ≤ p ∧ p < 8) (hd : 0 ≤ dd ∧ dd < 8) (ho : 0 ≤ o ∧ o < 64) (h1 : 0 ≤ ch.1 ∧ ch.1 < 3) (h2 : 0 ≤ ch.2.1 ∧ ch.2.1 ≤ 47) (hU : 0 ≤ U) : GI T U (gK1 P p dd o ch) := by
  unfold gK1
  exact GI_one (f := 2327) (ty := 0) (len := 64) (GI_one (f := 2333) (ty := 0) (len := 64) (GI_one (f := 2332) (ty := 0) (len := 64) (GI_one (f := 2331) (ty := 0) (len := 64) (GI_one (f := 2330) (ty := 2) (len := 64) hG rfl (show (0 : Int) ≤ 1 ∧ (1 : Int) ≤ 1 by decide) rfl rfl rfl rfl rfl rfl rfl rfl rfl (by decide) (by decide)) rfl (show (0 : Int) ≤ ch.1 ∧ ch.1 ≤ 2 by omega) rfl rfl rfl rfl rfl rfl rfl rfl rfl (by decide) (by decide)) rfl (show (0 : Int) ≤ ch.2.1 ∧ ch.2.1 ≤ 47 by omega) rfl rfl rfl rfl rfl rfl rfl rfl rfl (by decide) (by decide)) rfl (show (0 : Int) ≤ 0 ∧ (0 : Int) ≤ U by omega) rfl rfl rfl rfl rfl rfl rfl rfl rfl (by decide) (by decide)) rfl (show (-1 : Int) ≤ o ∧ o ≤ 63 by omega) rfl rfl rfl rfl rfl rfl rfl rfl rfl (by decide) (by decide)
theorem GO_gK1 (h : GO P) (hp : 0 ≤ p ∧ p < 8) (hd : 0 ≤ dd ∧ dd < 8) (ho : 0 ≤ o ∧ o < 64) (hlv : ¬ P 2320 p = 0) (h0 : P 2327 (8 * p + dd) < 0) : GO (gK1 P p dd o ch) := by
  have hpr : ∀ k, gK1 P p dd o ch 2320 k = P 2320 k := fun k => gK1_f (by decide) (by decide) (by decide) (by decide) (by decide)
  refine ⟨fun i i0 i1 c1 c2 => ?_, fun o2 o0 o1 c1 => ?_⟩
  · rw [hpr] at c1
    rw [gK1_op] at c2 ⊢
    rw [gK1_is]
    by_cases q : i = 8 * p + dd
    · rw [if_pos q, if_pos rfl]
    · rw [if_neg q] at c2 ⊢
      split
      · rfl
      · exact h.1 i i0 i1 c1 c2
  · rw [gK1_is] at c1
    by_cases q : o2 = o
    · refine ⟨(8 * p + dd).toNat, by omega, ?_, ?_⟩
      · rw [show (((8 * p + dd).toNat : Nat) : Int) = 8 * p + dd by omega, dv8 hd, hpr]
        exact hlv
      · rw [show (((8 * p + dd).toNat : Nat) : Int) = 8 * p + dd by omega, gK1_op, if_pos rfl, q]
    · rw [if_neg q] at c1
      obtain ⟨i, g1, g2, g3⟩ := h.2 o2 o0 o1 c1
      refine ⟨i, g1, by rw [hpr]; exact g2, ?_⟩
      rw [gK1_op, if_neg (fun c => by rw [c] at g3; omega)]
      exact g3
theorem XW.kep (h : XW K T U W R P) (hp : 0 ≤ p ∧ p < 8) (hlv : ¬ P 2320 p = 0) (hd : 0 ≤ dd ∧ dd < 8) (h0 : P 2327 (8 * p + dd) < 0) (ho : 0 ≤ o ∧ o < 64) (hi : P 2330 o = 0) (h1 : 0 ≤ ch.1 ∧ ch.1 < 3) (h2 : 0 ≤ ch.2.1 ∧ ch.2.1 ≤ 47) (hU : 0 ≤ U) : XW K T U (rU (chW W (1229 + o.toNat) ch.1 ch.2.1 pa dr) (1229 + o.toNat) 2167 1) (oU (oU R (1229 + o.toNat) 2164 none) (prO p + 6) dd (some (1229 + o.toNat))) (gK1 P p dd o ch) := by
  have hG := h.1.2.2.2.1
  have hGO := h.1.2.2.2.2.2.1
  have hW : ∀ (x : Nat) (k : Int), x ≠ 1229 + o.toNat → rU (chW W (1229 + o.toNat) ch.1 ch.2.1 pa dr) (1229 + o.toNat) 2167 1 x k = W x k := fun x k hx => by
    unfold chW
    rw [rU_f hx, rU_f hx, rU_f hx, rU_f hx, rU_f hx, rU_f hx, rU_f hx, rU_f hx]
  have hR : ∀ (x : Nat) (k : Int), x ≠ 1229 + o.toNat → ¬ (x = prO p + 6 ∧ k = dd) → oU (oU R (1229 + o.toNat) 2164 none) (prO p + 6) dd (some (1229 + o.toNat)) x k = R x k := fun x k hx hy => (if_neg hy).trans (if_neg (fun c => hx c.1))
  have hpp := prO_rng hp
  have epp : prO p = 295 + 125 * p.toNat := rfl
  have hpr : ∀ k, gK1 P p dd o ch 2320 k = P 2320 k := fun k => gK1_f (by decide) (by decide) (by decide) (by decide) (by decide)
  have hf : ∀ (f : Nat) (k : Int), f ≠ 2330 → f ≠ 2331 → f ≠ 2332 → f ≠ 2333 → f ≠ 2327 → gK1 P p dd o ch f k = P f k := fun f k a b c d e => gK1_f a b c d e
  have hff : ∀ (f : Nat), f ≠ 2330 → f ≠ 2331 → f ≠ 2332 → f ≠ 2333 → f ≠ 2327 → gK1 P p dd o ch f = P f := fun f a b c d e => funext (fun k => gK1_f a b c d e)
  refine h.row (fun f k hf => gK1_f (fun e => by rw [e] at hf; exact absurd hf (by decide)) (fun e => by rw [e] at hf; exact absurd hf (by decide)) (fun e => by rw [e] at hf; exact absurd hf (by decide)) (fun e => by rw [e] at hf; exact absurd hf (by decide)) (fun e => by rw [e] at hf; exact absurd hf (by decide))) (fun x k hx => ?_) (fun x k hx => ?_) ⟨fun p2 p0 p1 => ?_, fun g g0 g1 => ?_, fun o2 o0 o1 => ?_⟩ (GI_gK1 hG hp hd ho h1 h2 hU) (GO_gK1 hGO hp hd ho hlv h0)
  · by_cases q : x = 1229 + o.toNat
    · unfold chW
      have : k = 2198 := by omega
      rw [this, q, rU_k (by decide), rU_k (by decide), rU_k (by decide), rU_k (by decide), rU_k (by decide), rU_k (by decide), rU_k (by decide), rU_k (by decide)]
    · exact hW x k q
  · refine (if_neg (fun c => by omega)).trans (if_neg (fun c => by omega))
  · obtain ⟨a1, a2, a3, a4⟩ := h.1.2.2.1.1 p2 p0 p1
    have hrp := prO_rng (p := p2) ⟨p0, p1⟩
    have epp2 : prO p2 = 295 + 125 * p2.toNat := rfl
    refine ⟨(hW _ _ (by omega)).trans a1, by rw [hW _ _ (by omega), hpr]; exact a2, fun k k0 k1 => ?_, fun hl => ?_⟩
    · rw [hpr, gK1_op]
      by_cases q : p2 = p ∧ k = dd
      · obtain ⟨q1, q2⟩ := q
        subst q1
        subst q2
        rw [if_pos rfl, if_neg (fun c => c.elim hlv (by omega))]
        exact if_pos ⟨rfl, rfl⟩
      · have hne : ¬ 8 * p2 + k = 8 * p + dd := fun c => q (by omega)
        rw [if_neg hne, hR _ _ (by omega) (fun c => q (by omega))]
        exact a3 k k0 k1
    · rw [hpr] at hl
      refine (a4 hl).at2 ⟨p0, p1⟩ (fun x k x0 x1 _ => hW x k (by omega)) (hR _ _ (by omega) (fun c => by omega)) (hf _ _ (by decide) (by decide) (by decide) (by decide) (by decide)) (hf _ _ (by decide) (by decide) (by decide) (by decide) (by decide)) (hf _ _ (by decide) (by decide) (by decide) (by decide) (by decide)) ?_ ?_ (fun x _ _ => ?_)
      · rw [hff 2325 (by decide) (by decide) (by decide) (by decide) (by decide), hff 2326 (by decide) (by decide) (by decide) (by decide) (by decide)]
      · rw [hff 2328 (by decide) (by decide) (by decide) (by decide) (by decide), hff 2329 (by decide) (by decide) (by decide) (by decide) (by decide)]
      · rw [hff 2361 (by decide) (by decide) (by decide) (by decide) (by decide), hff 2362 (by decide) (by decide) (by decide) (by decide) (by decide)]
  · have hrg := grO_rng (g := g) ⟨g0, g1⟩
    have egg : grO g = 229 + 125 * g.toNat := rfl
    exact (h.1.2.2.1.2.1 g g0 g1).at2 ⟨g0, g1⟩ hG.iv (fun x k x0 x1 _ => hW x k (by omega)) (fun x k x0 x1 => hR x k (by omega) (fun c => by omega)) (qPn_fr (fun k => hpr k) (fun k => hf _ _ (by decide) (by decide) (by decide) (by decide) (by decide)) 8 0) ⟨hf _ _ (by decide) (by decide) (by decide) (by decide) (by decide), fun q _ _ => ⟨hf _ _ (by decide) (by decide) (by decide) (by decide) (by decide), hf _ _ (by decide) (by decide) (by decide) (by decide) (by decide), hf _ _ (by decide) (by decide) (by decide) (by decide) (by decide)⟩, fun m _ _ => ⟨hf _ _ (by decide) (by decide) (by decide) (by decide) (by decide), hf _ _ (by decide) (by decide) (by decide) (by decide) (by decide), hf _ _ (by decide) (by decide) (by decide) (by decide) (by decide), hf _ _ (by decide) (by decide) (by decide) (by decide) (by decide), hf _ _ (by decide) (by decide) (by decide) (by decide) (by decide)⟩⟩
  · obtain ⟨a1, a2⟩ := h.1.2.2.1.2.2 o2 o0 o1
    have hu := users_open hGO (x := o) ho
    have eu : qUsers (gK1 P p dd o ch) o2 = if o2 = o then 1 else qUsers P o2 := by
      have hs := usR_set (P := P) (Q := gK1 P p dd o ch) (x := o2) (a := 8 * p + dd) 64 0 (fun i _ _ hi => by rw [hpr, gK1_op, if_neg hi]) (by omega) (by show _ < (0 : Int) + ((64 : Nat) : Int); omega)
      rw [dv8 hd, hpr, gK1_op, if_pos rfl, if_neg (fun c => by omega)] at hs
      have e1 : qUsers (gK1 P p dd o ch) o2 = usR (gK1 P p dd o ch) o2 64 0 0 := rfl
      have e2 : qUsers P o2 = usR P o2 64 0 0 := rfl
      rw [e1, e2, hs]
      by_cases q : o2 = o
      · rw [if_pos q, if_pos ⟨hlv, q.symm⟩, ← e2, q]
        have := hu.2.mpr hi
        omega
      · rw [if_neg q, if_neg (fun c => q c.2.symm)]
        omega
    rw [eu, gK1_is, gK1_sv, gK1_fd, gK1_of]
    by_cases q : o2 = o
    · subst q
      rw [if_pos rfl, if_pos rfl, if_pos rfl, if_pos rfl, if_pos rfl]
      exact ⟨rU_s, fun _ => ⟨(rU_k (by decide)).trans chW_at.1, (rU_k (by decide)).trans chW_at.2.1, (rU_k (by decide)).trans chW_at.2.2.2.2.2.1⟩⟩
    · rw [if_neg q, if_neg q, if_neg q, if_neg q, if_neg q, hW _ _ (by omega), hW _ _ (by omega), hW _ _ (by omega), hW _ _ (by omega)]
      exact ⟨a1, a2⟩
theorem tk1 (h : l.length ≤ n) : (if (l.length : Int) < n then l ++ [x] else l) = (l ++ [x]).take n := by
  by_cases q : (l.length : Int) < n
  · rw [if_pos q, List.take_of_length_le (by rw [List.length_append]; show l.length + 1 ≤ n; omega)]
  · rw [if_neg q, List.take_append_of_le_length (by omega), List.take_of_length_le h]
theorem dec1 (hd : 0 ≤ dd ∧ dd < 10) : decL dd = [48 + dd] := by
  have : dd = 0 ∨ dd = 1 ∨ dd = 2 ∨ dd = 3 ∨ dd = 4 ∨ dd = 5 ∨ dd = 6 ∨ dd = 7 ∨ dd = 8 ∨ dd = 9 := by omega
  rcases this with rfl | rfl | rfl | rfl | rfl | rfl | rfl | rfl | rfl | rfl <;> decide
end XLOC
