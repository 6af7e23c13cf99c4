/-! A clunk and a write beside the servers' rows: either order. -/
section XCOMB
variable {fb : Bool} {d : Nat} {σ0 σ : hM} {A B P Q : qR} {s n u k v c t z o T U p x perm mode : Int} {l nm : List Int} {ch : Ch} {g : Nat}
theorem ck_one (hg : ckR.elem g = false) : ckR.all (fun x => !(([g] : List Nat).elem x)) = true := by
  refine List.all_eq_true.mpr (fun y hy => ?_)
  have hne : y ≠ g := fun e => by
    rw [← e] at hg
    rw [List.elem_iff.mpr hy] at hg
    cases hg
  show (!(y == g || false)) = true
  rw [Bool.or_false, beq_eq_false_iff_ne.mpr hne]
  rfl
theorem kDrop_row (hg : ckR.elem g = false) (hs : srvRow g = false) (h1 : g ≠ 2281) (h2 : g ≠ 2316) (h3 : g ≠ 2317) (hAB : ∀ (f : Nat) (j : Int), f ≠ g → A f j = B f j) : ∀ (f : Nat) (j : Int), kDrop A ch f j = if f = g then A f j else kDrop B ch f j := fun f j => by
  by_cases q : f = g
  · subst q
    rw [if_pos rfl]
    exact tP_f hs h1 h2 h3
  · rw [if_neg q]
    exact (RF_clk (s := ch.1) (l := mOne 120 ch.2.1) (L := [g]) (fun f j hf => hAB f j (fun e => by rw [e, List.elem_cons, beq_self_eq_true] at hf; cases hf)) (ck_one hg) mOne_4).1 f j (by
      show (f == g || false) = false
      rw [Bool.or_false]
      exact beq_eq_false_iff_ne.mpr q)
theorem kDrop_rU (hg : ckR.elem g = false) (hs : srvRow g = false) (h1 : g ≠ 2281) (h2 : g ≠ 2316) (h3 : g ≠ 2317) : kDrop (rU P g k v) ch = rU (kDrop P ch) g k v := by
  funext f j
  rw [kDrop_row (B := P) hg hs h1 h2 h3 (fun f j hf => rU_f hf) f j]
  by_cases q : f = g
  · subst q
    rw [if_pos rfl]
    have e : kDrop P ch f j = P f j := tP_f hs h1 h2 h3
    show (if _ then _ else P f j) = (if _ then _ else kDrop P ch f j)
    rw [e]
  · rw [if_neg q, rU_f q]
theorem kDrop_rW (hg : ckR.elem g = false) (hs : srvRow g = false) (h1 : g ≠ 2281) (h2 : g ≠ 2316) (h3 : g ≠ 2317) : kDrop (rW P g o l) ch = rW (kDrop P ch) g o l := by
  funext f j
  rw [kDrop_row (B := P) hg hs h1 h2 h3 (fun f j hf => rW_f hf) f j]
  by_cases q : f = g
  · subst q
    rw [if_pos rfl]
    have e : kDrop P ch f j = P f j := tP_f hs h1 h2 h3
    show (if _ then _ else P f j) = (if _ then _ else kDrop P ch f j)
    rw [e]
  · rw [if_neg q, rW_f q]
theorem kDrop_tell : kDrop (gTell P p x) ch = gTell (kDrop P ch) p x := by
  have e : kDrop P ch 2329 p = P 2329 p := tP_f (by decide) (by decide) (by decide) (by decide)
  unfold gTell
  rw [e]
  by_cases q : P 2329 p < 1000
  · rw [if_pos q, if_pos q, kDrop_rU (by decide) (by decide) (by decide) (by decide) (by decide), kDrop_rU (by decide) (by decide) (by decide) (by decide) (by decide)]
  · rw [if_neg q, if_neg q]
theorem kDrop_out : ∀ (l : List Int) (P : qR), kDrop (gOut P p l) ch = gOut (kDrop P ch) p l
  | [], _ => rfl
  | x :: r, P => by
    show kDrop (gOut (gTell P p x) p r) ch = gOut (gTell (kDrop P ch) p x) p r
    rw [kDrop_out r (gTell P p x), kDrop_tell]
theorem kDrop_var : kDrop (gVar P p v l) ch = gVar (kDrop P ch) p v l := by
  unfold gVar
  rw [kDrop_rW (by decide) (by decide) (by decide) (by decide) (by decide), kDrop_rU (by decide) (by decide) (by decide) (by decide) (by decide)]
theorem kDrop_off : kDrop (rU P 2333 o x) ch = rU (kDrop P ch) 2333 o x := kDrop_rU (by decide) (by decide) (by decide) (by decide) (by decide)
/-- mkdir's mode, as the class writes it -/
theorem kCreate_m1 {wd : List Int} : kCreate P p wd (-2147483137) mode = kCreate P p wd 2147484159 mode := by
  have h : ∀ (r : Int × qR × List Ch) (nm : List Int), kMk r nm (-2147483137) mode = kMk r nm 2147484159 mode := fun r nm => by
    obtain ⟨e, Q, h⟩ := r
    cases h with
    | nil => rfl
    | cons c t =>
      show (tE Q c.1 (mCre c.2.1 nm (-2147483137) mode), tP Q c.1 (mCre c.2.1 nm (-2147483137) mode), [c]) = (tE Q c.1 (mCre c.2.1 nm 2147484159 mode), tP Q c.1 (mCre c.2.1 nm 2147484159 mode), [c])
      rw [mCre_m1]
  unfold kCreate
  rw [h]
end XCOMB
