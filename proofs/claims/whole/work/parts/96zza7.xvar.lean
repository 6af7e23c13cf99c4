/-! The class's processes: a variable, what a process is told, where it is; set. -/
section XVAR
variable {fb : Bool} {d b q m k c n : Nat} {σ0 σ : hM} {W W0 W1 W2 W3 P Q : qR} {R R1 R2 : rR} {i j x z v s e w p p2 o g K T U : Int} {l l0 lo nm raw pre wd M ord : List Int}
/-- one of a process's bytes is written, all that holds -/
theorem XW.own (h : XW K T U W R P) (hp : 0 ≤ p ∧ p < 8) (hF : FB b W W2) (hb : prO p + 1 ≤ b ∧ b + 1 < prO p + 59) (hb6 : b ≠ prO p + 5 ∧ b ≠ prO p + 6) (hq : ∀ (f : Nat) (k : Int), f ≠ 2325 → f ≠ 2326 → f ≠ 2328 → f ≠ 2329 → f ≠ 2361 → f ≠ 2362 → Q f k = P f k) (hG : GI T U Q) (hL : ¬ P 2320 p = 0 → BY W2 (prO p + 1) 60 (seg (Q 2325) (60 * p) (Q 2326 p).toNat) ∧ BY W2 (prO p + 3) 1000 (seg (Q 2328) (1000 * p) (Q 2329 p).toNat) ∧ ∀ x : Int, 0 ≤ x → x < 26 → BY W2 (prO p + 7 + 2 * x.toNat) 20 (seg (Q 2361) (20 * (26 * p + x)) (Q 2362 (26 * p + x)).toNat)) (hoth : ∀ p2 : Int, 0 ≤ p2 → p2 < 8 → p2 ≠ p → seg (Q 2325) (60 * p2) (Q 2326 p2).toNat = seg (P 2325) (60 * p2) (P 2326 p2).toNat ∧ seg (Q 2328) (1000 * p2) (Q 2329 p2).toNat = seg (P 2328) (1000 * p2) (P 2329 p2).toNat ∧ ∀ x : Int, 0 ≤ x → x < 26 → seg (Q 2361) (20 * (26 * p2 + x)) (Q 2362 (26 * p2 + x)).toNat = seg (P 2361) (20 * (26 * p2 + x)) (P 2362 (26 * p2 + x)).toNat) : XW K T U W2 R Q := by
  have hr := prO_rng hp
  have r : RF npL Q P := fun f k hf => hq f k (fun e => by rw [e] at hf; exact absurd hf (by decide)) (fun e => by rw [e] at hf; exact absurd hf (by decide)) (fun e => by rw [e] at hf; exact absurd hf (by decide)) (fun e => by rw [e] at hf; exact absurd hf (by decide)) (fun e => by rw [e] at hf; exact absurd hf (by decide)) (fun e => by rw [e] at hf; exact absurd hf (by decide))
  refine h.row r (fun x k hx => hF x k (by omega) (by omega)) (fun _ _ _ => rfl) (XN.own1 h.1.2.2.1 h.1.2.2.2.1.iv hp hF hb hb6 hq hL hoth) hG (h.1.2.2.2.2.2.1.fr (fun _ => hq _ _ (by decide) (by decide) (by decide) (by decide) (by decide) (by decide)) (fun _ => hq _ _ (by decide) (by decide) (by decide) (by decide) (by decide) (by decide)) (fun _ => hq _ _ (by decide) (by decide) (by decide) (by decide) (by decide) (by decide)))
theorem gVar_at (hl : wd.length ≤ 20) : seg (gVar P p v wd 2361) (20 * (26 * p + v)) (gVar P p v wd 2362 (26 * p + v)).toNat = wd := by
  have e : gVar P p v wd 2362 (26 * p + v) = (wd.length : Int) := (rW_f (by decide)).trans rU_s
  rw [e]
  refine seg_eq.mpr ⟨by omega, fun i i0 i1 => ?_⟩
  have : gVar P p v wd 2361 (20 * (26 * p + v) + i) = lg wd (20 * (26 * p + v) + i - 20 * (26 * p + v)) := rW_i ⟨by omega, by omega⟩
  rw [this, show 20 * (26 * p + v) + i - 20 * (26 * p + v) = i by omega]
theorem gVar_o (hI : IV false T U P) (hl : wd.length ≤ 20) (hp : 0 ≤ p ∧ p < 8) (hp2 : 0 ≤ p2 ∧ p2 < 8) (hv : 0 ≤ v ∧ v < 26) (hx : 0 ≤ x ∧ x < 26) (hne : p2 ≠ p ∨ x ≠ v) : seg (gVar P p v wd 2361) (20 * (26 * p2 + x)) (gVar P p v wd 2362 (26 * p2 + x)).toNat = seg (P 2361) (20 * (26 * p2 + x)) (P 2362 (26 * p2 + x)).toNat := by
  have hs : 0 ≤ P 2362 (26 * p2 + x) ∧ P 2362 (26 * p2 + x) ≤ 20 := IV.a hI 2362 0 208 rfl rfl rfl (by omega) (by omega)
  have e : gVar P p v wd 2362 (26 * p2 + x) = P 2362 (26 * p2 + x) := (rW_f (by decide)).trans (rU_k (by omega))
  rw [e]
  refine seg_seg.mpr (fun i i0 i1 => ?_)
  have : gVar P p v wd 2361 (20 * (26 * p2 + x) + i) = rU P 2362 (26 * p + v) (wd.length : Int) 2361 (20 * (26 * p2 + x) + i) := rW_o (by omega)
  rw [this]
  exact rU_f (by decide)
theorem XW.var (h : XW K T U W R P) (hp : 0 ≤ p ∧ p < 8) (hv : 0 ≤ v ∧ v < 26) (hl : wd.length ≤ 20) (hb : byt wd) (hlv : ¬ P 2320 p = 0) (hF : FB (prO p + 7 + 2 * v.toNat) W W2) (hB : BY W2 (prO p + 7 + 2 * v.toNat) 20 wd) : XW K T U W2 R (gVar P p v wd) := by
  have hL := (h.1.2.2.1.1 p hp.1 hp.2).2.2.2 hlv
  have hI := h.1.2.2.2.1.iv
  have hd : ∀ p2 : Int, seg (gVar P p v wd 2325) (60 * p2) (gVar P p v wd 2326 p2).toNat = seg (P 2325) (60 * p2) (P 2326 p2).toNat := fun p2 => by
    rw [gVar_f (by decide) (by decide), show gVar P p v wd 2325 = P 2325 from funext (fun k => gVar_f (by decide) (by decide))]
  have ho : ∀ p2 : Int, seg (gVar P p v wd 2328) (1000 * p2) (gVar P p v wd 2329 p2).toNat = seg (P 2328) (1000 * p2) (P 2329 p2).toNat := fun p2 => by
    rw [gVar_f (by decide) (by decide), show gVar P p v wd 2328 = P 2328 from funext (fun k => gVar_f (by decide) (by decide))]
  refine h.own hp hF (by omega) (by omega) (fun f k _ _ _ _ a b => gVar_f a b) (GI_gVar h.1.2.2.2.1 hp ⟨hv.1, by omega⟩ hb hl) (fun _ => ?_) (fun p2 p0 p1 hne => ⟨hd p2, ho p2, fun x x0 x1 => gVar_o hI hl hp ⟨p0, p1⟩ hv ⟨x0, x1⟩ (Or.inl hne)⟩)
  rw [hd, ho]
  refine ⟨hF.by hL.2.2.2.1 (by omega), hF.by hL.2.2.2.2.1 (by omega), fun x x0 x1 => ?_⟩
  by_cases q : x = v
  · subst q
    rw [gVar_at hl]
    exact hB
  · rw [gVar_o hI hl hp hp hv ⟨x0, x1⟩ (Or.inr q)]
    exact hF.by (hL.2.2.2.2.2 x x0 x1) (by omega)
/-- what a process was told -/
theorem gTell_at (hs : 0 ≤ P 2329 p ∧ P 2329 p ≤ 1000) : seg (gTell P p x 2328) (1000 * p) (gTell P p x 2329 p).toNat = (seg (P 2328) (1000 * p) (P 2329 p).toNat ++ [x]).take 1000 ∧ 0 ≤ gTell P p x 2329 p ∧ gTell P p x 2329 p ≤ 1000 := by
  unfold gTell
  by_cases q : P 2329 p < 1000
  · rw [if_pos q]
    have e1 : rU (rU P 2328 (1000 * p + P 2329 p) x) 2329 p (P 2329 p + 1) 2329 p = P 2329 p + 1 := rU_s
    rw [e1, List.take_of_length_le (by rw [List.length_append, seg_len]; show (P 2329 p).toNat + 1 ≤ 1000; omega), show (P 2329 p + 1).toNat = (P 2329 p).toNat + 1 by omega, seg_snoc]
    refine ⟨?_, by omega, by omega⟩
    congr 1
    · refine seg_seg.mpr (fun i i0 i1 => ?_)
      rw [rU_f (by decide), rU_k (by omega)]
    · rw [rU_f (by decide), show 1000 * p + (((P 2329 p).toNat : Nat) : Int) = 1000 * p + P 2329 p by omega, rU_s]
  · rw [if_neg q]
    refine ⟨?_, hs⟩
    rw [List.take_append_of_le_length (by rw [seg_len]; omega), List.take_of_length_le (by rw [seg_len]; omega)]
theorem gOut_at : ∀ (l : List Int) (P : qR), 0 ≤ P 2329 p ∧ P 2329 p ≤ 1000 → seg (gOut P p l 2328) (1000 * p) (gOut P p l 2329 p).toNat = (seg (P 2328) (1000 * p) (P 2329 p).toNat ++ l).take 1000
  | [], P, hs => by
    show seg (P 2328) (1000 * p) (P 2329 p).toNat = _
    rw [List.append_nil]
    exact (List.take_of_length_le (by rw [seg_len]; omega)).symm
  | x :: r, P, hs => by
    obtain ⟨h1, h2⟩ := gTell_at (x := x) hs
    show seg (gOut (gTell P p x) p r 2328) (1000 * p) (gOut (gTell P p x) p r 2329 p).toNat = _
    rw [gOut_at r (gTell P p x) h2, h1]
    generalize seg (P 2328) (1000 * p) (P 2329 p).toNat = A
    rw [show A ++ x :: r = (A ++ [x]) ++ r by rw [List.append_assoc]; rfl]
    by_cases q : (A ++ [x]).length ≤ 1000
    · rw [List.take_of_length_le q]
    · have e1 : (List.take 1000 (A ++ [x]) ++ r).take 1000 = (List.take 1000 (A ++ [x])).take 1000 := List.take_append_of_le_length (by rw [List.length_take]; omega)
      have e2 : ((A ++ [x]) ++ r).take 1000 = (A ++ [x]).take 1000 := List.take_append_of_le_length (by omega)
      rw [e1, e2, List.take_take, Nat.min_self]
theorem gTell_o (hp : 0 ≤ p) (hs : 0 ≤ P 2329 p ∧ P 2329 p ≤ 1000) (hs2 : 0 ≤ P 2329 p2 ∧ P 2329 p2 ≤ 1000) (hne : p2 ≠ p) : seg (gTell P p x 2328) (1000 * p2) (gTell P p x 2329 p2).toNat = seg (P 2328) (1000 * p2) (P 2329 p2).toNat ∧ gTell P p x 2329 p2 = P 2329 p2 := by
  unfold gTell
  by_cases q : P 2329 p < 1000
  · rw [if_pos q]
    have e1 : rU (rU P 2328 (1000 * p + P 2329 p) x) 2329 p (P 2329 p + 1) 2329 p2 = P 2329 p2 := (rU_k hne).trans (rU_f (by decide))
    rw [e1]
    refine ⟨seg_seg.mpr (fun i i0 i1 => ?_), rfl⟩
    rw [rU_f (by decide), rU_k (by omega)]
  · rw [if_neg q]
    exact ⟨rfl, rfl⟩
theorem gOut_o (hp : 0 ≤ p) (hne : p2 ≠ p) : ∀ (l : List Int) (P : qR), 0 ≤ P 2329 p ∧ P 2329 p ≤ 1000 → 0 ≤ P 2329 p2 ∧ P 2329 p2 ≤ 1000 → seg (gOut P p l 2328) (1000 * p2) (gOut P p l 2329 p2).toNat = seg (P 2328) (1000 * p2) (P 2329 p2).toNat
  | [], P, _, _ => rfl
  | x :: r, P, hs, hs2 => by
    obtain ⟨h1, h2⟩ := gTell_at (x := x) hs
    obtain ⟨h3, h4⟩ := gTell_o (x := x) hp hs hs2 hne
    show seg (gOut (gTell P p x) p r 2328) (1000 * p2) (gOut (gTell P p x) p r 2329 p2).toNat = _
    rw [gOut_o hp hne r (gTell P p x) h2 (by rw [h4]; exact hs2), h3]
theorem XW.out1 (h : XW K T U W R P) (hp : 0 ≤ p ∧ p < 8) (hb : byt l) (hlv : ¬ P 2320 p = 0) (hF : FB (prO p + 3) W W2) (hB : BY W2 (prO p + 3) 1000 ((seg (P 2328) (1000 * p) (P 2329 p).toNat ++ l).take 1000)) : XW K T U W2 R (gOut P p l) := by
  have hL := (h.1.2.2.1.1 p hp.1 hp.2).2.2.2 hlv
  have hI := h.1.2.2.2.1.iv
  have hs : ∀ p2 : Int, 0 ≤ p2 → p2 < 8 → 0 ≤ P 2329 p2 ∧ P 2329 p2 ≤ 1000 := fun p2 p0 p1 => IV.a hI 2329 0 8 rfl rfl rfl (by omega) (by omega)
  have hd : ∀ p2 : Int, seg (gOut P p l 2325) (60 * p2) (gOut P p l 2326 p2).toNat = seg (P 2325) (60 * p2) (P 2326 p2).toNat := fun p2 => by
    rw [gOut_f (by decide) (by decide), show gOut P p l 2325 = P 2325 from funext (fun k => gOut_f (by decide) (by decide) _ _)]
  have hv : ∀ p2 x : Int, seg (gOut P p l 2361) (20 * (26 * p2 + x)) (gOut P p l 2362 (26 * p2 + x)).toNat = seg (P 2361) (20 * (26 * p2 + x)) (P 2362 (26 * p2 + x)).toNat := fun p2 x => by
    rw [gOut_f (by decide) (by decide), show gOut P p l 2361 = P 2361 from funext (fun k => gOut_f (by decide) (by decide) _ _)]
  refine h.own hp hF (by omega) (by omega) (fun f k _ _ a b _ _ => gOut_f a b _ _) (GI_out hp l P h.1.2.2.2.1 (byt_mem hb)) (fun _ => ?_) (fun p2 p0 p1 hne => ⟨hd p2, gOut_o hp.1 hne l P (hs p hp.1 hp.2) (hs p2 p0 p1), fun x _ _ => hv p2 x⟩)
  rw [hd, gOut_at l P (hs p hp.1 hp.2)]
  refine ⟨hF.by hL.2.2.2.1 (by omega), hB, fun x x0 x1 => ?_⟩
  rw [hv]
  exact hF.by (hL.2.2.2.2.2 x x0 x1) (by omega)
/-- where a process is -/
theorem XW.dot (h : XW K T U W R P) (hp : 0 ≤ p ∧ p < 8) (hb : byt l) (hl : l.length ≤ 60) (hlv : ¬ P 2320 p = 0) (hF : FB (prO p + 1) W W2) (hB : BY W2 (prO p + 1) 60 l) : XW K T U W2 R (gDot P p l) := by
  have hL := (h.1.2.2.1.1 p hp.1 hp.2).2.2.2 hlv
  have hI := h.1.2.2.2.1.iv
  have hs : ∀ p2 : Int, 0 ≤ p2 → p2 < 8 → 0 ≤ P 2326 p2 ∧ P 2326 p2 ≤ 60 := fun p2 p0 p1 => IV.a hI 2326 0 8 rfl rfl rfl (by omega) (by omega)
  have hf : ∀ (f : Nat) (k : Int), f ≠ 2325 → f ≠ 2326 → gDot P p l f k = P f k := fun f k a b => (rU_f b).trans (rW_f a)
  have ho : ∀ p2 : Int, seg (gDot P p l 2328) (1000 * p2) (gDot P p l 2329 p2).toNat = seg (P 2328) (1000 * p2) (P 2329 p2).toNat := fun p2 => by
    rw [hf _ _ (by decide) (by decide), show gDot P p l 2328 = P 2328 from funext (fun k => hf _ _ (by decide) (by decide))]
  have hv : ∀ p2 x : Int, seg (gDot P p l 2361) (20 * (26 * p2 + x)) (gDot P p l 2362 (26 * p2 + x)).toNat = seg (P 2361) (20 * (26 * p2 + x)) (P 2362 (26 * p2 + x)).toNat := fun p2 x => by
    rw [hf _ _ (by decide) (by decide), show gDot P p l 2361 = P 2361 from funext (fun k => hf _ _ (by decide) (by decide))]
  refine h.own hp hF (by omega) (by omega) (fun f k a b _ _ _ _ => hf f k a b) (GI_gDot h.1.2.2.2.1 hp hb hl) (fun _ => ?_) (fun p2 p0 p1 hne => ⟨?_, ho p2, fun x _ _ => hv p2 x⟩)
  · have e : gDot P p l 2326 p = (l.length : Int) := rU_s
    rw [ho, e, show seg (gDot P p l 2325) (60 * p) ((l.length : Int)).toNat = l from seg_eq.mpr ⟨by omega, fun i i0 i1 => by
      have e2 : gDot P p l 2325 (60 * p + i) = lg l (60 * p + i - 60 * p) := (rU_f (by decide)).trans (rW_i ⟨by omega, by omega⟩)
      rw [e2, show 60 * p + i - 60 * p = i by omega]⟩]
    refine ⟨hB, hF.by hL.2.2.2.2.1 (by omega), fun x x0 x1 => ?_⟩
    rw [hv]
    exact hF.by (hL.2.2.2.2.2 x x0 x1) (by omega)
  · have e : gDot P p l 2326 p2 = P 2326 p2 := (rU_k hne).trans (rW_f (by decide))
    have hs2 := hs p2 p0 p1
    rw [e]
    refine seg_seg.mpr (fun i i0 i1 => ?_)
    have e2 : gDot P p l 2325 (60 * p2 + i) = P 2325 (60 * p2 + i) := (rU_f (by decide)).trans (rW_o (by omega))
    exact e2
end XVAR
