/-! The small machine over a memory that is a tree of lists: to be run by the kernel. -/
abbrev tC : Type := hSh × List (Nat × Int) × List (Nat × Option Nat)
abbrev tM : Type := Nat × Nat × List (List (List tC))
def dC : tC := (none, [], [])
def lmod {α : Type} (d : α) (f : α → α) : List α → Nat → List α
  | [], 0 => [f d]
  | [], n + 1 => d :: lmod d f [] n
  | x :: t, 0 => f x :: t
  | x :: t, n + 1 => x :: lmod d f t n
def lget {α : Type} (d : α) : List α → Nat → α
  | [], _ => d
  | x :: _, 0 => x
  | _ :: t, n + 1 => lget d t n
theorem lmod_get {α : Type} (d : α) (f : α → α) : ∀ (l : List α) (n m : Nat), lget d (lmod d f l n) m = if m = n then f (lget d l n) else lget d l m := by
  intro l
  induction l with
  | nil =>
    intro n
    induction n with
    | zero => intro m; cases m <;> simp [lmod, lget]
    | succ n ih =>
      intro m
      cases m with
      | zero => simp [lmod, lget]
      | succ m => simp only [lmod, lget]; rw [ih m]; simp [lget]
  | cons x t ih =>
    intro n m
    cases n with
    | zero => cases m <;> simp [lmod, lget]
    | succ n =>
      cases m with
      | zero => simp [lmod, lget]
      | succ m => simp only [lmod, lget]; rw [ih n m]; simp
def tget (t : List (List (List tC))) (a : Nat) : tC := lget dC (lget [] (lget [] t (a / 256)) (a / 16 % 16)) (a % 16)
def tmod (f : tC → tC) (t : List (List (List tC))) (a : Nat) : List (List (List tC)) := lmod [] (fun u => lmod [] (fun v => lmod dC f v (a % 16)) u (a / 16 % 16)) t (a / 256)
theorem tmod_get (f : tC → tC) (t : List (List (List tC))) (a b : Nat) : tget (tmod f t a) b = if b = a then f (tget t a) else tget t b := by
  unfold tget tmod
  rw [lmod_get]
  by_cases h1 : b / 256 = a / 256
  · rw [if_pos h1, lmod_get]
    by_cases h2 : b / 16 % 16 = a / 16 % 16
    · rw [if_pos h2, lmod_get]
      by_cases h3 : b % 16 = a % 16
      · rw [if_pos h3, if_pos (by omega)]
      · rw [if_neg h3, if_neg (fun e => h3 (by rw [e])), h1, h2]
    · rw [if_neg h2, if_neg (fun e => h2 (by rw [e])), h1]
  · rw [if_neg h1, if_neg (fun e => h1 (by rw [e]))]
def aget {β : Type} (d : β) : List (Nat × β) → Nat → β
  | [], _ => d
  | (j, w) :: t, k => bif Nat.beq j k then w else aget d t k
def aset {β : Type} (k : Nat) (v : β) : List (Nat × β) → List (Nat × β)
  | [] => [(k, v)]
  | (j, w) :: t => bif Nat.beq j k then (k, v) :: t else (j, w) :: aset k v t
theorem aset_get {β : Type} (d : β) (k : Nat) (v : β) : ∀ (l : List (Nat × β)) (m : Nat), aget d (aset k v l) m = if m = k then v else aget d l m := by
  intro l
  induction l with
  | nil =>
    intro m
    by_cases h : m = k
    · subst h; simp [aset, aget]
    · have h' : Nat.beq k m = false := by
        cases e : Nat.beq k m with
        | true => exact absurd (Nat.eq_of_beq_eq_true e).symm h
        | false => rfl
      simp [aset, aget, h, h']
  | cons x t ih =>
    obtain ⟨j, w⟩ := x
    intro m
    unfold aset
    cases e : Nat.beq j k with
    | true =>
      have hj := Nat.eq_of_beq_eq_true e
      subst hj
      by_cases h : m = j
      · subst h; simp [aget]
      · have h' : Nat.beq j m = false := by
          cases e : Nat.beq j m with
          | true => exact absurd (Nat.eq_of_beq_eq_true e).symm h
          | false => rfl
        simp [aget, h, h']
    | false =>
      simp only [cond_false, aget]
      cases e2 : Nat.beq j m with
      | true =>
        have hm := Nat.eq_of_beq_eq_true e2
        subst hm
        rw [if_neg (fun h => by rw [h] at e; rw [Nat.beq_refl] at e; cases e)]
        rfl
      | false => simp only [cond_false]; exact ih m
def den (τ : tM) : hM := (τ.1, τ.2.1, (fun a => (tget τ.2.2 a).1), (fun a k => aget 0 (tget τ.2.2 a).2.1 k), (fun a k => aget none (tget τ.2.2 a).2.2 k))
def tI (τ : tM) (a k : Nat) (z : Int) : tM := (τ.1, τ.2.1, tmod (fun c => (c.1, aset k z c.2.1, c.2.2)) τ.2.2 a)
def tR (τ : tM) (a k : Nat) (z : Option Nat) : tM := (τ.1, τ.2.1, tmod (fun c => (c.1, c.2.1, aset k z c.2.2)) τ.2.2 a)
def tN (τ : tM) (sh : Nat ⊕ (Nat × Nat)) (w : Nat) : tM := (τ.1 + 1, τ.2.1 + w, tmod (fun _ => (some sh, [], [])) τ.2.2 τ.1)
theorem hM_ext {σ τ : hM} (h1 : σ.1 = τ.1) (h2 : σ.2.1 = τ.2.1) (h3 : ∀ a, mT σ a = mT τ a) (h4 : ∀ a k, mI σ a k = mI τ a k) (h5 : ∀ a k, mR σ a k = mR τ a k) : σ = τ := by
  obtain ⟨a1, a2, a3, a4, a5⟩ := σ
  obtain ⟨b1, b2, b3, b4, b5⟩ := τ
  have e3 : a3 = b3 := funext h3
  have e4 : a4 = b4 := funext fun a => funext (h4 a)
  have e5 : a5 = b5 := funext fun a => funext (h5 a)
  have e1 : a1 = b1 := h1
  have e2 : a2 = b2 := h2
  rw [e1, e2, e3, e4, e5]
theorem den_I (τ : tM) (a k : Nat) (z : Int) : den (tI τ a k z) = sI (den τ) a k z := by
  refine hM_ext rfl rfl (fun b => ?_) (fun b j => ?_) (fun b j => ?_)
  · show (tget (tmod _ _ _) b).1 = (tget τ.2.2 b).1
    rw [tmod_get]
    by_cases h : b = a
    · rw [if_pos h, h]
    · rw [if_neg h]
  · show aget 0 (tget (tmod _ _ _) b).2.1 j = if b = a ∧ j = k then z else aget 0 (tget τ.2.2 b).2.1 j
    rw [tmod_get]
    by_cases h : b = a
    · rw [if_pos h]
      dsimp only
      rw [aset_get, h]
      by_cases h2 : j = k
      · rw [if_pos h2, if_pos ⟨rfl, h2⟩]
      · rw [if_neg h2, if_neg (fun e => h2 e.2)]
    · rw [if_neg h, if_neg (fun e => h e.1)]
  · show aget none (tget (tmod _ _ _) b).2.2 j = aget none (tget τ.2.2 b).2.2 j
    rw [tmod_get]
    by_cases h : b = a
    · rw [if_pos h, h]
    · rw [if_neg h]
theorem den_R (τ : tM) (a k : Nat) (z : Option Nat) : den (tR τ a k z) = sR (den τ) a k z := by
  refine hM_ext rfl rfl (fun b => ?_) (fun b j => ?_) (fun b j => ?_)
  · show (tget (tmod _ _ _) b).1 = (tget τ.2.2 b).1
    rw [tmod_get]
    by_cases h : b = a
    · rw [if_pos h, h]
    · rw [if_neg h]
  · show aget 0 (tget (tmod _ _ _) b).2.1 j = aget 0 (tget τ.2.2 b).2.1 j
    rw [tmod_get]
    by_cases h : b = a
    · rw [if_pos h, h]
    · rw [if_neg h]
  · show aget none (tget (tmod _ _ _) b).2.2 j = if b = a ∧ j = k then z else aget none (tget τ.2.2 b).2.2 j
    rw [tmod_get]
    by_cases h : b = a
    · rw [if_pos h]
      dsimp only
      rw [aset_get, h]
      by_cases h2 : j = k
      · rw [if_pos h2, if_pos ⟨rfl, h2⟩]
      · rw [if_neg h2, if_neg (fun e => h2 e.2)]
    · rw [if_neg h, if_neg (fun e => h e.1)]
theorem den_N (τ : tM) (sh : Nat ⊕ (Nat × Nat)) (w : Nat) : den (tN τ sh w) = sN (den τ) sh w := by
  refine hM_ext rfl rfl (fun b => ?_) (fun b j => ?_) (fun b j => ?_)
  · show (tget (tmod _ _ _) b).1 = if b = τ.1 then some sh else (tget τ.2.2 b).1
    rw [tmod_get]
    by_cases h : b = τ.1
    · rw [if_pos h, if_pos h]
    · rw [if_neg h, if_neg h]
  · show aget 0 (tget (tmod _ _ _) b).2.1 j = if b = τ.1 then 0 else aget 0 (tget τ.2.2 b).2.1 j
    rw [tmod_get]
    by_cases h : b = τ.1
    · rw [if_pos h, if_pos h]; rfl
    · rw [if_neg h, if_neg h]
  · show aget none (tget (tmod _ _ _) b).2.2 j = if b = τ.1 then none else aget none (tget τ.2.2 b).2.2 j
    rw [tmod_get]
    by_cases h : b = τ.1
    · rw [if_pos h, if_pos h]; rfl
    · rw [if_neg h, if_neg h]
/-- what an instruction does to the tree -/
def lupd (op : hOp) (st : List AV) (τ : tM) : tM := match op with
  | (25, _, k, _) => match st with
    | Sum.inl z :: Sum.inr (Sum.inr r) :: _ => tI τ (r.getD 0) k.toNat z
    | Sum.inr (Sum.inl z) :: Sum.inr (Sum.inr r) :: _ => tI τ (r.getD 0) k.toNat z
    | Sum.inr (Sum.inr v) :: Sum.inr (Sum.inr r) :: _ => tR τ (r.getD 0) k.toNat v
    | _ => τ
  | (27, ty, _, _) => match st with
    | Sum.inl z :: Sum.inl j :: Sum.inr (Sum.inr r) :: _ => tI τ (r.getD 0) j.toNat (if ty = 1 then sb8 z else z)
    | Sum.inr (Sum.inl z) :: Sum.inl j :: Sum.inr (Sum.inr r) :: _ => tI τ (r.getD 0) j.toNat z
    | Sum.inr (Sum.inr v) :: Sum.inl j :: Sum.inr (Sum.inr r) :: _ => tR τ (r.getD 0) j.toNat v
    | _ => τ
  | (29, c, w, _) => tN τ (Sum.inl c) w.toNat
  | (30, ty, _, _) => match st with
    | Sum.inl z :: _ => tN τ (Sum.inr (ty, z.toNat)) z.toNat
    | _ => τ
  | _ => τ
theorem lupd_ok {K d y nx : Nat} {E : Nat → AV} {op : hOp} {ls : hLs} {st : List AV} {τ : tM} {pc1 : Nat} {ls1 : hLs} {st1 : List AV} {σ1 : hM} (h : hstep K E d y op nx ls st (den τ) = some (Sum.inl (pc1, ls1, st1, σ1))) : σ1 = den (lupd op st τ) := by
  unfold hstep at h
  split at h
  all_goals (repeat' split at h)
  all_goals first
    | (cases h; done)
    | (obtain ⟨-, h2⟩ := hif_some h; cases h2; done)
    | (obtain ⟨-, h2⟩ := hif_some h; cases h2; first | rfl | exact (den_I _ _ _ _).symm | exact (den_R _ _ _ _).symm | exact (den_N _ _ _).symm)
    | (obtain ⟨-, h2⟩ := hif_some h; cases h2; simp only [lupd]; split <;> first | exact (den_I _ _ _ _).symm | contradiction)
    | (cases h; first | rfl | exact (den_I _ _ _ _).symm | exact (den_R _ _ _ _).symm | exact (den_N _ _ _).symm)
def lx (K : Nat) (E : Nat → AV) (T : Nat → Nat → Option (hOp × Nat)) : Nat → Nat → Nat → Nat → hLs → List AV → tM → Option (Option AV × tM)
  | 0, _, _, _, _, _, _ => none
  | n + 1, d, y, pc, ls, st, τ => match T y pc with
    | none => none
    | some (op, nx) => match hstep K E d y op nx ls st (den τ) with
      | none => none
      | some (Sum.inl (pc1, ls1, st1, _)) => lx K E T n d y pc1 ls1 st1 (lupd op st τ)
      | some (Sum.inr (Sum.inl (y1, as, pc1, ls1, st1))) => match d with
        | 0 => none
        | d1 + 1 => match lx K E T n d1 y1 0 (hpad (hent as) (hmL y1)) [] τ with
          | none => none
          | some (r, τ1) => lx K E T n (d1 + 1) y pc1 ls1 (r.toList ++ st1) τ1
      | some (Sum.inr (Sum.inr r)) => some (r, τ)
theorem lx_hx {K : Nat} {E : Nat → AV} {T : Nat → Nat → Option (hOp × Nat)} : ∀ (n d y pc : Nat) (ls : hLs) (st : List AV) (τ : tM) (r : Option AV) (τ1 : tM), lx K E T n d y pc ls st τ = some (r, τ1) → hx K E T n d y pc ls st (den τ) = some (r, den τ1) := by
  intro n
  induction n with
  | zero => intro d y pc ls st τ r τ1 h; cases h
  | succ n ih =>
    intro d y pc ls st τ r τ1 h
    unfold lx at h
    unfold hx
    cases e : T y pc with
    | none => rw [e] at h; cases h
    | some w =>
      obtain ⟨op, nx⟩ := w
      rw [e] at h
      dsimp only at h ⊢
      cases e2 : hstep K E d y op nx ls st (den τ) with
      | none => rw [e2] at h; cases h
      | some z =>
        rw [e2] at h
        rcases z with ⟨pc1, la1, st1, σ2⟩ | ⟨y1, as, pc1, la1, st1⟩ | r1
        · dsimp only at h ⊢
          rw [lupd_ok e2]
          exact ih _ _ _ _ _ _ _ _ h
        · dsimp only at h ⊢
          cases d with
          | zero => cases h
          | succ d1 =>
            dsimp only at h ⊢
            cases e3 : lx K E T n d1 y1 0 (hpad (hent as) (hmL y1)) [] τ with
            | none => rw [e3] at h; cases h
            | some w =>
              obtain ⟨rc, τ2⟩ := w
              rw [e3] at h
              rw [ih _ _ _ _ _ _ _ _ e3]
              exact ih _ _ _ _ _ _ _ _ h
        · dsimp only at h ⊢
          cases h
          rfl
