/-! The start's one open value is not read by the constructors or the small methods: runs of a table without that row speak of both. -/
theorem hstep_E {K d y nx : Nat} {E E' : Nat → AV} {op : hOp} {ls : hLs} {st : List AV} {σ : hM} {x : hNx ⊕ (hCl ⊕ Option AV)} (hE : op.1 = 34 → E op.2.1 = E' op.2.1) (h : hstep K E d y op nx ls st σ = some x) : hstep K E' d y op nx ls st σ = some x := by
  unfold hstep at h
  split at h
  all_goals first
    | exact h
    | (show some (Sum.inl (nx, ls, E' _ :: st, σ)) = _; rw [← hE rfl]; exact h)
    | cases h
theorem lx_E {K : Nat} {E E' : Nat → AV} {T1 T : Nat → Nat → Option (hOp × Nat)} (hT : ∀ y pc op nx, T1 y pc = some (op, nx) → T y pc = some (op, nx) ∧ (op.1 = 34 → E op.2.1 = E' op.2.1)) : ∀ (n d y pc : Nat) (ls : hLs) (st : List AV) (τ : tM) (x : Option AV × tM), lx K E T1 n d y pc ls st τ = some x → lx K E' T n d y pc ls st τ = some x := by
  intro n
  induction n with
  | zero => intro d y pc ls st τ x h; cases h
  | succ n ih =>
    intro d y pc ls st τ x h
    unfold lx at h
    unfold lx
    cases e : T1 y pc with
    | none => rw [e] at h; cases h
    | some w =>
      obtain ⟨op, nx⟩ := w
      rw [e] at h
      obtain ⟨e1, eE⟩ := hT y pc op nx e
      rw [e1]
      dsimp only at h ⊢
      cases e2 : hstep K E d y op nx ls st (den τ) with
      | none => rw [e2] at h; cases h
      | some z =>
        rw [hstep_E eE e2]
        rw [e2] at h
        rcases z with ⟨pc1, la1, st1, σ2⟩ | ⟨y1, as, pc1, la1, st1⟩ | r1
        · dsimp only at h ⊢
          exact ih _ _ _ _ _ _ _ h
        · dsimp only at h ⊢
          cases d with
          | zero => cases h
          | succ d1 =>
            dsimp only at h ⊢
            cases e3 : lx K E T1 n d1 y1 0 (hpad (hent as) (hmL y1)) [] τ with
            | none => rw [e3] at h; cases h
            | some w =>
              obtain ⟨rc, τ2⟩ := w
              rw [e3] at h
              rw [ih _ _ _ _ _ _ _ e3]
              exact ih _ _ _ _ _ _ _ h
        · dsimp only at h ⊢
          exact h
/-- the table without the row that loads the open value -/
def hTab1 (y pc : Nat) : Option (hOp × Nat) := match hTab y pc with
  | none => none
  | some (op, nx) => bif Nat.beq op.1 34 && Nat.beq op.2.1 1 then none else some (op, nx)
theorem hE_off (fb : Bool) {i : Nat} (h : i ≠ 1) : hE false i = hE fb i := by
  match i, h with
  | 0, _ => rfl
  | 1, h => exact absurd rfl h
  | 2, _ => rfl
  | 3, _ => rfl
  | j + 4, _ => rfl
theorem hTab1_ok (fb : Bool) : ∀ y pc op nx, hTab1 y pc = some (op, nx) → hTab y pc = some (op, nx) ∧ (op.1 = 34 → hE false op.2.1 = hE fb op.2.1) := by
  intro y pc op nx h
  unfold hTab1 at h
  split at h
  · cases h
  · rename_i op1 nx1 e
    cases e2 : (Nat.beq op1.1 34 && Nat.beq op1.2.1 1) with
    | true => rw [e2] at h; cases h
    | false =>
      rw [e2] at h
      cases h
      refine ⟨e, fun e3 => hE_off fb (fun e4 => ?_)⟩
      rw [e3, e4] at e2
      cases e2
theorem lx_any (fb : Bool) {n d y pc : Nat} {ls : hLs} {st : List AV} {τ : tM} {x : Option AV × tM} (h : lx hK (hE false) hTab1 n d y pc ls st τ = some x) : lx hK (hE fb) hTab n d y pc ls st τ = some x := lx_E (hTab1_ok fb) _ _ _ _ _ _ _ _ h
def dqS : DecidableEq (Nat ⊕ (Nat × Nat)) := inferInstance
def dqC : DecidableEq tC := letI := dqS; inferInstanceAs (DecidableEq (Option (Nat ⊕ (Nat × Nat)) × List (Nat × Int) × List (Nat × Option Nat)))
def dqL1 : DecidableEq (List tC) := letI := dqC; inferInstance
def dqL2 : DecidableEq (List (List tC)) := letI := dqL1; inferInstance
def dqL3 : DecidableEq (List (List (List tC))) := letI := dqL2; inferInstance
def isV (r : Option (Option AV × tM)) (τ : tM) : Bool := match r with
  | some (none, (n, s, t)) => Nat.beq n τ.1 && (Nat.beq s τ.2.1 && @decide (t = τ.2.2) (dqL3 t τ.2.2))
  | _ => false
theorem isV_eq {r : Option (Option AV × tM)} {τ : tM} (h : isV r τ = true) : r = some (none, τ) := by
  unfold isV at h
  split at h
  · rename_i n s t
    rw [Bool.and_eq_true, Bool.and_eq_true] at h
    obtain ⟨h1, h2, h3⟩ := h
    have h3 := @of_decide_eq_true _ (dqL3 t τ.2.2) h3
    have h1 := Nat.eq_of_beq_eq_true h1
    have h2 := Nat.eq_of_beq_eq_true h2
    rw [h1, h2, h3]
  · cases h
