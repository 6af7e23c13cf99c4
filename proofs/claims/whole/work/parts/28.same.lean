/-! Trees compared by the kernel. -/
def dqS : DecidableEq (Nat ⊕ (Nat × Nat)) := inferInstance
def dqC : DecidableEq tC := letI := dqS; inferInstanceAs (DecidableEq (Option (Nat ⊕ (Nat × Nat)) × List (Nat × Int) × List (Nat × Option Nat)))
def dqL1 : DecidableEq (List tC) := letI := dqC; inferInstance
def dqL2 : DecidableEq (List (List tC)) := letI := dqL1; inferInstance
def dqL3 : DecidableEq (List (List (List tC))) := letI := dqL2; inferInstance
def isV (r : Option (Option AV × tM)) (τ : tM) : Bool := match r with
  | some (none, (n, s, t)) => Nat.beq n τ.1 && (Nat.beq s τ.2.1 && @decide (t = τ.2.2) (dqL3 t τ.2.2))
  | _ => false
theorem isV_eq {r : Option (Option AV × tM)} {τ : tM} (h : isV r τ = true) : r = some (none, τ) := by
  unfold isV at h
  split at h
  · rename_i n s t
    rw [Bool.and_eq_true, Bool.and_eq_true] at h
    obtain ⟨h1, h2, h3⟩ := h
    have h3 := @of_decide_eq_true _ (dqL3 t τ.2.2) h3
    have h1 := Nat.eq_of_beq_eq_true h1
    have h2 := Nat.eq_of_beq_eq_true h2
    rw [h1, h2, h3]
  · cases h
