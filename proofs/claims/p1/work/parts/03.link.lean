/-! What the tables' words say of the names: each list is compared with lw_tbl at its places, once. -/
def hwalk : Nat → List Cond → List (Nat × Cond) → Bool
  | _, _, [] => true
  | _, [], _ :: _ => false
  | i, w :: t, (p, c) :: r => if p = i then (decide (w = c) && hwalk (i + 1) t r) else hwalk (i + 1) t ((p, c) :: r)
theorem hwalk_in : ∀ (t : List Cond) (i : Nat) (es : List (Nat × Cond)), hwalk i t es = true → ∀ e ∈ es, e.2 ∈ t := by
  intro t
  induction t with
  | nil =>
    intro i es h e he
    cases es with
    | nil => cases he
    | cons a r => cases h
  | cons w t ih =>
    intro i es h e he
    cases es with
    | nil => cases he
    | cons a r =>
      obtain ⟨p, c⟩ := a
      unfold hwalk at h
      by_cases hp : p = i
      · rw [if_pos hp, Bool.and_eq_true, decide_eq_true_eq] at h
        rcases List.mem_cons.mp he with rfl | he
        · exact List.mem_cons.mpr (Or.inl h.1.symm)
        · exact List.mem_cons_of_mem _ (ih (i + 1) r h.2 e he)
      · rw [if_neg hp] at h
        exact List.mem_cons_of_mem _ (ih (i + 1) _ h e he)
theorem hwalk_mem {es : List (Nat × Cond)} (h : hwalk 0 lw_tbl es = true) {p : Nat} {c : Cond} (he : (p, c) ∈ es) : c ∈ lw_tbl := hwalk_in _ _ _ h _ he
/-! the words -/
def hwF (e : Nat × Nat × Nat × Nat × Nat × Nat × String) : Cond :=
  if e.2.2.2.2.1 = 0 then .fieldLink (hName e.1) e.2.1 (hName e.2.2.1) (hFd e.2.2.1 e.2.2.2.1).1 (hFd e.2.2.1 e.2.2.2.1).2.1
  else .fieldLinkNest (hName e.1) e.2.1 (hName e.2.2.1) (hFd e.2.2.1 e.2.2.2.1).1 (hFd e.2.2.1 e.2.2.2.1).2.1 e.2.2.2.2.2.2
def hOb : MethodName := ⟨"java/lang/Object", "<init>", "()V"⟩
def hwL (e : Nat × Nat × Nat × Nat × Nat × String) : Cond :=
  if e.2.2.1 = 9999 then .methodLink (hName e.1) e.2.1 hOb
  else if e.2.2.2.1 = 0 then .methodLink (hName e.1) e.2.1 (hmY e.2.2.1) else .methodLinkNest (hName e.1) e.2.1 (hmY e.2.2.1) e.2.2.2.2.2
def hSn (j : Nat) : String × String × String := hSt.getD j ("", "", "")
def hwG (e : Nat × Nat × Nat × Nat × Nat × String) : Cond :=
  if e.2.2.2.1 = 0 then .fieldLink (hName e.1) e.2.1 (hSn e.2.2.1).1 (hSn e.2.2.1).2.1 (hSn e.2.2.1).2.2
  else .fieldLinkNest (hName e.1) e.2.1 (hSn e.2.2.1).1 (hSn e.2.2.1).2.1 (hSn e.2.2.1).2.2 e.2.2.2.2.2
def hArr (ty : Nat) : FieldType := match ty with
  | 0 => .int | 1 => .byte | 2 => .boolean | 3 => .long | c + 4 => .object (hName (c - 6))
def hwV (c k : Nat) : Cond := if (hFd c k).2.2.2 = true then .laysFinal (hName c) (hName c) (hFd c k).1 (hFd c k).2.1 else .lays (hName c) (hName c) (hFd c k).1 (hFd c k).2.1
set_option maxRecDepth 100000 in
theorem hIq_ok : hwalk 0 lw_tbl (hIq.map fun e => (e.1, .initialized (hName e.2))) = true := by decide +kernel
set_option maxRecDepth 100000 in
theorem hLF_ok : hwalk 0 lw_tbl (hLF.map fun e => (e.2.2.2.2.2.1, hwF e)) = true := by decide +kernel
set_option maxRecDepth 100000 in
theorem hLM_ok : hwalk 0 lw_tbl (hLM.map fun e => (e.2.2.2.2.1, hwL e)) = true := by decide +kernel
set_option maxRecDepth 100000 in
theorem hLG_ok : hwalk 0 lw_tbl (hLG.map fun e => (e.2.2.2.2.1, hwG e)) = true := by decide +kernel
set_option maxRecDepth 100000 in
theorem hLN_ok : hwalk 0 lw_tbl (hLN.map fun e => (e.2.2.2, .classLink (hName e.1) e.2.1 (hName e.2.2.1))) = true := by decide +kernel
set_option maxRecDepth 100000 in
theorem hLS_ok : hwalk 0 lw_tbl (hLS.map fun e => (e.2.2.2, .stringRef (hName e.1) e.2.1 (hTx.getD e.2.2.1 ""))) = true := by decide +kernel
set_option maxRecDepth 100000 in
theorem hLK_ok : hwalk 0 lw_tbl (hLK.map fun e => (e.2.2.2, .constant (hName e.1) e.2.1 (Int32.ofInt e.2.2.1))) = true := by decide +kernel
set_option maxRecDepth 100000 in
theorem hLL_ok : hwalk 0 lw_tbl (hLL.map fun e => (e.2.2.2, .constantLong (hName e.1) e.2.1 (Int64.ofInt e.2.2.1))) = true := by decide +kernel
set_option maxRecDepth 100000 in
theorem hFq_ok : hwalk 0 lw_tbl (hFq.map fun e => (e.1, hwV e.2.1 e.2.2)) = true := by decide +kernel
set_option maxRecDepth 100000 in
theorem hNq_ok : hwalk 0 lw_tbl (hNq.map fun e => (e.1, .instantiable (hName e.2.1) e.2.2)) = true := by decide +kernel
set_option maxRecDepth 100000 in
theorem hAq_ok : hwalk 0 lw_tbl (hAq.map fun e => (e.1, .arrayOver (.object (hName e.2)))) = true := by decide +kernel
set_option maxRecDepth 100000 in
theorem hBq_ok : hwalk 0 lw_tbl (hBq.map fun e => (e.1, .arrayClass (hArr e.2))) = true := by decide +kernel
set_option maxRecDepth 100000 in
theorem hSq_ok : hwalk 0 lw_tbl (hSq.map fun e => (e.1, .laysStatic (hSn e.2).1 (hSn e.2).2.1 (hSn e.2).2.2)) = true := by decide +kernel
/-! what holds of each method -/
def hmOk1 (y : Nat) : Bool := decide ((hmY y).cls ≠ "java/lang/invoke/MethodHandle") && decide ((hmY y).cls ≠ "java/lang/invoke/VarHandle") && plainFor (hmY y)
def hmOk2 (y : Nat) : Bool := decide ((parseMethodDescriptor (hmY y).desc).map (fun d => d.parameters.length) = some (hmN y - (if hmK y = 0 then 0 else 1))) && decide (hmL y ≤ 17) && (decide (hmK y = 0) || decide (1 ≤ hmN y))
def hmOk3 (y : Nat) : Bool := (decide (hmK y ≤ 1) || decide ((hmY y).name = "<init>") && decide (hmR y = none) && decide (hmK y = 2)) && (decide (hmK y = 2) || decide ((hmY y).name ≠ "<init>"))
set_option maxRecDepth 100000 in
theorem hmOk1_all : (List.range hNM).all hmOk1 = true := by decide +kernel
set_option maxRecDepth 100000 in
theorem hmOk2_all : (List.range hNM).all hmOk2 = true := by decide +kernel
set_option maxRecDepth 100000 in
theorem hmOk3_all : (List.range hNM).all hmOk3 = true := by decide +kernel
