/-! An instruction of the machine, as one of mine. -/
def hf3 {α : Type} : List (Nat × Nat × α) → Nat → Nat → Option α
  | [], _, _ => none
  | (a, b, x) :: r, o, i => bif Nat.beq b i && Nat.beq a o then some x else hf3 r o i
theorem hf3_in {α : Type} : ∀ (L : List (Nat × Nat × α)) (o i : Nat) (x : α), hf3 L o i = some x → (o, i, x) ∈ L := by
  intro L
  induction L with
  | nil => intro o i x h; cases h
  | cons q r ih =>
    intro o i x h
    obtain ⟨a, b, y⟩ := q
    unfold hf3 at h
    cases e : (Nat.beq b i && Nat.beq a o) with
    | true =>
      rw [e] at h
      rw [Bool.and_eq_true] at e
      have e1 := Nat.eq_of_beq_eq_true e.1
      have e2 := Nat.eq_of_beq_eq_true e.2
      subst e1
      subst e2
      cases h
      exact List.mem_cons_self
    | false =>
      rw [e] at h
      exact List.mem_cons_of_mem _ (ih o i x h)
def hk1 (b : Bool) (op : hOp) (nx : Nat) : List (hOp × Nat) := if b = true then [(op, nx)] else []
theorem hk1_in {b : Bool} {op : hOp} {nx : Nat} {x : hOp × Nat} (h : x ∈ hk1 b op nx) : b = true ∧ x = (op, nx) := by
  unfold hk1 at h
  split at h
  · rename_i hb; exact ⟨hb, List.mem_singleton.mp h⟩
  · cases h
def hJ (pc : Nat) (off : Int) : Int := (pc : Int) + off
def hcn (c : ClassFile.Cond) : Nat := match c with
  | .eq => 0 | .ne => 1 | .lt => 2 | .ge => 3 | .gt => 4 | .le => 5
def hPutOk (y c k : Nat) : Bool := hMade c && decide (k < hFn c) && (!(hFd c k).2.2.2 || decide (hmK y = 2) && decide (hmO y = c))
def hNew (c : Nat) : Option Nat := (hNq.find? (fun e => decide (e.2.1 = c))).map (fun e => e.2.2)
def ho_ldc (y pc k len : Nat) : List (hOp × Nat) := match hf3 hLK (hmO y) k with
    | some (v, _) => hk1 (decide (len = 2) && decide (-2147483648 ≤ v) && decide (v ≤ 2147483647)) (0, 0, v, []) (pc + 2)
    | none => match hf3 hLS (hmO y) k with
      | some (j, _) => hk1 (decide (len = 2)) (34, 4 + j, 0, []) (pc + 2)
      | none => []
def ho_ldc_w (y pc k len : Nat) : List (hOp × Nat) := match hf3 hLK (hmO y) k with
    | some (v, _) => hk1 (decide (len = 3) && decide (-2147483648 ≤ v) && decide (v ≤ 2147483647)) (0, 0, v, []) (pc + 3)
    | none => match hf3 hLS (hmO y) k with
      | some (j, _) => hk1 (decide (len = 3)) (34, 4 + j, 0, []) (pc + 3)
      | none => []
def ho_ldc2_w (y pc k len : Nat) : List (hOp × Nat) := match hf3 hLL (hmO y) k with
    | some (v, _) => hk1 (decide (len = 3) && decide (-9223372036854775808 ≤ v) && decide (v ≤ 9223372036854775807)) (1, 0, v, []) (pc + 3)
    | none => []
def ho_getfield (y pc k len : Nat) : List (hOp × Nat) := match hf3 hLF (hmO y) k with
    | some (c, k1, _) => hk1 (decide (len = 3) && decide (k1 < hFn c)) (24, c, (k1 : Int), []) (pc + 3)
    | none => []
def ho_putfield (y pc k len : Nat) : List (hOp × Nat) := match hf3 hLF (hmO y) k with
    | some (c, k1, ns, _) => hk1 (decide (len = 3) && decide (ns = 0) && hPutOk y c k1) (25, c, (k1 : Int), []) (pc + 3)
    | none => []
def ho_new (y pc k len : Nat) : List (hOp × Nat) := match hf3 hLN (hmO y) k with
    | some (c, _) => match hNew c with
      | some w => hk1 (decide (len = 3)) (29, c, (w : Int), []) (pc + 3)
      | none => []
    | none => []
def ho_anewarray (y pc k len : Nat) : List (hOp × Nat) := match hf3 hLN (hmO y) k with
    | some (c, _) => hk1 (decide (len = 3) && hAq.any (fun e => decide (e.2 = c))) (30, 10 + c, 0, []) (pc + 3)
    | none => []
def ho_invokevirtual (y pc k len : Nat) : List (hOp × Nat) := match hf3 hLM (hmO y) k with
    | some (y1, ns, _) => hk1 (decide (len = 3) && decide (ns = 0) && decide (y1 < hNM) && decide (hmK y1 = 1)) (31, y1, 0, []) (pc + 3)
    | none => []
def ho_invokespecial (y pc k len : Nat) : List (hOp × Nat) := match hf3 hLM (hmO y) k with
    | some (y1, ns, _) => if y1 = 9999 then hk1 (decide (len = 3)) (32, 0, 0, []) (pc + 3) else hk1 (decide (len = 3) && decide (y1 < hNM) && decide (hmK y1 = 2)) (31, y1, (ns : Int), []) (pc + 3)
    | none => []
def ho_invokestatic (y pc k len : Nat) : List (hOp × Nat) := match hf3 hLM (hmO y) k with
    | some (y1, ns, _) => hk1 (decide (len = 3) && decide (y1 < hNM) && decide (hmK y1 = 0)) (31, y1, (ns : Int), []) (pc + 3)
    | none => []
def ho_getstatic (y pc k len : Nat) : List (hOp × Nat) := match hf3 hLG (hmO y) k with
    | some (j, _) => hk1 (decide (len = 3) && decide (j < 4)) (34, j, 0, []) (pc + 3)
    | none => []
def hops (y pc : Nat) (i : Instr) (len : Nat) : List (hOp × Nat) := match i with
  | .iconst n => hk1 (decide (len = 1) && decide (-1 ≤ n) && decide (n ≤ 5)) (0, 0, n, []) (pc + 1)
  | .bipush n => hk1 (decide (len = 2) && decide (-128 ≤ n) && decide (n ≤ 127)) (0, 0, n, []) (pc + 2)
  | .sipush n => hk1 (decide (len = 3) && decide (-32768 ≤ n) && decide (n ≤ 32767)) (0, 0, n, []) (pc + 3)
  | .ldc k => ho_ldc y pc k len
  | .ldc_w k => ho_ldc_w y pc k len
  | .lconst n => hk1 (decide (len = 1)) (1, 0, ((n : Nat) : Int), []) (pc + 1)
  | .ldc2_w k => ho_ldc2_w y pc k len
  | .aconst_null => hk1 (decide (len = 1)) (2, 0, 0, []) (pc + 1)
  | .iload_n k => hk1 (decide (len = 1)) (3, (k : Nat), 0, []) (pc + 1)
  | .iload k => hk1 (decide (len = 2)) (3, k, 0, []) (pc + 2)
  | .lload_n k => hk1 (decide (len = 1)) (3, (k : Nat), 1, []) (pc + 1)
  | .lload k => hk1 (decide (len = 2)) (3, k, 1, []) (pc + 2)
  | .aload_n k => hk1 (decide (len = 1)) (3, (k : Nat), 2, []) (pc + 1)
  | .aload k => hk1 (decide (len = 2)) (3, k, 2, []) (pc + 2)
  | .istore_n k => hk1 (decide (len = 1) && decide ((k : Nat) < hmL y)) (4, (k : Nat), 0, []) (pc + 1)
  | .istore k => hk1 (decide (len = 2) && decide (k < hmL y)) (4, k, 0, []) (pc + 2)
  | .lstore_n k => hk1 (decide (len = 1) && decide ((k : Nat) + 1 < hmL y)) (4, (k : Nat), 1, []) (pc + 1)
  | .lstore k => hk1 (decide (len = 2) && decide (k + 1 < hmL y)) (4, k, 1, []) (pc + 2)
  | .astore_n k => hk1 (decide (len = 1) && decide ((k : Nat) < hmL y)) (4, (k : Nat), 2, []) (pc + 1)
  | .astore k => hk1 (decide (len = 2) && decide (k < hmL y)) (4, k, 2, []) (pc + 2)
  | .iinc k n => hk1 (decide (len = 3) && decide (k < hmL y) && decide (-32768 ≤ n) && decide (n ≤ 32767)) (5, k, n, []) (pc + 3)
  | .dup => hk1 (decide (len = 1)) (6, 0, 0, []) (pc + 1)
  | .pop => hk1 (decide (len = 1)) (7, 0, 0, []) (pc + 1)
  | .dup2 => hk1 (decide (len = 1)) (8, 0, 0, []) (pc + 1)
  | .pop2 => hk1 (decide (len = 1)) (9, 0, 0, []) (pc + 1)
  | .iadd => hk1 (decide (len = 1)) (10, 0, 0, []) (pc + 1)
  | .isub => hk1 (decide (len = 1)) (10, 1, 0, []) (pc + 1)
  | .imul => hk1 (decide (len = 1)) (10, 2, 0, []) (pc + 1)
  | .idiv => hk1 (decide (len = 1)) (10, 3, 0, []) (pc + 1)
  | .irem => hk1 (decide (len = 1)) (10, 4, 0, []) (pc + 1)
  | .iand => hk1 (decide (len = 1)) (10, 5, 0, []) (pc + 1)
  | .ior => hk1 (decide (len = 1)) (10, 6, 0, []) (pc + 1)
  | .ixor => hk1 (decide (len = 1)) (10, 7, 0, []) (pc + 1)
  | .ishl => hk1 (decide (len = 1)) (10, 8, 0, []) (pc + 1)
  | .ishr => hk1 (decide (len = 1)) (10, 9, 0, []) (pc + 1)
  | .ladd => hk1 (decide (len = 1)) (11, 0, 0, []) (pc + 1)
  | .lsub => hk1 (decide (len = 1)) (11, 1, 0, []) (pc + 1)
  | .lmul => hk1 (decide (len = 1)) (11, 2, 0, []) (pc + 1)
  | .ldiv => hk1 (decide (len = 1)) (11, 3, 0, []) (pc + 1)
  | .lrem => hk1 (decide (len = 1)) (11, 4, 0, []) (pc + 1)
  | .land => hk1 (decide (len = 1)) (11, 5, 0, []) (pc + 1)
  | .lor => hk1 (decide (len = 1)) (11, 6, 0, []) (pc + 1)
  | .lxor => hk1 (decide (len = 1)) (11, 7, 0, []) (pc + 1)
  | .lshl => hk1 (decide (len = 1)) (12, 0, 0, []) (pc + 1)
  | .lshr => hk1 (decide (len = 1)) (12, 1, 0, []) (pc + 1)
  | .ineg => hk1 (decide (len = 1)) (13, 0, 0, []) (pc + 1)
  | .i2l => hk1 (decide (len = 1)) (14, 0, 0, []) (pc + 1)
  | .l2i => hk1 (decide (len = 1)) (15, 0, 0, []) (pc + 1)
  | .i2b => hk1 (decide (len = 1)) (16, 0, 0, []) (pc + 1)
  | .i2c => hk1 (decide (len = 1)) (35, 0, 0, []) (pc + 1)
  | .lcmp => hk1 (decide (len = 1)) (17, 0, 0, []) (pc + 1)
  | .ifCond c off => hk1 (decide (len = 3) && decide (0 ≤ hJ pc off)) (18, hcn c, hJ pc off, []) (pc + 3)
  | .if_icmp c off => hk1 (decide (len = 3) && decide (0 ≤ hJ pc off)) (19, hcn c, hJ pc off, []) (pc + 3)
  | .ifnull off => hk1 (decide (len = 3) && decide (0 ≤ hJ pc off)) (20, 0, hJ pc off, []) (pc + 3)
  | .ifnonnull off => hk1 (decide (len = 3) && decide (0 ≤ hJ pc off)) (20, 1, hJ pc off, []) (pc + 3)
  | .if_acmp c off => hk1 (decide (len = 3) && decide (0 ≤ hJ pc off)) (21, (match c with | .eq => 0 | .ne => 1), hJ pc off, []) (pc + 3)
  | .goto off => hk1 (decide (len = 3) && decide (0 ≤ hJ pc off)) (22, 0, hJ pc off, []) (pc + 3)
  | .tableswitch dflt lo hi offs => hk1 (decide (0 ≤ hJ pc dflt) && decide (hi = lo + offs.size - 1) && offs.toList.all (fun o => decide (0 ≤ hJ pc o))) (23, (hJ pc dflt).toNat, lo, offs.toList.map (hJ pc)) (pc + len)
  | .getfield k => ho_getfield y pc k len
  | .putfield k => ho_putfield y pc k len
  | .iaload => hk1 (decide (len = 1)) (26, 0, 0, []) (pc + 1)
  | .baload => hk1 (decide (len = 1)) (26, 1, 0, []) (pc + 1) ++ hk1 (decide (len = 1)) (26, 2, 0, []) (pc + 1)
  | .laload => hk1 (decide (len = 1)) (26, 3, 0, []) (pc + 1)
  | .aaload => hk1 (decide (len = 1)) (26, 10, 0, []) (pc + 1)
  | .iastore => hk1 (decide (len = 1)) (27, 0, 0, []) (pc + 1)
  | .bastore => hk1 (decide (len = 1)) (27, 1, 0, []) (pc + 1) ++ hk1 (decide (len = 1)) (27, 2, 0, []) (pc + 1)
  | .lastore => hk1 (decide (len = 1)) (27, 3, 0, []) (pc + 1)
  | .aastore => hk1 (decide (len = 1)) (27, 10, 0, []) (pc + 1)
  | .arraylength => hk1 (decide (len = 1)) (28, 0, 0, []) (pc + 1)
  | .new k => ho_new y pc k len
  | .newarray t => hk1 (decide (len = 2) && (match t with | .int => true | .byte => true | .boolean => true | .long => true | _ => false)) (30, (match t with | .int => 0 | .byte => 1 | .boolean => 2 | _ => 3), 0, []) (pc + 2)
  | .anewarray k => ho_anewarray y pc k len
  | .invokevirtual k => ho_invokevirtual y pc k len
  | .invokespecial k => ho_invokespecial y pc k len
  | .invokestatic k => ho_invokestatic y pc k len
  | .return_ => hk1 (decide (len = 1) && decide (hmR y = none)) (33, 0, 0, []) (pc + 1)
  | .ireturn => hk1 (decide (len = 1) && decide (hmR y = some .int)) (33, 1, 0, []) (pc + 1) ++ (hk1 (decide (len = 1) && decide (hmR y = some .boolean)) (33, 2, 0, []) (pc + 1) ++
      (hk1 (decide (len = 1) && decide (hmR y = some .byte)) (33, 5, 0, []) (pc + 1) ++ hk1 (decide (len = 1) && decide (hmR y = some .char)) (33, 6, 0, []) (pc + 1)))
  | .lreturn => hk1 (decide (len = 1) && decide (hmR y = some .long)) (33, 3, 0, []) (pc + 1)
  | .areturn => hk1 (decide (len = 1) && (match hmR y with | some (.object _) => true | some (.array _) => true | _ => false)) (33, 4, 0, []) (pc + 1)
  | .getstatic k => ho_getstatic y pc k len
  | _ => []
/-- the tables of instructions are right -/
def hTok (T : Nat → Nat → Option (hOp × Nat)) : Prop := ∀ y pc op nx, T y pc = some (op, nx) → ∃ i len, decode (hmB y) pc = .ok (i, len) ∧ (op, nx) ∈ hops y pc i len
