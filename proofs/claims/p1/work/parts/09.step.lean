/-! The Java machine does what a step of mine says: instructions that touch no cell. -/
def hCtx (p : Program) (s : State) (m : MethodId) (args : Array Value) (meth : Method) (c : Code) (y : Nat) : Prop :=
  p.tables.exec = Jvm.exec ∧ c.code = hmB y ∧ c.maxLocals = hmL y ∧ s.vm.findClass (hName (hmO y)) = some m.cls ∧ (∀ w ∈ hBig, w.before args s = true) ∧ (hmK y = 2 → meth.name = "<init>")
def hEnv (ρ : Nat → Nat) (N0 : Nat) (E : Nat → AV) (H00 : Heap) (s : State) : Prop :=
  (∀ q ∈ hLF, q.2.2.2.2.1 ≠ 0 → va_Nw (hwF q) s) ∧ (∀ q ∈ hLM, q.2.2.1 ≠ 9999 → q.2.2.2.1 ≠ 0 → va_Nw (hwL q) s) ∧ (∀ q ∈ hLG, q.2.2.2.1 ≠ 0 → va_Nw (hwG q) s) ∧
  (∀ q ∈ hAq, va_AO (hName q.2) s) ∧
  (∀ q ∈ hLS, ∃ a, E (4 + q.2.2.1) = vR (some a) ∧ vk_R (hName q.1) q.2.1 (hTx.getD q.2.2.1 "") (ρ a) s) ∧
  (∀ j, j < 4 → va_Z (hSn j).1 (hSn j).2.1 (hSn j).2.2 (cv ρ (E j)) (fun q => N0 ≤ q) s H00) ∧ ∀ j, okv (E j)
/-- what is to be shown of an instruction: it does what my step does -/
def hOK (ρ : Nat → Nat) (p : Program) (l : Launch) (e : Env) (R : Room) (s : State) (m : MethodId) (args : Array Value) (below : List Frame) (meth : Method) (c : Code) (Q : State → Prop) (K N0 : Nat) (E : Nat → AV) (H00 : Heap) (y nS zS : Nat) (i : Instr) : Prop :=
  ∀ (pc len : Nat) (op : hOp) (nx d : Nat) (la : hLs) (st : List AV) (σ : hM) (pc1 : Nat) (la1 : hLs) (st1 : List AV) (σ1 : hM) (H : Heap) (locs : List Loc) (ls : Array Slot),
    decode (hmB y) pc = .ok (i, len) → (op, nx) ∈ hops y pc i len → hstep K E d y op nx la st σ = some (Sum.inl (pc1, la1, st1, σ1)) →
    hLoc ρ ls (hmL y) la → (∀ v ∈ st, okv v) → hRel ρ K N0 H00 s σ H → (∀ q ∈ locs, N0 ≤ q.base) → nS ≤ σ.1 → zS ≤ σ.2.1 → σ1.1 ≤ nS + R.cells → σ1.2.1 ≤ zS + R.slots → (1 ≤ d → 1 ≤ R.frames ∧ 20 ≤ R.locals) →
    (∀ (H1 : Heap) (locs1 : List Loc) (ls1 : Array Slot), hLoc ρ ls1 (hmL y) la1 → (∀ v ∈ st1, okv v) → hRel ρ K N0 H00 s σ1 H1 → (∀ q ∈ locs1, N0 ≤ q.base) →
      W p l e R s m args below meth c H1 locs1 (σ1.1 - nS) (σ1.2.1 - zS) Q (F0 m pc1 ls1 (st1.map (cv ρ)))) →
    W p l e R s m args below meth c H locs (σ.1 - nS) (σ.2.1 - zS) Q (F0 m pc ls (st.map (cv ρ)))
theorem fa_cons {P : AV → Prop} {v : AV} {l : List AV} (h : P v) (hl : ∀ w ∈ l, P w) : ∀ w ∈ v :: l, P w := List.forall_mem_cons.mpr ⟨h, hl⟩
theorem fa_hd {P : AV → Prop} {v : AV} {l : List AV} (h : ∀ w ∈ v :: l, P w) : P v := h v List.mem_cons_self
theorem fa_tl {P : AV → Prop} {v : AV} {l : List AV} (h : ∀ w ∈ v :: l, P w) : ∀ w ∈ l, P w := fun w hw => h w (List.mem_cons_of_mem _ hw)
theorem hJ_ok {pc : Nat} {off : Int} (h : 0 ≤ hJ pc off) : (pc : Int) + off = ((hJ pc off).toNat : Int) := by
  rw [Int.toNat_of_nonneg h]; rfl
section HST
variable {p : Program} {l : Launch} {e : Env} {R : Room} {s : State} {m : MethodId} {args : Array Value} {below : List Frame} {meth : Method} {c : Code} {Q : State → Prop} {ρ : Nat → Nat} {K N0 : Nat} {E : Nat → AV} {H00 : Heap} {y nS zS : Nat}
theorem hK_iconst (C : hCtx p s m args meth c y) (n : Int) : hOK ρ p l e R s m args below meth c Q K N0 E H00 y nS zS (.iconst n) := by
  intro pc len op nx d la st σ pc1 la1 st1 σ1 H locs ls hd ho hs hl hst hr hlo hn hz hc hsl hf kk
  obtain ⟨hb, he⟩ := hk1_in ho
  cases he
  simp only [Bool.and_eq_true, decide_eq_true_eq] at hb
  obtain ⟨⟨rfl, h1⟩, h2⟩ := hb
  cases (show some (Sum.inl (pc + 1, la, vI n :: st, σ)) = some (Sum.inl (pc1, la1, st1, σ1)) from hs)
  exact lv_iconst C.1 C.2.1 hd rfl (kk H locs ls hl (fa_cons ⟨by omega, by omega⟩ hst) hr hlo)
theorem hK_bipush (C : hCtx p s m args meth c y) (n : Int) : hOK ρ p l e R s m args below meth c Q K N0 E H00 y nS zS (.bipush n) := by
  intro pc len op nx d la st σ pc1 la1 st1 σ1 H locs ls hd ho hs hl hst hr hlo hn hz hc hsl hf kk
  obtain ⟨hb, he⟩ := hk1_in ho
  cases he
  simp only [Bool.and_eq_true, decide_eq_true_eq] at hb
  obtain ⟨⟨rfl, h1⟩, h2⟩ := hb
  cases (show some (Sum.inl (pc + 2, la, vI n :: st, σ)) = some (Sum.inl (pc1, la1, st1, σ1)) from hs)
  exact lv_bipush C.1 C.2.1 hd (to32 (by rw [Int8.toInt_toInt32, Int8.toInt_ofInt_of_le (by omega) (by omega)])) (kk H locs ls hl (fa_cons ⟨by omega, by omega⟩ hst) hr hlo)
theorem hK_sipush (C : hCtx p s m args meth c y) (n : Int) : hOK ρ p l e R s m args below meth c Q K N0 E H00 y nS zS (.sipush n) := by
  intro pc len op nx d la st σ pc1 la1 st1 σ1 H locs ls hd ho hs hl hst hr hlo hn hz hc hsl hf kk
  obtain ⟨hb, he⟩ := hk1_in ho
  cases he
  simp only [Bool.and_eq_true, decide_eq_true_eq] at hb
  obtain ⟨⟨rfl, h1⟩, h2⟩ := hb
  cases (show some (Sum.inl (pc + 3, la, vI n :: st, σ)) = some (Sum.inl (pc1, la1, st1, σ1)) from hs)
  exact lv_sipush C.1 C.2.1 hd (to32 (by rw [Int16.toInt_toInt32, Int16.toInt_ofInt_of_le (by omega) (by omega)])) (kk H locs ls hl (fa_cons ⟨by omega, by omega⟩ hst) hr hlo)
theorem hK_lconst (C : hCtx p s m args meth c y) (n : Fin 2) : hOK ρ p l e R s m args below meth c Q K N0 E H00 y nS zS (.lconst n) := by
  intro pc len op nx d la st σ pc1 la1 st1 σ1 H locs ls hd ho hs hl hst hr hlo hn hz hc hsl hf kk
  obtain ⟨hb, he⟩ := hk1_in ho
  cases he
  have hb := of_decide_eq_true hb
  subst hb
  cases (show some (Sum.inl (pc + 1, la, vL ((n : Nat) : Int) :: st, σ)) = some (Sum.inl (pc1, la1, st1, σ1)) from hs)
  exact lv_lconst C.1 C.2.1 hd rfl (kk H locs ls hl (fa_cons ⟨by omega, by omega⟩ hst) hr hlo)
theorem hK_ldc2 (C : hCtx p s m args meth c y) (k : Nat) : hOK ρ p l e R s m args below meth c Q K N0 E H00 y nS zS (.ldc2_w k) := by
  intro pc len op nx d la st σ pc1 la1 st1 σ1 H locs ls hd ho hs hl hst hr hlo hn hz hc hsl hf kk
  have ho : (op, nx) ∈ ho_ldc2_w y pc k len := ho
  unfold ho_ldc2_w at ho
  cases e1 : hf3 hLL (hmO y) k with
  | none => rw [e1] at ho; cases ho
  | some x =>
    obtain ⟨v, p1⟩ := x
    rw [e1] at ho
    obtain ⟨hb, he⟩ := hk1_in ho
    cases he
    simp only [Bool.and_eq_true, decide_eq_true_eq] at hb
    obtain ⟨⟨rfl, h1⟩, h2⟩ := hb
    cases (show some (Sum.inl (pc + 3, la, vL v :: st, σ)) = some (Sum.inl (pc1, la1, st1, σ1)) from hs)
    have hw := hwalk_mem hLL_ok (List.mem_map.mpr ⟨_, hf3_in _ _ _ _ e1, rfl⟩)
    exact lv_ldc2 C.1 C.2.1 C.2.2.2.1 (C.2.2.2.2.1 _ (hBig_in hw rfl)) hd (kk H locs ls hl (fa_cons ⟨by omega, by omega⟩ hst) hr hlo)
theorem hK_ldc (C : hCtx p s m args meth c y) (V : hEnv ρ N0 E H00 s) (k : Nat) : hOK ρ p l e R s m args below meth c Q K N0 E H00 y nS zS (.ldc k) := by
  intro pc len op nx d la st σ pc1 la1 st1 σ1 H locs ls hd ho hs hl hst hr hlo hn hz hc hsl hf kk
  have ho : (op, nx) ∈ ho_ldc y pc k len := ho
  unfold ho_ldc at ho
  cases e1 : hf3 hLK (hmO y) k with
  | none =>
    rw [e1] at ho
    dsimp only at ho
    cases e2 : hf3 hLS (hmO y) k with
    | none => rw [e2] at ho; cases ho
    | some x =>
      obtain ⟨j, p1⟩ := x
      rw [e2] at ho
      obtain ⟨hb, he⟩ := hk1_in ho
      cases he
      have hb := of_decide_eq_true hb
      subst hb
      cases (show some (Sum.inl (pc + 2, la, E (4 + j) :: st, σ)) = some (Sum.inl (pc1, la1, st1, σ1)) from hs)
      obtain ⟨a, g1, g2⟩ := V.2.2.2.2.1 _ (hf3_in _ _ _ _ e2)
      have kk := kk H locs ls hl (fa_cons (V.2.2.2.2.2.2 _) hst) hr hlo
      dsimp only at g1 g2
      rw [g1] at kk
      exact va_ldcS C.1 C.2.1 C.2.2.2.1 g2 hd kk
  | some x =>
    obtain ⟨v, p1⟩ := x
    rw [e1] at ho
    obtain ⟨hb, he⟩ := hk1_in ho
    cases he
    simp only [Bool.and_eq_true, decide_eq_true_eq] at hb
    obtain ⟨⟨rfl, h1⟩, h2⟩ := hb
    cases (show some (Sum.inl (pc + 2, la, vI v :: st, σ)) = some (Sum.inl (pc1, la1, st1, σ1)) from hs)
    have hw := hwalk_mem hLK_ok (List.mem_map.mpr ⟨_, hf3_in _ _ _ _ e1, rfl⟩)
    exact lv_ldc C.1 C.2.1 C.2.2.2.1 (C.2.2.2.2.1 _ (hBig_in hw rfl)) hd (kk H locs ls hl (fa_cons ⟨by omega, by omega⟩ hst) hr hlo)
theorem hK_ldcw (C : hCtx p s m args meth c y) (V : hEnv ρ N0 E H00 s) (k : Nat) : hOK ρ p l e R s m args below meth c Q K N0 E H00 y nS zS (.ldc_w k) := by
  intro pc len op nx d la st σ pc1 la1 st1 σ1 H locs ls hd ho hs hl hst hr hlo hn hz hc hsl hf kk
  have ho : (op, nx) ∈ ho_ldc_w y pc k len := ho
  unfold ho_ldc_w at ho
  cases e1 : hf3 hLK (hmO y) k with
  | none =>
    rw [e1] at ho
    dsimp only at ho
    cases e2 : hf3 hLS (hmO y) k with
    | none => rw [e2] at ho; cases ho
    | some x =>
      obtain ⟨j, p1⟩ := x
      rw [e2] at ho
      obtain ⟨hb, he⟩ := hk1_in ho
      cases he
      have hb := of_decide_eq_true hb
      subst hb
      cases (show some (Sum.inl (pc + 3, la, E (4 + j) :: st, σ)) = some (Sum.inl (pc1, la1, st1, σ1)) from hs)
      obtain ⟨a, g1, g2⟩ := V.2.2.2.2.1 _ (hf3_in _ _ _ _ e2)
      have kk := kk H locs ls hl (fa_cons (V.2.2.2.2.2.2 _) hst) hr hlo
      dsimp only at g1 g2
      rw [g1] at kk
      intro T hT X
      obtain ⟨t, a1, b1⟩ := kk T hT X
      have hev : (Term.string (hName (hmO y)) k).eval args s none [] s = some (.ref (ρ a)) := by rw [Term.string_eval_of_vm (args := args) (rfl : s.vm = s.vm)]; exact g2.2
      exact ⟨t, X.ldcStringW C.1 C.2.2.2.1 g2.1 hev (g := F0 m pc ls (st.map (cv ρ))) rfl (by rw [C.2.1]; exact hd) t a1, b1⟩
  | some x =>
    obtain ⟨v, p1⟩ := x
    rw [e1] at ho
    obtain ⟨hb, he⟩ := hk1_in ho
    cases he
    simp only [Bool.and_eq_true, decide_eq_true_eq] at hb
    obtain ⟨⟨rfl, h1⟩, h2⟩ := hb
    cases (show some (Sum.inl (pc + 3, la, vI v :: st, σ)) = some (Sum.inl (pc1, la1, st1, σ1)) from hs)
    have hw := hwalk_mem hLK_ok (List.mem_map.mpr ⟨_, hf3_in _ _ _ _ e1, rfl⟩)
    exact lv_ldcw C.1 C.2.1 C.2.2.2.1 (C.2.2.2.2.1 _ (hBig_in hw rfl)) hd (kk H locs ls hl (fa_cons ⟨by omega, by omega⟩ hst) hr hlo)
theorem hK_null (C : hCtx p s m args meth c y) : hOK ρ p l e R s m args below meth c Q K N0 E H00 y nS zS .aconst_null := by
  intro pc len op nx d la st σ pc1 la1 st1 σ1 H locs ls hd ho hs hl hst hr hlo hn hz hc hsl hf kk
  obtain ⟨hb, he⟩ := hk1_in ho
  cases he
  have hb := of_decide_eq_true hb
  subst hb
  cases (show some (Sum.inl (pc + 1, la, vR none :: st, σ)) = some (Sum.inl (pc1, la1, st1, σ1)) from hs)
  exact lv_null C.1 C.2.1 hd (kk H locs ls hl (fa_cons trivial hst) hr hlo)
theorem hK_iload_n (C : hCtx p s m args meth c y) (k : Fin 4) : hOK ρ p l e R s m args below meth c Q K N0 E H00 y nS zS (.iload_n k) := by
  intro pc len op nx d la st σ pc1 la1 st1 σ1 H locs ls hd ho hs hl hst hr hlo hn hz hc hsl hf kk
  obtain ⟨hb, he⟩ := hk1_in ho
  cases he
  have hb := of_decide_eq_true hb
  subst hb
  obtain ⟨v, g1, g2, g3⟩ := hs3 hs
  cases Sum.inl.inj g2
  obtain ⟨g4, g5⟩ := hl.2.2 _ _ g1
  have kk := kk H locs ls hl (fa_cons g5 hst) hr hlo
  rcases g3 with ⟨-, z, rfl⟩ | ⟨h, -⟩ | ⟨h, -⟩
  · exact lv_iload_n C.1 C.2.1 hd rfl g4 kk
  · cases h
  · cases h
theorem hK_iload (C : hCtx p s m args meth c y) (k : Nat) : hOK ρ p l e R s m args below meth c Q K N0 E H00 y nS zS (.iload k) := by
  intro pc len op nx d la st σ pc1 la1 st1 σ1 H locs ls hd ho hs hl hst hr hlo hn hz hc hsl hf kk
  obtain ⟨hb, he⟩ := hk1_in ho
  cases he
  have hb := of_decide_eq_true hb
  subst hb
  obtain ⟨v, g1, g2, g3⟩ := hs3 hs
  cases Sum.inl.inj g2
  obtain ⟨g4, g5⟩ := hl.2.2 _ _ g1
  have kk := kk H locs ls hl (fa_cons g5 hst) hr hlo
  rcases g3 with ⟨-, z, rfl⟩ | ⟨h, -⟩ | ⟨h, -⟩
  · exact lv_iload C.1 C.2.1 hd g4 kk
  · cases h
  · cases h
theorem hK_lload_n (C : hCtx p s m args meth c y) (k : Fin 4) : hOK ρ p l e R s m args below meth c Q K N0 E H00 y nS zS (.lload_n k) := by
  intro pc len op nx d la st σ pc1 la1 st1 σ1 H locs ls hd ho hs hl hst hr hlo hn hz hc hsl hf kk
  obtain ⟨hb, he⟩ := hk1_in ho
  cases he
  have hb := of_decide_eq_true hb
  subst hb
  obtain ⟨v, g1, g2, g3⟩ := hs3 hs
  cases Sum.inl.inj g2
  obtain ⟨g4, g5⟩ := hl.2.2 _ _ g1
  have kk := kk H locs ls hl (fa_cons g5 hst) hr hlo
  rcases g3 with ⟨h, -⟩ | ⟨-, z, rfl⟩ | ⟨h, -⟩
  · cases h
  · exact lv_lload_n C.1 C.2.1 hd rfl g4 kk
  · cases h
theorem hK_lload (C : hCtx p s m args meth c y) (k : Nat) : hOK ρ p l e R s m args below meth c Q K N0 E H00 y nS zS (.lload k) := by
  intro pc len op nx d la st σ pc1 la1 st1 σ1 H locs ls hd ho hs hl hst hr hlo hn hz hc hsl hf kk
  obtain ⟨hb, he⟩ := hk1_in ho
  cases he
  have hb := of_decide_eq_true hb
  subst hb
  obtain ⟨v, g1, g2, g3⟩ := hs3 hs
  cases Sum.inl.inj g2
  obtain ⟨g4, g5⟩ := hl.2.2 _ _ g1
  have kk := kk H locs ls hl (fa_cons g5 hst) hr hlo
  rcases g3 with ⟨h, -⟩ | ⟨-, z, rfl⟩ | ⟨h, -⟩
  · cases h
  · exact lv_lload C.1 C.2.1 hd g4 kk
  · cases h
theorem hK_aload_n (C : hCtx p s m args meth c y) (k : Fin 4) : hOK ρ p l e R s m args below meth c Q K N0 E H00 y nS zS (.aload_n k) := by
  intro pc len op nx d la st σ pc1 la1 st1 σ1 H locs ls hd ho hs hl hst hr hlo hn hz hc hsl hf kk
  obtain ⟨hb, he⟩ := hk1_in ho
  cases he
  have hb := of_decide_eq_true hb
  subst hb
  obtain ⟨v, g1, g2, g3⟩ := hs3 hs
  cases Sum.inl.inj g2
  obtain ⟨g4, g5⟩ := hl.2.2 _ _ g1
  have kk := kk H locs ls hl (fa_cons g5 hst) hr hlo
  rcases g3 with ⟨h, -⟩ | ⟨h, -⟩ | ⟨-, r, rfl⟩
  · cases h
  · cases h
  · cases r with
    | none => exact lv_aload_nN C.1 C.2.1 hd rfl g4 kk
    | some a => exact lv_aload_n C.1 C.2.1 hd rfl g4 kk
theorem hK_aload (C : hCtx p s m args meth c y) (k : Nat) : hOK ρ p l e R s m args below meth c Q K N0 E H00 y nS zS (.aload k) := by
  intro pc len op nx d la st σ pc1 la1 st1 σ1 H locs ls hd ho hs hl hst hr hlo hn hz hc hsl hf kk
  obtain ⟨hb, he⟩ := hk1_in ho
  cases he
  have hb := of_decide_eq_true hb
  subst hb
  obtain ⟨v, g1, g2, g3⟩ := hs3 hs
  cases Sum.inl.inj g2
  obtain ⟨g4, g5⟩ := hl.2.2 _ _ g1
  have kk := kk H locs ls hl (fa_cons g5 hst) hr hlo
  rcases g3 with ⟨h, -⟩ | ⟨h, -⟩ | ⟨-, r, rfl⟩
  · cases h
  · cases h
  · cases r with
    | none => exact lv_aloadN C.1 C.2.1 hd g4 kk
    | some a => exact lv_aload C.1 C.2.1 hd g4 kk
theorem hK_istore_n (C : hCtx p s m args meth c y) (k : Fin 4) : hOK ρ p l e R s m args below meth c Q K N0 E H00 y nS zS (.istore_n k) := by
  intro pc len op nx d la st σ pc1 la1 st1 σ1 H locs ls hd ho hs hl hst hr hlo hn hz hc hsl hf kk
  obtain ⟨hb, he⟩ := hk1_in ho
  cases he
  simp only [Bool.and_eq_true, decide_eq_true_eq] at hb
  obtain ⟨rfl, hi⟩ := hb
  obtain ⟨v, r, rfl, g2, g3⟩ := hs4 hs
  cases Sum.inl.inj g2
  have g5 := fa_hd hst
  have kk := fun ls1 h1 => kk H locs ls1 h1 (fa_tl hst) hr hlo
  rcases g3 with ⟨-, z, rfl⟩ | ⟨h, -⟩ | ⟨h, -⟩
  · exact lv_istore_n C.1 C.2.1 hd rfl hl.has hi rfl (fun ls1 h1 => kk ls1 (hl.sto1 g5 rfl h1))
  · cases h
  · cases h
theorem hK_istore (C : hCtx p s m args meth c y) (k : Nat) : hOK ρ p l e R s m args below meth c Q K N0 E H00 y nS zS (.istore k) := by
  intro pc len op nx d la st σ pc1 la1 st1 σ1 H locs ls hd ho hs hl hst hr hlo hn hz hc hsl hf kk
  obtain ⟨hb, he⟩ := hk1_in ho
  cases he
  simp only [Bool.and_eq_true, decide_eq_true_eq] at hb
  obtain ⟨rfl, hi⟩ := hb
  obtain ⟨v, r, rfl, g2, g3⟩ := hs4 hs
  cases Sum.inl.inj g2
  have g5 := fa_hd hst
  have kk := fun ls1 h1 => kk H locs ls1 h1 (fa_tl hst) hr hlo
  rcases g3 with ⟨-, z, rfl⟩ | ⟨h, -⟩ | ⟨h, -⟩
  · exact lv_istore C.1 C.2.1 hd hl.has hi rfl (fun ls1 h1 => kk ls1 (hl.sto1 g5 rfl h1))
  · cases h
  · cases h
theorem hK_lstore_n (C : hCtx p s m args meth c y) (k : Fin 4) : hOK ρ p l e R s m args below meth c Q K N0 E H00 y nS zS (.lstore_n k) := by
  intro pc len op nx d la st σ pc1 la1 st1 σ1 H locs ls hd ho hs hl hst hr hlo hn hz hc hsl hf kk
  obtain ⟨hb, he⟩ := hk1_in ho
  cases he
  simp only [Bool.and_eq_true, decide_eq_true_eq] at hb
  obtain ⟨rfl, hi⟩ := hb
  obtain ⟨v, r, rfl, g2, g3⟩ := hs4 hs
  cases Sum.inl.inj g2
  have g5 := fa_hd hst
  have kk := fun ls1 h1 => kk H locs ls1 h1 (fa_tl hst) hr hlo
  rcases g3 with ⟨h, -⟩ | ⟨-, z, rfl⟩ | ⟨h, -⟩
  · cases h
  · exact lv_lstore_n C.1 C.2.1 hd rfl hl.has hi rfl (fun ls1 h1 => kk ls1 (hl.sto2 g5 rfl h1))
  · cases h
theorem hK_lstore (C : hCtx p s m args meth c y) (k : Nat) : hOK ρ p l e R s m args below meth c Q K N0 E H00 y nS zS (.lstore k) := by
  intro pc len op nx d la st σ pc1 la1 st1 σ1 H locs ls hd ho hs hl hst hr hlo hn hz hc hsl hf kk
  obtain ⟨hb, he⟩ := hk1_in ho
  cases he
  simp only [Bool.and_eq_true, decide_eq_true_eq] at hb
  obtain ⟨rfl, hi⟩ := hb
  obtain ⟨v, r, rfl, g2, g3⟩ := hs4 hs
  cases Sum.inl.inj g2
  have g5 := fa_hd hst
  have kk := fun ls1 h1 => kk H locs ls1 h1 (fa_tl hst) hr hlo
  rcases g3 with ⟨h, -⟩ | ⟨-, z, rfl⟩ | ⟨h, -⟩
  · cases h
  · exact lv_lstore C.1 C.2.1 hd hl.has hi rfl (fun ls1 h1 => kk ls1 (hl.sto2 g5 rfl h1))
  · cases h
theorem hK_astore_n (C : hCtx p s m args meth c y) (k : Fin 4) : hOK ρ p l e R s m args below meth c Q K N0 E H00 y nS zS (.astore_n k) := by
  intro pc len op nx d la st σ pc1 la1 st1 σ1 H locs ls hd ho hs hl hst hr hlo hn hz hc hsl hf kk
  obtain ⟨hb, he⟩ := hk1_in ho
  cases he
  simp only [Bool.and_eq_true, decide_eq_true_eq] at hb
  obtain ⟨rfl, hi⟩ := hb
  obtain ⟨v, r, rfl, g2, g3⟩ := hs4 hs
  cases Sum.inl.inj g2
  have g5 := fa_hd hst
  have kk := fun ls1 h1 => kk H locs ls1 h1 (fa_tl hst) hr hlo
  rcases g3 with ⟨h, -⟩ | ⟨h, -⟩ | ⟨-, r, rfl⟩
  · cases h
  · cases h
  · cases r with
    | none => exact lv_astore_nN C.1 C.2.1 hd rfl hl.has hi rfl (fun ls1 h1 => kk ls1 (hl.sto1 g5 rfl h1))
    | some a => exact lv_astore_n C.1 C.2.1 hd rfl hl.has hi rfl (fun ls1 h1 => kk ls1 (hl.sto1 g5 rfl h1))
theorem hK_astore (C : hCtx p s m args meth c y) (k : Nat) : hOK ρ p l e R s m args below meth c Q K N0 E H00 y nS zS (.astore k) := by
  intro pc len op nx d la st σ pc1 la1 st1 σ1 H locs ls hd ho hs hl hst hr hlo hn hz hc hsl hf kk
  obtain ⟨hb, he⟩ := hk1_in ho
  cases he
  simp only [Bool.and_eq_true, decide_eq_true_eq] at hb
  obtain ⟨rfl, hi⟩ := hb
  obtain ⟨v, r, rfl, g2, g3⟩ := hs4 hs
  cases Sum.inl.inj g2
  have g5 := fa_hd hst
  have kk := fun ls1 h1 => kk H locs ls1 h1 (fa_tl hst) hr hlo
  rcases g3 with ⟨h, -⟩ | ⟨h, -⟩ | ⟨-, r, rfl⟩
  · cases h
  · cases h
  · cases r with
    | none => exact lv_astoreN C.1 C.2.1 hd hl.has hi rfl (fun ls1 h1 => kk ls1 (hl.sto1 g5 rfl h1))
    | some a => exact lv_astore C.1 C.2.1 hd hl.has hi rfl (fun ls1 h1 => kk ls1 (hl.sto1 g5 rfl h1))
theorem hK_iadd (C : hCtx p s m args meth c y) : hOK ρ p l e R s m args below meth c Q K N0 E H00 y nS zS .iadd := by
  intro pc len op nx d la st σ pc1 la1 st1 σ1 H locs ls hd ho hs hl hst hr hlo hn hz hc hsl hf kk
  obtain ⟨hb, he⟩ := hk1_in ho
  cases he
  have hb := of_decide_eq_true hb
  subst hb
  obtain ⟨v, u, r, rfl, -, g2⟩ := hs10 hs
  cases Sum.inl.inj g2
  have kk := kk H locs ls hl (fa_cons (hIB_ok _ _ _) (fa_tl (fa_tl hst))) hr hlo
  refine lv_iadd C.1 C.2.1 hd ?_
  rw [add32 (fa_hd (fa_tl hst)) (fa_hd hst)]
  exact kk
theorem hK_isub (C : hCtx p s m args meth c y) : hOK ρ p l e R s m args below meth c Q K N0 E H00 y nS zS .isub := by
  intro pc len op nx d la st σ pc1 la1 st1 σ1 H locs ls hd ho hs hl hst hr hlo hn hz hc hsl hf kk
  obtain ⟨hb, he⟩ := hk1_in ho
  cases he
  have hb := of_decide_eq_true hb
  subst hb
  obtain ⟨v, u, r, rfl, -, g2⟩ := hs10 hs
  cases Sum.inl.inj g2
  have kk := kk H locs ls hl (fa_cons (hIB_ok _ _ _) (fa_tl (fa_tl hst))) hr hlo
  refine lv_isub C.1 C.2.1 hd ?_
  rw [sub32 (fa_hd (fa_tl hst)) (fa_hd hst)]
  exact kk
theorem hK_imul (C : hCtx p s m args meth c y) : hOK ρ p l e R s m args below meth c Q K N0 E H00 y nS zS .imul := by
  intro pc len op nx d la st σ pc1 la1 st1 σ1 H locs ls hd ho hs hl hst hr hlo hn hz hc hsl hf kk
  obtain ⟨hb, he⟩ := hk1_in ho
  cases he
  have hb := of_decide_eq_true hb
  subst hb
  obtain ⟨v, u, r, rfl, -, g2⟩ := hs10 hs
  cases Sum.inl.inj g2
  have kk := kk H locs ls hl (fa_cons (hIB_ok _ _ _) (fa_tl (fa_tl hst))) hr hlo
  refine lv_imul C.1 C.2.1 hd ?_
  rw [mul32 (fa_hd (fa_tl hst)) (fa_hd hst)]
  exact kk
theorem hK_idiv (C : hCtx p s m args meth c y) : hOK ρ p l e R s m args below meth c Q K N0 E H00 y nS zS .idiv := by
  intro pc len op nx d la st σ pc1 la1 st1 σ1 H locs ls hd ho hs hl hst hr hlo hn hz hc hsl hf kk
  obtain ⟨hb, he⟩ := hk1_in ho
  cases he
  have hb := of_decide_eq_true hb
  subst hb
  obtain ⟨v, u, r, rfl, g1, g2⟩ := hs10 hs
  cases Sum.inl.inj g2
  have kk := kk H locs ls hl (fa_cons (hIB_ok _ _ _) (fa_tl (fa_tl hst))) hr hlo
  refine lv_idiv C.1 C.2.1 hd (nz32 (fa_hd hst) (fun z => g1 ⟨Or.inl rfl, z⟩)) ?_
  refine Eq.mp (congrArg (fun z => W p l e R s m args below meth c H locs (σ.1 - nS) (σ.2.1 - zS) Q (F0 m (pc + 1) ls (Value.int z :: r.map (cv ρ)))) (to32 rfl).symm) kk
theorem hK_irem (C : hCtx p s m args meth c y) : hOK ρ p l e R s m args below meth c Q K N0 E H00 y nS zS .irem := by
  intro pc len op nx d la st σ pc1 la1 st1 σ1 H locs ls hd ho hs hl hst hr hlo hn hz hc hsl hf kk
  obtain ⟨hb, he⟩ := hk1_in ho
  cases he
  have hb := of_decide_eq_true hb
  subst hb
  obtain ⟨v, u, r, rfl, g1, g2⟩ := hs10 hs
  cases Sum.inl.inj g2
  have kk := kk H locs ls hl (fa_cons (hIB_ok _ _ _) (fa_tl (fa_tl hst))) hr hlo
  refine lv_irem C.1 C.2.1 hd (nz32 (fa_hd hst) (fun z => g1 ⟨Or.inr rfl, z⟩)) ?_
  refine Eq.mp (congrArg (fun z => W p l e R s m args below meth c H locs (σ.1 - nS) (σ.2.1 - zS) Q (F0 m (pc + 1) ls (Value.int z :: r.map (cv ρ)))) (to32 rfl).symm) kk
theorem hK_iand (C : hCtx p s m args meth c y) : hOK ρ p l e R s m args below meth c Q K N0 E H00 y nS zS .iand := by
  intro pc len op nx d la st σ pc1 la1 st1 σ1 H locs ls hd ho hs hl hst hr hlo hn hz hc hsl hf kk
  obtain ⟨hb, he⟩ := hk1_in ho
  cases he
  have hb := of_decide_eq_true hb
  subst hb
  obtain ⟨v, u, r, rfl, g1, g2⟩ := hs10 hs
  cases Sum.inl.inj g2
  have kk := kk H locs ls hl (fa_cons (hIB_ok _ _ _) (fa_tl (fa_tl hst))) hr hlo
  refine lv_iand C.1 C.2.1 hd ?_
  refine Eq.mp (congrArg (fun z => W p l e R s m args below meth c H locs (σ.1 - nS) (σ.2.1 - zS) Q (F0 m (pc + 1) ls (Value.int z :: r.map (cv ρ)))) (to32 rfl).symm) kk
theorem hK_ior (C : hCtx p s m args meth c y) : hOK ρ p l e R s m args below meth c Q K N0 E H00 y nS zS .ior := by
  intro pc len op nx d la st σ pc1 la1 st1 σ1 H locs ls hd ho hs hl hst hr hlo hn hz hc hsl hf kk
  obtain ⟨hb, he⟩ := hk1_in ho
  cases he
  have hb := of_decide_eq_true hb
  subst hb
  obtain ⟨v, u, r, rfl, g1, g2⟩ := hs10 hs
  cases Sum.inl.inj g2
  have kk := kk H locs ls hl (fa_cons (hIB_ok _ _ _) (fa_tl (fa_tl hst))) hr hlo
  refine lv_ior C.1 C.2.1 hd ?_
  refine Eq.mp (congrArg (fun z => W p l e R s m args below meth c H locs (σ.1 - nS) (σ.2.1 - zS) Q (F0 m (pc + 1) ls (Value.int z :: r.map (cv ρ)))) (to32 rfl).symm) kk
theorem hK_ixor (C : hCtx p s m args meth c y) : hOK ρ p l e R s m args below meth c Q K N0 E H00 y nS zS .ixor := by
  intro pc len op nx d la st σ pc1 la1 st1 σ1 H locs ls hd ho hs hl hst hr hlo hn hz hc hsl hf kk
  obtain ⟨hb, he⟩ := hk1_in ho
  cases he
  have hb := of_decide_eq_true hb
  subst hb
  obtain ⟨v, u, r, rfl, g1, g2⟩ := hs10 hs
  cases Sum.inl.inj g2
  have kk := kk H locs ls hl (fa_cons (hIB_ok _ _ _) (fa_tl (fa_tl hst))) hr hlo
  refine lv_ixor C.1 C.2.1 hd ?_
  refine Eq.mp (congrArg (fun z => W p l e R s m args below meth c H locs (σ.1 - nS) (σ.2.1 - zS) Q (F0 m (pc + 1) ls (Value.int z :: r.map (cv ρ)))) (to32 rfl).symm) kk
theorem hK_ishl (C : hCtx p s m args meth c y) : hOK ρ p l e R s m args below meth c Q K N0 E H00 y nS zS .ishl := by
  intro pc len op nx d la st σ pc1 la1 st1 σ1 H locs ls hd ho hs hl hst hr hlo hn hz hc hsl hf kk
  obtain ⟨hb, he⟩ := hk1_in ho
  cases he
  have hb := of_decide_eq_true hb
  subst hb
  obtain ⟨v, u, r, rfl, g1, g2⟩ := hs10 hs
  cases Sum.inl.inj g2
  have kk := kk H locs ls hl (fa_cons (hIB_ok _ _ _) (fa_tl (fa_tl hst))) hr hlo
  refine lv_ishl C.1 C.2.1 hd ?_
  refine Eq.mp (congrArg (fun z => W p l e R s m args below meth c H locs (σ.1 - nS) (σ.2.1 - zS) Q (F0 m (pc + 1) ls (Value.int z :: r.map (cv ρ)))) (to32 rfl).symm) kk
theorem hK_ishr (C : hCtx p s m args meth c y) : hOK ρ p l e R s m args below meth c Q K N0 E H00 y nS zS .ishr := by
  intro pc len op nx d la st σ pc1 la1 st1 σ1 H locs ls hd ho hs hl hst hr hlo hn hz hc hsl hf kk
  obtain ⟨hb, he⟩ := hk1_in ho
  cases he
  have hb := of_decide_eq_true hb
  subst hb
  obtain ⟨v, u, r, rfl, g1, g2⟩ := hs10 hs
  cases Sum.inl.inj g2
  have kk := kk H locs ls hl (fa_cons (hIB_ok _ _ _) (fa_tl (fa_tl hst))) hr hlo
  refine lv_ishr C.1 C.2.1 hd ?_
  refine Eq.mp (congrArg (fun z => W p l e R s m args below meth c H locs (σ.1 - nS) (σ.2.1 - zS) Q (F0 m (pc + 1) ls (Value.int z :: r.map (cv ρ)))) (to32 rfl).symm) kk
theorem hK_ladd (C : hCtx p s m args meth c y) : hOK ρ p l e R s m args below meth c Q K N0 E H00 y nS zS .ladd := by
  intro pc len op nx d la st σ pc1 la1 st1 σ1 H locs ls hd ho hs hl hst hr hlo hn hz hc hsl hf kk
  obtain ⟨hb, he⟩ := hk1_in ho
  cases he
  have hb := of_decide_eq_true hb
  subst hb
  obtain ⟨v, u, r, rfl, -, g2⟩ := hs11 hs
  cases Sum.inl.inj g2
  have kk := kk H locs ls hl (fa_cons (hLB_ok _ _ _) (fa_tl (fa_tl hst))) hr hlo
  refine lv_ladd C.1 C.2.1 hd ?_
  rw [add64 (fa_hd (fa_tl hst)) (fa_hd hst)]
  exact kk
theorem hK_lsub (C : hCtx p s m args meth c y) : hOK ρ p l e R s m args below meth c Q K N0 E H00 y nS zS .lsub := by
  intro pc len op nx d la st σ pc1 la1 st1 σ1 H locs ls hd ho hs hl hst hr hlo hn hz hc hsl hf kk
  obtain ⟨hb, he⟩ := hk1_in ho
  cases he
  have hb := of_decide_eq_true hb
  subst hb
  obtain ⟨v, u, r, rfl, -, g2⟩ := hs11 hs
  cases Sum.inl.inj g2
  have kk := kk H locs ls hl (fa_cons (hLB_ok _ _ _) (fa_tl (fa_tl hst))) hr hlo
  refine lv_lsub C.1 C.2.1 hd ?_
  rw [sub64 (fa_hd (fa_tl hst)) (fa_hd hst)]
  exact kk
theorem hK_lmul (C : hCtx p s m args meth c y) : hOK ρ p l e R s m args below meth c Q K N0 E H00 y nS zS .lmul := by
  intro pc len op nx d la st σ pc1 la1 st1 σ1 H locs ls hd ho hs hl hst hr hlo hn hz hc hsl hf kk
  obtain ⟨hb, he⟩ := hk1_in ho
  cases he
  have hb := of_decide_eq_true hb
  subst hb
  obtain ⟨v, u, r, rfl, -, g2⟩ := hs11 hs
  cases Sum.inl.inj g2
  have kk := kk H locs ls hl (fa_cons (hLB_ok _ _ _) (fa_tl (fa_tl hst))) hr hlo
  refine lv_lmul C.1 C.2.1 hd ?_
  rw [mul64 (fa_hd (fa_tl hst)) (fa_hd hst)]
  exact kk
theorem hK_ldiv (C : hCtx p s m args meth c y) : hOK ρ p l e R s m args below meth c Q K N0 E H00 y nS zS .ldiv := by
  intro pc len op nx d la st σ pc1 la1 st1 σ1 H locs ls hd ho hs hl hst hr hlo hn hz hc hsl hf kk
  obtain ⟨hb, he⟩ := hk1_in ho
  cases he
  have hb := of_decide_eq_true hb
  subst hb
  obtain ⟨v, u, r, rfl, g1, g2⟩ := hs11 hs
  cases Sum.inl.inj g2
  have kk := kk H locs ls hl (fa_cons (hLB_ok _ _ _) (fa_tl (fa_tl hst))) hr hlo
  refine lv_ldiv C.1 C.2.1 hd (nz64 (fa_hd hst) (fun z => g1 ⟨Or.inl rfl, z⟩)) ?_
  refine Eq.mp (congrArg (fun z => W p l e R s m args below meth c H locs (σ.1 - nS) (σ.2.1 - zS) Q (F0 m (pc + 1) ls (Value.long z :: r.map (cv ρ)))) (to64 rfl).symm) kk
theorem hK_lrem (C : hCtx p s m args meth c y) : hOK ρ p l e R s m args below meth c Q K N0 E H00 y nS zS .lrem := by
  intro pc len op nx d la st σ pc1 la1 st1 σ1 H locs ls hd ho hs hl hst hr hlo hn hz hc hsl hf kk
  obtain ⟨hb, he⟩ := hk1_in ho
  cases he
  have hb := of_decide_eq_true hb
  subst hb
  obtain ⟨v, u, r, rfl, g1, g2⟩ := hs11 hs
  cases Sum.inl.inj g2
  have kk := kk H locs ls hl (fa_cons (hLB_ok _ _ _) (fa_tl (fa_tl hst))) hr hlo
  refine lv_lrem C.1 C.2.1 hd (nz64 (fa_hd hst) (fun z => g1 ⟨Or.inr rfl, z⟩)) ?_
  refine Eq.mp (congrArg (fun z => W p l e R s m args below meth c H locs (σ.1 - nS) (σ.2.1 - zS) Q (F0 m (pc + 1) ls (Value.long z :: r.map (cv ρ)))) (to64 rfl).symm) kk
theorem hK_land (C : hCtx p s m args meth c y) : hOK ρ p l e R s m args below meth c Q K N0 E H00 y nS zS .land := by
  intro pc len op nx d la st σ pc1 la1 st1 σ1 H locs ls hd ho hs hl hst hr hlo hn hz hc hsl hf kk
  obtain ⟨hb, he⟩ := hk1_in ho
  cases he
  have hb := of_decide_eq_true hb
  subst hb
  obtain ⟨v, u, r, rfl, g1, g2⟩ := hs11 hs
  cases Sum.inl.inj g2
  have kk := kk H locs ls hl (fa_cons (hLB_ok _ _ _) (fa_tl (fa_tl hst))) hr hlo
  refine lv_land C.1 C.2.1 hd ?_
  refine Eq.mp (congrArg (fun z => W p l e R s m args below meth c H locs (σ.1 - nS) (σ.2.1 - zS) Q (F0 m (pc + 1) ls (Value.long z :: r.map (cv ρ)))) (to64 rfl).symm) kk
theorem hK_lor (C : hCtx p s m args meth c y) : hOK ρ p l e R s m args below meth c Q K N0 E H00 y nS zS .lor := by
  intro pc len op nx d la st σ pc1 la1 st1 σ1 H locs ls hd ho hs hl hst hr hlo hn hz hc hsl hf kk
  obtain ⟨hb, he⟩ := hk1_in ho
  cases he
  have hb := of_decide_eq_true hb
  subst hb
  obtain ⟨v, u, r, rfl, g1, g2⟩ := hs11 hs
  cases Sum.inl.inj g2
  have kk := kk H locs ls hl (fa_cons (hLB_ok _ _ _) (fa_tl (fa_tl hst))) hr hlo
  refine lv_lor C.1 C.2.1 hd ?_
  refine Eq.mp (congrArg (fun z => W p l e R s m args below meth c H locs (σ.1 - nS) (σ.2.1 - zS) Q (F0 m (pc + 1) ls (Value.long z :: r.map (cv ρ)))) (to64 rfl).symm) kk
theorem hK_lxor (C : hCtx p s m args meth c y) : hOK ρ p l e R s m args below meth c Q K N0 E H00 y nS zS .lxor := by
  intro pc len op nx d la st σ pc1 la1 st1 σ1 H locs ls hd ho hs hl hst hr hlo hn hz hc hsl hf kk
  obtain ⟨hb, he⟩ := hk1_in ho
  cases he
  have hb := of_decide_eq_true hb
  subst hb
  obtain ⟨v, u, r, rfl, g1, g2⟩ := hs11 hs
  cases Sum.inl.inj g2
  have kk := kk H locs ls hl (fa_cons (hLB_ok _ _ _) (fa_tl (fa_tl hst))) hr hlo
  refine lv_lxor C.1 C.2.1 hd ?_
  refine Eq.mp (congrArg (fun z => W p l e R s m args below meth c H locs (σ.1 - nS) (σ.2.1 - zS) Q (F0 m (pc + 1) ls (Value.long z :: r.map (cv ρ)))) (to64 rfl).symm) kk
theorem hK_lshl (C : hCtx p s m args meth c y) : hOK ρ p l e R s m args below meth c Q K N0 E H00 y nS zS .lshl := by
  intro pc len op nx d la st σ pc1 la1 st1 σ1 H locs ls hd ho hs hl hst hr hlo hn hz hc hsl hf kk
  obtain ⟨hb, he⟩ := hk1_in ho
  cases he
  have hb := of_decide_eq_true hb
  subst hb
  obtain ⟨v, u, r, rfl, g2⟩ := hs12 hs
  cases Sum.inl.inj g2
  have kk := kk H locs ls hl (fa_cons (hLH_ok _ _ _) (fa_tl (fa_tl hst))) hr hlo
  exact lv_lshl C.1 C.2.1 hd (to64 rfl) kk
theorem hK_lshr (C : hCtx p s m args meth c y) : hOK ρ p l e R s m args below meth c Q K N0 E H00 y nS zS .lshr := by
  intro pc len op nx d la st σ pc1 la1 st1 σ1 H locs ls hd ho hs hl hst hr hlo hn hz hc hsl hf kk
  obtain ⟨hb, he⟩ := hk1_in ho
  cases he
  have hb := of_decide_eq_true hb
  subst hb
  obtain ⟨v, u, r, rfl, g2⟩ := hs12 hs
  cases Sum.inl.inj g2
  have kk := kk H locs ls hl (fa_cons (hLH_ok _ _ _) (fa_tl (fa_tl hst))) hr hlo
  exact lv_lshr C.1 C.2.1 hd (to64 rfl) kk
theorem hK_ineg (C : hCtx p s m args meth c y) : hOK ρ p l e R s m args below meth c Q K N0 E H00 y nS zS .ineg := by
  intro pc len op nx d la st σ pc1 la1 st1 σ1 H locs ls hd ho hs hl hst hr hlo hn hz hc hsl hf kk
  obtain ⟨hb, he⟩ := hk1_in ho
  cases he
  have hb := of_decide_eq_true hb
  subst hb
  obtain ⟨u, r, rfl, g2⟩ := hs13 hs
  cases Sum.inl.inj g2
  refine lv_ineg C.1 C.2.1 hd ?_
  rw [neg32 (fa_hd hst)]
  exact kk H locs ls hl (fa_cons (w32_ok _) (fa_tl hst)) hr hlo
theorem hK_i2l (C : hCtx p s m args meth c y) : hOK ρ p l e R s m args below meth c Q K N0 E H00 y nS zS .i2l := by
  intro pc len op nx d la st σ pc1 la1 st1 σ1 H locs ls hd ho hs hl hst hr hlo hn hz hc hsl hf kk
  obtain ⟨hb, he⟩ := hk1_in ho
  cases he
  have hb := of_decide_eq_true hb
  subst hb
  obtain ⟨u, r, rfl, g2⟩ := hs14 hs
  cases Sum.inl.inj g2
  exact lv_i2l C.1 C.2.1 hd (i2l_eq (fa_hd hst)) (kk H locs ls hl (fa_cons (i2l_ok (fa_hd hst)) (fa_tl hst)) hr hlo)
theorem hK_l2i (C : hCtx p s m args meth c y) : hOK ρ p l e R s m args below meth c Q K N0 E H00 y nS zS .l2i := by
  intro pc len op nx d la st σ pc1 la1 st1 σ1 H locs ls hd ho hs hl hst hr hlo hn hz hc hsl hf kk
  obtain ⟨hb, he⟩ := hk1_in ho
  cases he
  have hb := of_decide_eq_true hb
  subst hb
  obtain ⟨u, r, rfl, g2⟩ := hs15 hs
  cases Sum.inl.inj g2
  exact lv_l2i C.1 C.2.1 hd (l2i_eq (fa_hd hst)) (kk H locs ls hl (fa_cons (w32_ok _) (fa_tl hst)) hr hlo)
theorem hK_i2b (C : hCtx p s m args meth c y) : hOK ρ p l e R s m args below meth c Q K N0 E H00 y nS zS .i2b := by
  intro pc len op nx d la st σ pc1 la1 st1 σ1 H locs ls hd ho hs hl hst hr hlo hn hz hc hsl hf kk
  obtain ⟨hb, he⟩ := hk1_in ho
  cases he
  have hb := of_decide_eq_true hb
  subst hb
  obtain ⟨u, r, rfl, g2⟩ := hs16 hs
  cases Sum.inl.inj g2
  exact lv_i2b C.1 C.2.1 hd (to32 rfl) (kk H locs ls hl (fa_cons (ok_t32 _) (fa_tl hst)) hr hlo)
theorem hK_i2c (C : hCtx p s m args meth c y) : hOK ρ p l e R s m args below meth c Q K N0 E H00 y nS zS .i2c := by
  intro pc len op nx d la st σ pc1 la1 st1 σ1 H locs ls hd ho hs hl hst hr hlo hn hz hc hsl hf kk
  obtain ⟨hb, he⟩ := hk1_in ho
  cases he
  have hb := of_decide_eq_true hb
  subst hb
  obtain ⟨u, r, rfl, g2⟩ := hs35 hs
  cases Sum.inl.inj g2
  exact lv_i2c C.1 C.2.1 hd (to32 rfl) (kk H locs ls hl (fa_cons (ok_t32 _) (fa_tl hst)) hr hlo)
theorem hK_lcmp (C : hCtx p s m args meth c y) : hOK ρ p l e R s m args below meth c Q K N0 E H00 y nS zS .lcmp := by
  intro pc len op nx d la st σ pc1 la1 st1 σ1 H locs ls hd ho hs hl hst hr hlo hn hz hc hsl hf kk
  obtain ⟨hb, he⟩ := hk1_in ho
  cases he
  have hb := of_decide_eq_true hb
  subst hb
  obtain ⟨v, u, r, rfl, g2⟩ := hs17 hs
  cases Sum.inl.inj g2
  refine W.lcmp C.1 C.2.1 hd ?_
  rw [cmp_eq (fa_hd (fa_tl hst)) (fa_hd hst)]
  exact kk H locs ls hl (fa_cons (cmp_ok _ _) (fa_tl (fa_tl hst))) hr hlo
theorem hK_dup (C : hCtx p s m args meth c y) : hOK ρ p l e R s m args below meth c Q K N0 E H00 y nS zS .dup := by
  intro pc len op nx d la st σ pc1 la1 st1 σ1 H locs ls hd ho hs hl hst hr hlo hn hz hc hsl hf kk
  obtain ⟨hb, he⟩ := hk1_in ho
  cases he
  have hb := of_decide_eq_true hb
  subst hb
  obtain ⟨v, r, rfl, g1, g2⟩ := hs6 hs
  cases Sum.inl.inj g2
  exact lv_dup C.1 C.2.1 hd ((cv_cat v).trans g1) (kk H locs ls hl (fa_cons (fa_hd hst) hst) hr hlo)
theorem hK_pop (C : hCtx p s m args meth c y) : hOK ρ p l e R s m args below meth c Q K N0 E H00 y nS zS .pop := by
  intro pc len op nx d la st σ pc1 la1 st1 σ1 H locs ls hd ho hs hl hst hr hlo hn hz hc hsl hf kk
  obtain ⟨hb, he⟩ := hk1_in ho
  cases he
  have hb := of_decide_eq_true hb
  subst hb
  obtain ⟨v, r, rfl, g1, g2⟩ := hs7 hs
  cases Sum.inl.inj g2
  exact lv_pop C.1 C.2.1 hd ((cv_cat v).trans g1) (kk H locs ls hl (fa_tl hst) hr hlo)
theorem hK_dup2 (C : hCtx p s m args meth c y) : hOK ρ p l e R s m args below meth c Q K N0 E H00 y nS zS .dup2 := by
  intro pc len op nx d la st σ pc1 la1 st1 σ1 H locs ls hd ho hs hl hst hr hlo hn hz hc hsl hf kk
  obtain ⟨hb, he⟩ := hk1_in ho
  cases he
  have hb := of_decide_eq_true hb
  subst hb
  obtain ⟨u, v, r, rfl, g0, g1, g2⟩ := hs8 hs
  cases Sum.inl.inj g2
  exact lv_dup2_11 C.1 C.2.1 hd ((cv_cat u).trans g0) ((cv_cat v).trans g1) (kk H locs ls hl (fa_cons (fa_hd hst) (fa_cons (fa_hd (fa_tl hst)) hst)) hr hlo)
theorem hK_pop2 (C : hCtx p s m args meth c y) : hOK ρ p l e R s m args below meth c Q K N0 E H00 y nS zS .pop2 := by
  intro pc len op nx d la st σ pc1 la1 st1 σ1 H locs ls hd ho hs hl hst hr hlo hn hz hc hsl hf kk
  obtain ⟨hb, he⟩ := hk1_in ho
  cases he
  have hb := of_decide_eq_true hb
  subst hb
  obtain ⟨v, r, rfl, g1, g2⟩ := hs9 hs
  cases Sum.inl.inj g2
  exact lv_pop2_2 C.1 C.2.1 hd ((cv_cat v).trans g1) (kk H locs ls hl (fa_tl hst) hr hlo)
end HST
