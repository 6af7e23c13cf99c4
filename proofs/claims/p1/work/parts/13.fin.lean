/-! Calls, ends, and all of it together: what the small machine comes to, the Java machine comes to. -/
theorem hEnv.warm {ρ : Nat → Nat} {N0 : Nat} {E : Nat → AV} {H00 : Heap} {s U : State} (hW : s.WarmedH U.vm) (h : hEnv ρ N0 E H00 s) : hEnv ρ N0 E H00 U := by
  obtain ⟨h1, h2, h3, h4, h5, h6, h7⟩ := h
  refine ⟨fun q hq hn => ?_, fun q hq hn hn2 => ?_, fun q hq hn => ?_, fun q hq => va_AO.moved hW.alike (h4 q hq), fun q hq => ?_, fun j hj => (h6 j hj).moved hW.alike, h7⟩
  · have h := h1 q hq hn
    have e : hwF q = .fieldLinkNest (hName q.1) q.2.1 (hName q.2.2.1) (hFd q.2.2.1 q.2.2.2.1).1 (hFd q.2.2.1 q.2.2.2.1).2.1 q.2.2.2.2.2.2 := if_neg hn
    rw [e] at h ⊢
    exact va_Nw.warmF hW h
  · have h := h2 q hq hn hn2
    have e : hwL q = .methodLinkNest (hName q.1) q.2.1 (hmY q.2.2.1) q.2.2.2.2.2 := (if_neg hn).trans (if_neg hn2)
    rw [e] at h ⊢
    exact va_Nw.warmM hW h
  · have h := h3 q hq hn
    have e : hwG q = .fieldLinkNest (hName q.1) q.2.1 (hSn q.2.2.1).1 (hSn q.2.2.1).2.1 (hSn q.2.2.1).2.2 q.2.2.2.2.2 := if_neg hn
    rw [e] at h ⊢
    exact va_Nw.warmF hW h
  · obtain ⟨a, e, h⟩ := h5 q hq
    exact ⟨a, e, vk_R.warm hW h⟩
theorem hEnv.same {ρ : Nat → Nat} {N0 : Nat} {E : Nat → AV} {H00 : Heap} {s U : State} (hv : U.vm = s.vm) (h : hEnv ρ N0 E H00 s) : hEnv ρ N0 E H00 U := by
  obtain ⟨h1, h2, h3, h4, h5, h6, h7⟩ := h
  have ha : s.vm.Alike U.vm := by rw [hv]; exact Vm.Alike.refl _
  refine ⟨fun q hq hn => ?_, fun q hq hn hn2 => ?_, fun q hq hn => ?_, fun q hq => va_AO.moved ha (h4 q hq), fun q hq => ?_, fun j hj => (h6 j hj).moved ha, h7⟩
  · have h := h1 q hq hn
    have e : hwF q = .fieldLinkNest (hName q.1) q.2.1 (hName q.2.2.1) (hFd q.2.2.1 q.2.2.2.1).1 (hFd q.2.2.1 q.2.2.2.1).2.1 q.2.2.2.2.2.2 := if_neg hn
    rw [e] at h ⊢
    exact va_Nw.same rfl hv.symm h
  · have h := h2 q hq hn hn2
    have e : hwL q = .methodLinkNest (hName q.1) q.2.1 (hmY q.2.2.1) q.2.2.2.2.2 := (if_neg hn).trans (if_neg hn2)
    rw [e] at h ⊢
    exact va_Nw.same rfl hv.symm h
  · have h := h3 q hq hn
    have e : hwG q = .fieldLinkNest (hName q.1) q.2.1 (hSn q.2.2.1).1 (hSn q.2.2.1).2.1 (hSn q.2.2.1).2.2 q.2.2.2.2.2 := if_neg hn
    rw [e] at h ⊢
    exact va_Nw.same rfl hv.symm h
  · obtain ⟨a, e, h⟩ := h5 q hq
    exact ⟨a, e, vk_R.same hv h⟩
def hWs (y : Nat) : List Cond := Cond.code (hmY y) (hmB y) (hmL y) (hmR y) :: hBig
def hRm (d mc ms : Nat) : Room := { frames := d, cells := mc, slots := ms, locals := 40 * d }
def hPc (ρ : Nat → Nat) (K N0 : Nat) (E : Nat → AV) (H00 : Heap) (as : List AV) (σ : hM) : Array Value → State → Prop := fun a U => a = (as.map (cv ρ)).toArray ∧ (∀ v ∈ as, okv v) ∧ hRel ρ K N0 H00 U σ U.heap ∧ hEnv ρ N0 E H00 U
def hQc (ρ : Nat → Nat) (K N0 : Nat) (H00 : Heap) (r : Option AV) (σ : hM) : Array Value → State → Outcome → State → Prop := fun _ _ o t => o = .returned (r.map (cv ρ)) ∧ (∀ v ∈ r.toList, okv v) ∧ hRel ρ K N0 H00 t σ t.heap
theorem hPc_blind (ρ : Nat → Nat) (K N0 : Nat) (E : Nat → AV) (H00 : Heap) (as : List AV) (σ : hM) : FrameBlind (hPc ρ K N0 E H00 as σ) := by
  intro a U g mk h
  obtain ⟨h1, h2, h3, h4⟩ := h
  refine ⟨h1, h2, ?_, hEnv.same (s := U) rfl h4⟩
  exact hRel.moved (s := U) (s1 := U.calling g mk a) (Vm.Alike.refl _) h3
theorem hGood : GoodIn hBig hBig := fun w h => ⟨h, good_of_word (hBig_ok w h).2⟩
theorem hGoodW {y : Nat} (h : y < hNM) : GoodIn hBig (hWs y) := by
  intro w hw
  rcases List.mem_cons.mp hw with rfl | hw
  · exact ⟨hBig_in (hMw_of h).1 rfl, good_of_word rfl⟩
  · exact hGood w hw
theorem hmO_cls (y : Nat) : (hmY y).cls = hName (hmO y) := rfl
/-- sizes only grow -/
theorem hstep_mono {K d y nx : Nat} {E : Nat → AV} {op : hOp} {ls : hLs} {st : List AV} {σ : hM} {pc1 : Nat} {ls1 : hLs} {st1 : List AV} {σ1 : hM} (h : hstep K E d y op nx ls st σ = some (Sum.inl (pc1, ls1, st1, σ1))) : σ.1 ≤ σ1.1 ∧ σ.2.1 ≤ σ1.2.1 := by
  unfold hstep at h
  split at h
  all_goals (repeat' split at h)
  all_goals first
    | (cases h; done)
    | (obtain ⟨-, h2⟩ := hif_some h; cases h2; done)
    | (obtain ⟨-, h2⟩ := hif_some h; cases h2; first | exact ⟨Nat.le_refl _, Nat.le_refl _⟩ | exact ⟨Nat.le_succ _, Nat.le_add_right _ _⟩)
    | (cases h; first | exact ⟨Nat.le_refl _, Nat.le_refl _⟩ | exact ⟨Nat.le_succ _, Nat.le_add_right _ _⟩)
theorem hstep_call {K d y nx : Nat} {E : Nat → AV} {op : hOp} {ls : hLs} {st : List AV} {σ : hM} {z : hCl} (h : hstep K E d y op nx ls st σ = some (Sum.inr (Sum.inl z))) : ∃ y1 b tg, op = (31, y1, b, tg) := by
  unfold hstep at h
  split at h
  all_goals (repeat' split at h)
  all_goals first
    | exact ⟨_, _, _, rfl⟩
    | (cases h; done)
    | (obtain ⟨-, h2⟩ := hif_some h; cases h2; done)
theorem hstep_ret {K d y nx : Nat} {E : Nat → AV} {op : hOp} {ls : hLs} {st : List AV} {σ : hM} {z : Option AV} (h : hstep K E d y op nx ls st σ = some (Sum.inr (Sum.inr z))) : ∃ k b tg, op = (33, k, b, tg) := by
  unfold hstep at h
  split at h
  all_goals (repeat' split at h)
  all_goals first
    | exact ⟨_, _, _, rfl⟩
    | (cases h; done)
    | (obtain ⟨-, h2⟩ := hif_some h; cases h2; done)
theorem hx_mono (K : Nat) (E : Nat → AV) (T : Nat → Nat → Option (hOp × Nat)) : ∀ (n d y pc : Nat) (ls : hLs) (st : List AV) (σ : hM) (r : Option AV) (σ1 : hM), hx K E T n d y pc ls st σ = some (r, σ1) → σ.1 ≤ σ1.1 ∧ σ.2.1 ≤ σ1.2.1 := by
  intro n
  induction n with
  | zero => intro d y pc ls st σ r σ1 h; cases h
  | succ n ih =>
    intro d y pc ls st σ r σ1 h
    unfold hx at h
    split at h
    · cases h
    · split at h
      · cases h
      · rename_i e
        have h1 := hstep_mono e
        have h2 := ih _ _ _ _ _ _ _ _ h
        exact ⟨Nat.le_trans h1.1 h2.1, Nat.le_trans h1.2 h2.2⟩
      · split at h
        · cases h
        · split at h
          · cases h
          · rename_i e
            have h1 := ih _ _ _ _ _ _ _ _ e
            have h2 := ih _ _ _ _ _ _ _ _ h
            exact ⟨Nat.le_trans h1.1 h2.1, Nat.le_trans h1.2 h2.2⟩
      · cases h
        exact ⟨Nat.le_refl _, Nat.le_refl _⟩
theorem nar_byte {z : Int} (h1 : -128 ≤ z) (h2 : z ≤ 127) : narrow .byte (.int (Int32.ofInt z)) = .int (Int32.ofInt z) := by
  have oz : okv (vI z) := ⟨by omega, by omega⟩
  show Value.int (Int32.ofInt z).toInt8.toInt32 = Value.int (Int32.ofInt z)
  rw [show (Int32.ofInt z).toInt8.toInt32 = Int32.ofInt z from to32 (by rw [Int8.toInt_toInt32, Int32.toInt_toInt8, i32r oz]; exact Int.bmod_eq_of_le (by omega) (by omega))]
theorem nar_char {z : Int} (h1 : 0 ≤ z) (h2 : z ≤ 65535) : narrow .char (.int (Int32.ofInt z)) = .int (Int32.ofInt z) := by
  have e0 : (Int32.ofInt z).toUInt32.toNat = z.toNat := by
    show (BitVec.ofInt 32 z).toNat = _
    rw [BitVec.toNat_ofInt]
    omega
  have e : (Int32.ofInt z).toUInt32.toUInt16.toUInt32 = (Int32.ofInt z).toUInt32 := by
    apply UInt32.toNat_inj.mp
    rw [UInt16.toNat_toUInt32, UInt32.toNat_toUInt16, e0]
    omega
  show Value.int (Int32.ofInt z).toUInt32.toUInt16.toUInt32.toInt32 = _
  rw [e]
  rfl
theorem hret_no {y pc len nx k : Nat} {b : Int} {tg : List Int} {i : Instr} (h1 : i ≠ .return_) (h2 : i ≠ .lreturn) (h3 : i ≠ .areturn) (h4 : i ≠ .ireturn) : ((33, k, b, tg), nx) ∉ hops y pc i len := by
  intro ho
  cases i with
  | return_ => exact h1 rfl
  | lreturn => exact h2 rfl
  | areturn => exact h3 rfl
  | ireturn => exact h4 rfl
  | ldc j =>
    exfalso
    have ho : _ ∈ ho_ldc y pc j len := ho
    unfold ho_ldc at ho
    repeat' split at ho
    all_goals first
      | (cases ho; done)
      | (obtain ⟨-, he⟩ := hk1_in ho; cases he; done)
  | ldc_w j =>
    exfalso
    have ho : _ ∈ ho_ldc_w y pc j len := ho
    unfold ho_ldc_w at ho
    repeat' split at ho
    all_goals first
      | (cases ho; done)
      | (obtain ⟨-, he⟩ := hk1_in ho; cases he; done)
  | ldc2_w j =>
    exfalso
    have ho : _ ∈ ho_ldc2_w y pc j len := ho
    unfold ho_ldc2_w at ho
    repeat' split at ho
    all_goals first
      | (cases ho; done)
      | (obtain ⟨-, he⟩ := hk1_in ho; cases he; done)
  | getfield j =>
    exfalso
    have ho : _ ∈ ho_getfield y pc j len := ho
    unfold ho_getfield at ho
    repeat' split at ho
    all_goals first
      | (cases ho; done)
      | (obtain ⟨-, he⟩ := hk1_in ho; cases he; done)
  | putfield j =>
    exfalso
    have ho : _ ∈ ho_putfield y pc j len := ho
    unfold ho_putfield at ho
    repeat' split at ho
    all_goals first
      | (cases ho; done)
      | (obtain ⟨-, he⟩ := hk1_in ho; cases he; done)
  | new j =>
    exfalso
    have ho : _ ∈ ho_new y pc j len := ho
    unfold ho_new at ho
    repeat' split at ho
    all_goals first
      | (cases ho; done)
      | (obtain ⟨-, he⟩ := hk1_in ho; cases he; done)
  | anewarray j =>
    exfalso
    have ho : _ ∈ ho_anewarray y pc j len := ho
    unfold ho_anewarray at ho
    repeat' split at ho
    all_goals first
      | (cases ho; done)
      | (obtain ⟨-, he⟩ := hk1_in ho; cases he; done)
  | getstatic j =>
    exfalso
    have ho : _ ∈ ho_getstatic y pc j len := ho
    unfold ho_getstatic at ho
    repeat' split at ho
    all_goals first
      | (cases ho; done)
      | (obtain ⟨-, he⟩ := hk1_in ho; cases he; done)
  | invokevirtual j =>
    exfalso
    have ho : _ ∈ ho_invokevirtual y pc j len := ho
    unfold ho_invokevirtual at ho
    repeat' split at ho
    all_goals first
      | (cases ho; done)
      | (obtain ⟨-, he⟩ := hk1_in ho; cases he; done)
  | invokespecial j =>
    exfalso
    have ho : _ ∈ ho_invokespecial y pc j len := ho
    unfold ho_invokespecial at ho
    repeat' split at ho
    all_goals first
      | (cases ho; done)
      | (obtain ⟨-, he⟩ := hk1_in ho; cases he; done)
  | invokestatic j =>
    exfalso
    have ho : _ ∈ ho_invokestatic y pc j len := ho
    unfold ho_invokestatic at ho
    repeat' split at ho
    all_goals first
      | (cases ho; done)
      | (obtain ⟨-, he⟩ := hk1_in ho; cases he; done)
  | _ => first
    | exact List.not_mem_nil ho
    | (obtain ⟨-, he⟩ := hk1_in ho; cases he; done)
    | (rcases List.mem_append.mp ho with ho | ho <;> (obtain ⟨-, he⟩ := hk1_in ho; cases he))
theorem hcall_no {y pc len nx k : Nat} {b : Int} {tg : List Int} {i : Instr} (ho : ((31, k, b, tg), nx) ∈ hops y pc i len) : (∃ j, i = .invokevirtual j) ∨ (∃ j, i = .invokespecial j) ∨ ∃ j, i = .invokestatic j := by
  cases i with
  | invokevirtual j => exact Or.inl ⟨_, rfl⟩
  | invokespecial j => exact Or.inr (Or.inl ⟨_, rfl⟩)
  | invokestatic j => exact Or.inr (Or.inr ⟨_, rfl⟩)
  | ldc j =>
    exfalso
    have ho : _ ∈ ho_ldc y pc j len := ho
    unfold ho_ldc at ho
    repeat' split at ho
    all_goals first
      | (cases ho; done)
      | (obtain ⟨-, he⟩ := hk1_in ho; cases he; done)
  | ldc_w j =>
    exfalso
    have ho : _ ∈ ho_ldc_w y pc j len := ho
    unfold ho_ldc_w at ho
    repeat' split at ho
    all_goals first
      | (cases ho; done)
      | (obtain ⟨-, he⟩ := hk1_in ho; cases he; done)
  | ldc2_w j =>
    exfalso
    have ho : _ ∈ ho_ldc2_w y pc j len := ho
    unfold ho_ldc2_w at ho
    repeat' split at ho
    all_goals first
      | (cases ho; done)
      | (obtain ⟨-, he⟩ := hk1_in ho; cases he; done)
  | getfield j =>
    exfalso
    have ho : _ ∈ ho_getfield y pc j len := ho
    unfold ho_getfield at ho
    repeat' split at ho
    all_goals first
      | (cases ho; done)
      | (obtain ⟨-, he⟩ := hk1_in ho; cases he; done)
  | putfield j =>
    exfalso
    have ho : _ ∈ ho_putfield y pc j len := ho
    unfold ho_putfield at ho
    repeat' split at ho
    all_goals first
      | (cases ho; done)
      | (obtain ⟨-, he⟩ := hk1_in ho; cases he; done)
  | new j =>
    exfalso
    have ho : _ ∈ ho_new y pc j len := ho
    unfold ho_new at ho
    repeat' split at ho
    all_goals first
      | (cases ho; done)
      | (obtain ⟨-, he⟩ := hk1_in ho; cases he; done)
  | anewarray j =>
    exfalso
    have ho : _ ∈ ho_anewarray y pc j len := ho
    unfold ho_anewarray at ho
    repeat' split at ho
    all_goals first
      | (cases ho; done)
      | (obtain ⟨-, he⟩ := hk1_in ho; cases he; done)
  | getstatic j =>
    exfalso
    have ho : _ ∈ ho_getstatic y pc j len := ho
    unfold ho_getstatic at ho
    repeat' split at ho
    all_goals first
      | (cases ho; done)
      | (obtain ⟨-, he⟩ := hk1_in ho; cases he; done)
  | _ => first
    | exact absurd ho List.not_mem_nil
    | (obtain ⟨-, he⟩ := hk1_in ho; cases he; done)
    | (exfalso; rcases List.mem_append.mp ho with ho | ho <;> (obtain ⟨-, he⟩ := hk1_in ho; cases he; done))
    | (exfalso; rcases List.mem_append.mp ho with ho | ho
       · obtain ⟨-, he⟩ := hk1_in ho; cases he
       · rcases List.mem_append.mp ho with ho | ho
         · obtain ⟨-, he⟩ := hk1_in ho; cases he
         · rcases List.mem_append.mp ho with ho | ho <;> (obtain ⟨-, he⟩ := hk1_in ho; cases he))
section HFIN
variable {p : Program} {l : Launch} {e : Env} {R : Room} {s : State} {m : MethodId} {args : Array Value} {below : List Frame} {meth : Method} {c : Code} {Q : State → Prop} {ρ : Nat → Nat} {K N0 : Nat} {E : Nat → AV} {H00 : Heap} {y nS zS : Nat}
theorem hK_iinc (C : hCtx p s m args meth c y) (k : Nat) (n : Int) : hOK ρ p l e R s m args below meth c Q K N0 E H00 y nS zS (.iinc k n) := by
  intro pc len op nx d la st σ pc1 la1 st1 σ1 H locs ls hd ho hs hl hst hr hlo hn hz hc hsl hf kk
  obtain ⟨hb, he⟩ := hk1_in ho
  cases he
  simp only [Bool.and_eq_true, decide_eq_true_eq] at hb
  obtain ⟨⟨⟨rfl, hi⟩, h1⟩, h2⟩ := hb
  obtain ⟨z, g1, g2⟩ := hs5 hs
  cases Sum.inl.inj g2
  have hz2 := (hl.2.2 _ _ g1).2
  obtain ⟨q, hq⟩ := List.getElem?_of_mem ((hprs_in la 0 (0 + k, cv ρ (vI z))).mpr ⟨k, _, g1, rfl⟩)
  rw [Nat.zero_add] at hq
  exact lv_iinc C.1 C.2.1 hd hl.has hq (add32 hz2 ⟨by omega, by omega⟩) hi rfl (fun ls1 g3 => kk H locs ls1 (hl.sto1 (v := vI (w32 (z + n))) (w32_ok _) rfl g3) hst hr hlo)
theorem hK_inv31 {pc nx d : Nat} {k : Nat} {b : Int} {tg : List Int} {la : hLs} {st : List AV} {σ : hM} {x : hNx} (hs : hstep K E d y (31, k, b, tg) nx la st σ = some (Sum.inl x)) : False := by
  obtain ⟨-, -, -, -, h⟩ := hs31 hs
  cases h
theorem hK_inv33 {pc nx d : Nat} {k : Nat} {b : Int} {tg : List Int} {la : hLs} {st : List AV} {σ : hM} {x : hNx} (hs : hstep K E d y (33, k, b, tg) nx la st σ = some (Sum.inl x)) : False := by
  obtain ⟨r, h, -⟩ := hs33 hs
  cases h
theorem hK_special (C : hCtx p s m args meth c y) (hsz : c.maxLocals = hmL y) (k : Nat) : hOK ρ p l e R s m args below meth c Q K N0 E H00 y nS zS (.invokespecial k) := by
  intro pc len op nx d la st σ pc1 la1 st1 σ1 H locs ls hd ho hs hl hst hr hlo hn hz hc hsl hf kk
  have ho : (op, nx) ∈ ho_invokespecial y pc k len := ho
  unfold ho_invokespecial at ho
  cases e1 : hf3 hLM (hmO y) k with
  | none => rw [e1] at ho; cases ho
  | some x =>
    obtain ⟨y1, ns, xx⟩ := x
    rw [e1] at ho
    dsimp only at ho
    by_cases h9 : y1 = 9999
    · subst h9
      rw [if_pos rfl] at ho
      obtain ⟨hb, he⟩ := hk1_in ho
      exact hK_objInit C k hsz hd e1 he (of_decide_eq_true hb) hs hl hst hr hlo hf kk
    · rw [if_neg h9] at ho
      obtain ⟨hb, he⟩ := hk1_in ho
      cases he
      exact (hK_inv31 (pc := pc) hs).elim
theorem hK_virtual (C : hCtx p s m args meth c y) (k : Nat) : hOK ρ p l e R s m args below meth c Q K N0 E H00 y nS zS (.invokevirtual k) := by
  intro pc len op nx d la st σ pc1 la1 st1 σ1 H locs ls hd ho hs hl hst hr hlo hn hz hc hsl hf kk
  have ho : (op, nx) ∈ ho_invokevirtual y pc k len := ho
  unfold ho_invokevirtual at ho
  cases e1 : hf3 hLM (hmO y) k with
  | none => rw [e1] at ho; cases ho
  | some x =>
    obtain ⟨y1, ns, xx⟩ := x
    rw [e1] at ho
    obtain ⟨hb, he⟩ := hk1_in ho
    cases he
    exact (hK_inv31 (pc := pc) hs).elim
theorem hK_static (C : hCtx p s m args meth c y) (k : Nat) : hOK ρ p l e R s m args below meth c Q K N0 E H00 y nS zS (.invokestatic k) := by
  intro pc len op nx d la st σ pc1 la1 st1 σ1 H locs ls hd ho hs hl hst hr hlo hn hz hc hsl hf kk
  have ho : (op, nx) ∈ ho_invokestatic y pc k len := ho
  unfold ho_invokestatic at ho
  cases e1 : hf3 hLM (hmO y) k with
  | none => rw [e1] at ho; cases ho
  | some x =>
    obtain ⟨y1, ns, xx⟩ := x
    rw [e1] at ho
    obtain ⟨hb, he⟩ := hk1_in ho
    cases he
    exact (hK_inv31 (pc := pc) hs).elim
theorem hK_rets (i : Instr) (hi : ∀ pc len op nx, (op, nx) ∈ hops y pc i len → ∃ k b tg, op = (33, k, b, tg)) : hOK ρ p l e R s m args below meth c Q K N0 E H00 y nS zS i := by
  intro pc len op nx d la st σ pc1 la1 st1 σ1 H locs ls hd ho hs hl hst hr hlo hn hz hc hsl hf kk
  obtain ⟨k, b, tg, rfl⟩ := hi pc len op nx ho
  exact (hK_inv33 (pc := pc) hs).elim
theorem hop_ret : ∀ pc len op nx, (op, nx) ∈ hops y pc .return_ len → ∃ k b tg, op = (33, k, b, tg) := by
  intro pc len op nx ho
  obtain ⟨-, he⟩ := hk1_in ho
  cases he
  exact ⟨_, _, _, rfl⟩
theorem hop_lret : ∀ pc len op nx, (op, nx) ∈ hops y pc .lreturn len → ∃ k b tg, op = (33, k, b, tg) := by
  intro pc len op nx ho
  obtain ⟨-, he⟩ := hk1_in ho
  cases he
  exact ⟨_, _, _, rfl⟩
theorem hop_aret : ∀ pc len op nx, (op, nx) ∈ hops y pc .areturn len → ∃ k b tg, op = (33, k, b, tg) := by
  intro pc len op nx ho
  obtain ⟨-, he⟩ := hk1_in ho
  cases he
  exact ⟨_, _, _, rfl⟩
theorem hop_iret : ∀ pc len op nx, (op, nx) ∈ hops y pc .ireturn len → ∃ k b tg, op = (33, k, b, tg) := by
  intro pc len op nx ho
  have ho : (op, nx) ∈ hk1 (decide (len = 1) && decide (hmR y = some .int)) (33, 1, 0, []) (pc + 1) ++ (hk1 (decide (len = 1) && decide (hmR y = some .boolean)) (33, 2, 0, []) (pc + 1) ++
      (hk1 (decide (len = 1) && decide (hmR y = some .byte)) (33, 5, 0, []) (pc + 1) ++ hk1 (decide (len = 1) && decide (hmR y = some .char)) (33, 6, 0, []) (pc + 1))) := ho
  rcases List.mem_append.mp ho with ho | ho
  · obtain ⟨-, he⟩ := hk1_in ho
    cases he
    exact ⟨_, _, _, rfl⟩
  · rcases List.mem_append.mp ho with ho | ho
    · obtain ⟨-, he⟩ := hk1_in ho
      cases he
      exact ⟨_, _, _, rfl⟩
    · rcases List.mem_append.mp ho with ho | ho
      · obtain ⟨-, he⟩ := hk1_in ho
        cases he
        exact ⟨_, _, _, rfl⟩
      · obtain ⟨-, he⟩ := hk1_in ho
        cases he
        exact ⟨_, _, _, rfl⟩
theorem hOK_all (C : hCtx p s m args meth c y) (V : hEnv ρ N0 E H00 s) (hsz : c.maxLocals = hmL y) (i : Instr) : hOK ρ p l e R s m args below meth c Q K N0 E H00 y nS zS i := by
  cases i with
  | iconst n => exact hK_iconst C n
  | bipush n => exact hK_bipush C n
  | sipush n => exact hK_sipush C n
  | lconst n => exact hK_lconst C n
  | iload_n k => exact hK_iload_n C k
  | iload k => exact hK_iload C k
  | lload_n k => exact hK_lload_n C k
  | lload k => exact hK_lload C k
  | aload_n k => exact hK_aload_n C k
  | aload k => exact hK_aload C k
  | istore_n k => exact hK_istore_n C k
  | istore k => exact hK_istore C k
  | lstore_n k => exact hK_lstore_n C k
  | lstore k => exact hK_lstore C k
  | astore_n k => exact hK_astore_n C k
  | astore k => exact hK_astore C k
  | iinc k n => exact hK_iinc C k n
  | iadd => exact hK_iadd C 
  | isub => exact hK_isub C 
  | imul => exact hK_imul C 
  | idiv => exact hK_idiv C 
  | irem => exact hK_irem C 
  | iand => exact hK_iand C 
  | ior => exact hK_ior C 
  | ixor => exact hK_ixor C 
  | ishl => exact hK_ishl C 
  | ishr => exact hK_ishr C 
  | ladd => exact hK_ladd C 
  | lsub => exact hK_lsub C 
  | lmul => exact hK_lmul C 
  | ldiv => exact hK_ldiv C 
  | lrem => exact hK_lrem C 
  | land => exact hK_land C 
  | lor => exact hK_lor C 
  | lxor => exact hK_lxor C 
  | lshl => exact hK_lshl C 
  | lshr => exact hK_lshr C 
  | ineg => exact hK_ineg C 
  | i2l => exact hK_i2l C 
  | l2i => exact hK_l2i C 
  | i2b => exact hK_i2b C 
  | i2c => exact hK_i2c C 
  | lcmp => exact hK_lcmp C 
  | dup => exact hK_dup C 
  | pop => exact hK_pop C 
  | dup2 => exact hK_dup2 C 
  | pop2 => exact hK_pop2 C 
  | ifnull k => exact hK_ifnull C k
  | ifnonnull k => exact hK_ifnonnull C k
  | iaload => exact hK_iaload C 
  | laload => exact hK_laload C 
  | baload => exact hK_baload C 
  | aaload => exact hK_aaload C 
  | iastore => exact hK_iastore C 
  | lastore => exact hK_lastore C 
  | bastore => exact hK_bastore C 
  | aastore => exact hK_aastore C 
  | putfield k => exact hK_putfield C k
  | new k => exact hK_new C k
  | newarray k => exact hK_newarray C k
  | ldc2_w k => exact hK_ldc2 C k
  | ldc k => exact hK_ldc C V k
  | ldc_w k => exact hK_ldcw C V k
  | aconst_null => exact hK_null C
  | ifCond cd off => exact hK_ifC C cd off
  | if_icmp cd off => exact hK_icmp C cd off
  | if_acmp cd off => exact hK_acmp C cd off
  | goto off => exact hK_goto C off
  | tableswitch a b c1 d => exact hK_tsw C a b c1 d
  | getfield k => exact hK_getfield C V k
  | arraylength => exact hK_alen C
  | anewarray k => exact hK_anewarray C V k
  | getstatic k => exact hK_gets C V k
  | invokevirtual k => exact hK_virtual C k
  | invokespecial k => exact hK_special C hsz k
  | invokestatic k => exact hK_static C k
  | return_ => exact hK_rets _ hop_ret
  | ireturn => exact hK_rets _ hop_iret
  | lreturn => exact hK_rets _ hop_lret
  | areturn => exact hK_rets _ hop_aret
  | _ =>
    intro pc len op nx d la st σ pc1 la1 st1 σ1 H locs ls hd ho
    exact absurd ho List.not_mem_nil
theorem hcall_go {cells slots mc ms pc : Nat} {H : Heap} {locs : List Loc} {ls : Array Slot} {st0 rest : List Value} {r : Option AV} {σ1 : hM} (hr : va_Run p l e R s m args below meth c H locs cells slots mc ms (F0 m pc ls st0) rest (fun _ o t => o = .returned (r.map (cv ρ)) ∧ (∀ v ∈ r.toList, okv v) ∧ hRel ρ K N0 H00 t σ1 t.heap) (fun q => N0 ≤ q)) (hlo : ∀ q ∈ locs, N0 ≤ q.base)
    (kk : ∀ (H1 : Heap) (locs1 : List Loc), (∀ v ∈ r.toList, okv v) → hRel ρ K N0 H00 s σ1 H1 → (∀ q ∈ locs1, N0 ≤ q.base) → W p l e R s m args below meth c H1 locs1 (cells + mc) (slots + ms) Q (F0 m (pc + 3) ls ((r.map (cv ρ)).toList ++ rest))) : W p l e R s m args below meth c H locs cells slots Q (F0 m pc ls st0) := by
  intro T hT X
  obtain ⟨v, st₀, t, T', L, h0, X', hL, e1, e2, ⟨hv, hokr, hrel⟩, st⟩ := hr T hT X
  have hv : v = r.map (cv ρ) := by injection hv
  subst hv
  obtain ⟨t2, a1, b1⟩ := kk T'.heap (locs ++ L) hokr (by rw [e1]; exact hrel.moved (by rw [← e2]; exact X'.warmed.alike.symm)) (fun q hq => (List.mem_append.mp hq).elim (hlo q) (hL q)) T' rfl X'
  exact ⟨t2, st t2 a1, b1⟩
/-- the three ends of a method -/
theorem hK_ret (C : hCtx p s m args meth c y) (hR : meth.sig.returnType = hmR y) (hlocks : meth.locks = false) {i : Instr} {pc len nx d k : Nat} {b : Int} {tg : List Int} {la : hLs} {st : List AV} {σ : hM} {r : Option AV} {Qc : Array Value → State → Outcome → State → Prop} {free : Addr → Prop} {H : Heap} {locs : List Loc} {ls : Array Slot} {cells slots : Nat}
    (hd : decode (hmB y) pc = .ok (i, len)) (ho : ((33, k, b, tg), nx) ∈ hops y pc i len) (hs : hstep K E d y (33, k, b, tg) nx la st σ = some (Sum.inr (Sum.inr r)))
    (hq : ∀ t : State, t.heap = H → s.WarmedH t.vm → Qc args s (.returned (r.map (cv ρ))) t) (hf : ∀ q ∈ locs, free q.base) :
    W p l e R s m args below meth c H locs cells slots (MQ below Qc args s cells slots free) (F0 m pc ls (st.map (cv ρ))) := by
  obtain ⟨r', h1, hst, h3⟩ := hs33 hs
  cases Sum.inr.inj (Sum.inr.inj h1)
  subst hst
  cases i with
  | return_ =>
    obtain ⟨hb, he⟩ := hk1_in ho
    cases he
    simp only [Bool.and_eq_true, decide_eq_true_eq] at hb
    obtain ⟨rfl, hb⟩ := hb
    rcases h3 with ⟨rfl, -⟩ | ⟨z, rfl, h | ⟨h, -⟩ | ⟨h, -⟩ | ⟨h, -⟩⟩ | ⟨z, rfl, h⟩ | ⟨q, rfl, h⟩
    · exact W.vret C.1 C.2.1 (hR.trans hb) hq hf hd hlocks
    all_goals cases h
  | lreturn =>
    obtain ⟨hb, he⟩ := hk1_in ho
    cases he
    simp only [Bool.and_eq_true, decide_eq_true_eq] at hb
    obtain ⟨rfl, hb⟩ := hb
    rcases h3 with ⟨rfl, h⟩ | ⟨z, rfl, h | ⟨h, -⟩ | ⟨h, -⟩ | ⟨h, -⟩⟩ | ⟨z, rfl, -⟩ | ⟨q, rfl, h⟩
    · cases h
    · cases h
    · cases h
    · cases h
    · cases h
    · exact W.lret C.1 C.2.1 (hR.trans hb) hq hf hd hlocks
    · cases h
  | areturn =>
    obtain ⟨hb, he⟩ := hk1_in ho
    cases he
    simp only [Bool.and_eq_true, decide_eq_true_eq] at hb
    obtain ⟨rfl, hb⟩ := hb
    rcases h3 with ⟨rfl, h⟩ | ⟨z, rfl, h | ⟨h, -⟩ | ⟨h, -⟩ | ⟨h, -⟩⟩ | ⟨z, rfl, h⟩ | ⟨q, rfl, -⟩
    · cases h
    · cases h
    · cases h
    · cases h
    · cases h
    · cases h
    · have hty : ∃ rt, hmR y = some rt ∧ ((∃ n, rt = .object n) ∨ ∃ t, rt = .array t) := by
        split at hb
        · rename_i n e1; exact ⟨_, e1, Or.inl ⟨_, rfl⟩⟩
        · rename_i n e1; exact ⟨_, e1, Or.inr ⟨_, rfl⟩⟩
        · cases hb
      obtain ⟨rt, e1, e2⟩ := hty
      exact W.aret C.1 C.2.1 (hR.trans e1) e2 (by cases q; exact Or.inl rfl; exact Or.inr ⟨_, rfl⟩) hq hf hd hlocks
  | ireturn =>
    have ho : ((33, k, b, tg), nx) ∈ hk1 (decide (len = 1) && decide (hmR y = some .int)) (33, 1, 0, []) (pc + 1) ++ (hk1 (decide (len = 1) && decide (hmR y = some .boolean)) (33, 2, 0, []) (pc + 1) ++
        (hk1 (decide (len = 1) && decide (hmR y = some .byte)) (33, 5, 0, []) (pc + 1) ++ hk1 (decide (len = 1) && decide (hmR y = some .char)) (33, 6, 0, []) (pc + 1))) := ho
    have key : ∀ ty : FieldType, len = 1 → hmR y = some ty → (∀ z, r = some (vI z) → narrow ty (.int (Int32.ofInt z)) = .int (Int32.ofInt z)) → (∃ z, r = some (vI z)) → W p l e R s m args below meth c H locs cells slots (MQ below Qc args s cells slots free) (F0 m pc ls (r.toList.map (cv ρ))) := by
      intro ty hlen hty hnar hz
      subst hlen
      obtain ⟨z, rfl⟩ := hz
      exact W.zret C.1 C.2.1 (hR.trans hty) (hnar z rfl) hq hf hd hlocks
    rcases List.mem_append.mp ho with ho | ho
    · obtain ⟨hb, he⟩ := hk1_in ho
      cases he
      simp only [Bool.and_eq_true, decide_eq_true_eq] at hb
      rcases h3 with ⟨rfl, h⟩ | ⟨z, rfl, -⟩ | ⟨z, rfl, h⟩ | ⟨q, rfl, h⟩
      · cases h
      · exact key .int hb.1 hb.2 (fun z _ => rfl) ⟨z, rfl⟩
      · cases h
      · cases h
    · rcases List.mem_append.mp ho with ho | ho
      · obtain ⟨hb, he⟩ := hk1_in ho
        cases he
        simp only [Bool.and_eq_true, decide_eq_true_eq] at hb
        rcases h3 with ⟨rfl, h⟩ | ⟨z, rfl, h | ⟨-, h⟩ | ⟨h, -⟩ | ⟨h, -⟩⟩ | ⟨z, rfl, h⟩ | ⟨q, rfl, h⟩
        · cases h
        · cases h
        · exact key .boolean hb.1 hb.2 (fun z' e => by cases e; exact (h01_narrow (ρ := ρ) h).1) ⟨z, rfl⟩
        · cases h
        · cases h
        · cases h
        · cases h
      · rcases List.mem_append.mp ho with ho | ho
        · obtain ⟨hb, he⟩ := hk1_in ho
          cases he
          simp only [Bool.and_eq_true, decide_eq_true_eq] at hb
          rcases h3 with ⟨rfl, h⟩ | ⟨z, rfl, h | ⟨h, -⟩ | ⟨-, h⟩ | ⟨h, -⟩⟩ | ⟨z, rfl, h⟩ | ⟨q, rfl, h⟩
          · cases h
          · cases h
          · cases h
          · exact key .byte hb.1 hb.2 (fun z' e => by cases e; exact nar_byte h.1 h.2) ⟨z, rfl⟩
          · cases h
          · cases h
          · cases h
        · obtain ⟨hb, he⟩ := hk1_in ho
          cases he
          simp only [Bool.and_eq_true, decide_eq_true_eq] at hb
          rcases h3 with ⟨rfl, h⟩ | ⟨z, rfl, h | ⟨h, -⟩ | ⟨h, -⟩ | ⟨-, h⟩⟩ | ⟨z, rfl, h⟩ | ⟨q, rfl, h⟩
          · cases h
          · cases h
          · cases h
          · cases h
          · exact key .char hb.1 hb.2 (fun z' e => by cases e; exact nar_char h.1 h.2) ⟨z, rfl⟩
          · cases h
          · cases h
  | _ => exact absurd ho (hret_no (by intro h; cases h) (by intro h; cases h) (by intro h; cases h) (by intro h; cases h))
end HFIN
