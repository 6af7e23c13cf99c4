/-! The Java machine does what a step of mine says: cells. -/
theorem hMin {c w : Nat} (h : hNew c = some w) : (Cond.instantiable (hName c) w ∈ lw_tbl) ∧ hMade c = true ∧ Cond.initialized (hName c) ∈ lw_tbl := by
  unfold hNew at h
  cases e : hNq.find? (fun e => decide (e.2.1 = c)) with
  | none => rw [e] at h; cases h
  | some x =>
    obtain ⟨p1, c1, w1⟩ := x
    rw [e] at h
    cases h
    have hm := List.mem_of_find?_eq_some e
    have hc : c1 = c := of_decide_eq_true (List.find?_some (p := fun (e : Nat × Nat × Nat) => decide (e.2.1 = c)) e)
    subst hc
    have hmade : hMade c1 = true := hMade_of (List.any_eq_true.mpr ⟨_, hm, decide_eq_true rfl⟩)
    refine ⟨hwalk_mem hNq_ok (List.mem_map.mpr ⟨_, hm, rfl⟩), hmade, ?_⟩
    unfold hMade at hmade
    simp only [Bool.and_eq_true] at hmade
    obtain ⟨q, hq, h1⟩ := List.any_eq_true.mp hmade.1.1.2
    have h2 := of_decide_eq_true h1
    obtain ⟨p2, c2⟩ := q
    cases h2
    exact hwalk_mem hIq_ok (List.mem_map.mpr ⟨_, hq, rfl⟩)
theorem hMade_new {c : Nat} (h : hMade c = true) : ∃ w, Cond.instantiable (hName c) w ∈ lw_tbl := by
  unfold hMade at h
  simp only [Bool.and_eq_true] at h
  obtain ⟨q, hq, h1⟩ := List.any_eq_true.mp h.1.1.1.1
  have h2 := of_decide_eq_true h1
  obtain ⟨p2, c2, w2⟩ := q
  cases h2
  exact ⟨w2, hwalk_mem hNq_ok (List.mem_map.mpr ⟨_, hq, rfl⟩)⟩
theorem hLF_in {o k c k1 ns : Nat} {x : Nat × String} (h : hf3 hLF o k = some (c, k1, ns, x)) : hwF (o, k, c, k1, ns, x) ∈ lw_tbl := by
  have hm := hf3_in _ _ _ _ h
  exact hwalk_mem (p := x.1) hLF_ok (List.mem_map.mpr ⟨_, hm, rfl⟩)
theorem hld_sI {σ : hM} {a k b j : Nat} {z : Int} (h : ¬ (b = a ∧ j = k)) (ty : Nat) : hld (sI σ a k z) ty b j = hld σ ty b j := by
  unfold hld
  simp only [mI_sI, if_neg h]
  rfl
theorem hld_sR {σ : hM} {a k b j : Nat} {z : Option Nat} (h : ¬ (b = a ∧ j = k)) (ty : Nat) : hld (sR σ a k z) ty b j = hld σ ty b j := by
  unfold hld
  simp only [mR_sR, if_neg h]
  rfl
theorem hld_sIs {σ : hM} {a k ty : Nat} {z : Int} : (ty ≠ 4 → ty ≠ 3 → hld (sI σ a k z) ty a k = vI z) ∧ (ty = 3 → hld (sI σ a k z) ty a k = vL z) := by
  unfold hld
  refine ⟨fun h1 h2 => ?_, fun h => ?_⟩
  · rw [if_neg h1, if_neg h2, mI_sI, if_pos ⟨rfl, rfl⟩]
  · subst h
    rw [if_neg (by decide), if_pos rfl, mI_sI, if_pos ⟨rfl, rfl⟩]
theorem hld_sRs {σ : hM} {a k : Nat} {z : Option Nat} : hld (sR σ a k z) 4 a k = vR z := by
  unfold hld
  rw [if_pos rfl, mR_sR, if_pos ⟨rfl, rfl⟩]
section HST3
variable {p : Program} {l : Launch} {e : Env} {R : Room} {s : State} {m : MethodId} {args : Array Value} {below : List Frame} {meth : Method} {c : Code} {Q : State → Prop} {ρ : Nat → Nat} {K N0 : Nat} {E : Nat → AV} {H00 : Heap} {y nS zS : Nat}
theorem hK_getfield (C : hCtx p s m args meth c y) (V : hEnv ρ N0 E H00 s) (k : Nat) : hOK ρ p l e R s m args below meth c Q K N0 E H00 y nS zS (.getfield k) := by
  intro pc len op nx d la st σ pc1 la1 st1 σ1 H locs ls hd ho hs hl hst hr hlo hn hz hc hsl hf kk
  have ho : (op, nx) ∈ ho_getfield y pc k len := ho
  unfold ho_getfield at ho
  cases e1 : hf3 hLF (hmO y) k with
  | none => rw [e1] at ho; cases ho
  | some x =>
    obtain ⟨c1, k1, ns, xx⟩ := x
    rw [e1] at ho
    obtain ⟨hb, he⟩ := hk1_in ho
    cases he
    simp only [Bool.and_eq_true, decide_eq_true_eq] at hb
    obtain ⟨rfl, hk⟩ := hb
    obtain ⟨r, rest, rfl, g1, g2⟩ := hs24 hs
    cases Sum.inl.inj g2
    obtain ⟨a, rfl, ha⟩ := hIsO_of g1
    obtain ⟨cell, b1, b2, b3, b4, b5, b6⟩ := hr.2.2.2.1 a c1 ha
    obtain ⟨cf, kc, fi, f, f1, f2, f3, f4⟩ := b6 k1 hk
    have kk := kk H locs ls hl (fa_cons f4 (fa_tl hst)) hr hlo
    have hw := hLF_in e1
    by_cases hns : ns = 0
    · subst hns
      exact W.getf C.1 C.2.1 C.2.2.2.1 (C.2.2.2.2.1 _ (hBig_in (w := .fieldLink (hName (hmO y)) k (hName c1) (hFd c1 k1).1 (hFd c1 k1).2.1) hw rfl)) f1 f2 b1 b2 f3 rfl rfl hd kk
    · have hx := V.1 _ (hf3_in _ _ _ _ e1) hns
      have e2 : hwF (hmO y, k, c1, k1, ns, xx) = .fieldLinkNest (hName (hmO y)) k (hName c1) (hFd c1 k1).1 (hFd c1 k1).2.1 xx.2 := if_neg hns
      rw [e2] at hx
      exact va_Wgetf C.1 C.2.1 C.2.2.2.1 (va_Nw.use rfl hx) f1 f2 b1 b2 f3 rfl rfl hd kk
theorem fits_ok {k : Nat} {ty : FieldType} (hk : hTyk k ty) {v : AV} (hv : (∃ z, v = vI z ∧ (k = 0 ∨ k = 2 ∧ h01 z = true)) ∨ (∃ z, v = vL z ∧ k = 3) ∨ ∃ q, v = vR q ∧ k = 4) : narrow ty (cv ρ v) = cv ρ v ∧ fits ty (cv ρ v) = true := by
  rcases hv with ⟨z, rfl, hz⟩ | ⟨z, rfl, rfl⟩ | ⟨q, rfl, rfl⟩
  · rcases hz with rfl | ⟨rfl, hz⟩
    · rcases hk with ⟨-, rfl⟩ | ⟨h, -⟩ | ⟨h, -⟩ | ⟨h, -⟩
      · exact ⟨rfl, rfl⟩
      · cases h
      · cases h
      · cases h
    · rcases hk with ⟨h, -⟩ | ⟨-, rfl⟩ | ⟨h, -⟩ | ⟨h, -⟩
      · cases h
      · unfold h01 at hz
        simp only [Bool.or_eq_true, decide_eq_true_eq] at hz
        rcases hz with rfl | rfl
        · exact ⟨show narrow .boolean (.int (Int32.ofInt 0)) = .int (Int32.ofInt 0) by decide, show fits .boolean (.int (Int32.ofInt 0)) = true by decide⟩
        · exact ⟨show narrow .boolean (.int (Int32.ofInt 1)) = .int (Int32.ofInt 1) by decide, show fits .boolean (.int (Int32.ofInt 1)) = true by decide⟩
      · cases h
      · cases h
  · rcases hk with ⟨h, -⟩ | ⟨h, -⟩ | ⟨-, rfl⟩ | ⟨h, -⟩
    · cases h
    · cases h
    · exact ⟨rfl, rfl⟩
    · cases h
  · rcases hk with ⟨h, -⟩ | ⟨h, -⟩ | ⟨h, -⟩ | ⟨-, ⟨n, rfl⟩ | ⟨t, rfl⟩⟩
    · cases h
    · cases h
    · cases h
    · cases q <;> exact ⟨rfl, rfl⟩
    · cases q <;> exact ⟨rfl, rfl⟩
/-- the written cell holds the fields of the written memory -/
theorem hObj_put {ρ : Nat → Nat} {K : Nat} {s : State} {σ σ1 : hM} {H H1 : Heap} {a c1 k1 : Nat} {v : AV} {f : Field} {cell : Cell} {cf fi : Nat} {kc : Class} (hts : ∀ w ∈ hBig, w.before args s = true) (hm : hMade c1 = true) (hk : k1 < hFn c1)
    (ho : hObj ρ s σ H K a c1) (hcell : H[ρ a]? = some cell) (hf : s.fieldFound? (hName c1) (hFd c1 k1).1 (hFd c1 k1).2.1 = some (cf, kc, fi, f)) (hH : H1[ρ a]? = some (cell.setSlot f.slot (cv ρ v))) (hov : okv v)
    (hself : hld σ1 (hFd c1 k1).2.2.1 a k1 = v) (hoth : ∀ k, k ≠ k1 → ∀ ty, hld σ1 ty a k = hld σ ty a k) : hObj ρ s σ1 H1 K a c1 := by
  obtain ⟨cell', b1, b2, b3, b4, b5, b6⟩ := ho
  cases hcell.symm.trans b1
  refine ⟨_, hH, b2, b3, b4, b5, fun k hk2 => ?_⟩
  obtain ⟨cf2, kc2, fi2, f2, g1, g2, g3, g4⟩ := b6 k hk2
  refine ⟨cf2, kc2, fi2, f2, g1, g2, ?_⟩
  obtain ⟨cf0, kc0, fi0, f0, e1, e2, e3, e4⟩ := b6 k1 hk
  cases hf.symm.trans e1
  have hlt : f.slot < cell.slots.size := (Array.getElem?_eq_some_iff.mp e3).1
  rw [hset_slot _ _ _ _ hlt]
  by_cases hkk : k = k1
  · subst hkk
    cases hf.symm.trans g1
    rw [if_pos rfl, hself]
    exact ⟨rfl, hov⟩
  · have hne : f2.slot ≠ f.slot := by
      obtain ⟨ty2, ht2, -⟩ := hTy_of hm hk2
      obtain ⟨ty1, ht1, -⟩ := hTy_of hm hk
      refine u_apart (hV_lays hts hm hk2) (hV_lays hts hm hk) g1 hf ?_
      rw [(State.fieldFound?_type g1 ht2).1, (State.fieldFound?_type hf ht1).1]
      exact hNm_ne hm hk2 hk hkk
    rw [if_neg hne, hoth k hkk]
    exact ⟨g3, g4⟩
theorem hK_putfield (C : hCtx p s m args meth c y) (k : Nat) : hOK ρ p l e R s m args below meth c Q K N0 E H00 y nS zS (.putfield k) := by
  intro pc len op nx d la st σ pc1 la1 st1 σ1 H locs ls hd ho hs hl hst hr hlo hn hz hc hsl hf kk
  have ho : (op, nx) ∈ ho_putfield y pc k len := ho
  unfold ho_putfield at ho
  cases e1 : hf3 hLF (hmO y) k with
  | none => rw [e1] at ho; cases ho
  | some x =>
    obtain ⟨c1, k1, ns, xx⟩ := x
    rw [e1] at ho
    obtain ⟨hb, he⟩ := hk1_in ho
    cases he
    simp only [Bool.and_eq_true, decide_eq_true_eq] at hb
    obtain ⟨⟨rfl, rfl⟩, hpo⟩ := hb
    unfold hPutOk at hpo
    simp only [Bool.and_eq_true, Bool.or_eq_true, decide_eq_true_eq, Bool.not_eq_true'] at hpo
    obtain ⟨⟨hm, hk⟩, hfin⟩ := hpo
    obtain ⟨v, r, rest, rfl, g1, g2, g3⟩ := hs25 hs
    obtain ⟨a, rfl, ha⟩ := hIsO_of g1
    have hO := hr.2.2.2.1 a c1 ha
    obtain ⟨cell, b1, b2, b3, b4, b5, b6⟩ := hO
    obtain ⟨cf, kc, fi, f, f1, f2, f3, f4⟩ := b6 k1 hk
    have hw := hLF_in e1
    have hlink := C.2.2.2.2.1 _ (hBig_in (w := .fieldLink (hName (hmO y)) k (hName c1) (hFd c1 k1).1 (hFd c1 k1).2.1) hw rfl)
    obtain ⟨w, hins⟩ := hMade_new hm
    obtain ⟨cC, kC, hfc, hkC, hkind, -⟩ := Cond.instantiable_spec (C.2.2.2.2.1 _ (hBig_in hins rfl))
    have hcC : cC = cell.cls := Option.some.inj (hfc.symm.trans b4)
    subst hcC
    have haN : K ≤ a := g2
    have hvm := b5 haN
    obtain ⟨ty, hty, htk⟩ := hTy_of hm hk
    have hov : okv v := fa_hd hst
    have hlt : f.slot < cell.slots.size := (Array.getElem?_eq_some_iff.mp f3).1
    have key : ∀ σ2 : hM, σ2.1 = σ.1 → σ2.2.1 = σ.2.1 → mT σ2 = mT σ → (∀ b, b ≠ a → ∀ j, mI σ2 b j = mI σ b j ∧ mR σ2 b j = mR σ b j) → hld σ2 (hFd c1 k1).2.2.1 a k1 = v → (∀ k, k ≠ k1 → ∀ ty, hld σ2 ty a k = hld σ ty a k) →
        (narrow ty (cv ρ v) = cv ρ v ∧ fits ty (cv ρ v) = true) → (pc1, la1, st1, σ1) = (pc + 3, la, rest, σ2) →
        W p l e R s m args below meth c H locs (σ.1 - nS) (σ.2.1 - zS) Q (F0 m pc ls ((v :: vR (some a) :: rest).map (cv ρ))) := by
      intro σ2 h1 h2 h3 h4 h5 h6 h7 h8
      simp only [Prod.mk.injEq] at h8
      obtain ⟨x1, x2, x3, x4⟩ := h8
      have x2 := x2.symm
      have x3 := x3.symm
      have x4 := x4.symm
      subst x1
      subst x2
      subst x3
      subst x4
      have kk2 : ∀ H' : Heap, H'[ρ a]? = some (cell.setSlot f.slot (cv ρ v)) → H'.size = H.size → (∀ q, q ≠ ρ a → H'[q]? = H[q]?) → W p l e R s m args below meth c H' (locs ++ [⟨ρ a, f.slot⟩]) (σ.1 - nS) (σ.2.1 - zS) Q (F0 m (pc + 3) ls (rest.map (cv ρ))) := by
        intro H' q1 q2 q3
        have := kk H' (locs ++ [⟨ρ a, f.slot⟩]) ls hl (fa_tl (fa_tl hst)) (hr.put haN q2 q3 h1 h3 h4 (fun c2 hc2 => ?_) (fun t len2 hc2 => ?_)) (fun q hq => ?_)
        · rw [h1, h2] at this; exact this
        · rw [ha] at hc2
          cases hc2
          exact hObj_put C.2.2.2.2.1 hm hk ⟨cell, b1, b2, b3, b4, b5, b6⟩ b1 f1 q1 hov h5 h6
        · rw [ha] at hc2; cases hc2
        · rcases List.mem_append.mp hq with hq | hq
          · exact hlo q hq
          · rw [List.mem_singleton.mp hq]; exact hr.1.2.1.ge haN
      by_cases hfi : (hFd c1 k1).2.2.2 = true
      · have hin := hfin.resolve_left (by rw [hfi]; decide)
        have hlay := C.2.2.2.2.1 _ (hBig_in (hV_of hm hk) (by unfold hwV; rw [if_pos hfi]; rfl))
        unfold hwV at hlay
        rw [if_pos hfi] at hlay
        have hcf : m.cls = cf := by
          obtain ⟨_, _, c', _, _, _, -, -, hf', -, -, -, hown2, -⟩ := Cond.laysFinal_spec hlay
          have e5 : c' = cf := by have := f1.symm.trans hf'; simp at this; exact this.1.symm
          rw [← e5]
          have h9 := C.2.2.2.1
          rw [hin.2] at h9
          exact Option.some.inj (h9.symm.trans hown2)
        exact W.putFinK C.1 C.2.1 C.2.2.2.1 hlink f1 f2 hcf (C.2.2.2.2.2 hin.1) (u_fits hfc hkC hkind (Or.inr hlay) f1 hty h7.1 h7.2) b1 hvm hlt rfl rfl hd kk2
      · have hlay := C.2.2.2.2.1 _ (hBig_in (hV_of hm hk) (by unfold hwV; rw [if_neg hfi]; rfl))
        unfold hwV at hlay
        rw [if_neg hfi] at hlay
        exact W.putK C.1 C.2.1 (f := f) ⟨C.2.2.2.1, hlink, ⟨_, _, _, f1⟩, f2⟩ (u_store hfc hkC hkind hlay f1 hty h7.1 h7.2) b1 hvm hlt rfl rfl hd kk2
    rcases g3 with ⟨z, rfl, hz, g4⟩ | ⟨z, rfl, hz, g4⟩ | ⟨q, rfl, hz, g4⟩
    · have hz : (hFd c1 k1).2.2.1 = 0 ∨ (hFd c1 k1).2.2.1 = 2 ∧ h01 z = true := hz
      refine key (sI σ a k1 z) rfl rfl rfl (fun b hb j => ⟨by rw [mI_sI, if_neg (fun q => hb q.1)], rfl⟩) ?_ (fun k2 hk2 ty2 => hld_sI (fun q => hk2 q.2) ty2) (fits_ok htk (Or.inl ⟨z, rfl, hz⟩)) (Sum.inl.inj g4)
      rcases hz with hz | ⟨hz, -⟩
      · exact hld_sIs.1 (by rw [hz]; decide) (by rw [hz]; decide)
      · exact hld_sIs.1 (by rw [hz]; decide) (by rw [hz]; decide)
    · have hz : (hFd c1 k1).2.2.1 = 3 := hz
      exact key (sI σ a k1 z) rfl rfl rfl (fun b hb j => ⟨by rw [mI_sI, if_neg (fun q => hb q.1)], rfl⟩) (hld_sIs.2 hz) (fun k2 hk2 ty2 => hld_sI (fun q => hk2 q.2) ty2) (fits_ok htk (Or.inr (Or.inl ⟨z, rfl, hz⟩))) (Sum.inl.inj g4)
    · have hz : (hFd c1 k1).2.2.1 = 4 := hz
      exact key (sR σ a k1 q) rfl rfl rfl (fun b hb j => ⟨rfl, by rw [mR_sR, if_neg (fun q => hb q.1)]⟩) (by rw [hz]; exact hld_sRs) (fun k2 hk2 ty2 => hld_sR (fun q => hk2 q.2) ty2) (fits_ok htk (Or.inr (Or.inr ⟨q, rfl, hz⟩))) (Sum.inl.inj g4)
end HST3
