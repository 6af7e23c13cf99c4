/-! The Java machine does what a step of mine says: arrays, new cells, the end of a method. -/
theorem cv_len {len : Nat} (h : len ≤ 1000000) : len.toInt32 = Int32.ofInt (len : Int) ∧ okv (vI (len : Int)) :=
  ⟨to32 (Int32.toInt_ofNat_of_lt (by omega)), ⟨by omega, by omega⟩⟩
theorem hRow_put {ρ : Nat → Nat} {K : Nat} {s : State} {σ σ1 : hM} {H H1 : Heap} {a t len j : Nat} {v : AV} {cell : Cell} (hr : hRow ρ s σ H K a t len) (hcell : H[ρ a]? = some cell) (hj : j < len) (hH : H1[ρ a]? = some (cell.setSlot j (cv ρ v))) (hov : okv v)
    (hself : hld σ1 (hat t) a j = v) (hoth : ∀ k, k ≠ j → ∀ ty, hld σ1 ty a k = hld σ ty a k) : hRow ρ s σ1 H1 K a t len := by
  obtain ⟨cell', b1, b2, b3, b4, b5, b6, b7, b8⟩ := hr
  cases hcell.symm.trans b1
  refine ⟨_, hH, b2, b3, b4, b5, by rw [hset_size]; exact b6, b7, fun k hk => ?_⟩
  rw [hset_slot _ _ _ _ (by have := b6.1; omega)]
  by_cases hkj : k = j
  · subst hkj; rw [if_pos rfl, hself]; exact ⟨rfl, hov⟩
  · rw [if_neg hkj, hoth k hkj]; exact b8 k hk
theorem hst_go {ρ : Nat → Nat} {K N0 : Nat} {s : State} {σ σ2 : hM} {H H' H00 : Heap} {a t len j : Nat} {v : AV} {cell : Cell} (hr : hRel ρ K N0 H00 s σ H) (haN : K ≤ a) (ha : mT σ a = some (Sum.inr (t, len))) (hj : j < len) (h1 : σ2.1 = σ.1) (h3 : mT σ2 = mT σ)
    (h4 : ∀ b, b ≠ a → ∀ k, mI σ2 b k = mI σ b k ∧ mR σ2 b k = mR σ b k) (h5 : hld σ2 (hat t) a j = v) (h6 : ∀ k, k ≠ j → ∀ ty, hld σ2 ty a k = hld σ ty a k) (hov : okv v) (hcell : H[ρ a]? = some cell)
    (q1 : H'[ρ a]? = some (cell.setSlot j (cv ρ v))) (q2 : H'.size = H.size) (q3 : ∀ q, q ≠ ρ a → H'[q]? = H[q]?) : hRel ρ K N0 H00 s σ2 H' :=
  hr.put haN q2 q3 h1 h3 h4 (fun c hc => by rw [ha] at hc; cases hc) (fun t2 len2 hc => by rw [ha] at hc; cases hc; exact hRow_put (hr.2.2.2.2 a t len ha) hcell hj q1 hov h5 h6)
theorem asg_refl {vm : Vm} {c : ClassId} : vm.assignable c c = true := by
  show vm.assignableAux (255 + 1) c c = true
  rw [Vm.assignableAux]
  simp
def hBp (t : Nat) : Nat := ((hBq.find? (fun e => decide (e.2 = t))).map (fun e => e.1)).getD 0
theorem hArr_ref (c : Nat) : hArr (10 + c) = .object (hName c) := by
  rw [show 10 + c = (c + 6) + 4 by omega]
  show FieldType.object (hName (c + 6 - 6)) = _
  rw [Nat.add_sub_cancel]
theorem h01_narrow {ρ : Nat → Nat} {z : Int} (h : h01 z = true) : narrow .boolean (.int (Int32.ofInt z)) = cv ρ (vI z) ∧ okv (vI z) := by
  unfold h01 at h
  simp only [Bool.or_eq_true, decide_eq_true_eq] at h
  rcases h with rfl | rfl
  · exact ⟨show narrow .boolean (.int (Int32.ofInt 0)) = .int (Int32.ofInt 0) by decide, ⟨by omega, by omega⟩⟩
  · exact ⟨show narrow .boolean (.int (Int32.ofInt 1)) = .int (Int32.ofInt 1) by decide, ⟨by omega, by omega⟩⟩
theorem sb8_narrow {ρ : Nat → Nat} (z : Int) : narrow .byte (.int (Int32.ofInt z)) = cv ρ (vI (sb8 z)) ∧ okv (vI (sb8 z)) := by
  refine ⟨?_, ok_t32 _⟩
  show Value.int ((Int32.ofInt z).toInt8.toInt32) = Value.int (Int32.ofInt (Int32.ofInt z).toInt8.toInt32.toInt)
  rw [Int32.ofInt_toInt]
theorem hRel.push {ρ : Nat → Nat} {K N0 : Nat} {s : State} {σ : hM} {H H00 : Heap} {w : Nat} {sh : Nat ⊕ (Nat × Nat)} {cell : Cell} (h : hRel ρ K N0 H00 s σ H) (hO : ∀ c, sh = .inl c → hObj ρ s (sN σ sh w) (H.push cell) K σ.1 c)
    (hR : ∀ t len, sh = .inr (t, len) → hRow ρ s (sN σ sh w) (H.push cell) K σ.1 t len) : hRel ρ K N0 H00 s (sN σ sh w) (H.push cell) := by
  obtain ⟨h1, h2, h3, h4, h5⟩ := h
  have hlt : ∀ q, q < H.size → (H.push cell)[q]? = H[q]? := fun q hq => by
    rw [Array.getElem?_push, if_neg (by omega)]
  have hmT : ∀ a, a ≠ σ.1 → mT (sN σ sh w) a = mT σ a := fun a ha => if_neg ha
  have hm : ∀ a, a ≠ σ.1 → ∀ j, mI (sN σ sh w) a j = mI σ a j ∧ mR (sN σ sh w) a j = mR σ a j := fun a ha j => ⟨if_neg ha, if_neg ha⟩
  refine ⟨⟨by rw [Array.size_push]; show H.size + 1 + K = N0 + (σ.1 + 1); have := h1.1; omega, h1.2.1, (hmT 1 (by have := h1.2.2.2; omega)).trans h1.2.2.1, h1.2.2.2⟩, Nat.le_succ_of_le h2, fun a ha => (hlt a (by have := h1.1; omega)).trans (h3 a ha), fun a c hc => ?_, fun a t len hc => ?_⟩
  · by_cases ha : a = σ.1
    · subst ha
      refine hO c ?_
      have : mT (sN σ sh w) σ.1 = some sh := if_pos rfl
      rw [this] at hc
      exact Option.some.inj hc
    · rw [hmT a ha] at hc
      have h6 := h4 a c hc
      obtain ⟨cell', e1, -⟩ := h4 a c hc
      exact h6.kept (hlt _ (Array.getElem?_eq_some_iff.mp e1).1) (hm a ha)
  · by_cases ha : a = σ.1
    · subst ha
      refine hR t len ?_
      have : mT (sN σ sh w) σ.1 = some sh := if_pos rfl
      rw [this] at hc
      exact Option.some.inj hc
    · rw [hmT a ha] at hc
      have h6 := h5 a t len hc
      obtain ⟨cell', e1, -⟩ := h5 a t len hc
      exact h6.kept (hlt _ (Array.getElem?_eq_some_iff.mp e1).1) (hm a ha)
theorem hld_new (σ : hM) (sh : Nat ⊕ (Nat × Nat)) (w k j : Nat) : hld (sN σ sh w) k σ.1 j = if k = 4 then vR none else if k = 3 then vL 0 else vI 0 := by
  have h1 : mI (sN σ sh w) σ.1 j = 0 := if_pos rfl
  have h2 : mR (sN σ sh w) σ.1 j = none := if_pos rfl
  unfold hld
  rw [h1, h2]
theorem okz (k : Nat) : okv (if k = 4 then vR none else if k = 3 then vL 0 else vI 0) := by
  split
  · trivial
  · split
    · exact ⟨by omega, by omega⟩
    · exact ⟨by omega, by omega⟩
theorem defv {ρ : Nat → Nat} {k : Nat} {ty : FieldType} (h : hTyk k ty) : defaultValue ty = cv ρ (if k = 4 then vR none else if k = 3 then vL 0 else vI 0) := by
  rcases h with ⟨rfl, rfl⟩ | ⟨rfl, rfl⟩ | ⟨rfl, rfl⟩ | ⟨rfl, ⟨n, rfl⟩ | ⟨t, rfl⟩⟩ <;> rfl
section HST4
variable {p : Program} {l : Launch} {e : Env} {R : Room} {s : State} {m : MethodId} {args : Array Value} {below : List Frame} {meth : Method} {c : Code} {Q : State → Prop} {ρ : Nat → Nat} {K N0 : Nat} {E : Nat → AV} {H00 : Heap} {y nS zS : Nat}
theorem hK_iaload (C : hCtx p s m args meth c y) : hOK ρ p l e R s m args below meth c Q K N0 E H00 y nS zS .iaload := by
  intro pc len op nx d la st σ pc1 la1 st1 σ1 H locs ls hd ho hs hl hst hr hlo hn hz hc hsl hf kk
  obtain ⟨hb, he⟩ := hk1_in ho
  cases he
  have hb := of_decide_eq_true hb
  subst hb
  obtain ⟨j, r, rest, rfl, g1, g2⟩ := hs26 hs
  cases Sum.inl.inj g2
  obtain ⟨a, t, n, rfl, ha, hak, h0, h1⟩ := hIsA_of g1
  have ht : t = 0 := of_decide_eq_true (show decide (t = 0) = true from hak)
  subst ht
  obtain ⟨cell, b1, b2, b3, b4, b5, b6, b7, b8⟩ := hr.2.2.2.2 a 0 n ha
  have oj := fa_hd hst
  obtain ⟨v1, v2⟩ := b8 j.toNat (by omega)
  have kk := kk H locs ls hl (fa_cons v2 (fa_tl (fa_tl hst))) hr hlo
  exact W.iald C.1 C.2.1 b1 b3 b2 (ix_in oj h0 (by have := b6.1; omega)) (by rw [ix_at oj]; exact v1) rfl rfl hd kk
theorem hK_laload (C : hCtx p s m args meth c y) : hOK ρ p l e R s m args below meth c Q K N0 E H00 y nS zS .laload := by
  intro pc len op nx d la st σ pc1 la1 st1 σ1 H locs ls hd ho hs hl hst hr hlo hn hz hc hsl hf kk
  obtain ⟨hb, he⟩ := hk1_in ho
  cases he
  have hb := of_decide_eq_true hb
  subst hb
  obtain ⟨j, r, rest, rfl, g1, g2⟩ := hs26 hs
  cases Sum.inl.inj g2
  obtain ⟨a, t, n, rfl, ha, hak, h0, h1⟩ := hIsA_of g1
  have ht : t = 3 := of_decide_eq_true (show decide (t = 3) = true from hak)
  subst ht
  obtain ⟨cell, b1, b2, b3, b4, b5, b6, b7, b8⟩ := hr.2.2.2.2 a 3 n ha
  have oj := fa_hd hst
  obtain ⟨v1, v2⟩ := b8 j.toNat (by omega)
  have kk := kk H locs ls hl (fa_cons v2 (fa_tl (fa_tl hst))) hr hlo
  exact W.lald C.1 C.2.1 b1 b3 b2 (ix_in oj h0 (by have := b6.1; omega)) (by rw [ix_at oj]; exact v1) rfl rfl hd kk
theorem hK_baload (C : hCtx p s m args meth c y) : hOK ρ p l e R s m args below meth c Q K N0 E H00 y nS zS .baload := by
  intro pc len op nx d la st σ pc1 la1 st1 σ1 H locs ls hd ho hs hl hst hr hlo hn hz hc hsl hf kk
  rcases List.mem_append.mp ho with ho | ho
  · obtain ⟨hb, he⟩ := hk1_in ho
    cases he
    have hb := of_decide_eq_true hb
    subst hb
    obtain ⟨j, r, rest, rfl, g1, g2⟩ := hs26 hs
    cases Sum.inl.inj g2
    obtain ⟨a, t, n, rfl, ha, hak, h0, h1⟩ := hIsA_of g1
    have ht : t = 1 := of_decide_eq_true (show decide (t = 1) = true from hak)
    subst ht
    obtain ⟨cell, b1, b2, b3, b4, b5, b6, b7, b8⟩ := hr.2.2.2.2 a 1 n ha
    have oj := fa_hd hst
    obtain ⟨v1, v2⟩ := b8 j.toNat (by omega)
    have kk := kk H locs ls hl (fa_cons v2 (fa_tl (fa_tl hst))) hr hlo
    exact W.bald C.1 C.2.1 b1 b3 b2 (ix_in oj h0 (by have := b6.1; omega)) (by rw [ix_at oj]; exact v1) rfl rfl hd kk
  · obtain ⟨hb, he⟩ := hk1_in ho
    cases he
    have hb := of_decide_eq_true hb
    subst hb
    obtain ⟨j, r, rest, rfl, g1, g2⟩ := hs26 hs
    cases Sum.inl.inj g2
    obtain ⟨a, t, n, rfl, ha, hak, h0, h1⟩ := hIsA_of g1
    have ht : t = 2 := of_decide_eq_true (show decide (t = 2) = true from hak)
    subst ht
    obtain ⟨cell, b1, b2, b3, b4, b5, b6, b7, b8⟩ := hr.2.2.2.2 a 2 n ha
    have oj := fa_hd hst
    obtain ⟨v1, v2⟩ := b8 j.toNat (by omega)
    have kk := kk H locs ls hl (fa_cons v2 (fa_tl (fa_tl hst))) hr hlo
    exact W.zald C.1 C.2.1 b1 b3 b2 (ix_in oj h0 (by have := b6.1; omega)) (by rw [ix_at oj]; exact v1) rfl rfl hd kk
theorem hK_aaload (C : hCtx p s m args meth c y) : hOK ρ p l e R s m args below meth c Q K N0 E H00 y nS zS .aaload := by
  intro pc len op nx d la st σ pc1 la1 st1 σ1 H locs ls hd ho hs hl hst hr hlo hn hz hc hsl hf kk
  obtain ⟨hb, he⟩ := hk1_in ho
  cases he
  have hb := of_decide_eq_true hb
  subst hb
  obtain ⟨j, r, rest, rfl, g1, g2⟩ := hs26 hs
  cases Sum.inl.inj g2
  obtain ⟨a, t, n, rfl, ha, hak, h0, h1⟩ := hIsA_of g1
  have ht : 10 ≤ t := of_decide_eq_true (show decide (10 ≤ t) = true from hak)
  obtain ⟨cell, b1, b2, b3, b4, b5, b6, b7, b8⟩ := hr.2.2.2.2 a t n ha
  have oj := fa_hd hst
  obtain ⟨v1, v2⟩ := b8 j.toNat (by omega)
  rw [show hat t = 4 from if_pos ht] at v1 v2
  have kk := kk H locs ls hl (fa_cons v2 (fa_tl (fa_tl hst))) hr hlo
  obtain ⟨q, rfl⟩ : ∃ q, t = 10 + q := ⟨t - 10, by omega⟩
  rw [hArr_ref] at b3
  exact W.aald C.1 C.2.1 b1 b3 rfl b2 (ix_in oj h0 (by have := b6.1; omega)) (by rw [ix_at oj]; exact v1) rfl rfl hd kk
theorem hK_alen (C : hCtx p s m args meth c y) : hOK ρ p l e R s m args below meth c Q K N0 E H00 y nS zS .arraylength := by
  intro pc len op nx d la st σ pc1 la1 st1 σ1 H locs ls hd ho hs hl hst hr hlo hn hz hc hsl hf kk
  obtain ⟨hb, he⟩ := hk1_in ho
  cases he
  have hb := of_decide_eq_true hb
  subst hb
  obtain ⟨r, rest, rfl, g1, g2⟩ := hs28 hs
  cases Sum.inl.inj g2
  obtain ⟨a, t, n, rfl, ha, hn2⟩ := hHas_of g1
  rw [hn2] at kk
  obtain ⟨cell, b1, b2, b3, b4, b5, b6, b7, b8⟩ := hr.2.2.2.2 a t n ha
  obtain ⟨l1, l2⟩ := cv_len b7
  have kk := kk H locs ls hl (fa_cons l2 (fa_tl hst)) hr hlo
  exact W.alen C.1 C.2.1 b1 b3 b6.2 rfl rfl hd kk
theorem hK_iastore (C : hCtx p s m args meth c y) : hOK ρ p l e R s m args below meth c Q K N0 E H00 y nS zS .iastore := by
  intro pc len op nx d la st σ pc1 la1 st1 σ1 H locs ls hd ho hs hl hst hr hlo hn hz hc hsl hf kk
  obtain ⟨hb, he⟩ := hk1_in ho
  cases he
  have hb := of_decide_eq_true hb
  subst hb
  obtain ⟨v, j, r, rest, rfl, g1, g2, g3⟩ := hs27 hs
  obtain ⟨a, t, n, rfl, ha, hak, h0, h1⟩ := hIsA_of g1
  have ht : t = 0 := of_decide_eq_true (show decide (t = 0) = true from hak)
  subst ht
  have haN : K ≤ a := g2
  obtain ⟨cell, b1, b2, b3, b4, b5, b6, b7, b8⟩ := hr.2.2.2.2 a 0 n ha
  have oj := fa_hd (fa_tl hst)
  rcases g3 with ⟨z, rfl, hz2, g4⟩ | ⟨z, rfl, hz2, g4⟩ | ⟨q, rfl, hz2, g4⟩
  · cases Sum.inl.inj g4
    refine W.iast C.1 C.2.1 b1 b3 b2 (ix_in oj h0 (by have := b6.1; omega)) rfl rfl hd fun H1 q1 q2 q3 => ?_
    rw [ix_at oj] at q1
    exact kk H1 _ ls hl (fa_tl (fa_tl (fa_tl hst))) (hst_go (σ2 := sI σ a j.toNat z) (v := vI z) hr haN ha (by omega) rfl rfl (fun b hb k => ⟨by rw [mI_sI, if_neg (fun q => hb q.1)], rfl⟩) (hld_sIs.1 (by decide) (by decide)) (fun k2 hk2 ty2 => hld_sI (fun q => hk2 q.2) ty2) (fa_hd hst) b1 q1 q2 q3) (fun q hq => (List.mem_append.mp hq).elim (hlo q) (fun h => by rw [List.mem_singleton.mp h]; exact hr.1.2.1.ge haN))
  · cases hz2
  · cases hz2
theorem hK_lastore (C : hCtx p s m args meth c y) : hOK ρ p l e R s m args below meth c Q K N0 E H00 y nS zS .lastore := by
  intro pc len op nx d la st σ pc1 la1 st1 σ1 H locs ls hd ho hs hl hst hr hlo hn hz hc hsl hf kk
  obtain ⟨hb, he⟩ := hk1_in ho
  cases he
  have hb := of_decide_eq_true hb
  subst hb
  obtain ⟨v, j, r, rest, rfl, g1, g2, g3⟩ := hs27 hs
  obtain ⟨a, t, n, rfl, ha, hak, h0, h1⟩ := hIsA_of g1
  have ht : t = 3 := of_decide_eq_true (show decide (t = 3) = true from hak)
  subst ht
  have haN : K ≤ a := g2
  obtain ⟨cell, b1, b2, b3, b4, b5, b6, b7, b8⟩ := hr.2.2.2.2 a 3 n ha
  have oj := fa_hd (fa_tl hst)
  rcases g3 with ⟨z, rfl, hz2, g4⟩ | ⟨z, rfl, hz2, g4⟩ | ⟨q, rfl, hz2, g4⟩
  · rcases hz2 with h | h | ⟨h, -⟩ <;> cases h
  · cases Sum.inl.inj g4
    refine W.last C.1 C.2.1 b1 b3 b2 (ix_in oj h0 (by have := b6.1; omega)) rfl rfl hd fun H1 q1 q2 q3 => ?_
    rw [ix_at oj] at q1
    exact kk H1 _ ls hl (fa_tl (fa_tl (fa_tl hst))) (hst_go (σ2 := sI σ a j.toNat z) (v := vL z) hr haN ha (by omega) rfl rfl (fun b hb k => ⟨by rw [mI_sI, if_neg (fun q => hb q.1)], rfl⟩) (hld_sIs.2 rfl) (fun k2 hk2 ty2 => hld_sI (fun q => hk2 q.2) ty2) (fa_hd hst) b1 q1 q2 q3) (fun q hq => (List.mem_append.mp hq).elim (hlo q) (fun h => by rw [List.mem_singleton.mp h]; exact hr.1.2.1.ge haN))
  · cases hz2
theorem hK_bastore (C : hCtx p s m args meth c y) : hOK ρ p l e R s m args below meth c Q K N0 E H00 y nS zS .bastore := by
  intro pc len op nx d la st σ pc1 la1 st1 σ1 H locs ls hd ho hs hl hst hr hlo hn hz hc hsl hf kk
  rcases List.mem_append.mp ho with ho | ho
  · obtain ⟨hb, he⟩ := hk1_in ho
    cases he
    have hb := of_decide_eq_true hb
    subst hb
    obtain ⟨v, j, r, rest, rfl, g1, g2, g3⟩ := hs27 hs
    obtain ⟨a, t, n, rfl, ha, hak, h0, h1⟩ := hIsA_of g1
    have ht : t = 1 := of_decide_eq_true (show decide (t = 1) = true from hak)
    subst ht
    have haN : K ≤ a := g2
    obtain ⟨cell, b1, b2, b3, b4, b5, b6, b7, b8⟩ := hr.2.2.2.2 a 1 n ha
    have oj := fa_hd (fa_tl hst)
    rcases g3 with ⟨z, rfl, hz2, g4⟩ | ⟨z, rfl, hz2, g4⟩ | ⟨q, rfl, hz2, g4⟩
    · cases Sum.inl.inj g4
      refine W.bast C.1 C.2.1 b1 b3 b2 (ix_in oj h0 (by have := b6.1; omega)) rfl rfl hd fun H1 q1 q2 q3 => ?_
      rw [ix_at oj, (sb8_narrow (ρ := ρ) z).1] at q1
      exact kk H1 _ ls hl (fa_tl (fa_tl (fa_tl hst))) (hst_go (σ2 := sI σ a j.toNat (sb8 z)) (v := vI (sb8 z)) hr haN ha (by omega) rfl rfl (fun b hb k => ⟨by rw [mI_sI, if_neg (fun q => hb q.1)], rfl⟩) (hld_sIs.1 (by decide) (by decide)) (fun k2 hk2 ty2 => hld_sI (fun q => hk2 q.2) ty2) (sb8_narrow (ρ := ρ) z).2 b1 q1 q2 q3) (fun q hq => (List.mem_append.mp hq).elim (hlo q) (fun h => by rw [List.mem_singleton.mp h]; exact hr.1.2.1.ge haN))
    · cases hz2
    · cases hz2
  · obtain ⟨hb, he⟩ := hk1_in ho
    cases he
    have hb := of_decide_eq_true hb
    subst hb
    obtain ⟨v, j, r, rest, rfl, g1, g2, g3⟩ := hs27 hs
    obtain ⟨a, t, n, rfl, ha, hak, h0, h1⟩ := hIsA_of g1
    have ht : t = 2 := of_decide_eq_true (show decide (t = 2) = true from hak)
    subst ht
    have haN : K ≤ a := g2
    obtain ⟨cell, b1, b2, b3, b4, b5, b6, b7, b8⟩ := hr.2.2.2.2 a 2 n ha
    have oj := fa_hd (fa_tl hst)
    rcases g3 with ⟨z, rfl, hz2, g4⟩ | ⟨z, rfl, hz2, g4⟩ | ⟨q, rfl, hz2, g4⟩
    · cases Sum.inl.inj g4
      have hz3 : h01 z = true := hz2.elim (fun h => by cases h) (fun h => h.elim (fun h => by cases h) (fun h => h.2))
      refine W.zast C.1 C.2.1 b1 b3 b2 (ix_in oj h0 (by have := b6.1; omega)) rfl rfl hd fun H1 q1 q2 q3 => ?_
      rw [ix_at oj, (h01_narrow (ρ := ρ) hz3).1] at q1
      exact kk H1 _ ls hl (fa_tl (fa_tl (fa_tl hst))) (hst_go (σ2 := sI σ a j.toNat z) (v := vI z) hr haN ha (by omega) rfl rfl (fun b hb k => ⟨by rw [mI_sI, if_neg (fun q => hb q.1)], rfl⟩) (hld_sIs.1 (by decide) (by decide)) (fun k2 hk2 ty2 => hld_sI (fun q => hk2 q.2) ty2) (fa_hd hst) b1 q1 q2 q3) (fun q hq => (List.mem_append.mp hq).elim (hlo q) (fun h => by rw [List.mem_singleton.mp h]; exact hr.1.2.1.ge haN))
    · cases hz2
    · cases hz2
theorem hK_aastore (C : hCtx p s m args meth c y) : hOK ρ p l e R s m args below meth c Q K N0 E H00 y nS zS .aastore := by
  intro pc len op nx d la st σ pc1 la1 st1 σ1 H locs ls hd ho hs hl hst hr hlo hn hz hc hsl hf kk
  obtain ⟨hb, he⟩ := hk1_in ho
  cases he
  have hb := of_decide_eq_true hb
  subst hb
  obtain ⟨v, j, r, rest, rfl, g1, g2, g3⟩ := hs27 hs
  obtain ⟨a, t, n, rfl, ha, hak, h0, h1⟩ := hIsA_of g1
  have ht : 10 ≤ t := of_decide_eq_true (show decide (10 ≤ t) = true from hak)
  have haN : K ≤ a := g2
  have hrow := hr.2.2.2.2 a t n ha
  obtain ⟨cell, b1, b2, b3, b4, b5, b6, b7, b8⟩ := hrow
  obtain ⟨kA, comp, k1, k2, k3⟩ := b5 ht
  have hat4 : hat t = 4 := if_pos ht
  have oj := fa_hd (fa_tl hst)
  rcases g3 with ⟨z, rfl, hz2, g4⟩ | ⟨z, rfl, hz2, g4⟩ | ⟨q, rfl, hz2, hfit, g4⟩
  · rcases hz2 with h | h | ⟨h, -⟩ <;> cases h
  · cases hz2
  · cases Sum.inl.inj g4
    have fin : ∀ (H1 : Heap), H1[ρ a]? = some (cell.setSlot (Int32.ofInt j).toNatClampNeg (cv ρ (vR q))) → H1.size = H.size → (∀ x, x ≠ ρ a → H1[x]? = H[x]?) → W p l e R s m args below meth c H1 (locs ++ [⟨ρ a, (Int32.ofInt j).toNatClampNeg⟩]) (σ.1 - nS) (σ.2.1 - zS) Q (F0 m (pc + 1) ls (st1.map (cv ρ))) := by
      intro H1 q1 q2 q3
      rw [ix_at oj] at q1
      exact kk H1 _ ls hl (fa_tl (fa_tl (fa_tl hst))) (hst_go (σ2 := sR σ a j.toNat q) (v := vR q) hr haN ha (by omega) rfl rfl (fun b hb k => ⟨rfl, by rw [mR_sR, if_neg (fun q => hb q.1)]⟩) (by rw [hat4]; exact hld_sRs) (fun k2 hk2 ty2 => hld_sR (fun q => hk2 q.2) ty2) trivial b1 q1 q2 q3) (fun q hq => (List.mem_append.mp hq).elim (hlo q) (fun h => by rw [List.mem_singleton.mp h]; exact hr.1.2.1.ge haN))
    rcases hFit_of ha hfit with rfl | ⟨b, rfl, hb⟩
    · obtain ⟨q, rfl⟩ : ∃ q, t = 10 + q := ⟨t - 10, by omega⟩
      rw [hArr_ref] at b3
      exact va_WaastN C.1 C.2.1 b1 b3 b2 (ix_in oj h0 (by have := b6.1; omega)) rfl rfl hd fin
    · obtain ⟨cellV, e1, e2, e3, e4, e5, e6⟩ := hr.2.2.2.1 b _ hb
      have hcomp : comp = cellV.cls := Option.some.inj (k3.symm.trans e4)
      obtain ⟨kC, hkC, -⟩ := Vm.findClass_spec e4
      have hin := ix_in (n := cell.slots.size) oj h0 (by have := b6.1; omega)
      refine W.aast C.1 C.2.1 b1 (fun q h => b3.1 q h) b2 k1 k2 rfl (by rw [hcomp]; exact hkC) ⟨fun h => hin (Or.inl h), Nat.not_le.mp (fun h => hin (Or.inr h))⟩ e1 (fun q h => by rw [h] at e3; cases e3) hkC (by rw [hcomp]; exact asg_refl) rfl rfl hd fin
theorem hK_new (C : hCtx p s m args meth c y) (k : Nat) : hOK ρ p l e R s m args below meth c Q K N0 E H00 y nS zS (.new k) := by
  intro pc len op nx d la st σ pc1 la1 st1 σ1 H locs ls hd ho hs hl hst hr hlo hn hz hc hsl hf kk
  have ho : (op, nx) ∈ ho_new y pc k len := ho
  unfold ho_new at ho
  cases e1 : hf3 hLN (hmO y) k with
  | none => rw [e1] at ho; cases ho
  | some x =>
    obtain ⟨c1, pp⟩ := x
    rw [e1] at ho
    dsimp only at ho
    cases e2 : hNew c1 with
    | none => rw [e2] at ho; cases ho
    | some w =>
      rw [e2] at ho
      obtain ⟨hb, he⟩ := hk1_in ho
      cases he
      have hb := of_decide_eq_true hb
      subst hb
      cases (show some (Sum.inl (pc + 3, la, vR (some σ.1) :: st, sN σ (Sum.inl c1) w)) = some (Sum.inl (pc1, la1, st1, σ1)) from hs)
      obtain ⟨hw1, hmade, hw3⟩ := hMin e2
      have hcl := hwalk_mem hLN_ok (List.mem_map.mpr ⟨_, hf3_in _ _ _ _ e1, rfl⟩)
      have hts := C.2.2.2.2.1
      have hc2 : σ.1 + 1 ≤ nS + R.cells := hc
      have hsl2 : σ.2.1 + w ≤ zS + R.slots := hsl
      refine W.newc C.1 C.2.1 C.2.2.2.1 (hts _ (hBig_in hcl rfl)) (hts _ (hBig_in hw1 rfl)) (hts _ (hBig_in hw3 rfl)) rfl hd (by omega) (by omega) fun cC kC hfc hkC hkind hsize => ?_
      have hr1 : hRel ρ K N0 H00 s (sN σ (Sum.inl c1) w) (H.push { cls := cC, slots := kC.instanceTypes.map defaultValue, vm := .none }) := by
        refine hr.push (fun c2 hc2 => ?_) (fun t len h => by cases h)
        cases hc2
        refine ⟨{ cls := cC, slots := kC.instanceTypes.map defaultValue, vm := .none }, by rw [hr.top, Array.getElem?_push_size], (fun h => by cases h), rfl, hfc, fun _ => rfl, fun k1 hk1 => ?_⟩
        obtain ⟨cf, kf, fi, fd, hi, hst2, hcast, hty⟩ := laid_facts hfc hkC (hV_lays hts hmade hk1)
        obtain ⟨ty, hpt, htk⟩ := hTy_of hmade hk1
        have hft : fd.type = ty := (State.fieldFound?_type hi hpt).2
        refine ⟨cf, kf, fi, fd, hi, hst2, ?_, ?_⟩
        · rw [hld_new, ← defv htk, ← hft]
          show (kC.instanceTypes.map defaultValue)[fd.slot]? = _
          rw [Array.getElem?_map, hty]
          rfl
        · rw [hld_new]
          exact okz _
      have kk := kk _ locs ls hl (fa_cons trivial hst) hr1 hlo
      rw [show (sN σ (Sum.inl c1) w).1 - nS = σ.1 - nS + 1 by show σ.1 + 1 - nS = _; omega, show (sN σ (Sum.inl c1) w).2.1 - zS = σ.2.1 - zS + w by show σ.2.1 + w - zS = _; omega] at kk
      rw [List.map_cons, show cv ρ (vR (some σ.1)) = .ref H.size by show Value.ref (ρ σ.1) = _; rw [hr.top]] at kk
      exact kk
theorem newa_size {H H00 : Heap} {σ : hM} {z t : Nat} {cA : ClassId} {dv : Value} {comp : ClassId} {kA : Class} (hr : hRel ρ K N0 H00 s σ H) (hz : z ≤ 1000000) (hkA : s.vm.classes[cA]? = some kA) (hkind : kA.kind = .array comp (hArr t)) (hcomp : 10 ≤ t → s.vm.findClass (hName (t - 10)) = some comp ∧ hArr t = .object (hName (t - 10)))
    (hdv : dv = cv ρ (if hat t = 4 then vR none else if hat t = 3 then vL 0 else vI 0)) : hRel ρ K N0 H00 s (sN σ (Sum.inr (t, z)) z) (H.push { cls := cA, slots := Array.replicate z dv, vm := .none }) := by
  refine hr.push (fun c2 h => by cases h) (fun t2 len2 h => ?_)
  cases h
  refine ⟨{ cls := cA, slots := Array.replicate z dv, vm := .none }, by rw [hr.top, Array.getElem?_push_size], (fun h => by cases h), ⟨(fun q h => by cases h), kA, hkA, comp, hkind⟩, fun _ => rfl, fun h => ⟨kA, comp, hkA, by rw [hkind, (hcomp h).2], (hcomp h).1⟩, ⟨by rw [Array.size_replicate]; exact Nat.le_refl _, by rw [Array.size_replicate]; exact (cv_len hz).1⟩, hz, fun j hj => ?_⟩
  rw [hld_new]
  refine ⟨?_, okz _⟩
  show (Array.replicate z dv)[j]? = _
  rw [Array.getElem?_replicate, if_pos hj, hdv]
theorem hK_newarray (C : hCtx p s m args meth c y) (k : ArrayType) : hOK ρ p l e R s m args below meth c Q K N0 E H00 y nS zS (.newarray k) := by
  intro pc len op nx d la st σ pc1 la1 st1 σ1 H locs ls hd ho hs hl hst hr hlo hn hz hc hsl hf kk
  obtain ⟨hb, he⟩ := hk1_in ho
  simp only [Bool.and_eq_true, decide_eq_true_eq] at hb
  obtain ⟨rfl, hb2⟩ := hb
  have fin : ∀ (ty : Nat) (FT : FieldType), newarray.typeOf k = FT → hArr ty = FT → ty < 4 → Cond.arrayClass FT ∈ lw_tbl → componentBytes FT ≤ 8 → defaultValue FT = cv ρ (if hat ty = 4 then vR none else if hat ty = 3 then vL 0 else vI 0) → (op, nx) = ((30, ty, 0, []), pc + 2) → W p l e R s m args below meth c H locs (σ.1 - nS) (σ.2.1 - zS) Q (F0 m pc ls (st.map (cv ρ))) := by
    intro ty FT hFT hty hlt hw hcb hdv he
    cases he
    obtain ⟨z, rest, rfl, g1, g2, g3⟩ := hs30 hs
    cases Sum.inl.inj g3
    have oz := fa_hd hst
    have hc2 : σ.1 + 1 ≤ nS + R.cells := hc
    have hsl2 : σ.2.1 + z.toNat ≤ zS + R.slots := hsl
    have hts := C.2.2.2.2.1
    refine W.newa C.1 C.2.1 (by rw [hFT]; exact hts _ (hBig_in hw rfl)) rfl hd rfl (fun h => absurd ((lt32 oz ok0).mp h) (by omega)) (by rw [ix_at oz, hFT]; exact Nat.le_trans (Nat.mul_le_mul (show z.toNat ≤ 1000000 by omega) hcb) (by decide)) (by omega) (by rw [ix_at oz]; omega) fun cA kA comp hfc hkA hkind => ?_
    rw [hFT] at hkind ⊢
    rw [ix_at oz]
    have kk := kk _ locs ls hl (fa_cons trivial (fa_tl hst)) (newa_size (t := ty) (z := z.toNat) (dv := defaultValue FT) hr (by omega) hkA (by rw [hty]; exact hkind) (fun h => absurd h (by omega)) hdv) hlo
    rw [show (sN σ (Sum.inr (ty, z.toNat)) z.toNat).1 - nS = σ.1 - nS + 1 by show σ.1 + 1 - nS = _; omega, show (sN σ (Sum.inr (ty, z.toNat)) z.toNat).2.1 - zS = σ.2.1 - zS + z.toNat by show σ.2.1 + z.toNat - zS = _; omega] at kk
    rw [List.map_cons, show cv ρ (vR (some σ.1)) = .ref H.size by show Value.ref (ρ σ.1) = _; rw [hr.top]] at kk
    exact kk
  cases k with
  | int => exact fin 0 .int rfl rfl (by decide) (hwalk_mem hBq_ok (List.mem_map.mpr ⟨_, (by decide : (hBp 0, 0) ∈ hBq), rfl⟩)) (by decide) rfl he
  | byte => exact fin 1 .byte rfl rfl (by decide) (hwalk_mem hBq_ok (List.mem_map.mpr ⟨_, (by decide : (hBp 1, 1) ∈ hBq), rfl⟩)) (by decide) rfl he
  | boolean => exact fin 2 .boolean rfl rfl (by decide) (hwalk_mem hBq_ok (List.mem_map.mpr ⟨_, (by decide : (hBp 2, 2) ∈ hBq), rfl⟩)) (by decide) rfl he
  | long => exact fin 3 .long rfl rfl (by decide) (hwalk_mem hBq_ok (List.mem_map.mpr ⟨_, (by decide : (hBp 3, 3) ∈ hBq), rfl⟩)) (by decide) rfl he
  | _ => exact absurd hb2 (by decide)
theorem hK_anewarray (C : hCtx p s m args meth c y) (V : hEnv ρ N0 E H00 s) (k : Nat) : hOK ρ p l e R s m args below meth c Q K N0 E H00 y nS zS (.anewarray k) := by
  intro pc len op nx d la st σ pc1 la1 st1 σ1 H locs ls hd ho hs hl hst hr hlo hn hz hc hsl hf kk
  have ho : (op, nx) ∈ ho_anewarray y pc k len := ho
  unfold ho_anewarray at ho
  cases e1 : hf3 hLN (hmO y) k with
  | none => rw [e1] at ho; cases ho
  | some x =>
    obtain ⟨c1, pp⟩ := x
    rw [e1] at ho
    obtain ⟨hb, he⟩ := hk1_in ho
    cases he
    simp only [Bool.and_eq_true, decide_eq_true_eq] at hb
    obtain ⟨rfl, hover⟩ := hb
    obtain ⟨z, rest, rfl, g1, g2, g3⟩ := hs30 hs
    cases Sum.inl.inj g3
    have oz := fa_hd hst
    have hc2 : σ.1 + 1 ≤ nS + R.cells := hc
    have hsl2 : σ.2.1 + z.toNat ≤ zS + R.slots := hsl
    have hts := C.2.2.2.2.1
    have hcl := hwalk_mem hLN_ok (List.mem_map.mpr ⟨_, hf3_in _ _ _ _ e1, rfl⟩)
    obtain ⟨q, hq, hq2⟩ := List.any_eq_true.mp hover
    have hq2 := of_decide_eq_true hq2
    have hov := V.2.2.2.1 q hq
    rw [hq2] at hov
    refine W.anew C.1 C.2.1 C.2.2.2.1 (hts _ (hBig_in hcl rfl)) (va_AO.use hov) rfl hd rfl (fun h => absurd ((lt32 oz ok0).mp h) (by omega)) (by rw [ix_at oz]; omega) (by omega) (by rw [ix_at oz]; omega) fun cA kA comp hfc hkA hkind hco => ?_
    rw [ix_at oz]
    have h10 : 10 + c1 - 10 = c1 := by omega
    have kk := kk _ locs ls hl (fa_cons trivial (fa_tl hst)) (newa_size (t := 10 + c1) (z := z.toNat) (dv := .null) hr (by omega) hkA (by rw [hArr_ref]; exact hkind) (fun h => by rw [h10, hArr_ref]; exact ⟨hco, rfl⟩) (by rw [show hat (10 + c1) = 4 from if_pos (by omega)]; rfl)) hlo
    rw [show (sN σ (Sum.inr (10 + c1, z.toNat)) z.toNat).1 - nS = σ.1 - nS + 1 by show σ.1 + 1 - nS = _; omega, show (sN σ (Sum.inr (10 + c1, z.toNat)) z.toNat).2.1 - zS = σ.2.1 - zS + z.toNat by show σ.2.1 + z.toNat - zS = _; omega] at kk
    rw [List.map_cons, show cv ρ (vR (some σ.1)) = .ref H.size by show Value.ref (ρ σ.1) = _; rw [hr.top]] at kk
    exact kk
theorem hK_objInit (C : hCtx p s m args meth c y) (k : Nat) (hsz : c.maxLocals = hmL y) {pc len nx d : Nat} {op : hOp} {la : hLs} {st : List AV} {σ : hM} {pc1 : Nat} {la1 : hLs} {st1 : List AV} {σ1 : hM} {H : Heap} {locs : List Loc} {ls : Array Slot}
    (hd : decode (hmB y) pc = .ok (.invokespecial k, len)) {x : Nat × Nat × String} (e1 : hf3 hLM (hmO y) k = some (9999, x)) (ho : (op, nx) = ((32, 0, 0, []), pc + 3)) (hlen : len = 3) (hs : hstep K E d y op nx la st σ = some (Sum.inl (pc1, la1, st1, σ1)))
    (hl : hLoc ρ ls (hmL y) la) (hst : ∀ v ∈ st, okv v) (hr : hRel ρ K N0 H00 s σ H) (hlo : ∀ q ∈ locs, N0 ≤ q.base) (hf : 1 ≤ d → 1 ≤ R.frames ∧ 20 ≤ R.locals)
    (kk : ∀ (H1 : Heap) (locs1 : List Loc) (ls1 : Array Slot), hLoc ρ ls1 (hmL y) la1 → (∀ v ∈ st1, okv v) → hRel ρ K N0 H00 s σ1 H1 → (∀ q ∈ locs1, N0 ≤ q.base) →
      W p l e R s m args below meth c H1 locs1 (σ1.1 - nS) (σ1.2.1 - zS) Q (F0 m pc1 ls1 (st1.map (cv ρ)))) :
    W p l e R s m args below meth c H locs (σ.1 - nS) (σ.2.1 - zS) Q (F0 m pc ls (st.map (cv ρ))) := by
  cases ho
  subst hlen
  obtain ⟨o, r, rfl, g1, g2, g3⟩ := hs32 hs
  cases Sum.inl.inj g3
  have hts := C.2.2.2.2.1
  have hw := hwalk_mem hLM_ok (List.mem_map.mpr ⟨_, hf3_in _ _ _ _ e1, rfl⟩)
  have hw : Cond.methodLink (hName (hmO y)) k hOb ∈ lw_tbl := hw
  obtain ⟨f1, f2⟩ := hf g1
  refine W.objInit (a := ρ o) C.1 C.2.1 C.2.2.2.1 (hts _ (hBig_in hw rfl)) (hts _ (hBig_in hObI rfl)) (hts _ (hBig_in hObC rfl)) rfl (by show ls.size = _; rw [hsz]; exact hl.1) rfl hd f1 ?_ (kk H locs ls hl (fa_tl hst) hr hlo)
  have e5 : ((st1.map (cv ρ)).map fun v => v.category).sum = (st1.map hwd).sum := by
    rw [List.map_map]
    congr 1
    exact List.map_congr_left (fun v _ => cv_cat v)
  show 2 * 0 + ((st1.map (cv ρ)).map fun v => v.category).sum + 12 ≤ _
  rw [e5]
  omega
theorem hK_gets (C : hCtx p s m args meth c y) (V : hEnv ρ N0 E H00 s) (k : Nat) : hOK ρ p l e R s m args below meth c Q K N0 E H00 y nS zS (.getstatic k) := by
  intro pc len op nx d la st σ pc1 la1 st1 σ1 H locs ls hd ho hs hl hst hr hlo hn hz hc hsl hf kk
  have ho : (op, nx) ∈ ho_getstatic y pc k len := ho
  unfold ho_getstatic at ho
  cases e1 : hf3 hLG (hmO y) k with
  | none => rw [e1] at ho; cases ho
  | some x =>
    obtain ⟨j, ns, pp, host⟩ := x
    rw [e1] at ho
    obtain ⟨hb, he⟩ := hk1_in ho
    cases he
    simp only [Bool.and_eq_true, decide_eq_true_eq] at hb
    obtain ⟨rfl, hj⟩ := hb
    cases (show some (Sum.inl (pc + 3, la, E j :: st, σ)) = some (Sum.inl (pc1, la1, st1, σ1)) from hs)
    have hw := hwalk_mem hLG_ok (List.mem_map.mpr ⟨_, hf3_in _ _ _ _ e1, rfl⟩)
    obtain ⟨cf, kf, fi, f, a, cell, h1, h2, h3, h4, h5, h6, h7, h8⟩ := V.2.2.2.2.2.1 j hj
    have kk := kk H locs ls hl (fa_cons (V.2.2.2.2.2.2 j) hst) hr hlo
    have hcell : H[a]? = some cell := by rw [hr.2.2.1 a (Nat.not_le.mp h8)]; exact h5
    by_cases hns : ns = 0
    · subst hns
      exact W.gets C.1 C.2.1 C.2.2.2.1 (C.2.2.2.2.1 _ (hBig_in (w := .fieldLink (hName (hmO y)) k (hSn j).1 (hSn j).2.1 (hSn j).2.2) hw rfl)) h1 h2 h3 h4 hcell (fun e => by rw [e] at h6; cases h6) h7 rfl hd kk
    · have hx := V.2.2.1 _ (hf3_in _ _ _ _ e1) hns
      have e2 : hwG (hmO y, k, j, ns, pp, host) = .fieldLinkNest (hName (hmO y)) k (hSn j).1 (hSn j).2.1 (hSn j).2.2 host := if_neg hns
      rw [e2] at hx
      exact va_WgetsN C.1 C.2.1 C.2.2.2.1 (va_Nw.use rfl hx) h1 h2 h3 h4 hcell (fun e => by rw [e] at h6; cases h6) h7 rfl hd kk
end HST4
