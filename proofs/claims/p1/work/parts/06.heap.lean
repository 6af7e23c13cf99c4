/-! The cells: what an address holds, and how it stays so. Addresses of the small machine are numbers of their own; ρ says where they are. -/
def hat (t : Nat) : Nat := if 10 ≤ t then 4 else t
def hRho (ρ : Nat → Nat) (K N0 : Nat) : Prop := (∀ a, K ≤ a → ρ a + K = N0 + a) ∧ ∀ a, a < K → a ≠ 1 → ρ a < N0
theorem hRho.ne {ρ : Nat → Nat} {K N0 a b : Nat} (h : hRho ρ K N0) (ha : K ≤ a) (hab : b ≠ a) (hb1 : K ≤ b ∨ b ≠ 1) : ρ b ≠ ρ a := by
  have h1 := h.1 a ha
  by_cases hb : K ≤ b
  · have h2 := h.1 b hb
    omega
  · have h2 := h.2 b (by omega) (hb1.resolve_left hb)
    omega
theorem hRho.inj {ρ : Nat → Nat} {K N0 a b : Nat} (h : hRho ρ K N0) (ha : K ≤ a) (hb : K ≤ b) : ρ b = ρ a ↔ b = a := ⟨fun e => Decidable.byContradiction fun hn => h.ne ha hn (Or.inl hb) e, fun e => by rw [e]⟩
theorem hRho.opt {ρ : Nat → Nat} {K N0 : Nat} {p q : Option Nat} (h : hRho ρ K N0) (hp : K ≤ p.getD K) (hq : K ≤ q.getD K) : p.map ρ = q.map ρ ↔ p = q := by
  cases p with
  | none => cases q <;> simp
  | some a => cases q with
    | none => simp
    | some b =>
      simp only [Option.map_some, Option.some.injEq]
      exact h.inj hq hp
theorem hRho.ge {ρ : Nat → Nat} {K N0 a : Nat} (h : hRho ρ K N0) (ha : K ≤ a) : N0 ≤ ρ a := by have h1 := h.1 a ha; omega
def hObj (ρ : Nat → Nat) (s : State) (σ : hM) (H : Heap) (K a c : Nat) : Prop := ∃ cell : Cell, H[ρ a]? = some cell ∧ cell.vm ≠ .unknown ∧ cell.vm.isStatics = false ∧ s.vm.findClass (hName c) = some cell.cls ∧ (K ≤ a → cell.vm = .none) ∧
  ∀ k, k < hFn c → ∃ cf kc fi f, s.fieldFound? (hName c) (hFd c k).1 (hFd c k).2.1 = some (cf, kc, fi, f) ∧ f.isStatic = false ∧ cell.slots[f.slot]? = some (cv ρ (hld σ (hFd c k).2.2.1 a k)) ∧ okv (hld σ (hFd c k).2.2.1 a k)
def hRow (ρ : Nat → Nat) (s : State) (σ : hM) (H : Heap) (K a t len : Nat) : Prop := ∃ cell : Cell, H[ρ a]? = some cell ∧ cell.vm ≠ .unknown ∧ s.isArrayOf cell (hArr t) ∧ (K ≤ a → cell.vm = .none) ∧
  (10 ≤ t → ∃ kA comp, s.vm.classes[cell.cls]? = some kA ∧ kA.kind = .array comp (.object (hName (t - 10))) ∧ s.vm.findClass (hName (t - 10)) = some comp) ∧ (len ≤ cell.slots.size ∧ cell.slots.size.toInt32 = Int32.ofInt (len : Int)) ∧ len ≤ 1000000 ∧
  ∀ j, j < len → cell.slots[j]? = some (cv ρ (hld σ (hat t) a j)) ∧ okv (hld σ (hat t) a j)
def hRel (ρ : Nat → Nat) (K N0 : Nat) (H00 : Heap) (s : State) (σ : hM) (H : Heap) : Prop := (H.size + K = N0 + σ.1 ∧ hRho ρ K N0 ∧ mT σ 1 = none ∧ 2 ≤ K) ∧ K ≤ σ.1 ∧ (∀ a, a < N0 → H[a]? = H00[a]?) ∧
  (∀ a c, mT σ a = some (Sum.inl c) → hObj ρ s σ H K a c) ∧ ∀ a t len, mT σ a = some (Sum.inr (t, len)) → hRow ρ s σ H K a t len
section RHO
variable {ρ : Nat → Nat} {K : Nat}
theorem hRel.top {N0 : Nat} {H00 : Heap} {s : State} {σ : hM} {H : Heap} (h : hRel ρ K N0 H00 s σ H) : ρ σ.1 = H.size := by
  have h1 := h.1.1
  have h2 := h.1.2.1.1 σ.1 h.2.1
  omega
theorem hObj.moved {s s1 : State} {σ : hM} {H : Heap} {a c : Nat} (hv : s.vm.Alike s1.vm) (h : hObj ρ s σ H K a c) : hObj ρ s1 σ H K a c := by
  obtain ⟨cell, h1, h2, h3, h4, h5, h6⟩ := h
  refine ⟨cell, h1, h2, h3, by rw [hv.findClass]; exact h4, h5, fun k hk => ?_⟩
  obtain ⟨cf, kc, fi, f, g1, g2, g3, g4⟩ := h6 k hk
  obtain ⟨k', g1', -⟩ := State.fieldFound?_setVm hv g1
  exact ⟨cf, k', fi, f, g1', g2, g3, g4⟩
theorem hRow.moved {s s1 : State} {σ : hM} {H : Heap} {a t len : Nat} (hv : s.vm.Alike s1.vm) (h : hRow ρ s σ H K a t len) : hRow ρ s1 σ H K a t len := by
  obtain ⟨cell, h1, h2, h3, h5, h6, h7⟩ := h
  refine ⟨cell, h1, h2, State.isArrayOf_alike hv h3, h5, fun ht => ?_, h7⟩
  obtain ⟨kA, comp, g1, g2, g3⟩ := h6 ht
  obtain ⟨k', g1', e⟩ := hv.2.2 _ _ g1
  exact ⟨k', comp, g1', by rw [e]; exact g2, by rw [hv.findClass]; exact g3⟩
theorem hRel.moved {s s1 : State} {σ : hM} {H H00 : Heap} {N0 : Nat} (hv : s.vm.Alike s1.vm) (h : hRel ρ K N0 H00 s σ H) : hRel ρ K N0 H00 s1 σ H :=
  ⟨h.1, h.2.1, h.2.2.1, fun a c ha => (h.2.2.2.1 a c ha).moved hv, fun a t len ha => (h.2.2.2.2 a t len ha).moved hv⟩
theorem hObj.kept {s : State} {σ σ1 : hM} {H H1 : Heap} {a c : Nat} (h : hObj ρ s σ H K a c) (hq : H1[ρ a]? = H[ρ a]?) (hm : ∀ j, mI σ1 a j = mI σ a j ∧ mR σ1 a j = mR σ a j) : hObj ρ s σ1 H1 K a c := by
  have e : ∀ k j, hld σ1 k a j = hld σ k a j := fun k j => by unfold hld; rw [(hm j).1, (hm j).2]
  obtain ⟨cell, h1, h2, h3, h4, h5, h6⟩ := h
  refine ⟨cell, hq.trans h1, h2, h3, h4, h5, fun k hk => ?_⟩
  rw [e]
  exact h6 k hk
theorem hRow.kept {s : State} {σ σ1 : hM} {H H1 : Heap} {a t len : Nat} (h : hRow ρ s σ H K a t len) (hq : H1[ρ a]? = H[ρ a]?) (hm : ∀ j, mI σ1 a j = mI σ a j ∧ mR σ1 a j = mR σ a j) : hRow ρ s σ1 H1 K a t len := by
  have e : ∀ k j, hld σ1 k a j = hld σ k a j := fun k j => by unfold hld; rw [(hm j).1, (hm j).2]
  obtain ⟨cell, h1, h2, h3, h5, h6, h7, h8, h9⟩ := h
  refine ⟨cell, hq.trans h1, h2, h3, h5, h6, h7, h8, fun k hk => ?_⟩
  rw [e]
  exact h9 k hk
/-- one cell of ours changes: the rest stays -/
theorem hRel.put {s : State} {σ σ1 : hM} {H H1 H00 : Heap} {N0 a : Nat} (h : hRel ρ K N0 H00 s σ H) (ha : K ≤ a) (hz : H1.size = H.size) (hq : ∀ q, q ≠ ρ a → H1[q]? = H[q]?) (e1 : σ1.1 = σ.1) (e2 : mT σ1 = mT σ)
    (hm : ∀ b, b ≠ a → ∀ j, mI σ1 b j = mI σ b j ∧ mR σ1 b j = mR σ b j) (hO : ∀ c, mT σ a = some (Sum.inl c) → hObj ρ s σ1 H1 K a c) (hR : ∀ t len, mT σ a = some (Sum.inr (t, len)) → hRow ρ s σ1 H1 K a t len) : hRel ρ K N0 H00 s σ1 H1 := by
  obtain ⟨h1, h2, h3, h4, h5⟩ := h
  have hb1 : ∀ b, mT σ b ≠ none → K ≤ b ∨ b ≠ 1 := fun b hb => Or.inr (fun e => hb (by rw [e]; exact h1.2.2.1))
  refine ⟨by rw [hz, e1, e2]; exact h1, by rw [e1]; exact h2, fun q hq1 => (hq q (fun e => by have := h1.2.1.ge ha; omega)).trans (h3 q hq1), fun b c hb => ?_, fun b t len hb => ?_⟩
  · rw [e2] at hb
    by_cases hba : b = a
    · subst hba; exact hO c hb
    · exact (h4 b c hb).kept (hq _ (h1.2.1.ne ha hba (hb1 b (by rw [hb]; exact fun h => by cases h)))) (hm b hba)
  · rw [e2] at hb
    by_cases hba : b = a
    · subst hba; exact hR t len hb
    · exact (h5 b t len hb).kept (hq _ (h1.2.1.ne ha hba (hb1 b (by rw [hb]; exact fun h => by cases h)))) (hm b hba)
end RHO
theorem mI_sI (σ : hM) (a k : Nat) (x : Int) (b j : Nat) : mI (sI σ a k x) b j = if b = a ∧ j = k then x else mI σ b j := rfl
theorem mR_sR (σ : hM) (a k : Nat) (x : Option Nat) (b j : Nat) : mR (sR σ a k x) b j = if b = a ∧ j = k then x else mR σ b j := rfl
theorem hset_slot (cell : Cell) (i j : Nat) (v : Value) (hi : i < cell.slots.size) : (cell.setSlot i v).slots[j]? = if j = i then some v else cell.slots[j]? := by
  unfold Cell.setSlot
  simp only [Array.getElem?_setIfInBounds]
  by_cases h : i = j
  · subst h; simp [hi]
  · have h' : ¬ j = i := fun e => h e.symm
    simp [h, h']
theorem hset_size (cell : Cell) (i : Nat) (v : Value) : (cell.setSlot i v).slots.size = cell.slots.size := by simp [Cell.setSlot]
/-- the fields' words of a kind of object, out of the tables -/
theorem hV_in {c k : Nat} (h : hFq.any (fun e => decide (e.2 = (c, k))) = true) : hwV c k ∈ lw_tbl := by
  obtain ⟨e, he, h1⟩ := List.any_eq_true.mp h
  have h2 := of_decide_eq_true h1
  obtain ⟨p, c', k'⟩ := e
  cases h2
  exact hwalk_mem hFq_ok (List.mem_map.mpr ⟨(p, c, k), he, rfl⟩)
def hMade (c : Nat) : Bool := hNq.any (fun e => decide (e.2.1 = c)) && (List.range (hFn c)).all (fun k => hFq.any (fun e => decide (e.2 = (c, k)))) && hIq.any (fun e => decide (e.2 = c)) &&
  (List.range (hFn c)).all (fun a => (List.range (hFn c)).all (fun b => decide (a = b) || decide ((hFd c a).1 ≠ (hFd c b).1))) &&
  (List.range (hFn c)).all (fun k => match (hFd c k).2.2.1, parseFieldDescriptor (hFd c k).2.1 with
    | 0, some .int => true
    | 2, some .boolean => true
    | 3, some .long => true
    | 4, some (.object _) => true
    | 4, some (.array _) => true
    | _, _ => false)
set_option maxRecDepth 100000 in
theorem hMade_all : (hNq.map (fun e => e.2.1)).all hMade = true := by decide +kernel
theorem hMade_of {c : Nat} (h : hNq.any (fun e => decide (e.2.1 = c)) = true) : hMade c = true := by
  obtain ⟨e, he, h1⟩ := List.any_eq_true.mp h
  exact of_decide_eq_true h1 ▸ List.all_eq_true.mp hMade_all _ (List.mem_map.mpr ⟨e, he, rfl⟩)
theorem hV_of {c k : Nat} (h : hMade c = true) (hk : k < hFn c) : hwV c k ∈ lw_tbl := by
  unfold hMade at h
  simp only [Bool.and_eq_true] at h
  exact hV_in (List.all_eq_true.mp h.1.1.1.2 k (List.mem_range.mpr hk))
theorem hV_lays {c k : Nat} {args : Array Value} {s : State} (hts : ∀ w ∈ hBig, w.before args s = true) (h : hMade c = true) (hk : k < hFn c) :
    (Cond.lays (hName c) (hName c) (hFd c k).1 (hFd c k).2.1).before args s = true ∨ (Cond.laysFinal (hName c) (hName c) (hFd c k).1 (hFd c k).2.1).before args s = true := by
  have h1 := hV_of h hk
  unfold hwV at h1
  split at h1
  · exact Or.inr (hts _ (hBig_in h1 rfl))
  · exact Or.inl (hts _ (hBig_in h1 rfl))
theorem hNm_ne {c a b : Nat} (h : hMade c = true) (ha : a < hFn c) (hb : b < hFn c) (hab : a ≠ b) : (hFd c a).1 ≠ (hFd c b).1 := by
  unfold hMade at h
  simp only [Bool.and_eq_true] at h
  have h1 := List.all_eq_true.mp (List.all_eq_true.mp h.1.2 a (List.mem_range.mpr ha)) b (List.mem_range.mpr hb)
  simp only [Bool.or_eq_true, decide_eq_true_eq] at h1
  exact h1.resolve_left hab
/-- kinds of fields and their types -/
def hTyk (k : Nat) (ty : FieldType) : Prop := (k = 0 ∧ ty = .int) ∨ (k = 2 ∧ ty = .boolean) ∨ (k = 3 ∧ ty = .long) ∨ (k = 4 ∧ ((∃ n, ty = .object n) ∨ ∃ t, ty = .array t))
theorem hTy_of {c k : Nat} (h : hMade c = true) (hk : k < hFn c) : ∃ ty, parseFieldDescriptor (hFd c k).2.1 = some ty ∧ hTyk (hFd c k).2.2.1 ty := by
  unfold hMade at h
  simp only [Bool.and_eq_true] at h
  have h1 := List.all_eq_true.mp h.2 k (List.mem_range.mpr hk)
  unfold hTyk
  split at h1
  · rename_i e1 e2; exact ⟨_, e2, Or.inl ⟨e1, rfl⟩⟩
  · rename_i e1 e2; exact ⟨_, e2, Or.inr (Or.inl ⟨e1, rfl⟩)⟩
  · rename_i e1 e2; exact ⟨_, e2, Or.inr (Or.inr (Or.inl ⟨e1, rfl⟩))⟩
  · rename_i e1 e2; exact ⟨_, e2, Or.inr (Or.inr (Or.inr ⟨e1, Or.inl ⟨_, rfl⟩⟩))⟩
  · rename_i e1 e2; exact ⟨_, e2, Or.inr (Or.inr (Or.inr ⟨e1, Or.inr ⟨_, rfl⟩⟩))⟩
  · cases h1
