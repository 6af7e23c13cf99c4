/-! How the plain memory stands for the machine's: numbers, locals, cells. -/
def cv (ρ : Nat → Nat) : AV → Value
  | Sum.inl z => .int (Int32.ofInt z)
  | Sum.inr (Sum.inl z) => .long (Int64.ofInt z)
  | Sum.inr (Sum.inr r) => va_rf (r.map ρ)
def okv : AV → Prop
  | Sum.inl z => -2147483648 ≤ z ∧ z ≤ 2147483647
  | Sum.inr (Sum.inl z) => -9223372036854775808 ≤ z ∧ z ≤ 9223372036854775807
  | Sum.inr (Sum.inr _) => True
theorem cv_cat {ρ : Nat → Nat} (v : AV) : (cv ρ v).category = hwd v := by
  rcases v with z | z | r
  · rfl
  · rfl
  · cases r <;> rfl
theorem i32r {z : Int} (h : okv (vI z)) : (Int32.ofInt z).toInt = z := Int32.toInt_ofInt_of_le (by have := h.1; omega) (by have := h.2; omega)
theorem i64r {z : Int} (h : okv (vL z)) : (Int64.ofInt z).toInt = z := Int64.toInt_ofInt_of_le (by have := h.1; omega) (by have := h.2; omega)
theorem ok_t32 (x : Int32) : okv (vI x.toInt) := ⟨by have := x.le_toInt; omega, by have := x.toInt_lt; omega⟩
theorem ok_t64 (x : Int64) : okv (vL x.toInt) := ⟨by have := x.le_toInt; omega, by have := x.toInt_lt; omega⟩
theorem to32 {x : Int32} {z : Int} (h : x.toInt = z) : x = Int32.ofInt z := by rw [← h, Int32.ofInt_toInt]
theorem to64 {x : Int64} {z : Int} (h : x.toInt = z) : x = Int64.ofInt z := by rw [← h, Int64.ofInt_toInt]
theorem w32_ok (z : Int) : okv (vI (w32 z)) := by
  have h := ok_t32 (Int32.ofInt z)
  rw [Int32.toInt_ofInt] at h
  exact h
theorem w64_ok (z : Int) : okv (vL (w64 z)) := by
  have h := ok_t64 (Int64.ofInt z)
  rw [Int64.toInt_ofInt] at h
  exact h
theorem i32w (z : Int) : (Int32.ofInt z).toInt = w32 z := Int32.toInt_ofInt
theorem i64w (z : Int) : (Int64.ofInt z).toInt = w64 z := Int64.toInt_ofInt
theorem hIB_ok (k : Nat) (x y : Int) : okv (vI (hIB k x y)) := by
  unfold hIB
  split <;> first | exact w32_ok _ | exact ok_t32 _
theorem hLB_ok (k : Nat) (x y : Int) : okv (vL (hLB k x y)) := by
  unfold hLB
  split <;> first | exact w64_ok _ | exact ok_t64 _
theorem hLH_ok (k : Nat) (x y : Int) : okv (vL (hLH k x y)) := by
  unfold hLH
  split <;> exact ok_t64 _
theorem add32 {x y : Int} (hx : okv (vI x)) (hy : okv (vI y)) : Int32.ofInt x + Int32.ofInt y = Int32.ofInt (w32 (x + y)) := to32 (by rw [Int32.toInt_add, i32r hx, i32r hy]; rfl)
theorem sub32 {x y : Int} (hx : okv (vI x)) (hy : okv (vI y)) : Int32.ofInt x - Int32.ofInt y = Int32.ofInt (w32 (x - y)) := to32 (by rw [Int32.toInt_sub, i32r hx, i32r hy]; rfl)
theorem mul32 {x y : Int} (hx : okv (vI x)) (hy : okv (vI y)) : Int32.ofInt x * Int32.ofInt y = Int32.ofInt (w32 (x * y)) := to32 (by rw [Int32.toInt_mul, i32r hx, i32r hy]; rfl)
theorem neg32 {x : Int} (hx : okv (vI x)) : - Int32.ofInt x = Int32.ofInt (w32 (-x)) := to32 (by rw [Int32.toInt_neg, i32r hx]; rfl)
theorem add64 {x y : Int} (hx : okv (vL x)) (hy : okv (vL y)) : Int64.ofInt x + Int64.ofInt y = Int64.ofInt (w64 (x + y)) := to64 (by rw [Int64.toInt_add, i64r hx, i64r hy]; rfl)
theorem sub64 {x y : Int} (hx : okv (vL x)) (hy : okv (vL y)) : Int64.ofInt x - Int64.ofInt y = Int64.ofInt (w64 (x - y)) := to64 (by rw [Int64.toInt_sub, i64r hx, i64r hy]; rfl)
theorem mul64 {x y : Int} (hx : okv (vL x)) (hy : okv (vL y)) : Int64.ofInt x * Int64.ofInt y = Int64.ofInt (w64 (x * y)) := to64 (by rw [Int64.toInt_mul, i64r hx, i64r hy]; rfl)
theorem eq32 {x y : Int} (hx : okv (vI x)) (hy : okv (vI y)) : Int32.ofInt x = Int32.ofInt y ↔ x = y := ⟨fun h => by rw [← i32r hx, ← i32r hy, h], fun h => by rw [h]⟩
theorem lt32 {x y : Int} (hx : okv (vI x)) (hy : okv (vI y)) : Int32.ofInt x < Int32.ofInt y ↔ x < y := by rw [Int32.lt_iff_toInt_lt, i32r hx, i32r hy]
theorem le32 {x y : Int} (hx : okv (vI x)) (hy : okv (vI y)) : Int32.ofInt x ≤ Int32.ofInt y ↔ x ≤ y := by rw [Int32.le_iff_toInt_le, i32r hx, i32r hy]
theorem eq64 {x y : Int} (hx : okv (vL x)) (hy : okv (vL y)) : Int64.ofInt x = Int64.ofInt y ↔ x = y := ⟨fun h => by rw [← i64r hx, ← i64r hy, h], fun h => by rw [h]⟩
theorem lt64 {x y : Int} (hx : okv (vL x)) (hy : okv (vL y)) : Int64.ofInt x < Int64.ofInt y ↔ x < y := by rw [Int64.lt_iff_toInt_lt, i64r hx, i64r hy]
theorem ok0 : okv (vI 0) := ⟨by omega, by omega⟩
theorem z32 : (0 : Int32) = Int32.ofInt 0 := rfl
theorem z64 : (0 : Int64) = Int64.ofInt 0 := rfl
theorem nz32 {x : Int} (hx : okv (vI x)) (h : ¬ x = 0) : ¬ Int32.ofInt x = 0 := fun e => h ((eq32 hx ok0).mp e)
theorem nz64 {x : Int} (hx : okv (vL x)) (h : ¬ x = 0) : ¬ Int64.ofInt x = 0 := fun e => h ((eq64 hx ⟨by omega, by omega⟩).mp e)
theorem cmp_eq {x y : Int} (hx : okv (vL x)) (hy : okv (vL y)) : lg_cmp (Int64.ofInt x) (Int64.ofInt y) = Int32.ofInt (cmp64 x y) := by
  unfold lg_cmp cmp64
  by_cases h1 : y < x
  · rw [if_pos h1, if_pos ((lt64 hy hx).mpr h1)]; rfl
  · rw [if_neg h1, if_neg (fun e => h1 ((lt64 hy hx).mp e))]
    by_cases h2 : x = y
    · rw [if_pos h2, if_pos ((eq64 hx hy).mpr h2)]; rfl
    · rw [if_neg h2, if_neg (fun e => h2 ((eq64 hx hy).mp e))]; rfl
theorem cmp_ok (x y : Int) : okv (vI (cmp64 x y)) := by
  unfold cmp64
  split
  · exact ⟨by omega, by omega⟩
  · split <;> exact ⟨by omega, by omega⟩
theorem i2l_eq {x : Int} (hx : okv (vI x)) : (Int32.ofInt x).toInt64 = Int64.ofInt x := to64 (by rw [Int32.toInt_toInt64, i32r hx])
theorem i2l_ok {x : Int} (hx : okv (vI x)) : okv (vL x) := ⟨by have := hx.1; omega, by have := hx.2; omega⟩
theorem l2i_eq {x : Int} (hx : okv (vL x)) : (Int64.ofInt x).toInt32 = Int32.ofInt (w32 x) := to32 (by rw [Int64.toInt_toInt32, i64r hx]; rfl)
theorem ix_in {j : Int} {n : Nat} (hj : okv (vI j)) (h0 : 0 ≤ j) (h : j < n) : ¬ (Int32.ofInt j < 0 ∨ n ≤ (Int32.ofInt j).toNatClampNeg) := by
  have e : (Int32.ofInt j).toNatClampNeg = j.toNat := by
    show (Int32.ofInt j).toInt.toNat = _
    rw [i32r hj]
  rw [e]
  rintro (a | a)
  · exact absurd ((lt32 hj ok0).mp a) (by omega)
  · omega
theorem ix_at {j : Int} (hj : okv (vI j)) : (Int32.ofInt j).toNatClampNeg = j.toNat := by
  show (Int32.ofInt j).toInt.toNat = _
  rw [i32r hj]
/-! locals -/
def hLoc (ρ : Nat → Nat) (ls : Array Slot) (n : Nat) (la : hLs) : Prop := ls.size = n ∧ lv_wf ls ∧ ∀ (i : Nat) (v : AV), la.getD i none = some v → ls[i]? = some (.val (cv ρ v)) ∧ okv v
def hprs (ρ : Nat → Nat) : Nat → hLs → List (Nat × Value)
  | _, [] => []
  | i, some v :: l => (i, cv ρ v) :: hprs ρ (i + 1) l
  | i, none :: l => hprs ρ (i + 1) l
section RHO
variable {ρ : Nat → Nat}
theorem hprs_in : ∀ (la : hLs) (b : Nat) (q : Nat × Value), q ∈ hprs ρ b la ↔ ∃ i v, la.getD i none = some v ∧ q = (b + i, cv ρ v) := by
  intro la
  induction la with
  | nil => intro b q; simp [hprs]
  | cons x l ih =>
    intro b q
    have key : (∃ i v, (x :: l).getD i none = some v ∧ q = (b + i, cv ρ v)) ↔ ((∃ v, x = some v ∧ q = (b, cv ρ v)) ∨ ∃ i v, l.getD i none = some v ∧ q = (b + 1 + i, cv ρ v)) := by
      constructor
      · rintro ⟨i, v, h1, h2⟩
        cases i with
        | zero => exact Or.inl ⟨v, by simpa using h1, by simpa using h2⟩
        | succ i => exact Or.inr ⟨i, v, by simpa using h1, by rw [h2]; congr 1; omega⟩
      · rintro (⟨v, h1, h2⟩ | ⟨i, v, h1, h2⟩)
        · exact ⟨0, v, by simpa using h1, by simpa using h2⟩
        · exact ⟨i + 1, v, by simpa using h1, by rw [h2]; congr 1; omega⟩
    rw [key]
    cases x with
    | none => rw [hprs, ih]; simp
    | some w => rw [hprs, List.mem_cons, ih]; simp
theorem hLoc.has {ls : Array Slot} {n : Nat} {la : hLs} (h : hLoc ρ ls n la) : lv_has ls n (hprs ρ 0 la) := by
  refine ⟨h.1, h.2.1, fun q hq => ?_⟩
  obtain ⟨i, v, h1, rfl⟩ := (hprs_in la 0 q).mp hq
  rw [Nat.zero_add]
  exact (h.2.2 i v h1).1
theorem getD_set {α : Type} (l : List α) (i j : Nat) (x d : α) : (l.set i x).getD j d = if j = i ∧ i < l.length then x else l.getD j d := by
  simp only [List.getD_eq_getElem?_getD, List.getElem?_set]
  by_cases h : i = j
  · subst h
    by_cases hl : i < l.length
    · simp [hl]
    · simp [hl]
  · have h' : ¬ j = i := fun e => h e.symm
    simp [h, h']
theorem hkl_at (la : hLs) (i j : Nat) (v : AV) (h : (hkl la i).getD j none = some v) : la.getD j none = some v ∧ ¬ (j + 1 = i ∧ hwd v = 2) := by
  unfold hkl at h
  cases i with
  | zero => exact ⟨h, by omega⟩
  | succ k =>
    dsimp only at h
    split at h
    · rename_i z hz
      rw [getD_set] at h
      by_cases hj : j = k ∧ k < la.length
      · rw [if_pos hj] at h; cases h
      · rw [if_neg hj] at h
        refine ⟨h, fun e => hj ⟨by omega, ?_⟩⟩
        have hk : la.getD k none = some (Sum.inr (Sum.inl z)) := hz
        rcases Nat.lt_or_ge k la.length with q | q
        · exact q
        · rw [List.getD_eq_getElem?_getD, List.getElem?_eq_none q] at hk; cases hk
    · rename_i hz
      refine ⟨h, fun e => ?_⟩
      have hj : j = k := by omega
      subst hj
      rcases v with z | z | r
      · cases e.2
      · exact hz z h
      · cases e.2
theorem hkl_len (la : hLs) (i : Nat) : (hkl la i).length = la.length := by
  unfold hkl
  split
  · rfl
  · split <;> simp
theorem hLoc.sto1 {ls ls1 : Array Slot} {n i : Nat} {la : hLs} {v : AV} (h : hLoc ρ ls n la) (hv : okv v) (hc : hwd v = 1) (h1 : lv_has ls1 n ((i, cv ρ v) :: (hprs ρ 0 la).filter (fun q => !(q.1 == i) && !(q.1 + 1 == i && q.2.category == 2)))) : hLoc ρ ls1 n (hsto la i v) := by
  have e : hsto la i v = (hkl la i).set i (some v) := by
    rcases v with z | z | r
    · rfl
    · cases hc
    · rfl
  rw [e]
  refine ⟨h1.1, h1.2.1, fun j w hj => ?_⟩
  rw [getD_set] at hj
  by_cases hji : j = i
  · subst hji
    by_cases hl : j < (hkl la j).length
    · rw [if_pos ⟨rfl, hl⟩] at hj
      cases hj
      exact ⟨h1.2.2 (j, cv ρ v) List.mem_cons_self, hv⟩
    · rw [if_neg (fun q => hl q.2), List.getD_eq_getElem?_getD, List.getElem?_eq_none (by omega)] at hj
      cases hj
  · rw [if_neg (fun q => hji q.1)] at hj
    obtain ⟨a, b⟩ := hkl_at la i j w hj
    obtain ⟨-, ok⟩ := h.2.2 j w a
    refine ⟨h1.2.2 (j, cv ρ w) (List.mem_cons_of_mem _ (List.mem_filter.mpr ⟨(hprs_in la 0 _).mpr ⟨j, w, a, by rw [Nat.zero_add]⟩, ?_⟩)), ok⟩
    rw [cv_cat]
    simp only [Bool.and_eq_true, Bool.not_eq_true', beq_eq_false_iff_ne, Bool.and_eq_false_iff]
    refine ⟨hji, ?_⟩
    by_cases q : j + 1 = i
    · exact Or.inr (fun z => b ⟨q, z⟩)
    · exact Or.inl q
theorem hLoc.sto2 {ls ls1 : Array Slot} {n i : Nat} {la : hLs} {v : AV} (h : hLoc ρ ls n la) (hv : okv v) (hc : hwd v = 2) (h1 : lv_has ls1 n ((i, cv ρ v) :: (hprs ρ 0 la).filter (fun q => !(q.1 == i) && (!(q.1 == i + 1) && !(q.1 + 1 == i && q.2.category == 2))))) : hLoc ρ ls1 n (hsto la i v) := by
  have e : hsto la i v = ((hkl la i).set i (some v)).set (i + 1) none := by
    rcases v with z | z | r
    · cases hc
    · rfl
    · cases hc
  rw [e]
  refine ⟨h1.1, h1.2.1, fun j w hj => ?_⟩
  rw [getD_set, getD_set] at hj
  by_cases hj2 : j = i + 1
  · subst hj2
    by_cases hl : i + 1 < ((hkl la i).set i (some v)).length
    · rw [if_pos ⟨rfl, hl⟩] at hj; cases hj
    · rw [if_neg (fun q => hl q.2), if_neg (fun q => by omega), List.getD_eq_getElem?_getD, List.getElem?_eq_none (by simpa using hl)] at hj
      cases hj
  · rw [if_neg (fun q => hj2 q.1)] at hj
    by_cases hji : j = i
    · subst hji
      by_cases hl : j < (hkl la j).length
      · rw [if_pos ⟨rfl, hl⟩] at hj
        cases hj
        exact ⟨h1.2.2 (j, cv ρ v) List.mem_cons_self, hv⟩
      · rw [if_neg (fun q => hl q.2), List.getD_eq_getElem?_getD, List.getElem?_eq_none (by omega)] at hj
        cases hj
    · rw [if_neg (fun q => hji q.1)] at hj
      obtain ⟨a, b⟩ := hkl_at la i j w hj
      obtain ⟨-, ok⟩ := h.2.2 j w a
      refine ⟨h1.2.2 (j, cv ρ w) (List.mem_cons_of_mem _ (List.mem_filter.mpr ⟨(hprs_in la 0 _).mpr ⟨j, w, a, by rw [Nat.zero_add]⟩, ?_⟩)), ok⟩
      rw [cv_cat]
      simp only [Bool.and_eq_true, Bool.not_eq_true', beq_eq_false_iff_ne, Bool.and_eq_false_iff]
      refine ⟨hji, hj2, ?_⟩
      by_cases q : j + 1 = i
      · exact Or.inr (fun z => b ⟨q, z⟩)
      · exact Or.inl q
/-! a call's locals -/
theorem hent_args : ∀ (as : List AV) (b i : Nat) (v : AV), (hent as).getD i none = some v → (b + i, cv ρ v) ∈ lv_args b (as.map (cv ρ)) ∧ v ∈ as := by
  intro as
  induction as with
  | nil => intro b i v h; simp [hent] at h
  | cons w l ih =>
    intro b i v h
    by_cases hw : hwd w = 2
    · rcases w with z | z | r
      · cases hw
      · rw [hent] at h
        match i, h with
        | 0, h => cases h; exact ⟨by simp [lv_args], List.mem_cons_self⟩
        | 1, h => cases h
        | i + 2, h =>
          obtain ⟨a, c⟩ := ih (b + 2) i v (by simpa using h)
          refine ⟨?_, List.mem_cons_of_mem _ c⟩
          simp only [List.map_cons, lv_args, cv_cat, hw, if_true]
          exact List.mem_cons_of_mem _ (by rw [show b + (i + 2) = b + 2 + i by omega]; exact a)
      · cases hw
    · have e : hent (w :: l) = some w :: hent l := by
        rcases w with z | z | r
        · rfl
        · exact absurd rfl hw
        · rfl
      rw [e] at h
      match i, h with
      | 0, h => cases h; exact ⟨by simp [lv_args], List.mem_cons_self⟩
      | i + 1, h =>
        obtain ⟨a, c⟩ := ih (b + 1) i v (by simpa using h)
        refine ⟨?_, List.mem_cons_of_mem _ c⟩
        simp only [List.map_cons, lv_args, cv_cat, hw, if_false]
        exact List.mem_cons_of_mem _ (by rw [show b + (i + 1) = b + 1 + i by omega]; exact a)
theorem hent_len : ∀ as : List AV, (lg_sl (as.map (cv ρ))).length = (hent as).length := by
  intro as
  induction as with
  | nil => rfl
  | cons w l ih =>
    have e : lg_sl ((w :: l).map (cv ρ)) = (if hwd w = 2 then [.val (cv ρ w), .second] else [.val (cv ρ w)]) ++ lg_sl (l.map (cv ρ)) := by
      simp [lg_sl, cv_cat]
    rw [e, List.length_append, ih]
    rcases w with z | z | r
    · simp [hwd, hent]; omega
    · simp [hwd, hent]; omega
    · simp [hwd, hent]; omega
theorem hpad_at (l : hLs) (n i : Nat) (v : AV) (h : (hpad l n).getD i none = some v) : l.getD i none = some v := by
  unfold hpad at h
  rw [List.getD_eq_getElem?_getD] at h ⊢
  by_cases hi : i < l.length
  · rw [List.getElem?_append_left hi] at h; exact h
  · rw [List.getElem?_append_right (by omega), List.getElem?_replicate] at h
    split at h <;> cases h
end RHO
