/-! What a step of mine says, taken apart. -/
theorem hif_some {α : Type} {b : Bool} {x : Option α} {y : α} (h : hif b x = some y) : b = true ∧ x = some y := by
  unfold hif at h
  split at h
  · rename_i hb; exact ⟨hb, h⟩
  · cases h
section HINV
variable {N0 d y nx k i a : Nat} {E : Nat → AV} {b : Int} {tg : List Int} {ls : hLs} {st : List AV} {σ : hM} {x : hNx ⊕ (hCl ⊕ Option AV)}
theorem hs3 (h : hstep N0 E d y (3, i, b, tg) nx ls st σ = some x) : ∃ v, ls.getD i none = some v ∧ x = .inl (nx, ls, v :: st, σ) ∧ ((b = 0 ∧ ∃ z, v = vI z) ∨ (b = 1 ∧ ∃ z, v = vL z) ∨ (b = 2 ∧ ∃ r, v = vR r)) := by
  simp only [hstep] at h
  split at h
  · rename_i z e; obtain ⟨h1, h2⟩ := hif_some h; exact ⟨_, e, (Option.some.inj h2).symm, Or.inl ⟨of_decide_eq_true h1, z, rfl⟩⟩
  · rename_i z e; obtain ⟨h1, h2⟩ := hif_some h; exact ⟨_, e, (Option.some.inj h2).symm, Or.inr (Or.inl ⟨of_decide_eq_true h1, z, rfl⟩)⟩
  · rename_i z e; obtain ⟨h1, h2⟩ := hif_some h; exact ⟨_, e, (Option.some.inj h2).symm, Or.inr (Or.inr ⟨of_decide_eq_true h1, z, rfl⟩)⟩
  · cases h
theorem hs4 (h : hstep N0 E d y (4, i, b, tg) nx ls st σ = some x) : ∃ v r, st = v :: r ∧ x = .inl (nx, hsto ls i v, r, σ) ∧ ((b = 0 ∧ ∃ z, v = vI z) ∨ (b = 1 ∧ ∃ z, v = vL z) ∨ (b = 2 ∧ ∃ r, v = vR r)) := by
  simp only [hstep] at h
  split at h
  · rename_i z r; obtain ⟨h1, h2⟩ := hif_some h; exact ⟨_, _, rfl, (Option.some.inj h2).symm, Or.inl ⟨of_decide_eq_true h1, z, rfl⟩⟩
  · rename_i z r; obtain ⟨h1, h2⟩ := hif_some h; exact ⟨_, _, rfl, (Option.some.inj h2).symm, Or.inr (Or.inl ⟨of_decide_eq_true h1, z, rfl⟩)⟩
  · rename_i z r; obtain ⟨h1, h2⟩ := hif_some h; exact ⟨_, _, rfl, (Option.some.inj h2).symm, Or.inr (Or.inr ⟨of_decide_eq_true h1, z, rfl⟩)⟩
  · cases h
theorem hs5 (h : hstep N0 E d y (5, i, b, tg) nx ls st σ = some x) : ∃ z, ls.getD i none = some (vI z) ∧ x = .inl (nx, hsto ls i (vI (w32 (z + b))), st, σ) := by
  simp only [hstep] at h
  split at h
  · rename_i z e; exact ⟨z, e, (Option.some.inj h).symm⟩
  · cases h
theorem hs6 (h : hstep N0 E d y (6, i, b, tg) nx ls st σ = some x) : ∃ v r, st = v :: r ∧ hwd v = 1 ∧ x = .inl (nx, ls, v :: v :: r, σ) := by
  simp only [hstep] at h
  split at h
  · obtain ⟨h1, h2⟩ := hif_some h; exact ⟨_, _, rfl, of_decide_eq_true h1, (Option.some.inj h2).symm⟩
  · cases h
theorem hs7 (h : hstep N0 E d y (7, i, b, tg) nx ls st σ = some x) : ∃ v r, st = v :: r ∧ hwd v = 1 ∧ x = .inl (nx, ls, r, σ) := by
  simp only [hstep] at h
  split at h
  · obtain ⟨h1, h2⟩ := hif_some h; exact ⟨_, _, rfl, of_decide_eq_true h1, (Option.some.inj h2).symm⟩
  · cases h
theorem hs8 (h : hstep N0 E d y (8, i, b, tg) nx ls st σ = some x) : ∃ u v r, st = u :: v :: r ∧ hwd u = 1 ∧ hwd v = 1 ∧ x = .inl (nx, ls, u :: v :: u :: v :: r, σ) := by
  simp only [hstep] at h
  split at h
  · obtain ⟨h1, h2⟩ := hif_some h
    rw [Bool.and_eq_true, decide_eq_true_eq, decide_eq_true_eq] at h1
    exact ⟨_, _, _, rfl, h1.1, h1.2, (Option.some.inj h2).symm⟩
  · cases h
theorem hs9 (h : hstep N0 E d y (9, i, b, tg) nx ls st σ = some x) : ∃ v r, st = v :: r ∧ hwd v = 2 ∧ x = .inl (nx, ls, r, σ) := by
  simp only [hstep] at h
  split at h
  · obtain ⟨h1, h2⟩ := hif_some h; exact ⟨_, _, rfl, of_decide_eq_true h1, (Option.some.inj h2).symm⟩
  · cases h
theorem hs10 (h : hstep N0 E d y (10, k, b, tg) nx ls st σ = some x) : ∃ v u r, st = vI v :: vI u :: r ∧ ¬ ((k = 3 ∨ k = 4) ∧ v = 0) ∧ x = .inl (nx, ls, vI (hIB k u v) :: r, σ) := by
  simp only [hstep] at h
  split at h
  · obtain ⟨h1, h2⟩ := hif_some h; exact ⟨_, _, _, rfl, of_decide_eq_true h1, (Option.some.inj h2).symm⟩
  · cases h
theorem hs11 (h : hstep N0 E d y (11, k, b, tg) nx ls st σ = some x) : ∃ v u r, st = vL v :: vL u :: r ∧ ¬ ((k = 3 ∨ k = 4) ∧ v = 0) ∧ x = .inl (nx, ls, vL (hLB k u v) :: r, σ) := by
  simp only [hstep] at h
  split at h
  · obtain ⟨h1, h2⟩ := hif_some h; exact ⟨_, _, _, rfl, of_decide_eq_true h1, (Option.some.inj h2).symm⟩
  · cases h
theorem hs12 (h : hstep N0 E d y (12, k, b, tg) nx ls st σ = some x) : ∃ v u r, st = vI v :: vL u :: r ∧ x = .inl (nx, ls, vL (hLH k u v) :: r, σ) := by
  simp only [hstep] at h
  split at h
  · exact ⟨_, _, _, rfl, (Option.some.inj h).symm⟩
  · cases h
theorem hs13 (h : hstep N0 E d y (13, k, b, tg) nx ls st σ = some x) : ∃ u r, st = vI u :: r ∧ x = .inl (nx, ls, vI (w32 (-u)) :: r, σ) := by
  simp only [hstep] at h
  split at h
  · exact ⟨_, _, rfl, (Option.some.inj h).symm⟩
  · cases h
theorem hs14 (h : hstep N0 E d y (14, k, b, tg) nx ls st σ = some x) : ∃ u r, st = vI u :: r ∧ x = .inl (nx, ls, vL u :: r, σ) := by
  simp only [hstep] at h
  split at h
  · exact ⟨_, _, rfl, (Option.some.inj h).symm⟩
  · cases h
theorem hs15 (h : hstep N0 E d y (15, k, b, tg) nx ls st σ = some x) : ∃ u r, st = vL u :: r ∧ x = .inl (nx, ls, vI (w32 u) :: r, σ) := by
  simp only [hstep] at h
  split at h
  · exact ⟨_, _, rfl, (Option.some.inj h).symm⟩
  · cases h
theorem hs16 (h : hstep N0 E d y (16, k, b, tg) nx ls st σ = some x) : ∃ u r, st = vI u :: r ∧ x = .inl (nx, ls, vI (sb8 u) :: r, σ) := by
  simp only [hstep] at h
  split at h
  · exact ⟨_, _, rfl, (Option.some.inj h).symm⟩
  · cases h
theorem hs35 (h : hstep N0 E d y (35, k, b, tg) nx ls st σ = some x) : ∃ u r, st = vI u :: r ∧ x = .inl (nx, ls, vI (ch16 u) :: r, σ) := by
  simp only [hstep] at h
  split at h
  · exact ⟨_, _, rfl, (Option.some.inj h).symm⟩
  · cases h
theorem hs17 (h : hstep N0 E d y (17, k, b, tg) nx ls st σ = some x) : ∃ v u r, st = vL v :: vL u :: r ∧ x = .inl (nx, ls, vI (cmp64 u v) :: r, σ) := by
  simp only [hstep] at h
  split at h
  · exact ⟨_, _, _, rfl, (Option.some.inj h).symm⟩
  · cases h
theorem hs18 (h : hstep N0 E d y (18, k, b, tg) nx ls st σ = some x) : ∃ u r, st = vI u :: r ∧ x = .inl (bif hcmpB k u 0 then b.toNat else nx, ls, r, σ) := by
  simp only [hstep] at h
  split at h
  · exact ⟨_, _, rfl, (Option.some.inj h).symm⟩
  · cases h
theorem hs19 (h : hstep N0 E d y (19, k, b, tg) nx ls st σ = some x) : ∃ v u r, st = vI v :: vI u :: r ∧ x = .inl (bif hcmpB k u v then b.toNat else nx, ls, r, σ) := by
  simp only [hstep] at h
  split at h
  · exact ⟨_, _, _, rfl, (Option.some.inj h).symm⟩
  · cases h
theorem hs20 (h : hstep N0 E d y (20, k, b, tg) nx ls st σ = some x) : ∃ q r, st = vR q :: r ∧ x = .inl (bif (q.isNone == (k == 0)) then b.toNat else nx, ls, r, σ) := by
  simp only [hstep] at h
  split at h
  · exact ⟨_, _, rfl, (Option.some.inj h).symm⟩
  · cases h
theorem hs21 (h : hstep N0 E d y (21, k, b, tg) nx ls st σ = some x) : ∃ q p r, st = vR q :: vR p :: r ∧ N0 ≤ q.getD N0 ∧ N0 ≤ p.getD N0 ∧ x = .inl (bif (decide (p = q) == (k == 0)) then b.toNat else nx, ls, r, σ) := by
  simp only [hstep] at h
  split at h
  · obtain ⟨h1, h2⟩ := hif_some h
    simp only [Bool.and_eq_true, decide_eq_true_eq] at h1
    exact ⟨_, _, _, rfl, h1.1, h1.2, (Option.some.inj h2).symm⟩
  · cases h
theorem hs23 (h : hstep N0 E d y (23, k, b, tg) nx ls st σ = some x) : ∃ u r, st = vI u :: r ∧ x = .inl (if u < b ∨ b + tg.length ≤ u then k else (tg.getD (u - b).toNat 0).toNat, ls, r, σ) := by
  simp only [hstep] at h
  split at h
  · exact ⟨_, _, rfl, (Option.some.inj h).symm⟩
  · cases h
theorem hs24 (h : hstep N0 E d y (24, k, b, tg) nx ls st σ = some x) : ∃ r rest, st = vR r :: rest ∧ hIsO σ r k = true ∧ x = .inl (nx, ls, hld σ (hFd k b.toNat).2.2.1 (r.getD 0) b.toNat :: rest, σ) := by
  simp only [hstep] at h
  split at h
  · obtain ⟨h1, h2⟩ := hif_some h; exact ⟨_, _, rfl, h1, (Option.some.inj h2).symm⟩
  · cases h
theorem hs25 (h : hstep N0 E d y (25, k, b, tg) nx ls st σ = some x) : ∃ v r rest, st = v :: vR r :: rest ∧ hIsO σ r k = true ∧ N0 ≤ r.getD 0 ∧
    ((∃ z, v = vI z ∧ ((hFd k b.toNat).2.2.1 = 0 ∨ (hFd k b.toNat).2.2.1 = 2 ∧ h01 z = true) ∧ x = .inl (nx, ls, rest, sI σ (r.getD 0) b.toNat z)) ∨ (∃ z, v = vL z ∧ (hFd k b.toNat).2.2.1 = 3 ∧ x = .inl (nx, ls, rest, sI σ (r.getD 0) b.toNat z)) ∨
      ∃ q, v = vR q ∧ (hFd k b.toNat).2.2.1 = 4 ∧ x = .inl (nx, ls, rest, sR σ (r.getD 0) b.toNat q)) := by
  simp only [hstep] at h
  split at h
  · obtain ⟨h1, h2⟩ := hif_some h
    simp only [Bool.and_eq_true, Bool.or_eq_true, decide_eq_true_eq] at h1
    exact ⟨_, _, _, rfl, h1.1.1, h1.1.2, Or.inl ⟨_, rfl, h1.2, (Option.some.inj h2).symm⟩⟩
  · obtain ⟨h1, h2⟩ := hif_some h
    simp only [Bool.and_eq_true, decide_eq_true_eq] at h1
    exact ⟨_, _, _, rfl, h1.1.1, h1.1.2, Or.inr (Or.inl ⟨_, rfl, h1.2, (Option.some.inj h2).symm⟩)⟩
  · obtain ⟨h1, h2⟩ := hif_some h
    simp only [Bool.and_eq_true, decide_eq_true_eq] at h1
    exact ⟨_, _, _, rfl, h1.1.1, h1.1.2, Or.inr (Or.inr ⟨_, rfl, h1.2, (Option.some.inj h2).symm⟩)⟩
  · cases h
theorem hs26 (h : hstep N0 E d y (26, k, b, tg) nx ls st σ = some x) : ∃ j r rest, st = vI j :: vR r :: rest ∧ hIsA σ r k j = true ∧ x = .inl (nx, ls, hld σ (if k = 10 then 4 else k) (r.getD 0) j.toNat :: rest, σ) := by
  simp only [hstep] at h
  split at h
  · obtain ⟨h1, h2⟩ := hif_some h; exact ⟨_, _, _, rfl, h1, (Option.some.inj h2).symm⟩
  · cases h
theorem hs27 (h : hstep N0 E d y (27, k, b, tg) nx ls st σ = some x) : ∃ v j r rest, st = v :: vI j :: vR r :: rest ∧ hIsA σ r k j = true ∧ N0 ≤ r.getD 0 ∧
    ((∃ z, v = vI z ∧ (k = 0 ∨ k = 1 ∨ k = 2 ∧ h01 z = true) ∧ x = .inl (nx, ls, rest, sI σ (r.getD 0) j.toNat (if k = 1 then sb8 z else z))) ∨ (∃ z, v = vL z ∧ k = 3 ∧ x = .inl (nx, ls, rest, sI σ (r.getD 0) j.toNat z)) ∨
      ∃ q, v = vR q ∧ k = 10 ∧ hFit σ r q = true ∧ x = .inl (nx, ls, rest, sR σ (r.getD 0) j.toNat q)) := by
  simp only [hstep] at h
  split at h
  · obtain ⟨h1, h2⟩ := hif_some h
    simp only [Bool.and_eq_true, Bool.or_eq_true, decide_eq_true_eq] at h1
    refine ⟨_, _, _, _, rfl, h1.1.1, h1.1.2, Or.inl ⟨_, rfl, ?_, (Option.some.inj h2).symm⟩⟩
    rcases h1.2 with (a | a) | a
    · exact Or.inl a
    · exact Or.inr (Or.inl a)
    · exact Or.inr (Or.inr a)
  · obtain ⟨h1, h2⟩ := hif_some h
    simp only [Bool.and_eq_true, decide_eq_true_eq] at h1
    exact ⟨_, _, _, _, rfl, h1.1.1, h1.1.2, Or.inr (Or.inl ⟨_, rfl, h1.2, (Option.some.inj h2).symm⟩)⟩
  · obtain ⟨h1, h2⟩ := hif_some h
    simp only [Bool.and_eq_true, decide_eq_true_eq] at h1
    exact ⟨_, _, _, _, rfl, h1.1.1.1, h1.1.1.2, Or.inr (Or.inr ⟨_, rfl, h1.1.2, h1.2, (Option.some.inj h2).symm⟩)⟩
  · cases h
theorem hs28 (h : hstep N0 E d y (28, k, b, tg) nx ls st σ = some x) : ∃ r rest, st = vR r :: rest ∧ hHas σ r = true ∧ x = .inl (nx, ls, vI (hLen σ r) :: rest, σ) := by
  simp only [hstep] at h
  split at h
  · obtain ⟨h1, h2⟩ := hif_some h; exact ⟨_, _, rfl, h1, (Option.some.inj h2).symm⟩
  · cases h
theorem hs30 (h : hstep N0 E d y (30, k, b, tg) nx ls st σ = some x) : ∃ z rest, st = vI z :: rest ∧ 0 ≤ z ∧ z ≤ 1000000 ∧ x = .inl (nx, ls, vR (some σ.1) :: rest, sN σ (Sum.inr (k, z.toNat)) z.toNat) := by
  simp only [hstep] at h
  split at h
  · obtain ⟨h1, h2⟩ := hif_some h
    simp only [Bool.and_eq_true, decide_eq_true_eq] at h1
    exact ⟨_, _, rfl, h1.1, h1.2, (Option.some.inj h2).symm⟩
  · cases h
theorem hs31 (h : hstep N0 E d y (31, k, b, tg) nx ls st σ = some x) : hmN k ≤ st.length ∧ (((st.drop (hmN k)).map hwd).sum ≤ 8 ∨ (hmK k = 1 ∧ ((st.drop (hmN k)).map hwd).sum ≤ 10)) ∧ (hent (st.take (hmN k)).reverse).length ≤ hmL k ∧ (hmK k = 0 ∨ ∃ r as, (st.take (hmN k)).reverse = vR r :: as ∧ hIsO σ r (hmO k) = true) ∧ x = .inr (.inl (k, (st.take (hmN k)).reverse, nx, ls, st.drop (hmN k))) := by
  simp only [hstep] at h
  obtain ⟨h1, h2⟩ := hif_some h
  simp only [Bool.and_eq_true, Bool.or_eq_true, decide_eq_true_eq] at h1
  refine ⟨h1.1.1.1, h1.1.1.2, h1.1.2, ?_, (Option.some.inj h2).symm⟩
  rcases h1.2 with a | a
  · exact Or.inl a
  · right
    split at a
    · rename_i r as e; exact ⟨r, as, e, a⟩
    · cases a
theorem hs32 (h : hstep N0 E d y (32, k, b, tg) nx ls st σ = some x) : ∃ o r, st = vR (some o) :: r ∧ 1 ≤ d ∧ (r.map hwd).sum ≤ 8 ∧ x = .inl (nx, ls, r, σ) := by
  simp only [hstep] at h
  split at h
  · obtain ⟨h1, h2⟩ := hif_some h
    simp only [Bool.and_eq_true, decide_eq_true_eq] at h1
    exact ⟨_, _, rfl, h1.1, h1.2, (Option.some.inj h2).symm⟩
  · cases h
theorem hs33 (h : hstep N0 E d y (33, k, b, tg) nx ls st σ = some x) : ∃ r : Option AV, x = .inr (.inr r) ∧ st = r.toList ∧
    ((r = none ∧ k = 0) ∨ (∃ z, r = some (vI z) ∧ (k = 1 ∨ k = 2 ∧ h01 z = true ∨ k = 5 ∧ -128 ≤ z ∧ z ≤ 127 ∨ k = 6 ∧ 0 ≤ z ∧ z ≤ 65535)) ∨ (∃ z, r = some (vL z) ∧ k = 3) ∨ ∃ q, r = some (vR q) ∧ k = 4) := by
  simp only [hstep] at h
  split at h
  · obtain ⟨h1, h2⟩ := hif_some h
    exact ⟨none, (Option.some.inj h2).symm, rfl, Or.inl ⟨rfl, of_decide_eq_true h1⟩⟩
  · obtain ⟨h1, h2⟩ := hif_some h
    simp only [Bool.and_eq_true, Bool.or_eq_true, decide_eq_true_eq] at h1
    refine ⟨some _, (Option.some.inj h2).symm, rfl, Or.inr (Or.inl ⟨_, rfl, ?_⟩)⟩
    rcases h1 with ((a | a) | a) | a
    · exact Or.inl a
    · exact Or.inr (Or.inl a)
    · exact Or.inr (Or.inr (Or.inl a))
    · exact Or.inr (Or.inr (Or.inr a))
  · obtain ⟨h1, h2⟩ := hif_some h
    exact ⟨some _, (Option.some.inj h2).symm, rfl, Or.inr (Or.inr (Or.inl ⟨_, rfl, of_decide_eq_true h1⟩))⟩
  · obtain ⟨h1, h2⟩ := hif_some h
    exact ⟨some _, (Option.some.inj h2).symm, rfl, Or.inr (Or.inr (Or.inr ⟨_, rfl, of_decide_eq_true h1⟩))⟩
  · cases h
end HINV
theorem hIsO_of {σ : hM} {r : Option Nat} {c : Nat} (h : hIsO σ r c = true) : ∃ a, r = some a ∧ mT σ a = some (Sum.inl c) := by
  unfold hIsO at h
  split at h
  · cases h
  · exact ⟨_, rfl, of_decide_eq_true h⟩
theorem hIsA_of {σ : hM} {r : Option Nat} {ty : Nat} {j : Int} (h : hIsA σ r ty j = true) : ∃ a t len, r = some a ∧ mT σ a = some (Sum.inr (t, len)) ∧ hak ty t = true ∧ 0 ≤ j ∧ j < len := by
  unfold hIsA at h
  split at h
  · cases h
  · split at h
    · rename_i e
      simp only [Bool.and_eq_true, decide_eq_true_eq] at h
      exact ⟨_, _, _, rfl, e, h.1, h.2.1, h.2.2⟩
    · cases h
theorem hHas_of {σ : hM} {r : Option Nat} (h : hHas σ r = true) : ∃ a t len, r = some a ∧ mT σ a = some (Sum.inr (t, len)) ∧ hLen σ r = len := by
  cases r with
  | none => cases h
  | some a =>
    cases e : mT σ a with
    | none => simp [hHas, e] at h
    | some q =>
      rcases q with q | ⟨t, len⟩
      · simp [hHas, e] at h
      · exact ⟨a, t, len, rfl, e, by simp [hLen, e]⟩
theorem hFit_of {σ : hM} {a t len : Nat} {v : Option Nat} (ha : mT σ a = some (Sum.inr (t, len))) (h : hFit σ (some a) v = true) : v = none ∨ ∃ b, v = some b ∧ mT σ b = some (Sum.inl (t - 10)) := by
  unfold hFit at h
  split at h
  · exact Or.inl rfl
  · simp only [Option.getD_some, ha] at h
    exact Or.inr ⟨_, rfl, of_decide_eq_true h⟩
