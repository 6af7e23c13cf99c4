/-! A run that has not seen the script is a run with any script. -/
def ws (L : Nat) (xs : Nat → Int) (σ : hM) : hM := (σ.1, σ.2.1, (fun a => if a = 0 then some (Sum.inr (0, L)) else mT σ a), (fun a k => if a = 0 then xs k else mI σ a k), (fun a k => mR σ a k))
section WSS
variable {L : Nat} {xs : Nat → Int} {σ : hM}
theorem ws_T {a : Nat} (h : a ≠ 0) : mT (ws L xs σ) a = mT σ a := if_neg h
theorem ws_I {a k : Nat} (h : a ≠ 0) : mI (ws L xs σ) a k = mI σ a k := if_neg h
theorem ws_R {a k : Nat} : mR (ws L xs σ) a k = mR σ a k := rfl
theorem ws_sI {a k : Nat} {z : Int} (h : a ≠ 0) : sI (ws L xs σ) a k z = ws L xs (sI σ a k z) := by
  refine hM_ext rfl rfl (fun b => rfl) (fun b j => ?_) (fun b j => rfl)
  show (if b = a ∧ j = k then z else if b = 0 then xs j else mI σ b j) = if b = 0 then xs j else if b = a ∧ j = k then z else mI σ b j
  by_cases h1 : b = 0
  · rw [if_neg (fun e => h (by rw [← e.1, h1])), if_pos h1, if_pos h1]
  · rw [if_neg h1, if_neg h1]
theorem ws_sR {a k : Nat} {z : Option Nat} : sR (ws L xs σ) a k z = ws L xs (sR σ a k z) := hM_ext rfl rfl (fun b => rfl) (fun b j => rfl) (fun b j => rfl)
theorem ws_sN {sh : Nat ⊕ (Nat × Nat)} {w : Nat} (h : σ.1 ≠ 0) : sN (ws L xs σ) sh w = ws L xs (sN σ sh w) := by
  refine hM_ext rfl rfl (fun b => ?_) (fun b j => ?_) (fun b j => rfl)
  · show (if b = σ.1 then some sh else if b = 0 then some (Sum.inr (0, L)) else mT σ b) = if b = 0 then some (Sum.inr (0, L)) else if b = σ.1 then some sh else mT σ b
    by_cases h1 : b = 0
    · rw [if_neg (fun e => h (by rw [← e, h1])), if_pos h1, if_pos h1]
    · rw [if_neg h1, if_neg h1]
  · show (if b = σ.1 then 0 else if b = 0 then xs j else mI σ b j) = if b = 0 then xs j else if b = σ.1 then 0 else mI σ b j
    by_cases h1 : b = 0
    · rw [if_neg (fun e => h (by rw [← e, h1])), if_pos h1, if_pos h1]
    · rw [if_neg h1, if_neg h1]
theorem ws_hld {a k j : Nat} (h : a ≠ 0) : hld (ws L xs σ) k a j = hld σ k a j := by
  unfold hld
  rw [ws_I h]
  rfl
theorem ws_ne (h0 : mT σ 0 = none) {a : Nat} {sh : Nat ⊕ (Nat × Nat)} (h : mT σ a = some sh) : a ≠ 0 := fun e => by rw [e, h0] at h; cases h
theorem ws_O (h0 : mT σ 0 = none) {r : Option Nat} {c : Nat} (h : hIsO σ r c = true) : hIsO (ws L xs σ) r c = true := by
  obtain ⟨a, rfl, ha⟩ := hIsO_of h
  exact hIsO_some (by rw [ws_T (ws_ne h0 ha)]; exact ha)
theorem ws_A (h0 : mT σ 0 = none) {r : Option Nat} {ty : Nat} {j : Int} (h : hIsA σ r ty j = true) : hIsA (ws L xs σ) r ty j = true := by
  obtain ⟨a, t, len, rfl, ha, hk, h1, h2⟩ := hIsA_of h
  exact hIsA_some (by rw [ws_T (ws_ne h0 ha)]; exact ha) hk h1 h2
theorem hif_pos {α : Type} {b : Bool} {x : Option α} (h : b = true) : hif b x = x := if_pos h
def wsx (L : Nat) (xs : Nat → Int) (x : hNx ⊕ (hCl ⊕ Option AV)) : hNx ⊕ (hCl ⊕ Option AV) := match x with
  | Sum.inl (pc, ls, st, σ) => Sum.inl (pc, ls, st, ws L xs σ)
  | Sum.inr z => Sum.inr z
theorem hstep_ws {K d y nx : Nat} {E : Nat → AV} {op : hOp} {ls : hLs} {st : List AV} {x : hNx ⊕ (hCl ⊕ Option AV)} (hK : 1 ≤ K) (h0 : mT σ 0 = none) (hn : K ≤ σ.1) (h : hstep K E d y op nx ls st σ = some x) : hstep K E d y op nx ls st (ws L xs σ) = some (wsx L xs x) := by
  obtain ⟨o, i, b, tg⟩ := op
  by_cases o3 : o = 3
  · subst o3
    obtain ⟨v, e, rfl, hk⟩ := hs3 h
    simp only [hstep, e]
    rcases hk with ⟨rfl, z, rfl⟩ | ⟨rfl, z, rfl⟩ | ⟨rfl, z, rfl⟩ <;> rfl
  by_cases o5 : o = 5
  · subst o5
    obtain ⟨z, e, rfl⟩ := hs5 h
    simp only [hstep, e]
    rfl
  by_cases o24 : o = 24
  · subst o24
    obtain ⟨r, rest, rfl, g1, rfl⟩ := hs24 h
    have g2 := ws_O (L := L) (xs := xs) h0 g1
    obtain ⟨a, rfl, ha⟩ := hIsO_of g1
    simp only [hstep]
    rw [hif_pos g2]
    show some (Sum.inl (nx, ls, hld (ws L xs σ) _ a b.toNat :: rest, ws L xs σ)) = _
    rw [ws_hld (ws_ne h0 ha)]
    rfl
  by_cases o23 : o = 23
  · subst o23
    obtain ⟨u, r, rfl, rfl⟩ := hs23 h
    rfl
  by_cases o25 : o = 25
  · subst o25
    obtain ⟨v, r, rest, rfl, g1, gK, g3⟩ := hs25 h
    have g2 := ws_O (L := L) (xs := xs) h0 g1
    obtain ⟨a, rfl, ha⟩ := hIsO_of g1
    have hne := ws_ne h0 ha
    rcases g3 with ⟨z, rfl, hz, rfl⟩ | ⟨z, rfl, hz, rfl⟩ | ⟨z, rfl, hz, rfl⟩
    · simp only [hstep]
      rw [hif_pos (by rw [g2, decide_eq_true gK]; simpa using hz)]
      show some (Sum.inl (nx, ls, rest, sI (ws L xs σ) a b.toNat z)) = _
      rw [ws_sI hne]
      rfl
    · simp only [hstep]
      rw [hif_pos (by rw [g2, decide_eq_true gK]; simpa using hz)]
      show some (Sum.inl (nx, ls, rest, sI (ws L xs σ) a b.toNat z)) = _
      rw [ws_sI hne]
      rfl
    · simp only [hstep]
      rw [hif_pos (by rw [g2, decide_eq_true gK]; simpa using hz)]
      show some (Sum.inl (nx, ls, rest, sR (ws L xs σ) a b.toNat z)) = _
      rw [ws_sR]
      rfl
  by_cases o26 : o = 26
  · subst o26
    obtain ⟨j, r, rest, rfl, g1, rfl⟩ := hs26 h
    have g2 := ws_A (L := L) (xs := xs) h0 g1
    obtain ⟨a, t, len, rfl, ha, -⟩ := hIsA_of g1
    simp only [hstep]
    rw [hif_pos g2]
    show some (Sum.inl (nx, ls, hld (ws L xs σ) _ a j.toNat :: rest, ws L xs σ)) = _
    rw [ws_hld (ws_ne h0 ha)]
    rfl
  by_cases o27 : o = 27
  · subst o27
    obtain ⟨v, j, r, rest, rfl, g1, gK, g3⟩ := hs27 h
    have g2 := ws_A (L := L) (xs := xs) h0 g1
    obtain ⟨a, t, len, rfl, ha, -⟩ := hIsA_of g1
    have hne := ws_ne h0 ha
    rcases g3 with ⟨z, rfl, hz, rfl⟩ | ⟨z, rfl, hz, rfl⟩ | ⟨z, rfl, hz, hf, rfl⟩
    · simp only [hstep]
      rw [hif_pos (by rw [g2, decide_eq_true gK]; simpa [or_assoc] using hz)]
      show some (Sum.inl (nx, ls, rest, sI (ws L xs σ) a j.toNat _)) = _
      rw [ws_sI hne]
      rfl
    · simp only [hstep]
      rw [hif_pos (by rw [g2, decide_eq_true gK]; simpa using hz)]
      show some (Sum.inl (nx, ls, rest, sI (ws L xs σ) a j.toNat z)) = _
      rw [ws_sI hne]
      rfl
    · have hf2 : hFit (ws L xs σ) (some a) z = true := by
        rcases hFit_of ha hf with rfl | ⟨q, rfl, hq⟩
        · rfl
        · unfold hFit
          dsimp only [Option.getD_some]
          rw [ws_T hne, ha]
          dsimp only
          rw [ws_T (ws_ne h0 hq)]
          exact decide_eq_true hq
      simp only [hstep]
      rw [hif_pos (by rw [g2, decide_eq_true gK, hf2]; simpa using hz)]
      show some (Sum.inl (nx, ls, rest, sR (ws L xs σ) a j.toNat z)) = _
      rw [ws_sR]
      rfl
  by_cases o28 : o = 28
  · subst o28
    obtain ⟨r, rest, rfl, g1, rfl⟩ := hs28 h
    obtain ⟨a, t, len, rfl, ha, hl⟩ := hHas_of g1
    have e1 : hHas (ws L xs σ) (some a) = true := by unfold hHas; dsimp only; rw [ws_T (ws_ne h0 ha), ha]
    have e2 : hLen (ws L xs σ) (some a) = len := by unfold hLen; dsimp only; rw [ws_T (ws_ne h0 ha), ha]
    simp only [hstep]
    rw [hif_pos e1, e2, hl]
    rfl
  by_cases o29 : o = 29
  · subst o29
    have h : some (Sum.inl (nx, ls, vR (some σ.1) :: st, sN σ (Sum.inl i) b.toNat)) = some x := h
    cases h
    show some (Sum.inl (nx, ls, vR (some σ.1) :: st, sN (ws L xs σ) (Sum.inl i) b.toNat)) = _
    rw [ws_sN (by omega)]
    rfl
  by_cases o30 : o = 30
  · subst o30
    obtain ⟨z, rest, rfl, g1, g2, rfl⟩ := hs30 h
    simp only [hstep]
    rw [hif_pos (by rw [decide_eq_true g1, decide_eq_true g2]; rfl)]
    show some (Sum.inl (nx, ls, vR (some σ.1) :: rest, sN (ws L xs σ) (Sum.inr (i, z.toNat)) z.toNat)) = _
    rw [ws_sN (by omega)]
    rfl
  by_cases o31 : o = 31
  · subst o31
    obtain ⟨g1, g2, g3, g4, rfl⟩ := hs31 h
    simp only [hstep]
    rw [decide_eq_true g1, show (decide (((st.drop (hmN i)).map hwd).sum ≤ 8) || (decide (hmK i = 1) && decide (((st.drop (hmN i)).map hwd).sum ≤ 10))) = true by simp only [Bool.or_eq_true, Bool.and_eq_true, decide_eq_true_eq]; exact g2, decide_eq_true g3]
    rcases g4 with g4 | ⟨r, as, e, g4⟩
    · rw [decide_eq_true g4]; rfl
    · rw [e]
      dsimp only
      rw [ws_O (L := L) (xs := xs) h0 g4, Bool.or_true, ← e]
      rfl
  unfold hstep at h ⊢
  split at h
  all_goals first
    | (exfalso; rename_i heq; injection heq with heq; first | exact o3 heq | exact o5 heq | exact o23 heq | exact o24 heq | exact o25 heq | exact o26 heq | exact o27 heq | exact o28 heq | exact o29 heq | exact o30 heq | exact o31 heq)
    | skip
  all_goals (repeat' split at h)
  all_goals first
    | (cases h; done)
    | (cases h; rfl)
    | (obtain ⟨hb, h2⟩ := hif_some h; cases h2; exact (hif_pos hb).trans rfl)
theorem hstep_T0 {K d y nx : Nat} {E : Nat → AV} {op : hOp} {ls : hLs} {st : List AV} {pc1 : Nat} {ls1 : hLs} {st1 : List AV} {σ1 : hM} (hK : 1 ≤ K) (h0 : mT σ 0 = none) (hn : K ≤ σ.1) (h : hstep K E d y op nx ls st σ = some (Sum.inl (pc1, ls1, st1, σ1))) : mT σ1 0 = none ∧ K ≤ σ1.1 := by
  have hm := hstep_mono h
  refine ⟨?_, by omega⟩
  unfold hstep at h
  split at h
  all_goals (repeat' split at h)
  all_goals first
    | (cases h; done)
    | (obtain ⟨-, h2⟩ := hif_some h; cases h2; done)
    | (obtain ⟨-, h2⟩ := hif_some h; cases h2; first | exact h0 | exact (if_neg (by omega)).trans h0)
    | (cases h; first | exact h0 | exact (if_neg (by omega)).trans h0)
end WSS
theorem hx_ws {K : Nat} {E : Nat → AV} {T : Nat → Nat → Option (hOp × Nat)} (hK : 1 ≤ K) (L : Nat) (xs : Nat → Int) : ∀ (n d y pc : Nat) (ls : hLs) (st : List AV) (σ : hM) (r : Option AV) (σ1 : hM), mT σ 0 = none → K ≤ σ.1 → hx K E T n d y pc ls st σ = some (r, σ1) →
    hx K E T n d y pc ls st (ws L xs σ) = some (r, ws L xs σ1) ∧ mT σ1 0 = none ∧ K ≤ σ1.1 := by
  intro n
  induction n with
  | zero => intro d y pc ls st σ r σ1 h0 hn h; cases h
  | succ n ih =>
    intro d y pc ls st σ r σ1 h0 hn h
    unfold hx at h ⊢
    cases e : T y pc with
    | none => rw [e] at h; cases h
    | some w =>
      obtain ⟨op, nx⟩ := w
      rw [e] at h
      dsimp only at h ⊢
      cases e2 : hstep K E d y op nx ls st σ with
      | none => rw [e2] at h; cases h
      | some z =>
        rw [e2] at h
        rw [hstep_ws (L := L) (xs := xs) hK h0 hn e2]
        rcases z with ⟨pc1, la1, st1, σ2⟩ | ⟨y1, as, pc1, la1, st1⟩ | r1
        · dsimp only [wsx] at h ⊢
          have h3 := hstep_T0 hK h0 hn e2
          exact ih _ _ _ _ _ _ _ _ h3.1 h3.2 h
        · dsimp only [wsx] at h ⊢
          cases d with
          | zero => cases h
          | succ d1 =>
            dsimp only at h ⊢
            cases e3 : hx K E T n d1 y1 0 (hpad (hent as) (hmL y1)) [] σ with
            | none => rw [e3] at h; cases h
            | some w =>
              obtain ⟨rc, σ2⟩ := w
              rw [e3] at h
              obtain ⟨i1, i2, i3⟩ := ih _ _ _ _ _ _ _ _ h0 hn e3
              rw [i1]
              exact ih _ _ _ _ _ _ _ _ i2 i3 h
        · dsimp only [wsx] at h ⊢
          cases h
          exact ⟨rfl, h0, hn⟩
/-- out of a run by the kernel: a call's contract, with any script -/
theorem CL_lx {fb : Bool} {n d y : Nat} {as : List AV} {τ τ1 : tM} {r : Option AV} (L : Nat) (xs : Nat → Int) (h : lx hK (hE fb) hTab n d y 0 (hpad (hent as) (hmL y)) [] τ = some (r, τ1)) (h0 : mT (den τ) 0 = none) (hn : Nat.ble hK τ.1 = true) : CL fb d y as (ws L xs (den τ)) (fun r' σ' => r' = r ∧ σ' = ws L xs (den τ1)) :=
  ⟨n, r, _, (hx_ws (by decide) L xs _ _ _ _ _ _ _ _ _ h0 (Nat.le_of_ble_eq_true hn) (lx_hx _ _ _ _ _ _ _ _ _ h)).1, rfl, rfl⟩
