/-! Runs keep what stands; pairs checked by the kernel. -/
theorem hstep_sh {K d y nx : Nat} {E : Nat → AV} {op : hOp} {ls : hLs} {st : List AV} {σ : hM} {pc1 : Nat} {ls1 : hLs} {st1 : List AV} {σ1 : hM} (h : hstep K E d y op nx ls st σ = some (Sum.inl (pc1, ls1, st1, σ1))) (a : Nat) (ha : a < σ.1) : mT σ1 a = mT σ a := by
  unfold hstep at h
  split at h
  all_goals (repeat' split at h)
  all_goals first
    | (cases h; done)
    | (obtain ⟨-, h2⟩ := hif_some h; cases h2; done)
    | (obtain ⟨-, h2⟩ := hif_some h; cases h2; first | rfl | exact if_neg (by omega))
    | (cases h; first | rfl | exact if_neg (by omega))
theorem hx_sh {K : Nat} {E : Nat → AV} {T : Nat → Nat → Option (hOp × Nat)} : ∀ (n d y pc : Nat) (ls : hLs) (st : List AV) (σ : hM) (r : Option AV) (σ1 : hM), hx K E T n d y pc ls st σ = some (r, σ1) → ∀ a, a < σ.1 → mT σ1 a = mT σ a := by
  intro n
  induction n with
  | zero => intro d y pc ls st σ r σ1 h; cases h
  | succ n ih =>
    intro d y pc ls st σ r σ1 h a ha
    unfold hx at h
    split at h
    · cases h
    · split at h
      · cases h
      · rename_i e
        have h1 := hstep_mono e
        rw [ih _ _ _ _ _ _ _ _ h a (by omega), hstep_sh e a ha]
      · split at h
        · cases h
        · split at h
          · cases h
          · rename_i e
            have h1 := hx_mono _ _ _ _ _ _ _ _ _ _ _ _ e
            rw [ih _ _ _ _ _ _ _ _ h a (by omega), ih _ _ _ _ _ _ _ _ e a ha]
      · cases h
        rfl
/-- two methods, run one after the other by the kernel: they answer alike -/
def pairI (fb : Bool) (y1 y2 m1 m2 : Nat) (as : List AV) (τ : tM) : Option Int := match lx hK (hE fb) hTab 100000 21 y1 0 (hpad (hent (vR (some 128) :: as)) m1) [] τ with
  | some (some (Sum.inl v), τ1) => (match lx hK (hE fb) hTab 100000 21 y2 0 (hpad (hent (vR (some 2281) :: as)) m2) [] τ1 with
    | some (some (Sum.inl w), _) => if v = w then some v else none
    | _ => none)
  | _ => none
theorem scr_ws {L : Nat} {xs : Nat → Int} {τ : tM} (h1 : mT (den τ) 128 = some (Sum.inl 0)) (h2 : mT (den τ) 2281 = some (Sum.inl 17)) : Scr L xs (ws L xs (den τ)) := ⟨rfl, fun _ => rfl, (ws_T (by decide)).trans h1, (ws_T (by decide)).trans h2⟩
theorem pairI_ok {fb : Bool} {y1 y2 m1 m2 : Nat} {as : List AV} {τ : tM} {v : Int} (L : Nat) (xs : Nat → Int) (hm1 : hmL y1 = m1) (hm2 : hmL y2 = m2) (hn : 2282 ≤ τ.1) (h0 : mT (den τ) 0 = none) (h1 : mT (den τ) 128 = some (Sum.inl 0)) (h2 : mT (den τ) 2281 = some (Sum.inl 17)) (h : pairI fb y1 y2 m1 m2 as τ = some v) : PairI fb y1 y2 as L xs (ws L xs (den τ)) (fun _ => True) := by
  unfold pairI at h
  split at h
  · rename_i v1 τ1 e1
    split at h
    · rename_i w1 τ2 e2
      split at h
      · rename_i hvw
        subst hvw
        have k1 := lx_hx _ _ _ _ _ _ _ _ _ e1
        have k2 := lx_hx _ _ _ _ _ _ _ _ _ e2
        have s1 := hx_sh _ _ _ _ _ _ _ _ _ k1
        have s2 := hx_sh _ _ _ _ _ _ _ _ _ k2
        have n1 : τ.1 ≤ τ1.1 := (hx_mono _ _ _ _ _ _ _ _ _ _ _ _ k1).1
        have n2 : τ1.1 ≤ τ2.1 := (hx_mono _ _ _ _ _ _ _ _ _ _ _ _ k2).1
        have b1 : ∀ a, a < 2282 → mT (den τ1) a = mT (den τ) a := fun a ha => s1 a (show a < τ.1 by omega)
        have b2 : ∀ a, a < 2282 → mT (den τ2) a = mT (den τ) a := fun a ha => (s2 a (show a < τ1.1 by omega)).trans (b1 a ha)
        refine ⟨v1, ?_⟩
        refine CL.mono (CL_lx (n := 100000) L xs (by rw [hm1]; exact e1) h0 (Nat.ble_eq.mpr (by show 128 ≤ _; omega))) ?_
        rintro _ _ ⟨rfl, rfl⟩
        refine ⟨rfl, scr_ws ((b1 _ (by omega)).trans h1) ((b1 _ (by omega)).trans h2), ?_⟩
        refine CL.mono (CL_lx (n := 100000) L xs (by rw [hm2]; exact e2) ((b1 0 (by omega)).trans h0) (Nat.ble_eq.mpr (by show 128 ≤ _; omega))) ?_
        rintro _ _ ⟨rfl, rfl⟩
        exact ⟨rfl, scr_ws ((b2 _ (by omega)).trans h1) ((b2 _ (by omega)).trans h2), trivial⟩
      · cases h
    · cases h
  · cases h
