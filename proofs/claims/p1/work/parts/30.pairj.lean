/-! The first turn: every method and its fellow answer alike. Printed by wip/gen/pairs.py. -/
def PS (σ : hM) : Prop := σ.1 ≤ hK + 600000 ∧ σ.2.1 ≤ 7302250
/-- two methods, run one after the other by the kernel: they answer alike, and little is taken -/
def pairJ (fb : Bool) (y1 y2 m1 m2 : Nat) (as : List AV) (τ : tM) : Bool := match lx hK (hE fb) hTab 100000 21 y1 0 (hpad (hent (vR (some 128) :: as)) m1) [] τ with
  | some (some (Sum.inl v), τ1) => (match lx hK (hE fb) hTab 100000 21 y2 0 (hpad (hent (vR (some 2281) :: as)) m2) [] τ1 with
    | some (some (Sum.inl w), τ2) => decide (v = w) && (Nat.ble τ2.1 100000 && Nat.ble τ2.2.1 7000000)
    | _ => false)
  | _ => false
theorem pairJ_ok {fb : Bool} {y1 y2 m1 m2 : Nat} {as : List AV} {τ : tM} (L : Nat) (xs : Nat → Int) (hm1 : hmL y1 = m1) (hm2 : hmL y2 = m2) (hn : 2282 ≤ τ.1) (h0 : mT (den τ) 0 = none) (h1 : mT (den τ) 128 = some (Sum.inl 0)) (h2 : mT (den τ) 2281 = some (Sum.inl 17)) (h : pairJ fb y1 y2 m1 m2 as τ = true) : PairI fb y1 y2 as L xs (ws L xs (den τ)) PS := by
  unfold pairJ at h
  split at h
  · rename_i v1 τ1 e1
    split at h
    · rename_i w1 τ2 e2
      rw [Bool.and_eq_true, Bool.and_eq_true, decide_eq_true_eq] at h
      obtain ⟨hvw, hz1, hz2⟩ := h
      have hz1 := Nat.le_of_ble_eq_true hz1
      have hz2 := Nat.le_of_ble_eq_true hz2
      subst hvw
      have k1 := lx_hx _ _ _ _ _ _ _ _ _ e1
      have k2 := lx_hx _ _ _ _ _ _ _ _ _ e2
      have s1 := hx_sh _ _ _ _ _ _ _ _ _ k1
      have s2 := hx_sh _ _ _ _ _ _ _ _ _ k2
      have n1 : τ.1 ≤ τ1.1 := (hx_mono _ _ _ _ _ _ _ _ _ _ _ _ k1).1
      have n2 : τ1.1 ≤ τ2.1 := (hx_mono _ _ _ _ _ _ _ _ _ _ _ _ k2).1
      have b1 : ∀ a, a < 2282 → mT (den τ1) a = mT (den τ) a := fun a ha => s1 a (show a < τ.1 by omega)
      have b2 : ∀ a, a < 2282 → mT (den τ2) a = mT (den τ) a := fun a ha => (s2 a (show a < τ1.1 by omega)).trans (b1 a ha)
      refine ⟨v1, ?_⟩
      refine CL.mono (CL_lx (n := 100000) L xs (by rw [hm1]; exact e1) h0 (Nat.ble_eq.mpr (by show 128 ≤ _; omega))) ?_
      rintro _ _ ⟨rfl, rfl⟩
      refine ⟨rfl, scr_ws ((b1 _ (by omega)).trans h1) ((b1 _ (by omega)).trans h2), ?_⟩
      refine CL.mono (CL_lx (n := 100000) L xs (by rw [hm2]; exact e2) ((b1 0 (by omega)).trans h0) (Nat.ble_eq.mpr (by show 128 ≤ _; omega))) ?_
      rintro _ _ ⟨rfl, rfl⟩
      exact ⟨rfl, scr_ws ((b2 _ (by omega)).trans h1) ((b2 _ (by omega)).trans h2), show τ2.1 ≤ 128 + 600000 by omega, show τ2.2.1 ≤ 7302250 by omega⟩
    · cases h
  · cases h
