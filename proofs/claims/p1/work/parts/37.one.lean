/-! One call at most: the law's whole run. -/
theorem p1_run (fb : Bool) (L : Nat) (hL : L ≤ 5) (xs : Nat → Int) : ∃ n σ1, hx hK (hE fb) hTab n 22 hNM 0 (hpad (hent [vR (some 0)]) 4) [] (hσ0 L xs) = some (some (vI 1), σ1) ∧ σ1.1 ≤ hK + 600000 ∧ σ1.2.1 ≤ 7302250 := by
  have h : WP fb 22 423 0 (hpad (hent [vR (some 0)]) 4) [] (hσ0 L xs) (fun r σ => r = some (vI 1) ∧ PS σ) := by
    refine law_begin ?_
    by_cases h5 : L < 5
    · exact law_done scr_S2 (by omega) (by omega) (by omega) (by omega) ⟨rfl, ps_S2⟩
    · exact law_turn scr_S2 (by omega) (by omega) (by omega) pairs_S2 ps_S2 (fun σ2 hS hP => law_next (by omega) (by omega) (law_done hS (by omega) (by omega) (by omega) (by omega) ⟨rfl, hP⟩))
  obtain ⟨n, r, σ1, h1, rfl, h2⟩ := h
  exact ⟨n, σ1, h1, h2.1, h2.2⟩
