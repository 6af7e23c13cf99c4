/-! The class's servers: fields of a stat that are all ones. -/
section XONE
variable {fb : Bool} {d b n : Nat} {σ0 σ : hM} {W : qR} {R : rR} {f : Int → Int} {i k x z s e : Int} {l : List Int}
theorem ones_iff : ∀ m : Nat, seg f i m = List.replicate m 255 ↔ ∀ j : Int, 0 ≤ j → j < m → f (i + j) = 255 := fun m => by
  constructor
  · intro h j j0 j1
    have h2 := lg_seg f m i j j0 j1
    rw [h] at h2
    rw [← h2]
    unfold lg
    rw [List.getD_eq_getElem?_getD, List.getElem?_replicate, if_pos (by omega)]
    rfl
  · intro h
    refine seg_eq.mpr ⟨List.length_replicate, fun j j0 j1 => ?_⟩
    rw [h j j0 j1]
    unfold lg
    rw [List.getD_eq_getElem?_getD, List.getElem?_replicate, if_pos (by omega)]
    rfl
theorem nu_ones : ∀ m : Nat, (∀ j : Int, 0 ≤ j → j < m → 0 ≤ f (i + j) ∧ f (i + j) ≤ 255) → (nu f i m = 256 ^ m - 1 ↔ ∀ j : Int, 0 ≤ j → j < m → f (i + j) = 255)
  | 0, _ => ⟨fun _ j j0 j1 => by omega, fun _ => rfl⟩
  | m + 1, hb => by
    have ih := nu_ones m (fun j j0 j1 => hb j j0 (by omega))
    have hr := nu_rng (f := f) (i := i) m (fun j j1 => hb _ (by omega) (by omega))
    have h1 := hb m (by omega) (by omega)
    have e : nu f i (m + 1) = nu f i m + f (i + (m : Int)) * 256 ^ m := rfl
    have e2 : (256 : Int) ^ (m + 1) = 256 * 256 ^ m := by rw [Int.pow_succ, Int.mul_comm]
    have hc : (0 : Int) < 256 ^ m := Int.pow_pos (by decide)
    obtain ⟨c, hcc⟩ : ∃ c : Int, (256 : Int) ^ m = c := ⟨_, rfl⟩
    obtain ⟨v, hv⟩ : ∃ v, f (i + (m : Int)) = v := ⟨_, rfl⟩
    obtain ⟨w, hw⟩ : ∃ w, nu f i m = w := ⟨_, rfl⟩
    rw [hcc] at ih hr e e2 hc
    rw [hv] at h1 e
    rw [hw] at ih hr e
    rw [e, e2]
    constructor
    · intro h
      have hv2 : v = 255 := by
        apply Decidable.byContradiction
        intro q
        have : v * c ≤ 254 * c := Int.mul_le_mul_of_nonneg_right (by omega) (by omega)
        omega
      subst hv2
      have h3 := ih.mp (by omega)
      intro j j0 j1
      by_cases q : j < m
      · exact h3 j j0 q
      · rw [show j = (m : Int) by omega]
        exact hv
    · intro h
      have h3 := ih.mpr (fun j j0 j1 => h j j0 (by omega))
      have h4 : v = 255 := by rw [← hv]; exact h m (by omega) (by omega)
      subst h4
      omega
/-- all ones, as a number -/
theorem ones_nu {m : Nat} (hb : ∀ j : Int, 0 ≤ j → j < m → 0 ≤ f (i + j) ∧ f (i + j) ≤ 255) : seg f i m = List.replicate m 255 ↔ nu f i m = 256 ^ m - 1 := (ones_iff m).trans (nu_ones m hb).symm
theorem w64_ones (h : 0 ≤ x ∧ x < 18446744073709551616) : w64 x = -1 ↔ x = 18446744073709551615 := by
  obtain ⟨q, hq⟩ := w64_def x
  have hr := w64_rng x
  omega
/-- what a stat must not change -/
theorem wsO_iff (hb : ∀ j : Int, 15 ≤ j → j < 54 → 0 ≤ f j ∧ f j ≤ 255) : wsO f = 0 ↔ seg f 15 19 = List.replicate 19 255 ∧ seg f 38 8 = List.replicate 8 255 := by
  rw [ones_iff, ones_iff]
  have h8 := nu_rng (f := f) (i := 26) 8 (fun j _ => hb _ (by omega) (by omega))
  have a1 := nu_ones (f := f) (i := 42) 4 (fun j j0 j1 => hb _ (by omega) (by omega))
  have a2 := nu_ones (f := f) (i := 38) 4 (fun j j0 j1 => hb _ (by omega) (by omega))
  have a3 := nu_ones (f := f) (i := 26) 8 (fun j j0 j1 => hb _ (by omega) (by omega))
  have a4 := nu_ones (f := f) (i := 22) 4 (fun j j0 j1 => hb _ (by omega) (by omega))
  have a5 := nu_ones (f := f) (i := 21) 1 (fun j j0 j1 => hb _ (by omega) (by omega))
  have a6 := nu_ones (f := f) (i := 17) 4 (fun j j0 j1 => hb _ (by omega) (by omega))
  have a7 := nu_ones (f := f) (i := 15) 2 (fun j j0 j1 => hb _ (by omega) (by omega))
  have w8 := w64_ones h8
  rw [show (256 : Int) ^ 4 - 1 = 4294967295 from rfl] at a1 a2 a4 a6
  rw [show (256 : Int) ^ 8 - 1 = 18446744073709551615 from rfl] at a3
  rw [show (256 : Int) ^ 1 - 1 = 255 from rfl] at a5
  rw [show (256 : Int) ^ 2 - 1 = 65535 from rfl] at a7
  have e : wsO f = 0 ↔ nu f 42 4 = 4294967295 ∧ nu f 38 4 = 4294967295 ∧ w64 (nu f 26 8) = -1 ∧ nu f 22 4 = 4294967295 ∧ nu f 21 1 = 255 ∧ nu f 17 4 = 4294967295 ∧ nu f 15 2 = 65535 := by
    unfold wsO
    split <;> omega
  rw [e, w8, a1, a2, a3, a4, a5, a6, a7]
  constructor
  · rintro ⟨g1, g2, g3, g4, g5, g6, g7⟩
    refine ⟨fun j j0 j1 => ?_, fun j j0 j1 => ?_⟩
    · by_cases c1 : j < 2
      · exact g7 j j0 c1
      by_cases c2 : j < 6
      · have := g6 (j - 2) (by omega) (by omega)
        rw [show 17 + (j - 2) = 15 + j by omega] at this
        exact this
      by_cases c3 : j < 7
      · have := g5 (j - 6) (by omega) (by omega)
        rw [show 21 + (j - 6) = 15 + j by omega] at this
        exact this
      by_cases c4 : j < 11
      · have := g4 (j - 7) (by omega) (by omega)
        rw [show 22 + (j - 7) = 15 + j by omega] at this
        exact this
      · have := g3 (j - 11) (by omega) (by omega)
        rw [show 26 + (j - 11) = 15 + j by omega] at this
        exact this
    · by_cases c1 : j < 4
      · exact g2 j j0 c1
      · have := g1 (j - 4) (by omega) (by omega)
        rw [show 42 + (j - 4) = 38 + j by omega] at this
        exact this
  · rintro ⟨g1, g2⟩
    have p : ∀ o m : Int, 15 ≤ o → o + m ≤ 34 → ∀ j : Int, 0 ≤ j → j < m → f (o + j) = 255 := fun o m o0 o1 j j0 j1 => by
      have := g1 (o + j - 15) (by omega) (by omega)
      rw [show 15 + (o + j - 15) = o + j by omega] at this
      exact this
    refine ⟨fun j j0 j1 => ?_, fun j j0 j1 => g2 j j0 (by omega), p 26 8 (by decide) (by decide), p 22 4 (by decide) (by decide), p 21 1 (by decide) (by decide), p 17 4 (by decide) (by decide), p 15 2 (by decide) (by decide)⟩
    have := g2 (4 + j) (by omega) (by omega)
    rw [show 38 + (4 + j) = 42 + j by omega] at this
    exact this
end XONE
