/-! A fid that isn't in use. -/
theorem T_334_0 : hTab 334 0 = some ((0, 0, 0, []), 1) := rfl
theorem T_334_1 : hTab 334 1 = some ((4, 2, 0, []), 2) := rfl
theorem T_334_2 : hTab 334 2 = some ((3, 2, 0, []), 3) := rfl
theorem T_334_3 : hTab 334 3 = some ((0, 0, 48, []), 5) := rfl
theorem T_334_5 : hTab 334 5 = some ((19, 3, Int.ofNat 27, []), 8) := rfl
theorem T_334_8 : hTab 334 8 = some ((3, 0, 2, []), 9) := rfl
theorem T_334_9 : hTab 334 9 = some ((3, 1, 0, []), 10) := rfl
theorem T_334_10 : hTab 334 10 = some ((0, 0, 0, []), 11) := rfl
theorem T_334_11 : hTab 334 11 = some ((3, 2, 0, []), 12) := rfl
theorem T_334_12 : hTab 334 12 = some ((14, 0, 0, []), 13) := rfl
theorem T_334_13 : hTab 334 13 = some ((31, 261, 0, []), 16) := rfl
theorem T_334_16 : hTab 334 16 = some ((18, 3, Int.ofNat 21, []), 19) := rfl
theorem T_334_19 : hTab 334 19 = some ((3, 2, 0, []), 20) := rfl
theorem T_334_20 : hTab 334 20 = some ((33, 1, 0, []), 21) := rfl
theorem T_334_21 : hTab 334 21 = some ((5, 2, 1, []), 24) := rfl
theorem T_334_24 : hTab 334 24 = some ((22, 0, Int.ofNat 2, []), 27) := rfl
theorem T_334_27 : hTab 334 27 = some ((0, 0, (-1), []), 28) := rfl
theorem T_334_28 : hTab 334 28 = some ((33, 1, 0, []), 29) := rfl
theorem mN_334 : hmN 334 = 2 := by decide +kernel
theorem mL_334 : hmL 334 = 3 := by decide +kernel
theorem mK_334 : hmK 334 = 1 := by decide +kernel
theorem mO_334 : hmO 334 = 17 := by decide +kernel
def nfR (P : qR) (s : Int) : Nat → Int → Int
  | 0, _ => -1
  | m + 1, n => if qFid P s 0 n < 0 then n else nfR P s m (n + 1)
def qNewF (P : qR) (s : Int) : Int := nfR P s 48 0
section MASK3
variable {fb : Bool} {d : Nat} {σ0 σ : hM} {P S S1 : qR} {T U s w : Int} {l : List Int}
theorem m_newFid_loop (hP : PM σ0 P S σ) (hs : 0 ≤ s ∧ s < 3) : ∀ (m : Nat) (n : Int), n + m = 48 → 0 ≤ n → WP fb (d + 3) 334 2 [some (vR (some 2281)), some (vI s), some (vI n)] [] σ (rP (nfR P s m n) σ) := by
  intro m
  induction m with
  | zero =>
    intro n h1 h2
    refine x_li (z := n) T_334_2 rfl ?_
    refine x_ic T_334_3 ?_
    refine x_ic2 T_334_5 (fun _ => ?_) (fun h => absurd (show 48 ≤ n by omega) h)
    refine x_ic T_334_27 ?_
    refine x_ri T_334_28 ?_
    exact ⟨rfl, rfl⟩
  | succ m ih =>
    intro n h1 h2
    obtain ⟨k, hk⟩ : ∃ k, qFid P s 0 n = k := ⟨_, rfl⟩
    rw [show nfR P s (m + 1) n = if k < 0 then n else nfR P s m (n + 1) by rw [← hk]; rfl]
    refine x_li (z := n) T_334_2 rfl ?_
    refine x_ic T_334_3 ?_
    refine x_ic2 T_334_5 (fun h => absurd (show 48 ≤ n from h) (by omega)) (fun _ => ?_)
    refine x_lr (z := some 2281) T_334_8 rfl ?_
    refine x_li (z := s) T_334_9 rfl ?_
    refine x_ic T_334_10 ?_
    refine x_li (z := n) T_334_11 rfl ?_
    refine x_i2l T_334_12 ?_
    refine x_cv4 T_334_13 mN_261 mL_261 (Nat.le_of_ble_eq_true rfl) mO_261 (PM.t hP) (Nat.le_of_ble_eq_true rfl) (CL_val (m_findFid hP (by omega) (by omega)) hk) ?_
    rintro _ σ ⟨rfl, rfl⟩
    refine cI ?_
    refine x_if T_334_16 (fun h16 => ?_) (fun h16 => ?_)
    · replace h16 : 0 ≤ k := h16
      refine x_inc (w := (n + 1)) (ls1 := [some (vR (some 2281)), some (vI s), some (vI (n + 1))]) T_334_21 rfl (w32_id (by omega) (by omega)) rfl ?_
      refine x_goto T_334_24 ?_
      rw [if_neg (by omega)]
      exact ih (n + 1) (by omega) (by omega)
    · replace h16 : ¬ (0 ≤ k) := h16
      refine x_li (z := n) T_334_19 rfl ?_
      refine x_ri T_334_20 ?_
      exact ⟨by rw [if_pos (by omega)], rfl⟩
theorem m_newFid (hP : PM σ0 P S σ) (hs : 0 ≤ s ∧ s < 3) : CL fb (d + 3) 334 [vR (some 2281), vI s] σ (rP (qNewF P s) σ) := by
  refine CL_in mL_334 rfl ?_
  show WP fb _ 334 0 [some (vR (some 2281)), some (vI s), none] [] σ _
  refine x_ic T_334_0 ?_
  refine x_si (ls1 := [some (vR (some 2281)), some (vI s), some (vI 0)]) T_334_1 rfl ?_
  exact m_newFid_loop (d := d) hP hs 48 0 (by decide) (by decide)
end MASK3
