/-! Users' names as the class keeps them. -/
theorem T_72_0 : hTab 72 0 = some ((3, 0, 0, []), 1) := rfl
theorem T_72_1 : hTab 72 1 = some ((18, 2, Int.ofNat 17, []), 4) := rfl
theorem T_72_4 : hTab 72 4 = some ((3, 0, 0, []), 5) := rfl
theorem T_72_5 : hTab 72 5 = some ((0, 0, 4, []), 6) := rfl
theorem T_72_6 : hTab 72 6 = some ((19, 3, Int.ofNat 17, []), 9) := rfl
theorem T_72_9 : hTab 72 9 = some ((34, 2, 0, []), 12) := rfl
theorem T_72_12 : hTab 72 12 = some ((3, 0, 0, []), 13) := rfl
theorem T_72_13 : hTab 72 13 = some ((26, 0, 0, []), 14) := rfl
theorem T_72_14 : hTab 72 14 = some ((22, 0, Int.ofNat 18, []), 17) := rfl
theorem T_72_18 : hTab 72 18 = some ((33, 1, 0, []), 19) := rfl
theorem mN_72 : hmN 72 = 1 := by decide +kernel
theorem mL_72 : hmL 72 = 1 := by decide +kernel
theorem mK_72 : hmK 72 = 0 := by decide +kernel
theorem mO_72 : hmO 72 = 0 := by decide +kernel
section XUSR
variable {fb : Bool} {d : Nat} {σ : hM} {u x : Int}
theorem s_user (hG : GX σ) (hu : 0 ≤ u ∧ u < 4) (hx : hUN.getD u.toNat 0 = x) : CL fb d 72 [vI u] σ (rP x σ) := by
  have h1 := hG.2.1.1
  have h2 := (hG.2.2 u.toNat (by omega)).1.trans hx
  refine CL_in mL_72 rfl ?_
  show WP fb d 72 0 [some (vI u)] [] σ _
  refine x_li T_72_0 rfl ?_
  refine x_if T_72_1 (fun h => absurd (show (_ : Int) < _ from h) (by omega)) (fun _ => ?_)
  refine x_li T_72_4 rfl ?_
  refine x_ic T_72_5 ?_
  refine x_ic2 T_72_6 (fun h => absurd (show (_ : Int) ≤ _ from h) (by omega)) (fun _ => ?_)
  refine x_sta T_72_9 rfl ?_
  refine x_li T_72_12 rfl ?_
  refine x_alI T_72_13 (by decide) h1 (by omega) (by omega) h2 ?_
  refine x_goto T_72_14 ?_
  refine x_ri T_72_18 ?_
  exact ⟨rfl, rfl⟩
theorem usrL_eq (hu : 0 ≤ u ∧ u < 4) : leb 2 3 ++ leb 3 (hUN.getD u.toNat 0) = usrL u := by
  have h : u = 0 ∨ u = 1 ∨ u = 2 ∨ u = 3 := by omega
  rcases h with rfl | rfl | rfl | rfl <;> decide
theorem hUN_rng (hu : 0 ≤ u ∧ u < 4) : 0 ≤ hUN.getD u.toNat 0 ∧ hUN.getD u.toNat 0 ≤ 16777215 := by
  have h : u = 0 ∨ u = 1 ∨ u = 2 ∨ u = 3 := by omega
  rcases h with rfl | rfl | rfl | rfl <;> decide
end XUSR
