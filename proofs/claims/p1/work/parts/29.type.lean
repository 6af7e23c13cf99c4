/-! Typing on a fresh object: two loops that write eight bytes at most. -/
theorem T_22_0 : hTab 22 0 = some ((3, 1, 1, []), 1) := rfl
theorem T_22_1 : hTab 22 1 = some ((4, 4, 1, []), 3) := rfl
theorem T_22_3 : hTab 22 3 = some ((0, 0, 0, []), 4) := rfl
theorem T_22_4 : hTab 22 4 = some ((4, 6, 0, []), 6) := rfl
theorem T_22_6 : hTab 22 6 = some ((3, 6, 0, []), 8) := rfl
theorem T_22_8 : hTab 22 8 = some ((3, 3, 0, []), 9) := rfl
theorem T_22_9 : hTab 22 9 = some ((19, 3, Int.ofNat 60, []), 12) := rfl
theorem T_22_12 : hTab 22 12 = some ((3, 0, 2, []), 13) := rfl
theorem T_22_13 : hTab 22 13 = some ((24, 2, Int.ofNat 1, []), 16) := rfl
theorem T_22_16 : hTab 22 16 = some ((3, 0, 2, []), 17) := rfl
theorem T_22_17 : hTab 22 17 = some ((24, 2, Int.ofNat 0, []), 20) := rfl
theorem T_22_20 : hTab 22 20 = some ((28, 0, 0, []), 21) := rfl
theorem T_22_21 : hTab 22 21 = some ((19, 3, Int.ofNat 60, []), 24) := rfl
theorem T_22_24 : hTab 22 24 = some ((3, 0, 2, []), 25) := rfl
theorem T_22_25 : hTab 22 25 = some ((24, 2, Int.ofNat 0, []), 28) := rfl
theorem T_22_28 : hTab 22 28 = some ((3, 0, 2, []), 29) := rfl
theorem T_22_29 : hTab 22 29 = some ((24, 2, Int.ofNat 1, []), 32) := rfl
theorem T_22_32 : hTab 22 32 = some ((3, 4, 1, []), 34) := rfl
theorem T_22_34 : hTab 22 34 = some ((15, 0, 0, []), 35) := rfl
theorem T_22_35 : hTab 22 35 = some ((16, 0, 0, []), 36) := rfl
theorem T_22_36 : hTab 22 36 = some ((27, 1, 0, []), 37) := rfl
theorem T_22_37 : hTab 22 37 = some ((3, 0, 2, []), 38) := rfl
theorem T_22_38 : hTab 22 38 = some ((6, 0, 0, []), 39) := rfl
theorem T_22_39 : hTab 22 39 = some ((24, 2, Int.ofNat 1, []), 42) := rfl
theorem T_22_42 : hTab 22 42 = some ((0, 0, 1, []), 43) := rfl
theorem T_22_43 : hTab 22 43 = some ((10, 0, 0, []), 44) := rfl
theorem T_22_44 : hTab 22 44 = some ((25, 2, Int.ofNat 1, []), 47) := rfl
theorem T_22_47 : hTab 22 47 = some ((3, 4, 1, []), 49) := rfl
theorem T_22_49 : hTab 22 49 = some ((0, 0, 8, []), 51) := rfl
theorem T_22_51 : hTab 22 51 = some ((12, 1, 0, []), 52) := rfl
theorem T_22_52 : hTab 22 52 = some ((4, 4, 1, []), 54) := rfl
theorem T_22_54 : hTab 22 54 = some ((5, 6, 1, []), 57) := rfl
theorem T_22_57 : hTab 22 57 = some ((22, 0, Int.ofNat 6, []), 60) := rfl
theorem T_22_60 : hTab 22 60 = some ((33, 0, 0, []), 61) := rfl
theorem T_95_0 : hTab 95 0 = some ((3, 3, 0, []), 1) := rfl
theorem T_95_1 : hTab 95 1 = some ((0, 0, 1, []), 2) := rfl
theorem T_95_2 : hTab 95 2 = some ((19, 2, Int.ofNat 11, []), 5) := rfl
theorem T_95_5 : hTab 95 5 = some ((3, 3, 0, []), 6) := rfl
theorem T_95_6 : hTab 95 6 = some ((0, 0, 8, []), 8) := rfl
theorem T_95_8 : hTab 95 8 = some ((19, 5, Int.ofNat 14, []), 11) := rfl
theorem T_95_11 : hTab 95 11 = some ((0, 0, (-100), []), 13) := rfl
theorem T_95_13 : hTab 95 13 = some ((33, 1, 0, []), 14) := rfl
theorem T_95_14 : hTab 95 14 = some ((3, 0, 2, []), 15) := rfl
theorem T_95_15 : hTab 95 15 = some ((24, 0, Int.ofNat 3, []), 18) := rfl
theorem T_95_18 : hTab 95 18 = some ((31, 28, 0, []), 21) := rfl
theorem T_95_21 : hTab 95 21 = some ((3, 3, 0, []), 22) := rfl
theorem T_95_22 : hTab 95 22 = some ((10, 0, 0, []), 23) := rfl
theorem T_95_23 : hTab 95 23 = some ((0, 0, 100, []), 25) := rfl
theorem T_95_25 : hTab 95 25 = some ((19, 5, Int.ofNat 31, []), 28) := rfl
theorem T_95_31 : hTab 95 31 = some ((3, 0, 2, []), 32) := rfl
theorem T_95_32 : hTab 95 32 = some ((24, 0, Int.ofNat 3, []), 35) := rfl
theorem T_95_35 : hTab 95 35 = some ((3, 1, 1, []), 36) := rfl
theorem T_95_36 : hTab 95 36 = some ((3, 3, 0, []), 37) := rfl
theorem T_95_37 : hTab 95 37 = some ((31, 22, 0, []), 40) := rfl
theorem T_95_40 : hTab 95 40 = some ((3, 0, 2, []), 41) := rfl
theorem T_95_41 : hTab 95 41 = some ((24, 0, Int.ofNat 3, []), 44) := rfl
theorem T_95_44 : hTab 95 44 = some ((31, 28, 0, []), 47) := rfl
theorem T_95_47 : hTab 95 47 = some ((33, 1, 0, []), 48) := rfl
theorem T_306_0 : hTab 306 0 = some ((3, 3, 0, []), 1) := rfl
theorem T_306_1 : hTab 306 1 = some ((14, 0, 0, []), 2) := rfl
theorem T_306_2 : hTab 306 2 = some ((1, 0, 1, []), 3) := rfl
theorem T_306_3 : hTab 306 3 = some ((1, 0, 8, []), 6) := rfl
theorem T_306_6 : hTab 306 6 = some ((31, 282, 0, []), 9) := rfl
theorem T_306_9 : hTab 306 9 = some ((18, 1, Int.ofNat 15, []), 12) := rfl
theorem T_306_12 : hTab 306 12 = some ((0, 0, (-100), []), 14) := rfl
theorem T_306_14 : hTab 306 14 = some ((33, 1, 0, []), 15) := rfl
theorem T_306_15 : hTab 306 15 = some ((3, 0, 2, []), 16) := rfl
theorem T_306_16 : hTab 306 16 = some ((24, 17, Int.ofNat 103, []), 19) := rfl
theorem T_306_19 : hTab 306 19 = some ((3, 3, 0, []), 20) := rfl
theorem T_306_20 : hTab 306 20 = some ((10, 0, 0, []), 21) := rfl
theorem T_306_21 : hTab 306 21 = some ((0, 0, 100, []), 23) := rfl
theorem T_306_23 : hTab 306 23 = some ((19, 5, Int.ofNat 29, []), 26) := rfl
theorem T_306_29 : hTab 306 29 = some ((0, 0, 0, []), 30) := rfl
theorem T_306_30 : hTab 306 30 = some ((4, 4, 0, []), 32) := rfl
theorem T_306_32 : hTab 306 32 = some ((3, 4, 0, []), 34) := rfl
theorem T_306_34 : hTab 306 34 = some ((3, 3, 0, []), 35) := rfl
theorem T_306_35 : hTab 306 35 = some ((19, 3, Int.ofNat 75, []), 38) := rfl
theorem T_306_38 : hTab 306 38 = some ((3, 0, 2, []), 39) := rfl
theorem T_306_39 : hTab 306 39 = some ((24, 17, Int.ofNat 102, []), 42) := rfl
theorem T_306_42 : hTab 306 42 = some ((3, 0, 2, []), 43) := rfl
theorem T_306_43 : hTab 306 43 = some ((24, 17, Int.ofNat 103, []), 46) := rfl
theorem T_306_46 : hTab 306 46 = some ((3, 1, 1, []), 47) := rfl
theorem T_306_47 : hTab 306 47 = some ((0, 0, 8, []), 49) := rfl
theorem T_306_49 : hTab 306 49 = some ((3, 4, 0, []), 51) := rfl
theorem T_306_51 : hTab 306 51 = some ((10, 2, 0, []), 52) := rfl
theorem T_306_52 : hTab 306 52 = some ((12, 1, 0, []), 53) := rfl
theorem T_306_53 : hTab 306 53 = some ((1, 0, 255, []), 56) := rfl
theorem T_306_56 : hTab 306 56 = some ((11, 5, 0, []), 57) := rfl
theorem T_306_57 : hTab 306 57 = some ((15, 0, 0, []), 58) := rfl
theorem T_306_58 : hTab 306 58 = some ((27, 0, 0, []), 59) := rfl
theorem T_306_59 : hTab 306 59 = some ((3, 0, 2, []), 60) := rfl
theorem T_306_60 : hTab 306 60 = some ((6, 0, 0, []), 61) := rfl
theorem T_306_61 : hTab 306 61 = some ((24, 17, Int.ofNat 103, []), 64) := rfl
theorem T_306_64 : hTab 306 64 = some ((0, 0, 1, []), 65) := rfl
theorem T_306_65 : hTab 306 65 = some ((10, 0, 0, []), 66) := rfl
theorem T_306_66 : hTab 306 66 = some ((25, 17, Int.ofNat 103, []), 69) := rfl
theorem T_306_69 : hTab 306 69 = some ((5, 4, 1, []), 72) := rfl
theorem T_306_72 : hTab 306 72 = some ((22, 0, Int.ofNat 32, []), 75) := rfl
theorem T_306_75 : hTab 306 75 = some ((3, 0, 2, []), 76) := rfl
theorem T_306_76 : hTab 306 76 = some ((24, 17, Int.ofNat 103, []), 79) := rfl
theorem T_306_79 : hTab 306 79 = some ((33, 1, 0, []), 80) := rfl
theorem F_0_3 : (hFd 0 3).2.2.1 = 4 := rfl
theorem F_17_102 : (hFd 17 102).2.2.1 = 4 := rfl
theorem F_17_103 : (hFd 17 103).2.2.1 = 0 := rfl
theorem mN_22 : hmN 22 = 3 := by decide +kernel
theorem mL_22 : hmL 22 = 7 := by decide +kernel
theorem mK_22 : hmK 22 = 1 := by decide +kernel
theorem mO_22 : hmO 22 = 2 := by decide +kernel
/-- what writes to two objects leave -/
def Wr (a ra : Nat) (σ0 σ : hM) : Prop := (∀ b, mT σ b = mT σ0 b) ∧ (∀ b k, mR σ b k = mR σ0 b k) ∧ (∀ b k, b ≠ a → b ≠ ra → mI σ b k = mI σ0 b k) ∧ σ.1 = σ0.1 ∧ σ.2.1 = σ0.2.1
section TYPE
variable {fb : Bool} {d L : Nat} {xs : Nat → Int} {σ σ0 : hM}
theorem Wr.refl {a ra : Nat} : Wr a ra σ σ := ⟨fun _ => rfl, fun _ _ => rfl, fun _ _ _ _ => rfl, rfl, rfl⟩
theorem Wr.w1 {a ra k : Nat} {z : Int} (h : Wr a ra σ0 σ) : Wr a ra σ0 (sI σ a k z) := ⟨h.1, h.2.1, fun b j h1 h2 => by rw [mI_sI, if_neg (fun e => h1 e.1)]; exact h.2.2.1 b j h1 h2, h.2.2.2.1, h.2.2.2.2⟩
theorem Wr.w2 {a ra k : Nat} {z : Int} (h : Wr a ra σ0 σ) : Wr a ra σ0 (sI σ ra k z) := ⟨h.1, h.2.1, fun b j h1 h2 => by rw [mI_sI, if_neg (fun e => h2 e.1)]; exact h.2.2.1 b j h1 h2, h.2.2.2.1, h.2.2.2.2⟩
theorem c_put_loop {a ra : Nat} {s n w t : Int} (ho : mT σ0 a = some (Sum.inl 2)) (hr : mR σ0 a 0 = some ra) (hra : mT σ0 ra = some (Sum.inr (1, 100))) (ha : hK ≤ a) (hb : hK ≤ ra) (hne : a ≠ ra) (h0 : 0 ≤ s) (hn : 0 ≤ n ∧ n ≤ 8) (h1 : s + n ≤ 100) (ht : s + n = t) {Q : Option AV → hM → Prop} (hQ : ∀ σ', Wr a ra σ0 σ' → mI σ' a 1 = t → Q none σ') : ∀ (m : Nat) (i v : Int) (σ : hM), i + m = n → 0 ≤ i → Wr a ra σ0 σ → mI σ a 1 = s + i → WP fb d 22 6 [some (vR (some a)), some (vL w), none, some (vI n), some (vL v), none, some (vI i)] [] σ Q := by
  intro m
  induction m with
  | zero =>
    intro i v σ hi hi0 hw hs
    refine x_li T_22_6 rfl ?_
    refine x_li T_22_8 rfl ?_
    refine x_ic2 T_22_9 (fun _ => ?_) (fun h => absurd (show (_ : Int) ≤ _ by omega) h)
    refine x_rv T_22_60 ?_
    exact hQ σ hw (by rw [hs]; omega)
  | succ m ih =>
    intro i v σ hi hi0 hw hs
    have ho1 := (hw.1 a).trans ho
    have hr1 := (hw.2.1 a 0).trans hr
    have hra1 := (hw.1 ra).trans hra
    refine x_li T_22_6 rfl ?_
    refine x_li T_22_8 rfl ?_
    refine x_ic2 T_22_9 (fun h => absurd (show (_ : Int) ≤ _ from h) (by omega)) (fun _ => ?_)
    refine x_lr T_22_12 rfl ?_
    refine x_gI T_22_13 (Or.inl F_2_1) ho1 hs ?_
    refine x_lr T_22_16 rfl ?_
    refine x_gR T_22_17 F_2_0 ho1 hr1 ?_
    refine x_len T_22_20 hra1 ?_
    refine x_ic2 T_22_21 (fun h => absurd (show (_ : Int) ≤ _ from h) (by omega)) (fun _ => ?_)
    refine x_lr T_22_24 rfl ?_
    refine x_gR T_22_25 F_2_0 ho1 hr1 ?_
    refine x_lr T_22_28 rfl ?_
    refine x_gI T_22_29 (Or.inl F_2_1) ho1 hs ?_
    refine x_ll T_22_32 rfl ?_
    refine x_l2i T_22_34 rfl ?_
    refine x_i2b T_22_35 rfl ?_
    refine x_asB T_22_36 hra1 (by assumption) (by omega) (by omega) (sb8_sb8 _) ?_
    refine x_lr T_22_37 rfl ?_
    refine x_dupR T_22_38 ?_
    refine x_gI T_22_39 (Or.inl F_2_1) ho1 (show mI (sI σ ra _ _) a 1 = s + i by rw [mI_sI, if_neg (fun e => hne e.1)]; exact hs) ?_
    refine x_ic T_22_42 ?_
    refine x_ib T_22_43 (fun h => absurd h.1 (by decide)) (w32_id (by omega) (by omega)) ?_
    refine x_pI T_22_44 F_2_1 ho1 (by assumption) ?_
    refine x_ll T_22_47 rfl ?_
    refine x_ic T_22_49 ?_
    refine x_lh T_22_51 rfl ?_
    refine x_sl T_22_52 rfl ?_
    refine x_inc T_22_54 rfl (w32_id (by omega) (by omega)) rfl ?_
    refine x_goto T_22_57 ?_
    exact ih (i + 1) _ _ (by omega) (by omega) hw.w2.w1 (by rw [mI_sI, if_pos ⟨rfl, rfl⟩]; omega)
theorem c_put {a ra : Nat} {s n w t : Int} (ho : mT σ a = some (Sum.inl 2)) (hr : mR σ a 0 = some ra) (hra : mT σ ra = some (Sum.inr (1, 100))) (hs : mI σ a 1 = s) (ha : hK ≤ a) (hb : hK ≤ ra) (hne : a ≠ ra) (h0 : 0 ≤ s) (hn : 0 ≤ n ∧ n ≤ 8) (h1 : s + n ≤ 100) (ht : s + n = t) : CL fb d 22 [vR (some a), vL w, vI n] σ (fun r σ' => r = none ∧ Wr a ra σ σ' ∧ mI σ' a 1 = t) := by
  refine CL_in mL_22 rfl ?_
  show WP fb d 22 0 [some (vR (some a)), some (vL w), none, some (vI n), none, none, none] [] σ _
  refine x_ll T_22_0 rfl ?_
  refine x_sl T_22_1 rfl ?_
  refine x_ic T_22_3 ?_
  refine x_si T_22_4 rfl ?_
  exact c_put_loop ho hr hra ha hb hne h0 hn h1 ht (fun σ' h2 h3 => ⟨rfl, h2, h3⟩) n.toNat 0 w σ (by omega) (by omega) Wr.refl (by rw [hs]; omega)
theorem q_x_type_bad {w n : Int} (h : ¬ (1 ≤ n ∧ n ≤ 8)) : CL fb (d + 3) 95 [vR (some 128), vL w, vI n] (S2 L xs) (fun r σ' => r = some (vI (-100)) ∧ σ' = S2 L xs) := by
  refine CL_in mL_95 rfl ?_
  show WP fb (d + 3) 95 0 [some (vR (some 128)), some (vL w), none, some (vI n)] [] (S2 L xs) _
  by_cases h0 : n < 1
  · skip
    refine x_li T_95_0 rfl ?_
    refine x_ic T_95_1 ?_
    refine x_ic2 T_95_2 (fun _ => ?_) (fun h => absurd (show (_ : Int) < _ by omega) h)
    refine x_ic T_95_11 ?_
    refine x_ri T_95_13 ?_
    exact ⟨rfl, rfl⟩
  · skip
    refine x_li T_95_0 rfl ?_
    refine x_ic T_95_1 ?_
    refine x_ic2 T_95_2 (fun h => absurd (show (_ : Int) < _ from h) (by omega)) (fun _ => ?_)
    refine x_li T_95_5 rfl ?_
    refine x_ic T_95_6 ?_
    refine x_ic2 T_95_8 (fun h => absurd (show (_ : Int) ≤ _ from h) (by omega)) (fun _ => ?_)
    refine x_ic T_95_11 ?_
    refine x_ri T_95_13 ?_
    exact ⟨rfl, rfl⟩
theorem q_x_type {w n : Int} (h : 1 ≤ n ∧ n ≤ 8) : CL fb (d + 3) 95 [vR (some 128), vL w, vI n] (S2 L xs) (fun r σ' => r = some (vI n) ∧ Wr 2275 2276 (S2 L xs) σ') := by
  refine CL_in mL_95 rfl ?_
  show WP fb (d + 3) 95 0 [some (vR (some 128)), some (vL w), none, some (vI n)] [] (S2 L xs) _
  refine x_li T_95_0 rfl ?_
  refine x_ic T_95_1 ?_
  refine x_ic2 T_95_2 (fun h => absurd (show (_ : Int) < _ from h) (by omega)) (fun _ => ?_)
  refine x_li T_95_5 rfl ?_
  refine x_ic T_95_6 ?_
  refine x_ic2 T_95_8 (fun _ => ?_) (fun h => absurd (show (_ : Int) ≤ _ by omega) h)
  refine x_lr T_95_14 rfl ?_
  refine x_gR T_95_15 F_0_3 (fT (by decide +kernel)) (fR (z := some 2275) (by decide +kernel)) ?_
  refine x_cv1 T_95_18 mN_28 mL_28 (Nat.le_of_ble_eq_true rfl) mO_28 (fT (by decide +kernel)) (Nat.le_of_ble_eq_true rfl) (c_size (s := 0) (fT (by decide +kernel)) (fI (by decide +kernel))) ?_
  rintro _ _ ⟨rfl, rfl⟩
  refine cI ?_
  refine x_li T_95_21 rfl ?_
  refine x_ib T_95_22 (fun h => absurd h.1 (by decide)) (w32_id (by omega) (by omega)) ?_
  refine x_ic T_95_23 ?_
  refine x_ic2 T_95_25 (fun _ => ?_) (fun h => absurd (show (_ : Int) ≤ _ by omega) h)
  refine x_lr T_95_31 rfl ?_
  refine x_gR T_95_32 F_0_3 (fT (by decide +kernel)) (fR (z := some 2275) (by decide +kernel)) ?_
  refine x_ll T_95_35 rfl ?_
  refine x_li T_95_36 rfl ?_
  refine x_cv3 T_95_37 mN_22 mL_22 (Nat.le_of_ble_eq_true rfl) mO_22 (fT (by decide +kernel)) (Nat.le_of_ble_eq_true rfl) (c_put (a := 2275) (ra := 2276) (s := 0) (t := n) (fT (by decide +kernel)) (fR (by decide +kernel)) (fT (by decide +kernel)) (fI (by decide +kernel)) (by decide) (by decide) (by decide) (by omega) (by omega) (by omega) (by omega)) ?_
  rintro _ σ1 ⟨rfl, hw, hs⟩
  refine cV ?_
  refine x_lr T_95_40 rfl ?_
  refine x_gR T_95_41 F_0_3 ((hw.1 _).trans (fT (by decide +kernel))) ((hw.2.1 _ _).trans (fR (z := some 2275) (by decide +kernel))) ?_
  refine x_cv1 T_95_44 mN_28 mL_28 (Nat.le_of_ble_eq_true rfl) mO_28 ((hw.1 _).trans (fT (by decide +kernel))) (Nat.le_of_ble_eq_true rfl) (c_size ((hw.1 _).trans (fT (by decide +kernel))) hs) ?_
  rintro _ _ ⟨rfl, rfl⟩
  refine cI ?_
  refine x_ri T_95_47 ?_
  exact ⟨rfl, hw⟩
theorem m_type_loop {n w : Int} (ho : mT σ0 2281 = some (Sum.inl 17)) (hr : mR σ0 2281 102 = some 2363) (hra : mT σ0 2363 = some (Sum.inr (0, 100))) (hn : 0 ≤ n ∧ n ≤ 8) {Q : Option AV → hM → Prop} (hQ : ∀ σ', Wr 2281 2363 σ0 σ' → Q (some (vI n)) σ') : ∀ (m : Nat) (i : Int) (σ : hM), i + m = n → 0 ≤ i → Wr 2281 2363 σ0 σ → mI σ 2281 103 = i → WP fb d 306 32 [some (vR (some 2281)), some (vL w), none, some (vI n), some (vI i)] [] σ Q := by
  intro m
  induction m with
  | zero =>
    intro i σ hi hi0 hw hs
    have ho1 := (hw.1 2281).trans ho
    refine x_li T_306_32 rfl ?_
    refine x_li T_306_34 rfl ?_
    refine x_ic2 T_306_35 (fun _ => ?_) (fun h => absurd (show (_ : Int) ≤ _ by omega) h)
    refine x_lr T_306_75 rfl ?_
    refine x_gI T_306_76 (Or.inl F_17_103) ho1 hs ?_
    refine x_ri T_306_79 ?_
    rw [show i = n by omega]; exact hQ σ hw
  | succ m ih =>
    intro i σ hi hi0 hw hs
    have ho1 := (hw.1 2281).trans ho
    have hr1 := (hw.2.1 2281 102).trans hr
    have hra1 := (hw.1 2363).trans hra
    refine x_li T_306_32 rfl ?_
    refine x_li T_306_34 rfl ?_
    refine x_ic2 T_306_35 (fun h => absurd (show (_ : Int) ≤ _ from h) (by omega)) (fun _ => ?_)
    refine x_lr T_306_38 rfl ?_
    refine x_gR T_306_39 F_17_102 ho1 hr1 ?_
    refine x_lr T_306_42 rfl ?_
    refine x_gI T_306_43 (Or.inl F_17_103) ho1 hs ?_
    refine x_ll T_306_46 rfl ?_
    refine x_ic T_306_47 ?_
    refine x_li T_306_49 rfl ?_
    refine x_ib T_306_51 (fun h => absurd h.1 (by decide)) (w32_id (by omega) (by omega)) ?_
    refine x_lh T_306_52 rfl ?_
    refine x_lc T_306_53 ?_
    refine x_lb T_306_56 (fun h => absurd h.1 (by decide)) rfl ?_
    refine x_l2i T_306_57 rfl ?_
    refine x_asI T_306_58 hra1 (by decide) (by omega) (by omega) ?_
    refine x_lr T_306_59 rfl ?_
    refine x_dupR T_306_60 ?_
    refine x_gI T_306_61 (Or.inl F_17_103) ho1 (show mI (sI σ 2363 _ _) 2281 103 = i by rw [mI_sI, if_neg (fun e => absurd e.1 (by decide))]; exact hs) ?_
    refine x_ic T_306_64 ?_
    refine x_ib T_306_65 (fun h => absurd h.1 (by decide)) (w32_id (by omega) (by omega)) ?_
    refine x_pI T_306_66 F_17_103 ho1 (by decide) ?_
    refine x_inc T_306_69 rfl (w32_id (by omega) (by omega)) rfl ?_
    refine x_goto T_306_72 ?_
    exact ih (i + 1) _ (by omega) (by omega) hw.w2.w1 (by rw [mI_sI, if_pos ⟨rfl, rfl⟩])
theorem q_m_type_bad {w n : Int} (h : ¬ (1 ≤ n ∧ n ≤ 8)) : CL fb (d + 3) 306 [vR (some 2281), vL w, vI n] σ (fun r σ' => r = some (vI (-100)) ∧ σ' = σ) := by
  refine CL_in mL_306 rfl ?_
  show WP fb (d + 3) 306 0 [some (vR (some 2281)), some (vL w), none, some (vI n), none] [] σ _
  refine x_li T_306_0 rfl ?_
  refine x_i2l T_306_1 ?_
  refine x_lc T_306_2 ?_
  refine x_lc T_306_3 ?_
  refine x_cs3 T_306_6 mN_282 mL_282 (Nat.le_of_ble_eq_true rfl) mK_282 (Nat.le_of_ble_eq_true rfl) (m_in) ?_
  rintro _ σ1 ⟨rfl, e1⟩
  subst σ1
  rw [if_neg (by omega)]
  refine cI ?_
  refine x_if T_306_9 (fun h => absurd (show ¬ (_ : Int) = _ from h) (by decide)) (fun _ => ?_)
  refine x_ic T_306_12 ?_
  refine x_ri T_306_14 ?_
  exact ⟨rfl, rfl⟩
theorem q_m_type {w n : Int} (h : 1 ≤ n ∧ n ≤ 8) (ho : mT σ 2281 = some (Sum.inl 17)) (hr : mR σ 2281 102 = some 2363) (hra : mT σ 2363 = some (Sum.inr (0, 100))) (hs : mI σ 2281 103 = 0) : CL fb (d + 3) 306 [vR (some 2281), vL w, vI n] σ (fun r σ' => r = some (vI n) ∧ Wr 2281 2363 σ σ') := by
  refine CL_in mL_306 rfl ?_
  show WP fb (d + 3) 306 0 [some (vR (some 2281)), some (vL w), none, some (vI n), none] [] σ _
  refine x_li T_306_0 rfl ?_
  refine x_i2l T_306_1 ?_
  refine x_lc T_306_2 ?_
  refine x_lc T_306_3 ?_
  refine x_cs3 T_306_6 mN_282 mL_282 (Nat.le_of_ble_eq_true rfl) mK_282 (Nat.le_of_ble_eq_true rfl) (m_in) ?_
  rintro _ σ1 ⟨rfl, e1⟩
  subst σ1
  rw [if_pos (by omega)]
  refine cI ?_
  refine x_if T_306_9 (fun _ => ?_) (fun h => absurd (show ¬ (_ : Int) = _ by decide) h)
  refine x_lr T_306_15 rfl ?_
  refine x_gI T_306_16 (Or.inl F_17_103) ho hs ?_
  refine x_li T_306_19 rfl ?_
  refine x_ib T_306_20 (fun h => absurd h.1 (by decide)) (w32_id (by omega) (by omega)) ?_
  refine x_ic T_306_21 ?_
  refine x_ic2 T_306_23 (fun _ => ?_) (fun h => absurd (show (_ : Int) ≤ _ by omega) h)
  refine x_ic T_306_29 ?_
  refine x_si T_306_30 rfl ?_
  exact m_type_loop ho hr hra (by omega) (fun σ' h2 => ⟨rfl, h2⟩) n.toNat 0 σ (by omega) (by omega) Wr.refl hs
end TYPE
