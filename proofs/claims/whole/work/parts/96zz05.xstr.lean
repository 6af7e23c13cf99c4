/-! Strings that the class holds: their length, their signs. -/
theorem T_13_0 : hTab 13 0 = some ((3, 0, 2, []), 1) := rfl
theorem T_13_1 : hTab 13 1 = some ((24, 10, Int.ofNat 0, []), 4) := rfl
theorem T_13_4 : hTab 13 4 = some ((28, 0, 0, []), 5) := rfl
theorem T_13_5 : hTab 13 5 = some ((3, 0, 2, []), 6) := rfl
theorem T_13_6 : hTab 13 6 = some ((31, 14, 0, []), 9) := rfl
theorem T_13_9 : hTab 13 9 = some ((10, 9, 0, []), 10) := rfl
theorem T_13_10 : hTab 13 10 = some ((33, 1, 0, []), 11) := rfl
theorem T_14_0 : hTab 14 0 = some ((34, 0, 0, []), 3) := rfl
theorem T_14_3 : hTab 14 3 = some ((18, 0, Int.ofNat 13, []), 6) := rfl
theorem T_14_6 : hTab 14 6 = some ((3, 0, 2, []), 7) := rfl
theorem T_14_7 : hTab 14 7 = some ((24, 10, Int.ofNat 1, []), 10) := rfl
theorem T_14_10 : hTab 14 10 = some ((22, 0, Int.ofNat 14, []), 13) := rfl
theorem T_14_14 : hTab 14 14 = some ((33, 5, 0, []), 15) := rfl
theorem T_15_0 : hTab 15 0 = some ((3, 0, 2, []), 1) := rfl
theorem T_15_1 : hTab 15 1 = some ((31, 16, 0, []), 4) := rfl
theorem T_15_4 : hTab 15 4 = some ((18, 0, Int.ofNat 16, []), 7) := rfl
theorem T_15_7 : hTab 15 7 = some ((3, 0, 2, []), 8) := rfl
theorem T_15_8 : hTab 15 8 = some ((24, 10, Int.ofNat 0, []), 11) := rfl
theorem T_15_11 : hTab 15 11 = some ((3, 1, 0, []), 12) := rfl
theorem T_15_12 : hTab 15 12 = some ((31, 17, 0, []), 15) := rfl
theorem T_15_15 : hTab 15 15 = some ((33, 6, 0, []), 16) := rfl
theorem T_16_0 : hTab 16 0 = some ((34, 0, 0, []), 3) := rfl
theorem T_16_3 : hTab 16 3 = some ((18, 0, Int.ofNat 17, []), 6) := rfl
theorem T_16_6 : hTab 16 6 = some ((3, 0, 2, []), 7) := rfl
theorem T_16_7 : hTab 16 7 = some ((24, 10, Int.ofNat 1, []), 10) := rfl
theorem T_16_10 : hTab 16 10 = some ((18, 1, Int.ofNat 17, []), 13) := rfl
theorem T_16_13 : hTab 16 13 = some ((0, 0, 1, []), 14) := rfl
theorem T_16_14 : hTab 16 14 = some ((22, 0, Int.ofNat 18, []), 17) := rfl
theorem T_16_18 : hTab 16 18 = some ((33, 2, 0, []), 19) := rfl
theorem T_17_0 : hTab 17 0 = some ((3, 1, 0, []), 1) := rfl
theorem T_17_1 : hTab 17 1 = some ((3, 0, 2, []), 2) := rfl
theorem T_17_2 : hTab 17 2 = some ((28, 0, 0, []), 3) := rfl
theorem T_17_3 : hTab 17 3 = some ((31, 18, 0, []), 6) := rfl
theorem T_17_6 : hTab 17 6 = some ((3, 0, 2, []), 7) := rfl
theorem T_17_7 : hTab 17 7 = some ((3, 1, 0, []), 8) := rfl
theorem T_17_8 : hTab 17 8 = some ((26, 1, 0, []), 9) := rfl
theorem T_17_9 : hTab 17 9 = some ((0, 0, 255, []), 12) := rfl
theorem T_17_12 : hTab 17 12 = some ((10, 5, 0, []), 13) := rfl
theorem T_17_13 : hTab 17 13 = some ((35, 0, 0, []), 14) := rfl
theorem T_17_14 : hTab 17 14 = some ((33, 6, 0, []), 15) := rfl
theorem T_18_0 : hTab 18 0 = some ((3, 0, 0, []), 1) := rfl
theorem T_18_1 : hTab 18 1 = some ((3, 1, 0, []), 2) := rfl
theorem T_18_2 : hTab 18 2 = some ((34, 1, 0, []), 5) := rfl
theorem T_18_5 : hTab 18 5 = some ((31, 19, 0, []), 8) := rfl
theorem T_18_8 : hTab 18 8 = some ((7, 0, 0, []), 9) := rfl
theorem T_18_9 : hTab 18 9 = some ((33, 0, 0, []), 10) := rfl
theorem T_19_0 : hTab 19 0 = some ((3, 0, 0, []), 1) := rfl
theorem T_19_1 : hTab 19 1 = some ((18, 2, Int.ofNat 9, []), 4) := rfl
theorem T_19_4 : hTab 19 4 = some ((3, 0, 0, []), 5) := rfl
theorem T_19_5 : hTab 19 5 = some ((3, 1, 0, []), 6) := rfl
theorem T_19_6 : hTab 19 6 = some ((19, 2, Int.ofNat 16, []), 9) := rfl
theorem T_19_16 : hTab 19 16 = some ((3, 0, 0, []), 17) := rfl
theorem T_19_17 : hTab 19 17 = some ((33, 1, 0, []), 18) := rfl
theorem F_10_0 : (hFd 10 0).2.2.1 = 4 := rfl
theorem F_10_1 : (hFd 10 1).2.2.1 = 1 := rfl
theorem mN_13 : hmN 13 = 1 := by decide +kernel
theorem mL_13 : hmL 13 = 1 := by decide +kernel
theorem mK_13 : hmK 13 = 1 := by decide +kernel
theorem mO_13 : hmO 13 = 10 := by decide +kernel
theorem mN_14 : hmN 14 = 1 := by decide +kernel
theorem mL_14 : hmL 14 = 1 := by decide +kernel
theorem mK_14 : hmK 14 = 1 := by decide +kernel
theorem mO_14 : hmO 14 = 10 := by decide +kernel
theorem mN_15 : hmN 15 = 2 := by decide +kernel
theorem mL_15 : hmL 15 = 2 := by decide +kernel
theorem mK_15 : hmK 15 = 1 := by decide +kernel
theorem mO_15 : hmO 15 = 10 := by decide +kernel
theorem mN_16 : hmN 16 = 1 := by decide +kernel
theorem mL_16 : hmL 16 = 1 := by decide +kernel
theorem mK_16 : hmK 16 = 1 := by decide +kernel
theorem mO_16 : hmO 16 = 10 := by decide +kernel
theorem mN_17 : hmN 17 = 2 := by decide +kernel
theorem mL_17 : hmL 17 = 2 := by decide +kernel
theorem mK_17 : hmK 17 = 0 := by decide +kernel
theorem mO_17 : hmO 17 = 11 := by decide +kernel
theorem mN_18 : hmN 18 = 2 := by decide +kernel
theorem mL_18 : hmL 18 = 2 := by decide +kernel
theorem mK_18 : hmK 18 = 0 := by decide +kernel
theorem mO_18 : hmO 18 = 10 := by decide +kernel
theorem mN_19 : hmN 19 = 3 := by decide +kernel
theorem mL_19 : hmL 19 = 3 := by decide +kernel
theorem mK_19 : hmK 19 = 0 := by decide +kernel
theorem mO_19 : hmO 19 = 12 := by decide +kernel
section XSTR
variable {fb : Bool} {d j : Nat} {σ0 σ : hM} {W : qR} {R : rR} {n k x : Int} {r : Option Nat}
theorem PX.gx (hP : PX σ0 W R σ) : GX σ := by
  obtain ⟨h1, h3, h4, h5, hg, h7⟩ := hP
  have key : ∀ b, b < 128 → mT σ b = mT σ0 b ∧ (∀ k, mI σ b k = mI σ0 b k) ∧ ∀ k, mR σ b k = mR σ0 b k := fun b hb => h7 b (by
    unfold inX
    rw [show Nat.ble 128 b = false from Bool.eq_false_iff.mpr (fun e => by have := Nat.le_of_ble_eq_true e; omega), show Nat.ble 2372 b = false from Bool.eq_false_iff.mpr (fun e => by have := Nat.le_of_ble_eq_true e; omega)]
    rfl)
  obtain ⟨g1, ⟨g2, g3⟩, g4⟩ := hg
  refine ⟨fun j hj => ?_, ⟨(key 2 (by decide)).1.trans g2, (key 3 (by decide)).1.trans g3⟩, fun k hk => ⟨((key 2 (by decide)).2.1 k).trans (g4 k hk).1, ((key 3 (by decide)).2.1 k).trans (g4 k hk).2⟩⟩
  obtain ⟨a1, a2, a3, a4, a5⟩ := g1 j hj
  have c1 := key (4 + 2 * j) (by omega)
  have c2 := key (5 + 2 * j) (by omega)
  exact ⟨c1.1.trans a1, (c1.2.2 0).trans a2, (c1.2.1 1).trans a3, c2.1.trans a4, fun k hk => (c2.2.1 k).trans (a5 k hk)⟩
theorem shr32_0 (h : -2147483648 ≤ n ∧ n ≤ 2147483647) : shr32 n 0 = n := by
  rw [shr32_n (n := 0) (by decide) (by decide), w32_id h.1 h.2]
  show n / 1 = n
  omega
theorem ch16_id (h : 0 ≤ x ∧ x ≤ 255) : ch16 x = x := by
  have key : ∀ n : Fin 256, ch16 ((n.val : Nat) : Int) = ((n.val : Nat) : Int) := by decide +kernel
  have := key ⟨x.toNat, by omega⟩
  rw [show ((x.toNat : Nat) : Int) = x by omega] at this
  exact this
/-- all signs are of ASCII, all texts short -/
theorem sTx_ok : ∀ j < 58, hTl j ≤ 20 ∧ ∀ k < hTl j, 0 ≤ (hTb.getD j []).getD k 0 ∧ (hTb.getD j []).getD k 0 ≤ 127 := by decide +kernel
theorem s_coder (hG : GX σ) (hj : j < 58) : CL fb d 14 [vR (some (4 + 2 * j))] σ (rP 0 σ) := by
  obtain ⟨h1, h2, h3, h4, h5⟩ := hG.1 j hj
  refine CL_in mL_14 rfl ?_
  show WP fb d 14 0 [some (vR (some (4 + 2 * j)))] [] σ _
  refine x_sta T_14_0 rfl ?_
  refine x_if T_14_3 (fun h => absurd (show (_ : Int) = _ from h) (by decide)) (fun _ => ?_)
  refine x_lr T_14_6 rfl ?_
  refine x_gI T_14_7 (Or.inr (Or.inr F_10_1)) h1 h3 ?_
  refine x_goto T_14_10 ?_
  refine x_rb T_14_14 (by omega) (by omega) ?_
  exact ⟨rfl, rfl⟩
theorem s_latin (hG : GX σ) (hj : j < 58) : CL fb d 16 [vR (some (4 + 2 * j))] σ (rP 1 σ) := by
  obtain ⟨h1, h2, h3, h4, h5⟩ := hG.1 j hj
  refine CL_in mL_16 rfl ?_
  show WP fb d 16 0 [some (vR (some (4 + 2 * j)))] [] σ _
  refine x_sta T_16_0 rfl ?_
  refine x_if T_16_3 (fun h => absurd (show (_ : Int) = _ from h) (by decide)) (fun _ => ?_)
  refine x_lr T_16_6 rfl ?_
  refine x_gI T_16_7 (Or.inr (Or.inr F_10_1)) h1 h3 ?_
  refine x_if T_16_10 (fun h => absurd (show ¬ (_ : Int) = _ from h) (by decide)) (fun _ => ?_)
  refine x_ic T_16_13 ?_
  refine x_goto T_16_14 ?_
  refine x_rz T_16_18 rfl ?_
  exact ⟨rfl, rfl⟩
theorem s_len (hG : GX σ) (hj : j < 58) (hn : (hTl j : Int) = n) : CL fb (d + 1) 13 [vR (some (4 + 2 * j))] σ (rP n σ) := by
  obtain ⟨h1, h2, h3, h4, h5⟩ := hG.1 j hj
  have hb := (sTx_ok j hj).1
  refine CL_in mL_13 rfl ?_
  show WP fb (d + 1) 13 0 [some (vR (some (4 + 2 * j)))] [] σ _
  refine x_lr T_13_0 rfl ?_
  refine x_gR T_13_1 F_10_0 h1 h2 ?_
  refine x_len T_13_4 h4 ?_
  rw [hn]
  refine x_lr T_13_5 rfl ?_
  refine x_cv1 T_13_6 mN_14 mL_14 (Nat.le_of_ble_eq_true rfl) mO_14 h1 (Nat.le_of_ble_eq_true rfl) (s_coder hG hj) ?_
  rintro _ _ ⟨rfl, rfl⟩
  refine cI ?_
  refine x_ib T_13_9 (fun h => absurd h.1 (by decide)) (shr32_0 (by omega)) ?_
  refine x_ri T_13_10 ?_
  exact ⟨rfl, rfl⟩
theorem s_pre (hk : 0 ≤ k ∧ k < n) : CL fb d 19 [vI k, vI n, vR r] σ (rP k σ) := by
  refine CL_in mL_19 rfl ?_
  show WP fb d 19 0 [some (vI k), some (vI n), some (vR r)] [] σ _
  refine x_li T_19_0 rfl ?_
  refine x_if T_19_1 (fun h => absurd (show (_ : Int) < _ from h) (by omega)) (fun _ => ?_)
  refine x_li T_19_4 rfl ?_
  refine x_li T_19_5 rfl ?_
  refine x_ic2 T_19_6 (fun _ => ?_) (fun h => absurd (show (_ : Int) < _ by omega) h)
  refine x_li T_19_16 rfl ?_
  refine x_ri T_19_17 ?_
  exact ⟨rfl, rfl⟩
theorem s_chk (hk : 0 ≤ k ∧ k < n) : CL fb (d + 1) 18 [vI k, vI n] σ (fun r σ' => r = none ∧ σ' = σ) := by
  refine CL_in mL_18 rfl ?_
  show WP fb (d + 1) 18 0 [some (vI k), some (vI n)] [] σ _
  cases fb
  · skip
    refine x_li T_18_0 rfl ?_
    refine x_li T_18_1 rfl ?_
    refine x_sta T_18_2 (show hE false 1 = vR none from rfl) ?_
    refine x_cs3 T_18_5 mN_19 mL_19 (Nat.le_of_ble_eq_true rfl) mK_19 (Nat.le_of_ble_eq_true rfl) (s_pre hk) ?_
    rintro _ _ ⟨rfl, rfl⟩
    refine cI ?_
    refine x_popI T_18_8 ?_
    refine x_rv T_18_9 ?_
    exact ⟨rfl, rfl⟩
  · skip
    refine x_li T_18_0 rfl ?_
    refine x_li T_18_1 rfl ?_
    refine x_sta T_18_2 (show hE true 1 = vR (some 1) from rfl) ?_
    refine x_cs3 T_18_5 mN_19 mL_19 (Nat.le_of_ble_eq_true rfl) mK_19 (Nat.le_of_ble_eq_true rfl) (s_pre hk) ?_
    rintro _ _ ⟨rfl, rfl⟩
    refine cI ?_
    refine x_popI T_18_8 ?_
    refine x_rv T_18_9 ?_
    exact ⟨rfl, rfl⟩
theorem s_char1 (hG : GX σ) (hj : j < 58) (hk : 0 ≤ k ∧ k < (hTl j : Int)) (hx : (hTb.getD j []).getD k.toNat 0 = x) : CL fb (d + 2) 17 [vR (some (5 + 2 * j)), vI k] σ (rP x σ) := by
  obtain ⟨h1, h2, h3, h4, h5⟩ := hG.1 j hj
  have hb := (sTx_ok j hj).2 k.toNat (by omega)
  have h6 := (h5 k.toNat (by omega)).trans hx
  rw [hx] at hb
  refine CL_in mL_17 rfl ?_
  show WP fb (d + 2) 17 0 [some (vR (some (5 + 2 * j))), some (vI k)] [] σ _
  refine x_li T_17_0 rfl ?_
  refine x_lr T_17_1 rfl ?_
  refine x_len T_17_2 h4 ?_
  refine x_cs2 T_17_3 mN_18 mL_18 (Nat.le_of_ble_eq_true rfl) mK_18 (Nat.le_of_ble_eq_true rfl) (s_chk hk) ?_
  rintro _ _ ⟨rfl, rfl⟩
  refine cV ?_
  refine x_lr T_17_6 rfl ?_
  refine x_li T_17_7 rfl ?_
  refine x_alI T_17_8 (by decide) h4 (by omega) (by omega) h6 ?_
  refine x_ic T_17_9 ?_
  refine x_ib T_17_12 (fun h => absurd h.1 (by decide)) ((and32_255 x).trans (Int.emod_eq_of_lt (by omega) (by omega))) ?_
  refine x_i2c T_17_13 (ch16_id (by omega)) ?_
  refine x_rc T_17_14 (by omega) (by omega) ?_
  exact ⟨rfl, rfl⟩
theorem s_char (hG : GX σ) (hj : j < 58) (hk : 0 ≤ k ∧ k < (hTl j : Int)) (hx : (hTb.getD j []).getD k.toNat 0 = x) : CL fb (d + 3) 15 [vR (some (4 + 2 * j)), vI k] σ (rP x σ) := by
  obtain ⟨h1, h2, h3, h4, h5⟩ := hG.1 j hj
  have hb := (sTx_ok j hj).2 k.toNat (by omega)
  rw [hx] at hb
  refine CL_in mL_15 rfl ?_
  show WP fb (d + 3) 15 0 [some (vR (some (4 + 2 * j))), some (vI k)] [] σ _
  refine x_lr T_15_0 rfl ?_
  refine x_cv1 T_15_1 mN_16 mL_16 (Nat.le_of_ble_eq_true rfl) mO_16 h1 (Nat.le_of_ble_eq_true rfl) (s_latin hG hj) ?_
  rintro _ _ ⟨rfl, rfl⟩
  refine cI ?_
  refine x_if T_15_4 (fun h => absurd (show (_ : Int) = _ from h) (by decide)) (fun _ => ?_)
  refine x_lr T_15_7 rfl ?_
  refine x_gR T_15_8 F_10_0 h1 h2 ?_
  refine x_li T_15_11 rfl ?_
  refine x_cs2 T_15_12 mN_17 mL_17 (Nat.le_of_ble_eq_true rfl) mK_17 (Nat.le_of_ble_eq_true rfl) (s_char1 hG hj hk hx) ?_
  rintro _ _ ⟨rfl, rfl⟩
  refine cI ?_
  refine x_rc T_15_15 (by omega) (by omega) ?_
  exact ⟨rfl, rfl⟩
end XSTR
