/-! The class's shell: a line that was entered waits; whether it goes on; what was answered. -/
theorem T_98_0 : hTab 98 0 = some ((3, 0, 2, []), 1) := rfl
theorem T_98_1 : hTab 98 1 = some ((0, 0, 0, []), 2) := rfl
theorem T_98_2 : hTab 98 2 = some ((25, 15, Int.ofNat 2, []), 5) := rfl
theorem T_98_5 : hTab 98 5 = some ((3, 0, 2, []), 6) := rfl
theorem T_98_6 : hTab 98 6 = some ((0, 0, 0, []), 7) := rfl
theorem T_98_7 : hTab 98 7 = some ((25, 15, Int.ofNat 3, []), 10) := rfl
theorem T_98_10 : hTab 98 10 = some ((3, 0, 2, []), 11) := rfl
theorem T_98_11 : hTab 98 11 = some ((0, 0, 0, []), 12) := rfl
theorem T_98_12 : hTab 98 12 = some ((25, 15, Int.ofNat 4, []), 15) := rfl
theorem T_98_15 : hTab 98 15 = some ((3, 0, 2, []), 16) := rfl
theorem T_98_16 : hTab 98 16 = some ((24, 15, Int.ofNat 1, []), 19) := rfl
theorem T_98_19 : hTab 98 19 = some ((3, 1, 2, []), 20) := rfl
theorem T_98_20 : hTab 98 20 = some ((0, 0, 0, []), 21) := rfl
theorem T_98_21 : hTab 98 21 = some ((3, 1, 2, []), 22) := rfl
theorem T_98_22 : hTab 98 22 = some ((31, 28, 0, []), 25) := rfl
theorem T_98_25 : hTab 98 25 = some ((31, 31, 0, []), 28) := rfl
theorem T_98_28 : hTab 98 28 = some ((7, 0, 0, []), 29) := rfl
theorem T_98_29 : hTab 98 29 = some ((3, 0, 2, []), 30) := rfl
theorem T_98_30 : hTab 98 30 = some ((0, 0, 1, []), 31) := rfl
theorem T_98_31 : hTab 98 31 = some ((25, 15, Int.ofNat 5, []), 34) := rfl
theorem T_98_34 : hTab 98 34 = some ((3, 0, 2, []), 35) := rfl
theorem T_98_35 : hTab 98 35 = some ((0, 0, 1, []), 36) := rfl
theorem T_98_36 : hTab 98 36 = some ((25, 15, Int.ofNat 6, []), 39) := rfl
theorem T_98_39 : hTab 98 39 = some ((33, 0, 0, []), 40) := rfl
theorem T_99_0 : hTab 99 0 = some ((3, 0, 2, []), 1) := rfl
theorem T_99_1 : hTab 99 1 = some ((24, 15, Int.ofNat 5, []), 4) := rfl
theorem T_99_4 : hTab 99 4 = some ((18, 1, Int.ofNat 14, []), 7) := rfl
theorem T_99_7 : hTab 99 7 = some ((3, 0, 2, []), 8) := rfl
theorem T_99_8 : hTab 99 8 = some ((24, 15, Int.ofNat 2, []), 11) := rfl
theorem T_99_11 : hTab 99 11 = some ((18, 5, Int.ofNat 18, []), 14) := rfl
theorem T_99_14 : hTab 99 14 = some ((0, 0, 1, []), 15) := rfl
theorem T_99_15 : hTab 99 15 = some ((22, 0, Int.ofNat 19, []), 18) := rfl
theorem T_99_18 : hTab 99 18 = some ((0, 0, 0, []), 19) := rfl
theorem T_99_19 : hTab 99 19 = some ((33, 2, 0, []), 20) := rfl
theorem T_100_7 : hTab 100 7 = some ((3, 0, 2, []), 8) := rfl
theorem T_100_8 : hTab 100 8 = some ((3, 1, 2, []), 9) := rfl
theorem T_100_9 : hTab 100 9 = some ((31, 101, 0, []), 12) := rfl
theorem T_100_12 : hTab 100 12 = some ((2, 0, 0, []), 13) := rfl
theorem T_100_13 : hTab 100 13 = some ((33, 4, 0, []), 14) := rfl
theorem T_203_0 : hTab 203 0 = some ((3, 0, 2, []), 1) := rfl
theorem T_203_1 : hTab 203 1 = some ((24, 15, Int.ofNat 4, []), 4) := rfl
theorem T_203_4 : hTab 203 4 = some ((33, 1, 0, []), 5) := rfl
theorem mN_98 : hmN 98 = 2 := by decide +kernel
theorem mL_98 : hmL 98 = 2 := by decide +kernel
theorem mK_98 : hmK 98 = 1 := by decide +kernel
theorem mO_98 : hmO 98 = 15 := by decide +kernel
theorem mN_99 : hmN 99 = 1 := by decide +kernel
theorem mL_99 : hmL 99 = 1 := by decide +kernel
theorem mK_99 : hmK 99 = 1 := by decide +kernel
theorem mO_99 : hmO 99 = 15 := by decide +kernel
theorem mN_203 : hmN 203 = 1 := by decide +kernel
theorem mL_203 : hmL 203 = 1 := by decide +kernel
theorem mK_203 : hmK 203 = 1 := by decide +kernel
theorem mO_203 : hmO 203 = 15 := by decide +kernel
section XSH9
variable {fb : Bool} {d b k n : Nat} {σ0 σ : hM} {W W1 W2 V V0 V2 V3 P Q : qR} {R : rR} {i j x z v s e p D w K T U a c : Int} {l sc lo wd src L L2 t ss : List Int} {fs : List Fr} {fr : Fr}
theorem x_beginS (hP : PX σ0 W R σ) (hX : XW K T U W R P) (hB : BY W b n src) (hb : b ≠ 2189) (hl : src.length ≤ 100) : CL fb (d + 2) 98 [vR (some 2187), vR (some b)] σ (fun r σ' => r = none ∧ ∃ V, PX σ0 V R σ' ∧ (XW K T U V R P ∧ SHL V 0 0 0 1) ∧ WTX V 1 src ∧ FNX 2189 W V) := by
  have hbo := hB.1
  obtain ⟨z, hz⟩ : ∃ z : Int, (src.length : Int) = z := ⟨_, rfl⟩
  obtain ⟨W1, hW1⟩ : ∃ q, rU (rU (rU W 2187 2482 0) 2187 2483 0) 2187 2484 0 = q := ⟨_, rfl⟩
  have hF1 : FNX 2189 W W1 := by
    rw [← hW1]
    exact FNX_tr (FNX_tr (FNX_s ⟨by decide, by decide⟩) (FNX_s ⟨by decide, by decide⟩)) (FNX_s ⟨by decide, by decide⟩)
  have hB1 : BY W1 b n src := by
    rw [← hW1]
    exact ((hB.key (by decide) (by decide)).key (by decide) (by decide)).key (by decide) (by decide)
  have h1 : W1 2187 2482 = 0 ∧ W1 2187 2483 = 0 ∧ W1 2187 2484 = 0 := by
    rw [← hW1]
    exact ⟨(rU_j (by decide)).trans ((rU_j (by decide)).trans rU_s), (rU_j (by decide)).trans rU_s, rU_s⟩
  have hsz := fun (σ : hM) (hP : PX σ0 W1 R σ) => x_size (fb := fb) (d := d + 1) hP hB1 hz
  have hta : ∀ (σ : hM), PX σ0 W1 R σ → CL fb (d + 1) 31 [vR (some 2189), vR (some b), vI 0, vI z] σ (XB σ0 W1 R 2189 100 src (some (vI 1))) := fun σ hP => by
    have h := x_take0 (fb := fb) (d := d) (s := 0) (e := z) hP SH_wt hB1 (by omega) (Or.inr (by decide)) (by omega)
    rw [show (z - 0).toNat = src.length by omega, seg_all, List.take_of_length_le hl, if_pos hl] at h
    exact h
  have hfin : ∀ V : qR, BY V 2189 100 src → FB 2189 W1 V → (XW K T U (rU (rU V 2187 2485 1) 2187 2486 1) R P ∧ SHL (rU (rU V 2187 2485 1) 2187 2486 1) 0 0 0 1) ∧ WTX (rU (rU V 2187 2485 1) 2187 2486 1) 1 src ∧ FNX 2189 W (rU (rU V 2187 2485 1) 2187 2486 1) := fun V hB2 hF2 => by
    have hF : FNX 2189 W (rU (rU V 2187 2485 1) 2187 2486 1) := FNX_tr (FNX_tr (FNX_tr hF1 (FNX_fb hF2 (by decide))) (FNX_s ⟨by decide, by decide⟩)) (FNX_s ⟨by decide, by decide⟩)
    have hs : ∀ j : Int, j ≠ 2485 → j ≠ 2486 → (rU (rU V 2187 2485 1) 2187 2486 1) 2187 j = W1 2187 j := fun j a b => (rU_j b).trans ((rU_j a).trans (hF2 _ _ (by omega) (by omega)))
    refine ⟨⟨hX.hiw (fun x j hx => hF x j (by omega) (by omega)) (fun _ _ _ => rfl), (hs _ (by decide) (by decide)).trans h1.1, (hs _ (by decide) (by decide)).trans h1.2.1, (hs _ (by decide) (by decide)).trans h1.2.2, (rU_j (by decide)).trans rU_s⟩, ⟨rU_s, (hB2.key (by decide) (by decide)).key (by decide) (by decide)⟩, hF⟩
  refine CL_in mL_98 rfl ?_
  show WP fb _ 98 0 [some (vR (some 2187)), some (vR (some b))] [] σ _
  refine x_lr (z := some 2187) T_98_0 rfl ?_
  refine x_ic T_98_1 ?_
  refine z_pI hP T_98_2 F_15_2 xo_2187 (key := 2482) rfl (fun σ hP => ?_)
  refine x_lr (z := some 2187) T_98_5 rfl ?_
  refine x_ic T_98_6 ?_
  refine z_pI hP T_98_7 F_15_3 xo_2187 (key := 2483) rfl (fun σ hP => ?_)
  refine x_lr (z := some 2187) T_98_10 rfl ?_
  refine x_ic T_98_11 ?_
  refine z_pI hP T_98_12 F_15_4 xo_2187 (key := 2484) rfl (fun σ hP => ?_)
  refine x_lr (z := some 2187) T_98_15 rfl ?_
  refine x_gR (z := some 2189) T_98_16 F_15_1 (hP.o xo_2187) (hP.rc xo_2187 rfl rfl) ?_
  refine x_lr (z := some b) T_98_19 rfl ?_
  refine x_ic T_98_20 ?_
  refine x_lr (z := some b) T_98_21 rfl ?_
  refine x_cv1 T_98_22 mN_28 mL_28 (Nat.le_of_ble_eq_true rfl) mO_28 (hP.o hbo) (Nat.le_of_ble_eq_true rfl) (hsz σ (hW1 ▸ hP)) ?_
  rintro _ σ ⟨rfl, rfl⟩
  refine cI ?_
  refine x_cv4 T_98_25 mN_31 mL_31 (Nat.le_of_ble_eq_true rfl) mO_31 (hP.o xo_2189) (Nat.le_of_ble_eq_true rfl) (hta σ (hW1 ▸ hP)) ?_
  clear hP
  rintro _ σ ⟨rfl, V, hP, hB2, hF2⟩
  obtain ⟨f1, f2, f3⟩ := hfin V hB2 hF2
  refine cI ?_
  refine x_popI T_98_28 ?_
  refine x_lr (z := some 2187) T_98_29 rfl ?_
  refine x_ic T_98_30 ?_
  refine z_pZ hP T_98_31 F_15_5 rfl xo_2187 (key := 2485) rfl (fun σ hP => ?_)
  refine x_lr (z := some 2187) T_98_34 rfl ?_
  refine x_ic T_98_35 ?_
  refine z_pZ hP T_98_36 F_15_6 rfl xo_2187 (key := 2486) rfl (fun σ hP => ?_)
  refine x_rv T_98_39 ?_
  exact ⟨rfl, _, hP, f1, f2, f3⟩
theorem x_goesOn (hP : PX σ0 W R σ) (hS : SHL W D c e w) (hD : 0 ≤ D) (hw : w = 0 ∨ w = 1) : CL fb d 99 [vR (some 2187)] σ (rP (if w = 0 ∧ D = 0 then 0 else 1) σ) := by
  obtain ⟨h1, -, -, h4⟩ := hS
  by_cases q : w = 0
  · by_cases q2 : D = 0
    · rw [if_pos ⟨q, q2⟩]
      refine CL_in mL_99 rfl ?_
      show WP fb _ 99 0 [some (vR (some 2187))] [] σ _
      refine x_lr (z := some 2187) T_99_0 rfl ?_
      refine x_gI (z := w) T_99_1 (Or.inr (Or.inl F_15_5)) (hP.o xo_2187) (Eq.trans (hP.gi xo_2187 (key := 2485) rfl) h4) ?_
      refine x_if T_99_4 (fun h => absurd (show ¬ w = 0 from h) (by exact fun h => h q)) (fun _ => ?_)
      refine x_lr (z := some 2187) T_99_7 rfl ?_
      refine x_gI (z := D) T_99_8 (Or.inl F_15_2) (hP.o xo_2187) (Eq.trans (hP.gi xo_2187 (key := 2482) rfl) h1) ?_
      refine x_if T_99_11 (fun _ => ?_) (fun h => absurd (show D ≤ 0 by omega) h)
      refine x_ic T_99_18 ?_
      refine x_rz T_99_19 rfl ?_
      exact ⟨rfl, rfl⟩
    · rw [if_neg (fun c => q2 c.2)]
      refine CL_in mL_99 rfl ?_
      show WP fb _ 99 0 [some (vR (some 2187))] [] σ _
      refine x_lr (z := some 2187) T_99_0 rfl ?_
      refine x_gI (z := w) T_99_1 (Or.inr (Or.inl F_15_5)) (hP.o xo_2187) (Eq.trans (hP.gi xo_2187 (key := 2485) rfl) h4) ?_
      refine x_if T_99_4 (fun h => absurd (show ¬ w = 0 from h) (by exact fun h => h q)) (fun _ => ?_)
      refine x_lr (z := some 2187) T_99_7 rfl ?_
      refine x_gI (z := D) T_99_8 (Or.inl F_15_2) (hP.o xo_2187) (Eq.trans (hP.gi xo_2187 (key := 2482) rfl) h1) ?_
      refine x_if T_99_11 (fun h => absurd (show D ≤ 0 from h) (by omega)) (fun _ => ?_)
      refine x_ic T_99_14 ?_
      refine x_goto T_99_15 ?_
      refine x_rz T_99_19 rfl ?_
      exact ⟨rfl, rfl⟩
  · rw [if_neg (fun c => q c.1)]
    refine CL_in mL_99 rfl ?_
    show WP fb _ 99 0 [some (vR (some 2187))] [] σ _
    refine x_lr (z := some 2187) T_99_0 rfl ?_
    refine x_gI (z := w) T_99_1 (Or.inr (Or.inl F_15_5)) (hP.o xo_2187) (Eq.trans (hP.gi xo_2187 (key := 2485) rfl) h4) ?_
    refine x_if T_99_4 (fun _ => ?_) (fun h => absurd (show ¬ w = 0 by exact q) h)
    refine x_ic T_99_14 ?_
    refine x_goto T_99_15 ?_
    refine x_rz T_99_19 rfl ?_
    exact ⟨rfl, rfl⟩
theorem x_errorS (hP : PX σ0 W R σ) (hS : SHL W D c e w) : CL fb d 203 [vR (some 2187)] σ (rP e σ) := by
  obtain ⟨-, -, h3, -⟩ := hS
  refine CL_in mL_203 rfl ?_
  show WP fb _ 203 0 [some (vR (some 2187))] [] σ _
  refine x_lr (z := some 2187) T_203_0 rfl ?_
  refine x_gI (z := e) T_203_1 (Or.inl F_15_4) (hP.o xo_2187) (Eq.trans (hP.gi xo_2187 (key := 2484) rfl) h3) ?_
  refine x_ri T_203_4 ?_
  exact ⟨rfl, rfl⟩
/-- next, when no line waits -/
theorem x_nextG (hP : PX σ0 W R σ) (hw : W 2187 2485 = 0) {Z : qR → Prop} (hr : CL fb (d + 4) 101 [vR (some 2187), vR (some (prO p))] σ (fun r σ' => r = none ∧ ∃ V, PX σ0 V R σ' ∧ Z V)) : CL fb (d + 5) 100 [vR (some 2187), vR (some (prO p))] σ (fun r σ' => r = some (vR none) ∧ ∃ V, PX σ0 V R σ' ∧ Z V) := by
  obtain ⟨pr, hpr⟩ : ∃ q, prO p = q := ⟨_, rfl⟩
  rw [hpr] at hr ⊢
  refine CL_in mL_100 rfl ?_
  show WP fb _ 100 0 [some (vR (some 2187)), some (vR (some pr)), none, none, none] [] σ _
  refine x_lr (z := some 2187) T_100_0 rfl ?_
  refine x_gI (z := 0) T_100_1 (Or.inr (Or.inl F_15_5)) (hP.o xo_2187) (Eq.trans (hP.gi xo_2187 (key := 2485) rfl) hw) ?_
  refine x_if T_100_4 (fun h => absurd (show ¬ (0 : Int) = 0 from h) (by decide)) (fun _ => ?_)
  refine x_lr (z := some 2187) T_100_7 rfl ?_
  refine x_lr (z := some pr) T_100_8 rfl ?_
  refine x_cv2 T_100_9 mN_101 mL_101 (Nat.le_of_ble_eq_true rfl) mO_101 (hP.o xo_2187) (Nat.le_of_ble_eq_true rfl) (hr) ?_
  clear hP hr
  rintro _ σ ⟨rfl, V, hP, hZ⟩
  refine cV ?_
  refine x_nu T_100_12 ?_
  refine x_rr T_100_13 ?_
  exact ⟨rfl, V, hP, hZ⟩
end XSH9
