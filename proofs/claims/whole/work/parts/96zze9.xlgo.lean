/-! The class's kernel: what is to go does so. -/
theorem T_200_0 : hTab 200 0 = some ((0, 0, 0, []), 1) := rfl
theorem T_200_1 : hTab 200 1 = some ((4, 1, 0, []), 2) := rfl
theorem T_200_2 : hTab 200 2 = some ((3, 1, 0, []), 3) := rfl
theorem T_200_3 : hTab 200 3 = some ((0, 0, 8, []), 5) := rfl
theorem T_200_5 : hTab 200 5 = some ((19, 3, Int.ofNat 48, []), 8) := rfl
theorem T_200_8 : hTab 200 8 = some ((3, 0, 2, []), 9) := rfl
theorem T_200_9 : hTab 200 9 = some ((24, 1, Int.ofNat 11, []), 12) := rfl
theorem T_200_12 : hTab 200 12 = some ((3, 1, 0, []), 13) := rfl
theorem T_200_13 : hTab 200 13 = some ((26, 10, 0, []), 14) := rfl
theorem T_200_14 : hTab 200 14 = some ((24, 6, Int.ofNat 5, []), 17) := rfl
theorem T_200_17 : hTab 200 17 = some ((18, 0, Int.ofNat 42, []), 20) := rfl
theorem T_200_20 : hTab 200 20 = some ((3, 0, 2, []), 21) := rfl
theorem T_200_21 : hTab 200 21 = some ((24, 1, Int.ofNat 11, []), 24) := rfl
theorem T_200_24 : hTab 200 24 = some ((3, 1, 0, []), 25) := rfl
theorem T_200_25 : hTab 200 25 = some ((26, 10, 0, []), 26) := rfl
theorem T_200_26 : hTab 200 26 = some ((24, 6, Int.ofNat 6, []), 29) := rfl
theorem T_200_29 : hTab 200 29 = some ((18, 0, Int.ofNat 42, []), 32) := rfl
theorem T_200_32 : hTab 200 32 = some ((3, 0, 2, []), 33) := rfl
theorem T_200_33 : hTab 200 33 = some ((3, 0, 2, []), 34) := rfl
theorem T_200_34 : hTab 200 34 = some ((24, 1, Int.ofNat 11, []), 37) := rfl
theorem T_200_37 : hTab 200 37 = some ((3, 1, 0, []), 38) := rfl
theorem T_200_38 : hTab 200 38 = some ((26, 10, 0, []), 39) := rfl
theorem T_200_39 : hTab 200 39 = some ((31, 201, 0, []), 42) := rfl
theorem T_200_42 : hTab 200 42 = some ((5, 1, 1, []), 45) := rfl
theorem T_200_45 : hTab 200 45 = some ((22, 0, Int.ofNat 2, []), 48) := rfl
theorem T_200_48 : hTab 200 48 = some ((33, 0, 0, []), 49) := rfl
theorem mN_200 : hmN 200 = 1 := by decide +kernel
theorem mL_200 : hmL 200 = 2 := by decide +kernel
theorem mK_200 : hmK 200 = 1 := by decide +kernel
theorem mO_200 : hmO 200 = 1 := by decide +kernel
section XLGO
variable {fb : Bool} {d : Nat} {σ0 σ : hM} {W W2 V P Q : qR} {R R2 V3 : rR} {i j k x v p K T U : Int}
theorem lgo_loop : ∀ (m : Nat) (k T : Int) (σ : hM) (V : qR) (V3 : rR) (Q : qR), k + m = 8 → 0 ≤ k → T + 228 * m + 700 ≤ 2147483000 → PX σ0 V V3 σ → XW K T U V V3 Q → WP fb (d + 10) 200 2 [some (vR (some 129)), some (vI k)] [] σ (fun r σ' => r = none ∧ ∃ W2 R2, PX σ0 W2 R2 σ' ∧ XW K (T + 228 * m) U W2 R2 (enAll m k Q) ∧ FCM V W2 V3 R2) := by
  intro m
  induction m with
  | zero =>
    intro k T σ V V3 Q h1 h2 h3 hP hX
    have h1 : k + ((0 : Nat) : Int) = 8 := h1
    refine x_li (z := k) T_200_2 rfl ?_
    refine x_ic T_200_3 ?_
    refine x_ic2 T_200_5 (fun _ => ?_) (fun h => absurd (show 8 ≤ k by omega) h)
    refine x_rv T_200_48 ?_
    exact ⟨rfl, V, V3, hP, XW.mono hX (by omega), FCM_rfl⟩
  | succ m ih =>
    intro k T σ V V3 Q h1 h2 h3 hP hX
    have hr := rA_prc (p := k) ⟨h2, by omega⟩
    have ho := prO_o (p := k) ⟨h2, by omega⟩
    have hl := (hX.1.2.2.1.1 k h2 (by omega)).2.1
    have hd : V (prO k) 2198 = Q 2321 k := hX.1.1.2.2.2.2 k h2 (by omega)
    have ef : enAll (m + 1) k Q = enAll m (k + 1) (if ¬ Q 2320 k = 0 ∧ ¬ Q 2321 k = 0 then cEnd Q k else Q) := rfl
    rw [ef]
    have hen := fun (h : ¬ Q 2320 k = 0) => x_end (fb := fb) (d := d) hP hX (by omega) (p := k) ⟨h2, by omega⟩ h
    have hgo0 := fun (σ : hM) (hP : PX σ0 V V3 σ) => (ih (k + 1) T σ V V3 Q (by omega) (by omega) (by omega) hP hX).mono (Q := fun r σ' => r = none ∧ ∃ W2 R2, PX σ0 W2 R2 σ' ∧ XW K (T + 228 * ((m + 1 : Nat) : Int)) U W2 R2 (enAll m (k + 1) Q) ∧ FCM V W2 V3 R2) (fun r σ' h => by
      obtain ⟨rfl, W2, R2, g1, g2, g3⟩ := h
      exact ⟨rfl, W2, R2, g1, XW.mono g2 (by omega), g3⟩)
    have hgo1 := fun (σ : hM) (V5 : qR) (V6 : rR) (hP : PX σ0 V5 V6 σ) (hX5 : XW K (T + 228) U V5 V6 (cEnd Q k)) (hF : FCM V V5 V3 V6) => (ih (k + 1) (T + 228) σ V5 V6 (cEnd Q k) (by omega) (by omega) (by omega) hP hX5).mono (Q := fun r σ' => r = none ∧ ∃ W2 R2, PX σ0 W2 R2 σ' ∧ XW K (T + 228 * ((m + 1 : Nat) : Int)) U W2 R2 (enAll m (k + 1) (cEnd Q k)) ∧ FCM V W2 V3 R2) (fun r σ' h => by
      obtain ⟨rfl, W2, R2, g1, g2, g3⟩ := h
      exact ⟨rfl, W2, R2, g1, XW.mono g2 (by omega), FCM_tr hF g3⟩)
    obtain ⟨v, hv⟩ : ∃ v, Q 2320 k = v := ⟨_, rfl⟩
    obtain ⟨x, hx⟩ : ∃ v, Q 2321 k = v := ⟨_, rfl⟩
    obtain ⟨a, ha⟩ : ∃ a, prO k = a := ⟨_, rfl⟩
    simp only [hv, hx, ha] at hl hd hen hr ho ⊢
    by_cases q1 : v = 0
    · rw [if_neg (fun c => c.1 q1)]
      refine x_li (z := k) T_200_2 rfl ?_
      refine x_ic T_200_3 ?_
      refine x_ic2 T_200_5 (fun h => absurd (show 8 ≤ k from h) (by omega)) (fun _ => ?_)
      refine x_lr (z := some 129) T_200_8 rfl ?_
      refine x_gR (z := some 142) T_200_9 F_1_11 (hP.o xo_129) (hP.rc xo_129 rfl rfl) ?_
      refine x_li (z := k) T_200_12 rfl ?_
      refine x_alR (z := some a) T_200_13 (hP.ta xa_142) (by decide) (by omega) (by omega) (hP.arc xa_142 rfl hr) ?_
      refine x_gI (z := v) T_200_14 (Or.inr (Or.inl F_6_5)) (hP.o ho) (Eq.trans (hP.gi ho (key := 2197) rfl) hl) ?_
      refine x_if T_200_17 (fun _ => ?_) (fun h => absurd (show v = 0 by exact q1) h)
      refine x_inc (w := (k + 1)) (ls1 := [some (vR (some 129)), some (vI (k + 1))]) T_200_42 rfl (w32_id (by omega) (by omega)) rfl ?_
      refine x_goto T_200_45 ?_
      exact hgo0 σ hP
    by_cases q2 : x = 0
    · rw [if_neg (fun c => c.2 q2)]
      refine x_li (z := k) T_200_2 rfl ?_
      refine x_ic T_200_3 ?_
      refine x_ic2 T_200_5 (fun h => absurd (show 8 ≤ k from h) (by omega)) (fun _ => ?_)
      refine x_lr (z := some 129) T_200_8 rfl ?_
      refine x_gR (z := some 142) T_200_9 F_1_11 (hP.o xo_129) (hP.rc xo_129 rfl rfl) ?_
      refine x_li (z := k) T_200_12 rfl ?_
      refine x_alR (z := some a) T_200_13 (hP.ta xa_142) (by decide) (by omega) (by omega) (hP.arc xa_142 rfl hr) ?_
      refine x_gI (z := v) T_200_14 (Or.inr (Or.inl F_6_5)) (hP.o ho) (Eq.trans (hP.gi ho (key := 2197) rfl) hl) ?_
      refine x_if T_200_17 (fun h => absurd (show v = 0 from h) (by exact q1)) (fun _ => ?_)
      refine x_lr (z := some 129) T_200_20 rfl ?_
      refine x_gR (z := some 142) T_200_21 F_1_11 (hP.o xo_129) (hP.rc xo_129 rfl rfl) ?_
      refine x_li (z := k) T_200_24 rfl ?_
      refine x_alR (z := some a) T_200_25 (hP.ta xa_142) (by decide) (by omega) (by omega) (hP.arc xa_142 rfl hr) ?_
      refine x_gI (z := x) T_200_26 (Or.inr (Or.inl F_6_6)) (hP.o ho) (Eq.trans (hP.gi ho (key := 2198) rfl) hd) ?_
      refine x_if T_200_29 (fun _ => ?_) (fun h => absurd (show x = 0 by exact q2) h)
      refine x_inc (w := (k + 1)) (ls1 := [some (vR (some 129)), some (vI (k + 1))]) T_200_42 rfl (w32_id (by omega) (by omega)) rfl ?_
      refine x_goto T_200_45 ?_
      exact hgo0 σ hP
    · rw [if_pos ⟨q1, q2⟩]
      have hen := hen q1
      refine x_li (z := k) T_200_2 rfl ?_
      refine x_ic T_200_3 ?_
      refine x_ic2 T_200_5 (fun h => absurd (show 8 ≤ k from h) (by omega)) (fun _ => ?_)
      refine x_lr (z := some 129) T_200_8 rfl ?_
      refine x_gR (z := some 142) T_200_9 F_1_11 (hP.o xo_129) (hP.rc xo_129 rfl rfl) ?_
      refine x_li (z := k) T_200_12 rfl ?_
      refine x_alR (z := some a) T_200_13 (hP.ta xa_142) (by decide) (by omega) (by omega) (hP.arc xa_142 rfl hr) ?_
      refine x_gI (z := v) T_200_14 (Or.inr (Or.inl F_6_5)) (hP.o ho) (Eq.trans (hP.gi ho (key := 2197) rfl) hl) ?_
      refine x_if T_200_17 (fun h => absurd (show v = 0 from h) (by exact q1)) (fun _ => ?_)
      refine x_lr (z := some 129) T_200_20 rfl ?_
      refine x_gR (z := some 142) T_200_21 F_1_11 (hP.o xo_129) (hP.rc xo_129 rfl rfl) ?_
      refine x_li (z := k) T_200_24 rfl ?_
      refine x_alR (z := some a) T_200_25 (hP.ta xa_142) (by decide) (by omega) (by omega) (hP.arc xa_142 rfl hr) ?_
      refine x_gI (z := x) T_200_26 (Or.inr (Or.inl F_6_6)) (hP.o ho) (Eq.trans (hP.gi ho (key := 2198) rfl) hd) ?_
      refine x_if T_200_29 (fun h => absurd (show x = 0 from h) (by exact q2)) (fun _ => ?_)
      refine x_lr (z := some 129) T_200_32 rfl ?_
      refine x_lr (z := some 129) T_200_33 rfl ?_
      refine x_gR (z := some 142) T_200_34 F_1_11 (hP.o xo_129) (hP.rc xo_129 rfl rfl) ?_
      refine x_li (z := k) T_200_37 rfl ?_
      refine x_alR (z := some a) T_200_38 (hP.ta xa_142) (by decide) (by omega) (by omega) (hP.arc xa_142 rfl hr) ?_
      refine x_cv2 T_200_39 mN_201 mL_201 (Nat.le_of_ble_eq_true rfl) mO_201 (hP.o xo_129) (Nat.le_of_ble_eq_true rfl) (hen) ?_
      clear hP hen
      rintro _ σ ⟨rfl, V5, V6, hP, hX5, hF5⟩
      refine cV ?_
      refine x_inc (w := (k + 1)) (ls1 := [some (vR (some 129)), some (vI (k + 1))]) T_200_42 rfl (w32_id (by omega) (by omega)) rfl ?_
      refine x_goto T_200_45 ?_
      exact hgo1 σ V5 V6 hP hX5 hF5
theorem x_letGo (hP : PX σ0 W R σ) (hX : XW K T U W R P) (hT : T + 3000 ≤ 2147483000) : CL fb (d + 10) 200 [vR (some 129)] σ (fun r σ' => r = none ∧ ∃ W2 R2, PX σ0 W2 R2 σ' ∧ XW K (T + 1824) U W2 R2 (enAll 8 0 P) ∧ FCM W W2 R R2) := by
  have hgo := (lgo_loop (fb := fb) (d := d) 8 0 T σ W R P (by decide) (by decide) (by omega) hP hX).mono (Q := fun r σ' => r = none ∧ ∃ W2 R2, PX σ0 W2 R2 σ' ∧ XW K (T + 1824) U W2 R2 (enAll 8 0 P) ∧ FCM W W2 R R2) (fun r σ' h => by
    obtain ⟨rfl, W2, R2, g1, g2, g3⟩ := h
    exact ⟨rfl, W2, R2, g1, XW.mono g2 (by omega), g3⟩)
  refine CL_in mL_200 rfl ?_
  show WP fb _ 200 0 [some (vR (some 129)), none] [] σ _
  refine x_ic T_200_0 ?_
  refine x_si (ls1 := [some (vR (some 129)), some (vI 0)]) T_200_1 rfl ?_
  exact hgo
end XLGO
