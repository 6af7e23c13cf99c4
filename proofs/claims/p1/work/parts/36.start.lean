/-! From the law's first row to its loop: the memory at the start, and the two constructors. -/
theorem T_423_0 : hTab 423 0 = some ((29, 0, Int.ofNat 6, []), 3) := rfl
theorem T_423_3 : hTab 423 3 = some ((6, 0, 0, []), 4) := rfl
theorem T_423_4 : hTab 423 4 = some ((31, 0, 0, []), 7) := rfl
theorem T_423_7 : hTab 423 7 = some ((4, 1, 2, []), 8) := rfl
theorem T_423_8 : hTab 423 8 = some ((29, 17, Int.ofNat 115, []), 11) := rfl
theorem T_423_11 : hTab 423 11 = some ((6, 0, 0, []), 12) := rfl
theorem T_423_12 : hTab 423 12 = some ((31, 227, 0, []), 15) := rfl
theorem T_423_15 : hTab 423 15 = some ((4, 2, 2, []), 16) := rfl
theorem T_423_16 : hTab 423 16 = some ((0, 0, 0, []), 17) := rfl
theorem T_423_17 : hTab 423 17 = some ((4, 3, 0, []), 18) := rfl
theorem mN_0 : hmN 0 = 1 := by decide +kernel
theorem mL_0 : hmL 0 = 2 := by decide +kernel
theorem mK_0 : hmK 0 = 2 := by decide +kernel
theorem mO_0 : hmO 0 = 0 := by decide +kernel
theorem mN_227 : hmN 227 = 1 := by decide +kernel
theorem mL_227 : hmL 227 = 3 := by decide +kernel
theorem mK_227 : hmK 227 = 2 := by decide +kernel
theorem mO_227 : hmO 227 = 17 := by decide +kernel
theorem mN_423 : hmN 423 = 1 := by decide +kernel
theorem mL_423 : hmL 423 = 4 := by decide +kernel
theorem mK_423 : hmK 423 = 0 := by decide +kernel
theorem mO_423 : hmO 423 = 18 := by decide +kernel
section START
variable {fb : Bool} {L : Nat} {xs : Nat → Int} {σ : hM} {Q : Option AV → hM → Prop}
theorem aget_map {α : Type} {d : α} (f : Nat → α) : ∀ (l : List Nat) (k : Nat), aget d (l.map (fun j => (j, f j))) k = if k ∈ l then f k else d := by
  intro l
  induction l with
  | nil => intro k; rfl
  | cons x t ih =>
    intro k
    show aget d ((x, f x) :: t.map (fun j => (j, f j))) k = _
    unfold aget
    by_cases e : x = k
    · subst e
      rw [show Nat.beq x x = true from Nat.beq_refl x]
      simp
    · rw [show Nat.beq x k = false by
        cases h : Nat.beq x k
        · rfl
        · exact absurd (Nat.eq_of_beq_eq_true h) e]
      show aget d (t.map (fun j => (j, f j))) k = _
      rw [ih k]
      simp [Ne.symm e]
theorem aget_en (l : List Int) (k : Nat) : aget 0 (en l) k = l.getD k 0 := by
  unfold en
  rw [aget_map (fun j => l.getD j 0)]
  by_cases h : k < l.length
  · rw [if_pos (List.mem_range.mpr h)]
  · rw [if_neg (fun e => h (List.mem_range.mp e))]
    rw [List.getD_eq_getElem?_getD, List.getElem?_eq_none (by omega)]
    rfl
theorem lget_map {α β : Type} (d : β) (f : α → β) : ∀ (l : List α) (n : Nat) (a : α), l[n]? = some a → lget d (l.map f) n = f a := by
  intro l
  induction l with
  | nil => intro n a h; cases n <;> cases h
  | cons x t ih =>
    intro n a h
    cases n with
    | zero => cases h; rfl
    | succ n => exact ih n a h
theorem lget_out {β : Type} (d : β) : ∀ (l : List β) (n : Nat), l.length ≤ n → lget d l n = d := by
  intro l
  induction l with
  | nil => intro n h; cases n <;> rfl
  | cons x t ih =>
    intro n h
    cases n with
    | zero => exact absurd h (by simp)
    | succ n => exact ih n (by simpa using h)
theorem t0_get (a : Nat) : tget hτ0.2.2 a = if a < 128 then cell0 a else dC := by
  show lget dC (lget [] (lget [] [(List.range 8).map (fun p => (List.range 16).map (fun q => cell0 (16 * p + q)))] (a / 256)) (a / 16 % 16)) (a % 16) = _
  by_cases h : a < 128
  · rw [if_pos h, show a / 256 = 0 by omega]
    show lget dC (lget [] ((List.range 8).map (fun p => (List.range 16).map (fun q => cell0 (16 * p + q)))) (a / 16 % 16)) (a % 16) = _
    rw [lget_map [] _ _ _ (a / 16) (by rw [List.getElem?_range (by omega)]; congr 1; omega)]
    rw [lget_map dC _ _ _ (a % 16) (by rw [List.getElem?_range (by omega)])]
    congr 1
    omega
  · rw [if_neg h]
    by_cases h1 : a / 256 = 0
    · rw [h1]
      show lget dC (lget [] ((List.range 8).map (fun p => (List.range 16).map (fun q => cell0 (16 * p + q)))) (a / 16 % 16)) (a % 16) = _
      rw [lget_out [] _ (a / 16 % 16) (by rw [List.length_map, List.length_range]; omega)]
      exact lget_out _ _ _ (by simp)
    · rw [lget_out [] [_] (a / 256) (by show 1 ≤ _; omega)]
      rw [lget_out [] [] _ (by simp)]
      exact lget_out _ _ _ (by simp)
theorem s0_eq : hσ0 L xs = ws L xs (den hτ0) := by
  refine hM_ext rfl rfl (fun a => ?_) (fun a k => ?_) (fun a k => ?_)
  · show _ = if a = 0 then some (Sum.inr (0, L)) else (tget hτ0.2.2 a).1
    rw [t0_get]
    show (if a = 0 then some (Sum.inr (0, L)) else if a = 2 then some (Sum.inr (0, 4)) else if a = 3 then some (Sum.inr (0, 4)) else if 4 ≤ a ∧ a < 4 + 2 * hNS then (if a % 2 = 0 then some (Sum.inl 10) else some (Sum.inr (1, hTl ((a - 4) / 2)))) else none) = _
    by_cases h0 : a = 0
    · rw [if_pos h0, if_pos h0]
    · rw [if_neg h0, if_neg h0]
      unfold cell0
      by_cases h2 : a = 2
      · subst h2; rfl
      · by_cases h3 : a = 3
        · subst h3; rfl
        · rw [if_neg h2, if_neg h3, if_neg h2, if_neg h3]
          by_cases h4 : 4 ≤ a ∧ a < 4 + 2 * hNS
          · rw [if_pos h4, if_pos (show a < 128 by have h5 := h4.2; have h6 : hNS = 58 := rfl; omega), if_pos h4]
            by_cases h7 : a % 2 = 0
            · rw [if_pos h7, if_pos h7]
            · rw [if_neg h7, if_neg h7]
          · rw [if_neg h4, if_neg h4]
            split <;> rfl
  · show _ = if a = 0 then xs k else aget 0 (tget hτ0.2.2 a).2.1 k
    rw [t0_get]
    show (if a = 0 then xs k else if a = 2 then hUN.getD k 0 else if a = 3 then hND.getD k 0 else if 4 ≤ a ∧ a < 4 + 2 * hNS ∧ a % 2 = 1 then (hTb.getD ((a - 4) / 2) []).getD k 0 else 0) = _
    by_cases h0 : a = 0
    · rw [if_pos h0, if_pos h0]
    · rw [if_neg h0, if_neg h0]
      unfold cell0
      by_cases h2 : a = 2
      · subst h2
        exact (aget_en hUN k).symm
      · by_cases h3 : a = 3
        · subst h3
          exact (aget_en hND k).symm
        · rw [if_neg h2, if_neg h3, if_neg h2, if_neg h3]
          by_cases h4 : 4 ≤ a ∧ a < 4 + 2 * hNS
          · rw [if_pos h4, if_pos (show a < 128 by have h5 := h4.2; have h6 : hNS = 58 := rfl; omega)]
            by_cases h7 : a % 2 = 0
            · rw [if_neg (by omega), if_pos h7]
              rfl
            · rw [if_pos ⟨h4.1, h4.2, by omega⟩, if_neg h7]
              exact (aget_en _ k).symm
          · rw [if_neg (fun e => h4 ⟨e.1, e.2.1⟩), if_neg h4]
            split <;> rfl
  · show _ = aget none (tget hτ0.2.2 a).2.2 k
    rw [t0_get]
    show (if 4 ≤ a ∧ a < 4 + 2 * hNS ∧ a % 2 = 0 ∧ k = 0 then some (a + 1) else none) = _
    unfold cell0
    by_cases h2 : a = 2
    · subst h2; rfl
    · by_cases h3 : a = 3
      · subst h3; rfl
      · rw [if_neg h2, if_neg h3]
        by_cases h4 : 4 ≤ a ∧ a < 4 + 2 * hNS
        · rw [if_pos h4, if_pos (show a < 128 by have h5 := h4.2; have h6 : hNS = 58 := rfl; omega)]
          by_cases h7 : a % 2 = 0
          · rw [if_pos h7]
            show _ = aget none [(0, some (a + 1))] k
            unfold aget
            by_cases h8 : k = 0
            · rw [if_pos ⟨h4.1, h4.2, h7, h8⟩]
              subst h8
              rfl
            · rw [if_neg (fun e => h8 e.2.2.2)]
              rw [show Nat.beq 0 k = false by
                cases h : Nat.beq 0 k
                · rfl
                · exact absurd (Nat.eq_of_beq_eq_true h).symm h8]
              rfl
          · rw [if_neg (fun e => h7 e.2.2.1), if_neg h7]
            rfl
        · rw [if_neg (fun e => h4 ⟨e.1, e.2.1⟩), if_neg h4]
          split <;> rfl
theorem run1 (fb : Bool) : lx hK (hE fb) hTab (100000 + (100000 + (100000 + 100000))) 21 0 0 (hpad (hent [vR (some 128)]) 2) [] (tN hτ0 (Sum.inl 0) 6) = some (none, hτ1) := run1_0a fb
theorem run2 (fb : Bool) : lx hK (hE fb) hTab 100000 21 227 0 (hpad (hent [vR (some 2281)]) 3) [] (tN hτ1 (Sum.inl 17) 115) = some (none, hτ2) := isV_eq (run2_0 fb)
theorem tn_1 : mT (den (tN hτ0 (Sum.inl 0) 6)) 0 = none := by
  show (tget (tN hτ0 (Sum.inl 0) 6).2.2 0).1 = (none : Option (Nat ⊕ (Nat × Nat)))
  decide +kernel
theorem tn_2 : mT (den (tN hτ1 (Sum.inl 17) 115)) 0 = none := by
  show (tget (tN hτ1 (Sum.inl 17) 115).2.2 0).1 = (none : Option (Nat ⊕ (Nat × Nat)))
  decide +kernel
theorem to_128 : mT (den (tN hτ0 (Sum.inl 0) 6)) 128 = some (Sum.inl 0) := by
  show (tget (tN hτ0 (Sum.inl 0) 6).2.2 128).1 = some (Sum.inl 0)
  decide +kernel
theorem to_2281 : mT (den (tN hτ1 (Sum.inl 17) 115)) 2281 = some (Sum.inl 17) := by
  show (tget (tN hτ1 (Sum.inl 17) 115).2.2 2281).1 = some (Sum.inl 17)
  decide +kernel
/-- all before the loop -/
theorem law_begin (k : WP fb 22 423 18 [some (vR (some 0)), some (vR (some 128)), some (vR (some 2281)), some (vI 0)] [] (S2 L xs) Q) : WP fb 22 423 0 (hpad (hent [vR (some 0)]) 4) [] (hσ0 L xs) Q := by
  rw [s0_eq]
  show WP fb 22 423 0 [some (vR (some 0)), none, none, none] [] (ws L xs (den hτ0)) Q
  refine x_new T_423_0 ?_
  rw [ws_sN (show 128 ≠ 0 by decide), ← den_N]
  show WP fb 22 423 3 [some (vR (some 0)), none, none, none] [vR (some 128)] (ws L xs (den (tN hτ0 (Sum.inl 0) 6))) Q
  refine x_dupR T_423_3 ?_
  refine x_cv1 T_423_4 mN_0 mL_0 (Nat.le_of_ble_eq_true rfl) mO_0 ((ws_T (by decide)).trans to_128) (Nat.le_of_ble_eq_true rfl) (CL_lx (n := 100000 + (100000 + (100000 + 100000))) L xs (by rw [mL_0]; exact run1 fb) tn_1 rfl) ?_
  rintro _ _ ⟨rfl, rfl⟩
  refine cV ?_
  refine x_sr T_423_7 rfl ?_
  refine x_new T_423_8 ?_
  rw [ws_sN (show 2281 ≠ 0 by decide), ← den_N]
  show WP fb 22 423 11 [some (vR (some 0)), some (vR (some 128)), none, none] [vR (some 2281)] (ws L xs (den (tN hτ1 (Sum.inl 17) 115))) Q
  refine x_dupR T_423_11 ?_
  refine x_cv1 T_423_12 mN_227 mL_227 (Nat.le_of_ble_eq_true rfl) mO_227 ((ws_T (by decide)).trans to_2281) (Nat.le_of_ble_eq_true rfl) (CL_lx (n := 100000) L xs (by rw [mL_227]; exact run2 fb) tn_2 rfl) ?_
  rintro _ _ ⟨rfl, rfl⟩
  refine cV ?_
  refine x_sr T_423_15 rfl ?_
  refine x_ic T_423_16 ?_
  refine x_si T_423_17 rfl ?_
  exact k
end START
