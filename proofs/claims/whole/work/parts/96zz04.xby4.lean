/-! Rows of bytes: dots, names, bits all one; bytes dropped; a message begun and ended. -/
theorem T_21_0 : hTab 21 0 = some ((3, 0, 2, []), 1) := rfl
theorem T_21_1 : hTab 21 1 = some ((0, 0, 0, []), 2) := rfl
theorem T_21_2 : hTab 21 2 = some ((25, 2, Int.ofNat 1, []), 5) := rfl
theorem T_21_5 : hTab 21 5 = some ((3, 0, 2, []), 6) := rfl
theorem T_21_6 : hTab 21 6 = some ((1, 0, 0, []), 7) := rfl
theorem T_21_7 : hTab 21 7 = some ((0, 0, 4, []), 8) := rfl
theorem T_21_8 : hTab 21 8 = some ((31, 22, 0, []), 11) := rfl
theorem T_21_11 : hTab 21 11 = some ((3, 0, 2, []), 12) := rfl
theorem T_21_12 : hTab 21 12 = some ((3, 1, 0, []), 13) := rfl
theorem T_21_13 : hTab 21 13 = some ((14, 0, 0, []), 14) := rfl
theorem T_21_14 : hTab 21 14 = some ((0, 0, 1, []), 15) := rfl
theorem T_21_15 : hTab 21 15 = some ((31, 22, 0, []), 18) := rfl
theorem T_21_18 : hTab 21 18 = some ((3, 0, 2, []), 19) := rfl
theorem T_21_19 : hTab 21 19 = some ((3, 2, 1, []), 20) := rfl
theorem T_21_20 : hTab 21 20 = some ((0, 0, 2, []), 21) := rfl
theorem T_21_21 : hTab 21 21 = some ((31, 22, 0, []), 24) := rfl
theorem T_21_24 : hTab 21 24 = some ((33, 0, 0, []), 25) := rfl
theorem T_24_0 : hTab 24 0 = some ((3, 0, 2, []), 1) := rfl
theorem T_24_1 : hTab 24 1 = some ((0, 0, 0, []), 2) := rfl
theorem T_24_2 : hTab 24 2 = some ((3, 0, 2, []), 3) := rfl
theorem T_24_3 : hTab 24 3 = some ((24, 2, Int.ofNat 1, []), 6) := rfl
theorem T_24_6 : hTab 24 6 = some ((14, 0, 0, []), 7) := rfl
theorem T_24_7 : hTab 24 7 = some ((0, 0, 4, []), 8) := rfl
theorem T_24_8 : hTab 24 8 = some ((31, 25, 0, []), 11) := rfl
theorem T_24_11 : hTab 24 11 = some ((33, 0, 0, []), 12) := rfl
theorem T_57_0 : hTab 57 0 = some ((3, 1, 0, []), 1) := rfl
theorem T_57_1 : hTab 57 1 = some ((18, 2, Int.ofNat 19, []), 4) := rfl
theorem T_57_4 : hTab 57 4 = some ((3, 2, 0, []), 5) := rfl
theorem T_57_5 : hTab 57 5 = some ((3, 0, 2, []), 6) := rfl
theorem T_57_6 : hTab 57 6 = some ((24, 2, Int.ofNat 1, []), 9) := rfl
theorem T_57_9 : hTab 57 9 = some ((19, 4, Int.ofNat 19, []), 12) := rfl
theorem T_57_12 : hTab 57 12 = some ((3, 2, 0, []), 13) := rfl
theorem T_57_13 : hTab 57 13 = some ((3, 1, 0, []), 14) := rfl
theorem T_57_14 : hTab 57 14 = some ((10, 1, 0, []), 15) := rfl
theorem T_57_15 : hTab 57 15 = some ((3, 3, 0, []), 16) := rfl
theorem T_57_16 : hTab 57 16 = some ((19, 0, Int.ofNat 21, []), 19) := rfl
theorem T_57_19 : hTab 57 19 = some ((0, 0, 0, []), 20) := rfl
theorem T_57_20 : hTab 57 20 = some ((33, 2, 0, []), 21) := rfl
theorem T_57_21 : hTab 57 21 = some ((3, 1, 0, []), 22) := rfl
theorem T_57_22 : hTab 57 22 = some ((4, 4, 0, []), 24) := rfl
theorem T_57_24 : hTab 57 24 = some ((3, 4, 0, []), 26) := rfl
theorem T_57_26 : hTab 57 26 = some ((3, 2, 0, []), 27) := rfl
theorem T_57_27 : hTab 57 27 = some ((19, 3, Int.ofNat 50, []), 30) := rfl
theorem T_57_30 : hTab 57 30 = some ((3, 0, 2, []), 31) := rfl
theorem T_57_31 : hTab 57 31 = some ((24, 2, Int.ofNat 0, []), 34) := rfl
theorem T_57_34 : hTab 57 34 = some ((3, 4, 0, []), 36) := rfl
theorem T_57_36 : hTab 57 36 = some ((26, 1, 0, []), 37) := rfl
theorem T_57_37 : hTab 57 37 = some ((0, 0, 46, []), 39) := rfl
theorem T_57_39 : hTab 57 39 = some ((19, 0, Int.ofNat 44, []), 42) := rfl
theorem T_57_42 : hTab 57 42 = some ((0, 0, 0, []), 43) := rfl
theorem T_57_43 : hTab 57 43 = some ((33, 2, 0, []), 44) := rfl
theorem T_57_44 : hTab 57 44 = some ((5, 4, 1, []), 47) := rfl
theorem T_57_47 : hTab 57 47 = some ((22, 0, Int.ofNat 24, []), 50) := rfl
theorem T_57_50 : hTab 57 50 = some ((0, 0, 1, []), 51) := rfl
theorem T_57_51 : hTab 57 51 = some ((33, 2, 0, []), 52) := rfl
theorem T_71_0 : hTab 71 0 = some ((3, 1, 0, []), 1) := rfl
theorem T_71_1 : hTab 71 1 = some ((18, 3, Int.ofNat 8, []), 4) := rfl
theorem T_71_8 : hTab 71 8 = some ((3, 1, 0, []), 9) := rfl
theorem T_71_9 : hTab 71 9 = some ((3, 0, 2, []), 10) := rfl
theorem T_71_10 : hTab 71 10 = some ((24, 2, Int.ofNat 1, []), 13) := rfl
theorem T_71_13 : hTab 71 13 = some ((19, 5, Int.ofNat 23, []), 16) := rfl
theorem T_71_23 : hTab 71 23 = some ((3, 1, 0, []), 24) := rfl
theorem T_71_24 : hTab 71 24 = some ((4, 2, 0, []), 25) := rfl
theorem T_71_25 : hTab 71 25 = some ((3, 2, 0, []), 26) := rfl
theorem T_71_26 : hTab 71 26 = some ((4, 3, 0, []), 27) := rfl
theorem T_71_27 : hTab 71 27 = some ((3, 3, 0, []), 28) := rfl
theorem T_71_28 : hTab 71 28 = some ((3, 0, 2, []), 29) := rfl
theorem T_71_29 : hTab 71 29 = some ((24, 2, Int.ofNat 1, []), 32) := rfl
theorem T_71_32 : hTab 71 32 = some ((19, 3, Int.ofNat 55, []), 35) := rfl
theorem T_71_35 : hTab 71 35 = some ((3, 0, 2, []), 36) := rfl
theorem T_71_36 : hTab 71 36 = some ((24, 2, Int.ofNat 0, []), 39) := rfl
theorem T_71_39 : hTab 71 39 = some ((3, 3, 0, []), 40) := rfl
theorem T_71_40 : hTab 71 40 = some ((3, 2, 0, []), 41) := rfl
theorem T_71_41 : hTab 71 41 = some ((10, 1, 0, []), 42) := rfl
theorem T_71_42 : hTab 71 42 = some ((3, 0, 2, []), 43) := rfl
theorem T_71_43 : hTab 71 43 = some ((24, 2, Int.ofNat 0, []), 46) := rfl
theorem T_71_46 : hTab 71 46 = some ((3, 3, 0, []), 47) := rfl
theorem T_71_47 : hTab 71 47 = some ((26, 1, 0, []), 48) := rfl
theorem T_71_48 : hTab 71 48 = some ((27, 1, 0, []), 49) := rfl
theorem T_71_49 : hTab 71 49 = some ((5, 3, 1, []), 52) := rfl
theorem T_71_52 : hTab 71 52 = some ((22, 0, Int.ofNat 27, []), 55) := rfl
theorem T_71_55 : hTab 71 55 = some ((3, 0, 2, []), 56) := rfl
theorem T_71_56 : hTab 71 56 = some ((6, 0, 0, []), 57) := rfl
theorem T_71_57 : hTab 71 57 = some ((24, 2, Int.ofNat 1, []), 60) := rfl
theorem T_71_60 : hTab 71 60 = some ((3, 2, 0, []), 61) := rfl
theorem T_71_61 : hTab 71 61 = some ((10, 1, 0, []), 62) := rfl
theorem T_71_62 : hTab 71 62 = some ((25, 2, Int.ofNat 1, []), 65) := rfl
theorem T_71_65 : hTab 71 65 = some ((33, 0, 0, []), 66) := rfl
theorem T_87_0 : hTab 87 0 = some ((3, 1, 0, []), 1) := rfl
theorem T_87_1 : hTab 87 1 = some ((4, 3, 0, []), 2) := rfl
theorem T_87_2 : hTab 87 2 = some ((3, 3, 0, []), 3) := rfl
theorem T_87_3 : hTab 87 3 = some ((3, 2, 0, []), 4) := rfl
theorem T_87_4 : hTab 87 4 = some ((19, 3, Int.ofNat 37, []), 7) := rfl
theorem T_87_7 : hTab 87 7 = some ((3, 3, 0, []), 8) := rfl
theorem T_87_8 : hTab 87 8 = some ((18, 2, Int.ofNat 29, []), 11) := rfl
theorem T_87_11 : hTab 87 11 = some ((3, 3, 0, []), 12) := rfl
theorem T_87_12 : hTab 87 12 = some ((3, 0, 2, []), 13) := rfl
theorem T_87_13 : hTab 87 13 = some ((24, 2, Int.ofNat 1, []), 16) := rfl
theorem T_87_16 : hTab 87 16 = some ((19, 3, Int.ofNat 29, []), 19) := rfl
theorem T_87_19 : hTab 87 19 = some ((3, 0, 2, []), 20) := rfl
theorem T_87_20 : hTab 87 20 = some ((24, 2, Int.ofNat 0, []), 23) := rfl
theorem T_87_23 : hTab 87 23 = some ((3, 3, 0, []), 24) := rfl
theorem T_87_24 : hTab 87 24 = some ((26, 1, 0, []), 25) := rfl
theorem T_87_25 : hTab 87 25 = some ((0, 0, (-1), []), 26) := rfl
theorem T_87_26 : hTab 87 26 = some ((19, 0, Int.ofNat 31, []), 29) := rfl
theorem T_87_29 : hTab 87 29 = some ((0, 0, 0, []), 30) := rfl
theorem T_87_30 : hTab 87 30 = some ((33, 2, 0, []), 31) := rfl
theorem T_87_31 : hTab 87 31 = some ((5, 3, 1, []), 34) := rfl
theorem T_87_34 : hTab 87 34 = some ((22, 0, Int.ofNat 2, []), 37) := rfl
theorem T_87_37 : hTab 87 37 = some ((0, 0, 1, []), 38) := rfl
theorem T_87_38 : hTab 87 38 = some ((33, 2, 0, []), 39) := rfl
theorem mN_21 : hmN 21 = 3 := by decide +kernel
theorem mL_21 : hmL 21 = 4 := by decide +kernel
theorem mK_21 : hmK 21 = 1 := by decide +kernel
theorem mO_21 : hmO 21 = 2 := by decide +kernel
theorem mN_24 : hmN 24 = 1 := by decide +kernel
theorem mL_24 : hmL 24 = 1 := by decide +kernel
theorem mK_24 : hmK 24 = 1 := by decide +kernel
theorem mO_24 : hmO 24 = 2 := by decide +kernel
theorem mN_57 : hmN 57 = 4 := by decide +kernel
theorem mL_57 : hmL 57 = 5 := by decide +kernel
theorem mK_57 : hmK 57 = 1 := by decide +kernel
theorem mO_57 : hmO 57 = 2 := by decide +kernel
theorem mN_71 : hmN 71 = 2 := by decide +kernel
theorem mL_71 : hmL 71 = 4 := by decide +kernel
theorem mK_71 : hmK 71 = 1 := by decide +kernel
theorem mO_71 : hmO 71 = 2 := by decide +kernel
theorem mN_87 : hmN 87 = 3 := by decide +kernel
theorem mL_87 : hmL 87 = 4 := by decide +kernel
theorem mK_87 : hmK 87 = 1 := by decide +kernel
theorem mO_87 : hmO 87 = 2 := by decide +kernel
section XBY4
variable {fb : Bool} {d b c n m q : Nat} {σ0 σ : hM} {W W0 W1 W2 : qR} {R : rR} {l lo t : List Int} {i k x z v s e w g o : Int} {f : Int → Int}
theorem sb8_46 (hx : 0 ≤ x ∧ x ≤ 255) : sb8 x = 46 ↔ x = 46 := by
  rw [sb8_val hx]
  split <;> omega
theorem sb8_m1 (hx : 0 ≤ x ∧ x ≤ 255) : sb8 x = -1 ↔ x = 255 := by
  rw [sb8_val hx]
  split <;> omega
theorem x_dots_loop (hP : PX σ0 W R σ) (hB : BY W b n l) (hs : 0 ≤ s) (he : e ≤ l.length) : ∀ (m : Nat) (i : Int), i + m = e → s ≤ i → WP fb d 57 24 [some (vR (some b)), some (vI s), some (vI e), some (vI k), some (vI i)] [] σ (rP (if seg (lg l) i m = List.replicate m 46 then 1 else 0) σ) := by
  obtain ⟨ho, ha, hn, h3, h4, h5, h6⟩ := id hB
  intro m
  induction m with
  | zero =>
    intro i h1 h2
    have h1 : i + ((0 : Nat) : Int) = e := h1
    rw [if_pos (show seg (lg l) i 0 = List.replicate 0 46 from rfl)]
    refine x_li (z := i) T_57_24 rfl ?_
    refine x_li (z := e) T_57_26 rfl ?_
    refine x_ic2 T_57_27 (fun _ => ?_) (fun h => absurd (show e ≤ i by omega) h)
    refine x_ic T_57_50 ?_
    refine x_rz T_57_51 rfl ?_
    exact ⟨rfl, rfl⟩
  | succ m ih =>
    intro i h1 h2
    have e0 := h6 i (by omega) (by omega)
    have r0 := h5 i (by omega)
    have hgo := ih (i + 1) (by omega) (by omega)
    rw [seg_cons, List.replicate_succ]
    obtain ⟨x0, hx0⟩ : ∃ x, lg l i = x := ⟨_, rfl⟩
    rw [hx0] at e0 r0 ⊢
    have e2 := sb8_46 r0
    by_cases qq : x0 = 46
    · rw [ifc (show x0 :: seg (lg l) (i + 1) m = 46 :: List.replicate m 46 ↔ seg (lg l) (i + 1) m = List.replicate m 46 from ⟨fun c => (List.cons.inj c).2, fun c => by rw [qq, c]⟩)]
      refine x_li (z := i) T_57_24 rfl ?_
      refine x_li (z := e) T_57_26 rfl ?_
      refine x_ic2 T_57_27 (fun h => absurd (show e ≤ i from h) (by omega)) (fun _ => ?_)
      refine x_lr (z := some b) T_57_30 rfl ?_
      refine x_gR (z := some (b + 1)) T_57_31 F_2_0 (hP.o ho) (hP.rc ho rfl rfl) ?_
      refine x_li (z := i) T_57_34 rfl ?_
      refine x_alI (z := (sb8 x0)) T_57_36 (by decide) (hP.ta ha) (by omega) (by omega) (Eq.trans (hP.ai ha (by omega)) e0) ?_
      refine x_ic T_57_37 ?_
      refine x_ic2 T_57_39 (fun _ => ?_) (fun h => absurd (show (sb8 x0) = 46 by exact e2.mpr qq) h)
      refine x_inc (w := (i + 1)) (ls1 := [some (vR (some b)), some (vI s), some (vI e), some (vI k), some (vI (i + 1))]) T_57_44 rfl (w32_id (by omega) (by omega)) rfl ?_
      refine x_goto T_57_47 ?_
      exact hgo
    · rw [if_neg (fun c => qq (List.cons.inj c).1)]
      refine x_li (z := i) T_57_24 rfl ?_
      refine x_li (z := e) T_57_26 rfl ?_
      refine x_ic2 T_57_27 (fun h => absurd (show e ≤ i from h) (by omega)) (fun _ => ?_)
      refine x_lr (z := some b) T_57_30 rfl ?_
      refine x_gR (z := some (b + 1)) T_57_31 F_2_0 (hP.o ho) (hP.rc ho rfl rfl) ?_
      refine x_li (z := i) T_57_34 rfl ?_
      refine x_alI (z := (sb8 x0)) T_57_36 (by decide) (hP.ta ha) (by omega) (by omega) (Eq.trans (hP.ai ha (by omega)) e0) ?_
      refine x_ic T_57_37 ?_
      refine x_ic2 T_57_39 (fun h => absurd (show (sb8 x0) = 46 from h) (by exact fun c => qq (e2.mp c))) (fun _ => ?_)
      refine x_ic T_57_42 ?_
      refine x_rz T_57_43 rfl ?_
      exact ⟨rfl, rfl⟩
theorem x_areDots (hP : PX σ0 W R σ) (hB : BY W b n l) (hz : (l.length : Int) = z) (hs : -1000000 ≤ s ∧ s ≤ 1000000) (he : -1000000 ≤ e ∧ e ≤ 1000000) (hk : 0 ≤ k) : CL fb d 57 [vR (some b), vI s, vI e, vI k] σ (rP (if (0 ≤ s ∧ e ≤ z) ∧ e - s = k ∧ seg (lg l) s k.toNat = List.replicate k.toNat 46 then 1 else 0) σ) := by
  have ho := hB.1
  have h1 := hB.sz hz
  by_cases q1 : s < 0
  · rw [if_neg (fun c => by omega)]
    refine CL_in mL_57 rfl ?_
    show WP fb _ 57 0 [some (vR (some b)), some (vI s), some (vI e), some (vI k), none] [] σ _
    refine x_li (z := s) T_57_0 rfl ?_
    refine x_if T_57_1 (fun _ => ?_) (fun h => absurd (show s < 0 by omega) h)
    refine x_ic T_57_19 ?_
    refine x_rz T_57_20 rfl ?_
    exact ⟨rfl, rfl⟩
  by_cases q2 : z < e
  · rw [if_neg (fun c => by omega)]
    refine CL_in mL_57 rfl ?_
    show WP fb _ 57 0 [some (vR (some b)), some (vI s), some (vI e), some (vI k), none] [] σ _
    refine x_li (z := s) T_57_0 rfl ?_
    refine x_if T_57_1 (fun h => absurd (show s < 0 from h) (by omega)) (fun _ => ?_)
    refine x_li (z := e) T_57_4 rfl ?_
    refine x_lr (z := some b) T_57_5 rfl ?_
    refine x_gI (z := z) T_57_6 (Or.inl F_2_1) (hP.o ho) (Eq.trans (hP.gi ho (key := 2065) rfl) h1) ?_
    refine x_ic2 T_57_9 (fun _ => ?_) (fun h => absurd (show z < e by omega) h)
    refine x_ic T_57_19 ?_
    refine x_rz T_57_20 rfl ?_
    exact ⟨rfl, rfl⟩
  by_cases q3 : e - s = k
  · have hgo := x_dots_loop (fb := fb) (d := d) (k := k) hP hB (s := s) (e := e) (by omega) (by omega) k.toNat s (by omega) (Int.le_refl s)
    rw [ifc (show (0 ≤ s ∧ e ≤ z) ∧ e - s = k ∧ seg (lg l) s k.toNat = List.replicate k.toNat 46 ↔ seg (lg l) s k.toNat = List.replicate k.toNat 46 from ⟨fun c => c.2.2, fun c => ⟨by omega, by omega, c⟩⟩)]
    refine CL_in mL_57 rfl ?_
    show WP fb _ 57 0 [some (vR (some b)), some (vI s), some (vI e), some (vI k), none] [] σ _
    refine x_li (z := s) T_57_0 rfl ?_
    refine x_if T_57_1 (fun h => absurd (show s < 0 from h) (by omega)) (fun _ => ?_)
    refine x_li (z := e) T_57_4 rfl ?_
    refine x_lr (z := some b) T_57_5 rfl ?_
    refine x_gI (z := z) T_57_6 (Or.inl F_2_1) (hP.o ho) (Eq.trans (hP.gi ho (key := 2065) rfl) h1) ?_
    refine x_ic2 T_57_9 (fun h => absurd (show z < e from h) (by omega)) (fun _ => ?_)
    refine x_li (z := e) T_57_12 rfl ?_
    refine x_li (z := s) T_57_13 rfl ?_
    refine x_ib (w := (e - s)) T_57_14 (fun h => absurd h.1 (by decide)) (w32_id (by omega) (by omega)) ?_
    refine x_li (z := k) T_57_15 rfl ?_
    refine x_ic2 T_57_16 (fun _ => ?_) (fun h => absurd (show (e - s) = k by omega) h)
    refine x_li (z := s) T_57_21 rfl ?_
    refine x_si (ls1 := [some (vR (some b)), some (vI s), some (vI e), some (vI k), some (vI s)]) T_57_22 rfl ?_
    exact hgo
  · rw [if_neg (fun c => by omega)]
    refine CL_in mL_57 rfl ?_
    show WP fb _ 57 0 [some (vR (some b)), some (vI s), some (vI e), some (vI k), none] [] σ _
    refine x_li (z := s) T_57_0 rfl ?_
    refine x_if T_57_1 (fun h => absurd (show s < 0 from h) (by omega)) (fun _ => ?_)
    refine x_li (z := e) T_57_4 rfl ?_
    refine x_lr (z := some b) T_57_5 rfl ?_
    refine x_gI (z := z) T_57_6 (Or.inl F_2_1) (hP.o ho) (Eq.trans (hP.gi ho (key := 2065) rfl) h1) ?_
    refine x_ic2 T_57_9 (fun h => absurd (show z < e from h) (by omega)) (fun _ => ?_)
    refine x_li (z := e) T_57_12 rfl ?_
    refine x_li (z := s) T_57_13 rfl ?_
    refine x_ib (w := (e - s)) T_57_14 (fun h => absurd h.1 (by decide)) (w32_id (by omega) (by omega)) ?_
    refine x_li (z := k) T_57_15 rfl ?_
    refine x_ic2 T_57_16 (fun h => absurd (show (e - s) = k from h) (by omega)) (fun _ => ?_)
    refine x_ic T_57_19 ?_
    refine x_rz T_57_20 rfl ?_
    exact ⟨rfl, rfl⟩
theorem x_ones_loop (hP : PX σ0 W R σ) (hB : BY W b n l) (he : e ≤ l.length) : ∀ (m : Nat) (i : Int), i + m = e → 0 ≤ i → WP fb d 87 2 [some (vR (some b)), some (vI s), some (vI e), some (vI i)] [] σ (rP (if seg (lg l) i m = List.replicate m 255 then 1 else 0) σ) := by
  obtain ⟨ho, ha, hn, h3, h4, h5, h6⟩ := id hB
  obtain ⟨z, hz⟩ : ∃ z : Int, (l.length : Int) = z := ⟨_, rfl⟩
  rw [hz] at h3
  intro m
  induction m with
  | zero =>
    intro i h1 h2
    have h1 : i + ((0 : Nat) : Int) = e := h1
    rw [if_pos (show seg (lg l) i 0 = List.replicate 0 255 from rfl)]
    refine x_li (z := i) T_87_2 rfl ?_
    refine x_li (z := e) T_87_3 rfl ?_
    refine x_ic2 T_87_4 (fun _ => ?_) (fun h => absurd (show e ≤ i by omega) h)
    refine x_ic T_87_37 ?_
    refine x_rz T_87_38 rfl ?_
    exact ⟨rfl, rfl⟩
  | succ m ih =>
    intro i h1 h2
    have e0 := h6 i (by omega) (by omega)
    have r0 := h5 i (by omega)
    have hgo := ih (i + 1) (by omega) (by omega)
    rw [seg_cons, List.replicate_succ]
    obtain ⟨x0, hx0⟩ : ∃ x, lg l i = x := ⟨_, rfl⟩
    rw [hx0] at e0 r0 ⊢
    have e2 := sb8_m1 r0
    by_cases qq : x0 = 255
    · rw [ifc (show x0 :: seg (lg l) (i + 1) m = 255 :: List.replicate m 255 ↔ seg (lg l) (i + 1) m = List.replicate m 255 from ⟨fun c => (List.cons.inj c).2, fun c => by rw [qq, c]⟩)]
      refine x_li (z := i) T_87_2 rfl ?_
      refine x_li (z := e) T_87_3 rfl ?_
      refine x_ic2 T_87_4 (fun h => absurd (show e ≤ i from h) (by omega)) (fun _ => ?_)
      refine x_li (z := i) T_87_7 rfl ?_
      refine x_if T_87_8 (fun h => absurd (show i < 0 from h) (by omega)) (fun _ => ?_)
      refine x_li (z := i) T_87_11 rfl ?_
      refine x_lr (z := some b) T_87_12 rfl ?_
      refine x_gI (z := z) T_87_13 (Or.inl F_2_1) (hP.o ho) (Eq.trans (hP.gi ho (key := 2065) rfl) h3) ?_
      refine x_ic2 T_87_16 (fun h => absurd (show z ≤ i from h) (by omega)) (fun _ => ?_)
      refine x_lr (z := some b) T_87_19 rfl ?_
      refine x_gR (z := some (b + 1)) T_87_20 F_2_0 (hP.o ho) (hP.rc ho rfl rfl) ?_
      refine x_li (z := i) T_87_23 rfl ?_
      refine x_alI (z := (sb8 x0)) T_87_24 (by decide) (hP.ta ha) (by omega) (by omega) (Eq.trans (hP.ai ha (by omega)) e0) ?_
      refine x_ic T_87_25 ?_
      refine x_ic2 T_87_26 (fun _ => ?_) (fun h => absurd (show (sb8 x0) = (-1) by exact e2.mpr qq) h)
      refine x_inc (w := (i + 1)) (ls1 := [some (vR (some b)), some (vI s), some (vI e), some (vI (i + 1))]) T_87_31 rfl (w32_id (by omega) (by omega)) rfl ?_
      refine x_goto T_87_34 ?_
      exact hgo
    · rw [if_neg (fun c => qq (List.cons.inj c).1)]
      refine x_li (z := i) T_87_2 rfl ?_
      refine x_li (z := e) T_87_3 rfl ?_
      refine x_ic2 T_87_4 (fun h => absurd (show e ≤ i from h) (by omega)) (fun _ => ?_)
      refine x_li (z := i) T_87_7 rfl ?_
      refine x_if T_87_8 (fun h => absurd (show i < 0 from h) (by omega)) (fun _ => ?_)
      refine x_li (z := i) T_87_11 rfl ?_
      refine x_lr (z := some b) T_87_12 rfl ?_
      refine x_gI (z := z) T_87_13 (Or.inl F_2_1) (hP.o ho) (Eq.trans (hP.gi ho (key := 2065) rfl) h3) ?_
      refine x_ic2 T_87_16 (fun h => absurd (show z ≤ i from h) (by omega)) (fun _ => ?_)
      refine x_lr (z := some b) T_87_19 rfl ?_
      refine x_gR (z := some (b + 1)) T_87_20 F_2_0 (hP.o ho) (hP.rc ho rfl rfl) ?_
      refine x_li (z := i) T_87_23 rfl ?_
      refine x_alI (z := (sb8 x0)) T_87_24 (by decide) (hP.ta ha) (by omega) (by omega) (Eq.trans (hP.ai ha (by omega)) e0) ?_
      refine x_ic T_87_25 ?_
      refine x_ic2 T_87_26 (fun h => absurd (show (sb8 x0) = (-1) from h) (by exact fun c => qq (e2.mp c))) (fun _ => ?_)
      refine x_ic T_87_29 ?_
      refine x_rz T_87_30 rfl ?_
      exact ⟨rfl, rfl⟩
theorem x_allOnes (hP : PX σ0 W R σ) (hB : BY W b n l) (hs : 0 ≤ s ∧ s ≤ e) (he : e ≤ l.length) : CL fb d 87 [vR (some b), vI s, vI e] σ (rP (if seg (lg l) s (e - s).toNat = List.replicate (e - s).toNat 255 then 1 else 0) σ) := by
  have ho := hB.1
  have hgo := x_ones_loop (fb := fb) (d := d) (s := s) hP hB he (e - s).toNat s (by omega) hs.1
  refine CL_in mL_87 rfl ?_
  show WP fb _ 87 0 [some (vR (some b)), some (vI s), some (vI e), none] [] σ _
  refine x_li (z := s) T_87_0 rfl ?_
  refine x_si (ls1 := [some (vR (some b)), some (vI s), some (vI e), some (vI s)]) T_87_1 rfl ?_
  exact hgo
/-- bytes dropped: what is where, while the others move down -/
theorem x_drop_loop (hW : BY W0 b n l) (hz : (l.length : Int) = z) (hg : 0 ≤ g ∧ g ≤ z) : ∀ (m : Nat) (i : Int) (W : qR) (σ : hM), i + m = z → g ≤ i → PX σ0 W R σ → FB b W0 W → W b 2065 = z → (∀ j, 0 ≤ j → j < i - g → W (b + 1) j = sb8 (lg l (j + g))) → (∀ j, i - g ≤ j → j < z → W (b + 1) j = sb8 (lg l j)) → WP fb d 71 27 [some (vR (some b)), some (vI g), some (vI g), some (vI i)] [] σ (XB σ0 W0 R b n (l.drop g.toNat) none) := by
  obtain ⟨ho, ha, hn, h3, h4, h5, h6⟩ := id hW
  intro m
  induction m with
  | zero =>
    intro i W σ h1 h2 hP hF hS hA hB
    have h1 : i + ((0 : Nat) : Int) = z := h1
    have hdl : ((l.drop g.toNat).length : Int) = z - g := by rw [List.length_drop]; omega
    have hfin : BY (rU W b 2065 (z - g)) b n (l.drop g.toNat) := ⟨ho, ha, hn, rU_s.trans hdl.symm, by omega, byt_drop h5, fun j j0 j1 => by
      rw [rU_j (by omega), hA j j0 (by omega)]
      congr 1
      unfold lg
      rw [List.getD_eq_getElem?_getD, List.getD_eq_getElem?_getD, List.getElem?_drop, show g.toNat + j.toNat = (j + g).toNat by omega]⟩
    refine x_li (z := i) T_71_27 rfl ?_
    refine x_lr (z := some b) T_71_28 rfl ?_
    refine x_gI (z := z) T_71_29 (Or.inl F_2_1) (hP.o ho) (Eq.trans (hP.gi ho (key := 2065) rfl) hS) ?_
    refine x_ic2 T_71_32 (fun _ => ?_) (fun h => absurd (show z ≤ i by omega) h)
    refine x_lr (z := some b) T_71_55 rfl ?_
    refine x_dupR T_71_56 ?_
    refine x_gI (z := z) T_71_57 (Or.inl F_2_1) (hP.o ho) (Eq.trans (hP.gi ho (key := 2065) rfl) hS) ?_
    refine x_li (z := g) T_71_60 rfl ?_
    refine x_ib (w := (z - g)) T_71_61 (fun h => absurd h.1 (by decide)) (w32_id (by omega) (by omega)) ?_
    refine z_pI hP T_71_62 F_2_1 ho (key := 2065) rfl (fun σ hP => ?_)
    refine x_rv T_71_65 ?_
    exact ⟨rfl, _, hP, hfin, FB_tr hF FB_set⟩
  | succ m ih =>
    intro i W σ h1 h2 hP hF hS hA hB
    have e0 := hB i (by omega) (by omega)
    have hgo := fun (σ : hM) (hP : PX σ0 (rU W (b + 1) (i - g) (sb8 (lg l i))) R σ) => ih (i + 1) _ σ (by omega) (by omega) hP (FB_tr hF (FB_rep (by omega))) ((rU_f (by omega)).trans hS) (fun j j0 j1 => by
      by_cases qj : j = i - g
      · rw [qj, rU_s, show i - g + g = i by omega]
      · rw [rU_k qj]
        exact hA j j0 (by omega)) (fun j j0 j1 => by
      rw [rU_k (by omega)]
      exact hB j (by omega) j1)
    refine x_li (z := i) T_71_27 rfl ?_
    refine x_lr (z := some b) T_71_28 rfl ?_
    refine x_gI (z := z) T_71_29 (Or.inl F_2_1) (hP.o ho) (Eq.trans (hP.gi ho (key := 2065) rfl) hS) ?_
    refine x_ic2 T_71_32 (fun h => absurd (show z ≤ i from h) (by omega)) (fun _ => ?_)
    refine x_lr (z := some b) T_71_35 rfl ?_
    refine x_gR (z := some (b + 1)) T_71_36 F_2_0 (hP.o ho) (hP.rc ho rfl rfl) ?_
    refine x_li (z := i) T_71_39 rfl ?_
    refine x_li (z := g) T_71_40 rfl ?_
    refine x_ib (w := (i - g)) T_71_41 (fun h => absurd h.1 (by decide)) (w32_id (by omega) (by omega)) ?_
    refine x_lr (z := some b) T_71_42 rfl ?_
    refine x_gR (z := some (b + 1)) T_71_43 F_2_0 (hP.o ho) (hP.rc ho rfl rfl) ?_
    refine x_li (z := i) T_71_46 rfl ?_
    refine x_alI (z := (sb8 (lg l i))) T_71_47 (by decide) (hP.ta ha) (by omega) (by omega) (Eq.trans (hP.ai ha (by omega)) e0) ?_
    refine z_aB (v := (sb8 (lg l i))) hP T_71_48 (sb8_sb8 _) ha (by omega) (by omega) (fun σ hP => ?_)
    refine x_inc (w := (i + 1)) (ls1 := [some (vR (some b)), some (vI g), some (vI g), some (vI (i + 1))]) T_71_49 rfl (w32_id (by omega) (by omega)) rfl ?_
    refine x_goto T_71_52 ?_
    exact hgo σ hP
theorem x_drop (hP : PX σ0 W R σ) (hB : BY W b n l) (hz : (l.length : Int) = z) (hg : 0 ≤ g ∧ g ≤ z) : CL fb d 71 [vR (some b), vI g] σ (XB σ0 W R b n (l.drop g.toNat) none) := by
  have ho := hB.1
  have h1 := hB.sz hz
  have hgo := x_drop_loop (fb := fb) (d := d) (σ0 := σ0) (R := R) hB hz hg (z - g).toNat g W σ (by omega) (Int.le_refl g) hP FB_rfl h1 (fun j j0 j1 => by omega) (fun j j0 j1 => hB.2.2.2.2.2.2 j (by omega) (by omega))
  refine CL_in mL_71 rfl ?_
  show WP fb _ 71 0 [some (vR (some b)), some (vI g), none, none] [] σ _
  refine x_li (z := g) T_71_0 rfl ?_
  refine x_if T_71_1 (fun _ => ?_) (fun h => absurd (show 0 ≤ g by omega) h)
  refine x_li (z := g) T_71_8 rfl ?_
  refine x_lr (z := some b) T_71_9 rfl ?_
  refine x_gI (z := z) T_71_10 (Or.inl F_2_1) (hP.o ho) (Eq.trans (hP.gi ho (key := 2065) rfl) h1) ?_
  refine x_ic2 T_71_13 (fun _ => ?_) (fun h => absurd (show g ≤ z by omega) h)
  refine x_li (z := g) T_71_23 rfl ?_
  refine x_si (ls1 := [some (vR (some b)), some (vI g), some (vI g), none]) T_71_24 rfl ?_
  refine x_li (z := g) T_71_25 rfl ?_
  refine x_si (ls1 := [some (vR (some b)), some (vI g), some (vI g), some (vI g)]) T_71_26 rfl ?_
  exact hgo
theorem x_start (hP : PX σ0 W R σ) (hB : BY W b n l) (hn : 7 ≤ n) (hx : -2147483648 ≤ x ∧ x ≤ 2147483647) (hv : -9223372036854775808 ≤ v ∧ v ≤ 9223372036854775807) : CL fb (d + 1) 21 [vR (some b), vI x, vL v] σ (XB σ0 W R b n (leb 4 0 ++ (leb 1 x ++ leb 2 v)) none) := by
  have ho := hB.1
  have p1 := fun (σ : hM) (hP : PX σ0 (rU W b 2065 0) R σ) => x_put (fb := fb) (d := d) (k := 4) (v := 0) 4 hP hB.set0 rfl (by decide) (by decide) (by show 0 + 4 ≤ n; omega)
  have p2 := fun (σ : hM) (W1 : qR) (hP : PX σ0 W1 R σ) (hB1 : BY W1 b n ([] ++ leb 4 0)) => x_put (fb := fb) (d := d) (k := 1) (v := x) 1 hP hB1 rfl (by decide) ⟨by omega, by omega⟩ (by rw [List.length_append, leb_len]; show 0 + 4 + 1 ≤ n; omega)
  have p3 := fun (σ : hM) (W1 : qR) (hP : PX σ0 W1 R σ) (hB1 : BY W1 b n ([] ++ leb 4 0 ++ leb 1 x)) => x_put (fb := fb) (d := d) (k := 2) (v := v) 2 hP hB1 rfl (by decide) hv (by rw [List.length_append, List.length_append, leb_len, leb_len]; show 0 + 4 + 1 + 2 ≤ n; omega)
  refine CL_in mL_21 rfl ?_
  show WP fb _ 21 0 [some (vR (some b)), some (vI x), some (vL v), none] [] σ _
  refine x_lr (z := some b) T_21_0 rfl ?_
  refine x_ic T_21_1 ?_
  refine z_pI hP T_21_2 F_2_1 ho (key := 2065) rfl (fun σ hP => ?_)
  refine x_lr (z := some b) T_21_5 rfl ?_
  refine x_lc T_21_6 ?_
  refine x_ic T_21_7 ?_
  refine x_cv3 T_21_8 mN_22 mL_22 (Nat.le_of_ble_eq_true rfl) mO_22 (hP.o ho) (Nat.le_of_ble_eq_true rfl) (p1 σ hP) ?_
  clear hP p1
  rintro _ σ ⟨rfl, W1, hP, hB1, hF1⟩
  refine cV ?_
  refine x_lr (z := some b) T_21_11 rfl ?_
  refine x_li (z := x) T_21_12 rfl ?_
  refine x_i2l T_21_13 ?_
  refine x_ic T_21_14 ?_
  refine x_cv3 T_21_15 mN_22 mL_22 (Nat.le_of_ble_eq_true rfl) mO_22 (hP.o ho) (Nat.le_of_ble_eq_true rfl) (p2 σ W1 hP hB1) ?_
  clear hP p2
  rintro _ σ ⟨rfl, W2, hP, hB2, hF2⟩
  refine cV ?_
  refine x_lr (z := some b) T_21_18 rfl ?_
  refine x_ll (z := v) T_21_19 rfl ?_
  refine x_ic T_21_20 ?_
  refine x_cv3 T_21_21 mN_22 mL_22 (Nat.le_of_ble_eq_true rfl) mO_22 (hP.o ho) (Nat.le_of_ble_eq_true rfl) (p3 σ W2 hP hB2) ?_
  clear hP p3
  rintro _ σ ⟨rfl, W3, hP, hB3, hF3⟩
  refine cV ?_
  refine x_rv T_21_24 ?_
  exact ⟨rfl, W3, hP, by rw [List.nil_append, List.append_assoc] at hB3; exact hB3, FB_tr FB_set (FB_tr hF1 (FB_tr hF2 hF3))⟩
theorem x_finish (hP : PX σ0 W R σ) (hB : BY W b n l) (hz : (l.length : Int) = z) (h4 : 4 ≤ z) : CL fb (d + 1) 24 [vR (some b)] σ (XB σ0 W R b n (lay l 0 (leb 4 z)) none) := by
  have ho := hB.1
  have h1 := hB.sz hz
  have hn := hB.2.2.1
  have hl := hB.2.2.2.2.1
  have p1 := x_replace (fb := fb) (d := d) (k := 4) (s := 0) (v := z) 4 hP hB rfl (by decide) (by decide) ⟨by omega, by omega⟩ (by omega)
  refine CL_in mL_24 rfl ?_
  show WP fb _ 24 0 [some (vR (some b))] [] σ _
  refine x_lr (z := some b) T_24_0 rfl ?_
  refine x_ic T_24_1 ?_
  refine x_lr (z := some b) T_24_2 rfl ?_
  refine x_gI (z := z) T_24_3 (Or.inl F_2_1) (hP.o ho) (Eq.trans (hP.gi ho (key := 2065) rfl) h1) ?_
  refine x_i2l T_24_6 ?_
  refine x_ic T_24_7 ?_
  refine x_cv4 T_24_8 mN_25 mL_25 (Nat.le_of_ble_eq_true rfl) mO_25 (hP.o ho) (Nat.le_of_ble_eq_true rfl) (p1) ?_
  clear hP p1
  rintro _ σ ⟨rfl, W2, hP, hB2, hF2⟩
  refine cV ?_
  refine x_rv T_24_11 ?_
  exact ⟨rfl, W2, hP, hB2, hF2⟩
theorem lay_head {x0 x1 x2 x3 y0 y1 y2 y3 : Int} : lay (x0 :: x1 :: x2 :: x3 :: t) 0 [y0, y1, y2, y3] = y0 :: y1 :: y2 :: y3 :: t := rfl
/-- the size laid over the first four bytes -/
theorem lay_size : lay (leb 4 0 ++ t) 0 (leb 4 z) = leb 4 z ++ t := rfl
end XBY4
