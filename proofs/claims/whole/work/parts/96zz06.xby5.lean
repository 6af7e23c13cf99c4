/-! Rows of bytes: names of files; texts of the class's. -/
theorem T_47_0 : hTab 47 0 = some ((3, 1, 0, []), 1) := rfl
theorem T_47_1 : hTab 47 1 = some ((18, 2, Int.ofNat 22, []), 4) := rfl
theorem T_47_4 : hTab 47 4 = some ((3, 2, 0, []), 5) := rfl
theorem T_47_5 : hTab 47 5 = some ((3, 0, 2, []), 6) := rfl
theorem T_47_6 : hTab 47 6 = some ((24, 2, Int.ofNat 1, []), 9) := rfl
theorem T_47_9 : hTab 47 9 = some ((19, 4, Int.ofNat 22, []), 12) := rfl
theorem T_47_12 : hTab 47 12 = some ((3, 2, 0, []), 13) := rfl
theorem T_47_13 : hTab 47 13 = some ((3, 1, 0, []), 14) := rfl
theorem T_47_14 : hTab 47 14 = some ((10, 1, 0, []), 15) := rfl
theorem T_47_15 : hTab 47 15 = some ((3, 3, 2, []), 16) := rfl
theorem T_47_16 : hTab 47 16 = some ((31, 13, 0, []), 19) := rfl
theorem T_47_19 : hTab 47 19 = some ((19, 0, Int.ofNat 24, []), 22) := rfl
theorem T_47_22 : hTab 47 22 = some ((0, 0, 0, []), 23) := rfl
theorem T_47_23 : hTab 47 23 = some ((33, 2, 0, []), 24) := rfl
theorem T_47_24 : hTab 47 24 = some ((3, 1, 0, []), 25) := rfl
theorem T_47_25 : hTab 47 25 = some ((4, 4, 0, []), 27) := rfl
theorem T_47_27 : hTab 47 27 = some ((3, 4, 0, []), 29) := rfl
theorem T_47_29 : hTab 47 29 = some ((3, 2, 0, []), 30) := rfl
theorem T_47_30 : hTab 47 30 = some ((19, 3, Int.ofNat 63, []), 33) := rfl
theorem T_47_33 : hTab 47 33 = some ((3, 0, 2, []), 34) := rfl
theorem T_47_34 : hTab 47 34 = some ((24, 2, Int.ofNat 0, []), 37) := rfl
theorem T_47_37 : hTab 47 37 = some ((3, 4, 0, []), 39) := rfl
theorem T_47_39 : hTab 47 39 = some ((26, 1, 0, []), 40) := rfl
theorem T_47_40 : hTab 47 40 = some ((0, 0, 255, []), 43) := rfl
theorem T_47_43 : hTab 47 43 = some ((10, 5, 0, []), 44) := rfl
theorem T_47_44 : hTab 47 44 = some ((3, 3, 2, []), 45) := rfl
theorem T_47_45 : hTab 47 45 = some ((3, 4, 0, []), 47) := rfl
theorem T_47_47 : hTab 47 47 = some ((3, 1, 0, []), 48) := rfl
theorem T_47_48 : hTab 47 48 = some ((10, 1, 0, []), 49) := rfl
theorem T_47_49 : hTab 47 49 = some ((31, 15, 0, []), 52) := rfl
theorem T_47_52 : hTab 47 52 = some ((19, 0, Int.ofNat 57, []), 55) := rfl
theorem T_47_55 : hTab 47 55 = some ((0, 0, 0, []), 56) := rfl
theorem T_47_56 : hTab 47 56 = some ((33, 2, 0, []), 57) := rfl
theorem T_47_57 : hTab 47 57 = some ((5, 4, 1, []), 60) := rfl
theorem T_47_60 : hTab 47 60 = some ((22, 0, Int.ofNat 27, []), 63) := rfl
theorem T_47_63 : hTab 47 63 = some ((0, 0, 1, []), 64) := rfl
theorem T_47_64 : hTab 47 64 = some ((33, 2, 0, []), 65) := rfl
theorem T_65_0 : hTab 65 0 = some ((3, 2, 0, []), 1) := rfl
theorem T_65_1 : hTab 65 1 = some ((3, 1, 0, []), 2) := rfl
theorem T_65_2 : hTab 65 2 = some ((10, 1, 0, []), 3) := rfl
theorem T_65_3 : hTab 65 3 = some ((4, 3, 0, []), 4) := rfl
theorem T_65_4 : hTab 65 4 = some ((3, 1, 0, []), 5) := rfl
theorem T_65_5 : hTab 65 5 = some ((18, 2, Int.ofNat 27, []), 8) := rfl
theorem T_65_8 : hTab 65 8 = some ((3, 2, 0, []), 9) := rfl
theorem T_65_9 : hTab 65 9 = some ((3, 0, 2, []), 10) := rfl
theorem T_65_10 : hTab 65 10 = some ((24, 2, Int.ofNat 1, []), 13) := rfl
theorem T_65_13 : hTab 65 13 = some ((19, 4, Int.ofNat 27, []), 16) := rfl
theorem T_65_16 : hTab 65 16 = some ((3, 3, 0, []), 17) := rfl
theorem T_65_17 : hTab 65 17 = some ((0, 0, 1, []), 18) := rfl
theorem T_65_18 : hTab 65 18 = some ((19, 2, Int.ofNat 27, []), 21) := rfl
theorem T_65_21 : hTab 65 21 = some ((3, 3, 0, []), 22) := rfl
theorem T_65_22 : hTab 65 22 = some ((0, 0, 12, []), 24) := rfl
theorem T_65_24 : hTab 65 24 = some ((19, 5, Int.ofNat 29, []), 27) := rfl
theorem T_65_27 : hTab 65 27 = some ((0, 0, 0, []), 28) := rfl
theorem T_65_28 : hTab 65 28 = some ((33, 2, 0, []), 29) := rfl
theorem T_65_29 : hTab 65 29 = some ((3, 3, 0, []), 30) := rfl
theorem T_65_30 : hTab 65 30 = some ((0, 0, 3, []), 31) := rfl
theorem T_65_31 : hTab 65 31 = some ((19, 3, Int.ofNat 38, []), 34) := rfl
theorem T_65_34 : hTab 65 34 = some ((0, 0, 1, []), 35) := rfl
theorem T_65_35 : hTab 65 35 = some ((22, 0, Int.ofNat 39, []), 38) := rfl
theorem T_65_38 : hTab 65 38 = some ((0, 0, 0, []), 39) := rfl
theorem T_65_39 : hTab 65 39 = some ((4, 4, 0, []), 41) := rfl
theorem T_65_41 : hTab 65 41 = some ((3, 1, 0, []), 42) := rfl
theorem T_65_42 : hTab 65 42 = some ((4, 5, 0, []), 44) := rfl
theorem T_65_44 : hTab 65 44 = some ((3, 5, 0, []), 46) := rfl
theorem T_65_46 : hTab 65 46 = some ((3, 2, 0, []), 47) := rfl
theorem T_65_47 : hTab 65 47 = some ((19, 3, Int.ofNat 118, []), 50) := rfl
theorem T_65_50 : hTab 65 50 = some ((3, 0, 2, []), 51) := rfl
theorem T_65_51 : hTab 65 51 = some ((24, 2, Int.ofNat 0, []), 54) := rfl
theorem T_65_54 : hTab 65 54 = some ((3, 5, 0, []), 56) := rfl
theorem T_65_56 : hTab 65 56 = some ((26, 1, 0, []), 57) := rfl
theorem T_65_57 : hTab 65 57 = some ((0, 0, 33, []), 59) := rfl
theorem T_65_59 : hTab 65 59 = some ((19, 2, Int.ofNat 86, []), 62) := rfl
theorem T_65_62 : hTab 65 62 = some ((3, 0, 2, []), 63) := rfl
theorem T_65_63 : hTab 65 63 = some ((24, 2, Int.ofNat 0, []), 66) := rfl
theorem T_65_66 : hTab 65 66 = some ((3, 5, 0, []), 68) := rfl
theorem T_65_68 : hTab 65 68 = some ((26, 1, 0, []), 69) := rfl
theorem T_65_69 : hTab 65 69 = some ((0, 0, 126, []), 71) := rfl
theorem T_65_71 : hTab 65 71 = some ((19, 4, Int.ofNat 86, []), 74) := rfl
theorem T_65_74 : hTab 65 74 = some ((3, 0, 2, []), 75) := rfl
theorem T_65_75 : hTab 65 75 = some ((24, 2, Int.ofNat 0, []), 78) := rfl
theorem T_65_78 : hTab 65 78 = some ((3, 5, 0, []), 80) := rfl
theorem T_65_80 : hTab 65 80 = some ((26, 1, 0, []), 81) := rfl
theorem T_65_81 : hTab 65 81 = some ((0, 0, 47, []), 83) := rfl
theorem T_65_83 : hTab 65 83 = some ((19, 1, Int.ofNat 88, []), 86) := rfl
theorem T_65_86 : hTab 65 86 = some ((0, 0, 0, []), 87) := rfl
theorem T_65_87 : hTab 65 87 = some ((33, 2, 0, []), 88) := rfl
theorem T_65_88 : hTab 65 88 = some ((3, 4, 0, []), 90) := rfl
theorem T_65_90 : hTab 65 90 = some ((18, 0, Int.ofNat 109, []), 93) := rfl
theorem T_65_93 : hTab 65 93 = some ((3, 0, 2, []), 94) := rfl
theorem T_65_94 : hTab 65 94 = some ((24, 2, Int.ofNat 0, []), 97) := rfl
theorem T_65_97 : hTab 65 97 = some ((3, 5, 0, []), 99) := rfl
theorem T_65_99 : hTab 65 99 = some ((26, 1, 0, []), 100) := rfl
theorem T_65_100 : hTab 65 100 = some ((0, 0, 46, []), 102) := rfl
theorem T_65_102 : hTab 65 102 = some ((19, 1, Int.ofNat 109, []), 105) := rfl
theorem T_65_105 : hTab 65 105 = some ((0, 0, 1, []), 106) := rfl
theorem T_65_106 : hTab 65 106 = some ((22, 0, Int.ofNat 110, []), 109) := rfl
theorem T_65_109 : hTab 65 109 = some ((0, 0, 0, []), 110) := rfl
theorem T_65_110 : hTab 65 110 = some ((4, 4, 0, []), 112) := rfl
theorem T_65_112 : hTab 65 112 = some ((5, 5, 1, []), 115) := rfl
theorem T_65_115 : hTab 65 115 = some ((22, 0, Int.ofNat 44, []), 118) := rfl
theorem T_65_118 : hTab 65 118 = some ((3, 4, 0, []), 120) := rfl
theorem T_65_120 : hTab 65 120 = some ((18, 1, Int.ofNat 127, []), 123) := rfl
theorem T_65_123 : hTab 65 123 = some ((0, 0, 1, []), 124) := rfl
theorem T_65_124 : hTab 65 124 = some ((22, 0, Int.ofNat 128, []), 127) := rfl
theorem T_65_127 : hTab 65 127 = some ((0, 0, 0, []), 128) := rfl
theorem T_65_128 : hTab 65 128 = some ((33, 2, 0, []), 129) := rfl
theorem mN_47 : hmN 47 = 4 := by decide +kernel
theorem mL_47 : hmL 47 = 5 := by decide +kernel
theorem mK_47 : hmK 47 = 1 := by decide +kernel
theorem mO_47 : hmO 47 = 2 := by decide +kernel
theorem mN_65 : hmN 65 = 3 := by decide +kernel
theorem mL_65 : hmL 65 = 6 := by decide +kernel
theorem mK_65 : hmK 65 = 1 := by decide +kernel
theorem mO_65 : hmO 65 = 2 := by decide +kernel
section XBY5
variable {fb : Bool} {d b c n m q j : Nat} {σ0 σ : hM} {W W0 W1 W2 : qR} {R : rR} {l lo t : List Int} {i k x z v s e w g o : Int} {f : Int → Int}
theorem nmSign_iff : nmSign x = true ↔ (33 ≤ x ∧ x ≤ 126) ∧ ¬ x = 47 := by
  unfold nmSign
  rw [Bool.and_eq_true, Bool.and_eq_true, decide_eq_true_eq, decide_eq_true_eq, decide_eq_true_eq, and_assoc]
theorem sb8_sign (hx : 0 ≤ x ∧ x ≤ 255) : (33 ≤ sb8 x ∧ sb8 x ≤ 126) ∧ ¬ sb8 x = 47 ↔ (33 ≤ x ∧ x ≤ 126) ∧ ¬ x = 47 := by
  rw [sb8_val hx]
  split <;> omega
theorem x_name_loop (hP : PX σ0 W R σ) (hB : BY W b n l) (hs : 0 ≤ s) (he : e ≤ l.length) : ∀ (m : Nat) (i o : Int), i + m = e → s ≤ i → (o = 0 ∨ o = 1) → WP fb d 65 44 [some (vR (some b)), some (vI s), some (vI e), some (vI k), some (vI o), some (vI i)] [] σ (rP (if (seg (lg l) i m).all nmSign = true ∧ ¬ (o = 1 ∧ seg (lg l) i m = List.replicate m 46) then 1 else 0) σ) := by
  obtain ⟨ho, ha, hn, h3, h4, h5, h6⟩ := id hB
  intro m
  induction m with
  | zero =>
    intro i o h1 h2 hov
    have h1 : i + ((0 : Nat) : Int) = e := h1
    rcases hov with rfl | rfl
    · rw [if_pos ⟨rfl, fun c => absurd c.1 (by decide)⟩]
      refine x_li (z := i) T_65_44 rfl ?_
      refine x_li (z := e) T_65_46 rfl ?_
      refine x_ic2 T_65_47 (fun _ => ?_) (fun h => absurd (show e ≤ i by omega) h)
      refine x_li (z := 0) T_65_118 rfl ?_
      refine x_if T_65_120 (fun h => absurd (show ¬ (0 : Int) = 0 from h) (by decide)) (fun _ => ?_)
      refine x_ic T_65_123 ?_
      refine x_goto T_65_124 ?_
      refine x_rz T_65_128 rfl ?_
      exact ⟨rfl, rfl⟩
    · rw [if_neg (fun c => c.2 ⟨rfl, rfl⟩)]
      refine x_li (z := i) T_65_44 rfl ?_
      refine x_li (z := e) T_65_46 rfl ?_
      refine x_ic2 T_65_47 (fun _ => ?_) (fun h => absurd (show e ≤ i by omega) h)
      refine x_li (z := 1) T_65_118 rfl ?_
      refine x_if T_65_120 (fun _ => ?_) (fun h => absurd (show ¬ (1 : Int) = 0 by decide) h)
      refine x_ic T_65_127 ?_
      refine x_rz T_65_128 rfl ?_
      exact ⟨rfl, rfl⟩
  | succ m ih =>
    intro i o h1 h2 hov
    have e0 := h6 i (by omega) (by omega)
    have r0 := h5 i (by omega)
    rw [seg_cons, List.all_cons, List.replicate_succ]
    have hgo := fun o hov => ih (i + 1) o (by omega) (by omega) hov
    obtain ⟨x0, hx0⟩ : ∃ x, lg l i = x := ⟨_, rfl⟩
    rw [hx0] at e0 r0 ⊢
    have e2 := sb8_sign r0
    have e3 := sb8_46 r0
    obtain ⟨y0, hy0⟩ : ∃ y, sb8 x0 = y := ⟨_, rfl⟩
    rw [hy0] at e0 e2 e3
    by_cases q1 : nmSign x0 = true
    · have q2 := e2.mpr (nmSign_iff.mp q1)
      by_cases q3 : o = 1 ∧ x0 = 46
      · obtain ⟨rfl, rfl⟩ := q3
        rw [ifc (show (nmSign 46 && (seg (lg l) (i + 1) m).all nmSign) = true ∧ ¬ ((1 : Int) = 1 ∧ 46 :: seg (lg l) (i + 1) m = 46 :: List.replicate m 46) ↔ (seg (lg l) (i + 1) m).all nmSign = true ∧ ¬ ((1 : Int) = 1 ∧ seg (lg l) (i + 1) m = List.replicate m 46) from ⟨fun c => ⟨(Bool.and_eq_true _ _ ▸ c.1).2, fun c2 => c.2 ⟨rfl, by rw [c2.2]⟩⟩, fun c => ⟨by rw [q1, c.1]; rfl, fun c2 => c.2 ⟨rfl, (List.cons.inj c2.2).2⟩⟩⟩)]
        have hgo := hgo 1 (Or.inr rfl)
        refine x_li (z := i) T_65_44 rfl ?_
        refine x_li (z := e) T_65_46 rfl ?_
        refine x_ic2 T_65_47 (fun h => absurd (show e ≤ i from h) (by omega)) (fun _ => ?_)
        refine x_lr (z := some b) T_65_50 rfl ?_
        refine x_gR (z := some (b + 1)) T_65_51 F_2_0 (hP.o ho) (hP.rc ho rfl rfl) ?_
        refine x_li (z := i) T_65_54 rfl ?_
        refine x_alI (z := y0) T_65_56 (by decide) (hP.ta ha) (by omega) (by omega) (Eq.trans (hP.ai ha (by omega)) e0) ?_
        refine x_ic T_65_57 ?_
        refine x_ic2 T_65_59 (fun h => absurd (show y0 < 33 from h) (by omega)) (fun _ => ?_)
        refine x_lr (z := some b) T_65_62 rfl ?_
        refine x_gR (z := some (b + 1)) T_65_63 F_2_0 (hP.o ho) (hP.rc ho rfl rfl) ?_
        refine x_li (z := i) T_65_66 rfl ?_
        refine x_alI (z := y0) T_65_68 (by decide) (hP.ta ha) (by omega) (by omega) (Eq.trans (hP.ai ha (by omega)) e0) ?_
        refine x_ic T_65_69 ?_
        refine x_ic2 T_65_71 (fun h => absurd (show 126 < y0 from h) (by omega)) (fun _ => ?_)
        refine x_lr (z := some b) T_65_74 rfl ?_
        refine x_gR (z := some (b + 1)) T_65_75 F_2_0 (hP.o ho) (hP.rc ho rfl rfl) ?_
        refine x_li (z := i) T_65_78 rfl ?_
        refine x_alI (z := y0) T_65_80 (by decide) (hP.ta ha) (by omega) (by omega) (Eq.trans (hP.ai ha (by omega)) e0) ?_
        refine x_ic T_65_81 ?_
        refine x_ic2 T_65_83 (fun _ => ?_) (fun h => absurd (show ¬ y0 = 47 by omega) h)
        refine x_li (z := 1) T_65_88 rfl ?_
        refine x_if T_65_90 (fun h => absurd (show (1 : Int) = 0 from h) (by decide)) (fun _ => ?_)
        refine x_lr (z := some b) T_65_93 rfl ?_
        refine x_gR (z := some (b + 1)) T_65_94 F_2_0 (hP.o ho) (hP.rc ho rfl rfl) ?_
        refine x_li (z := i) T_65_97 rfl ?_
        refine x_alI (z := y0) T_65_99 (by decide) (hP.ta ha) (by omega) (by omega) (Eq.trans (hP.ai ha (by omega)) e0) ?_
        refine x_ic T_65_100 ?_
        refine x_ic2 T_65_102 (fun h => absurd (show ¬ y0 = 46 from h) (by exact fun c => c (e3.mpr rfl))) (fun _ => ?_)
        refine x_ic T_65_105 ?_
        refine x_goto T_65_106 ?_
        refine x_si (ls1 := [some (vR (some b)), some (vI s), some (vI e), some (vI k), some (vI 1), some (vI i)]) T_65_110 rfl ?_
        refine x_inc (w := (i + 1)) (ls1 := [some (vR (some b)), some (vI s), some (vI e), some (vI k), some (vI 1), some (vI (i + 1))]) T_65_112 rfl (w32_id (by omega) (by omega)) rfl ?_
        refine x_goto T_65_115 ?_
        exact hgo
      · rw [ifc (show (nmSign x0 && (seg (lg l) (i + 1) m).all nmSign) = true ∧ ¬ (o = 1 ∧ x0 :: seg (lg l) (i + 1) m = 46 :: List.replicate m 46) ↔ (seg (lg l) (i + 1) m).all nmSign = true ∧ ¬ ((0 : Int) = 1 ∧ seg (lg l) (i + 1) m = List.replicate m 46) from ⟨fun c => ⟨(Bool.and_eq_true _ _ ▸ c.1).2, fun c2 => absurd c2.1 (by decide)⟩, fun c => ⟨by rw [q1, c.1]; rfl, fun c2 => q3 ⟨c2.1, (List.cons.inj c2.2).1⟩⟩⟩)]
        have hgo := hgo 0 (Or.inl rfl)
        rcases hov with rfl | rfl
        · skip
          refine x_li (z := i) T_65_44 rfl ?_
          refine x_li (z := e) T_65_46 rfl ?_
          refine x_ic2 T_65_47 (fun h => absurd (show e ≤ i from h) (by omega)) (fun _ => ?_)
          refine x_lr (z := some b) T_65_50 rfl ?_
          refine x_gR (z := some (b + 1)) T_65_51 F_2_0 (hP.o ho) (hP.rc ho rfl rfl) ?_
          refine x_li (z := i) T_65_54 rfl ?_
          refine x_alI (z := y0) T_65_56 (by decide) (hP.ta ha) (by omega) (by omega) (Eq.trans (hP.ai ha (by omega)) e0) ?_
          refine x_ic T_65_57 ?_
          refine x_ic2 T_65_59 (fun h => absurd (show y0 < 33 from h) (by omega)) (fun _ => ?_)
          refine x_lr (z := some b) T_65_62 rfl ?_
          refine x_gR (z := some (b + 1)) T_65_63 F_2_0 (hP.o ho) (hP.rc ho rfl rfl) ?_
          refine x_li (z := i) T_65_66 rfl ?_
          refine x_alI (z := y0) T_65_68 (by decide) (hP.ta ha) (by omega) (by omega) (Eq.trans (hP.ai ha (by omega)) e0) ?_
          refine x_ic T_65_69 ?_
          refine x_ic2 T_65_71 (fun h => absurd (show 126 < y0 from h) (by omega)) (fun _ => ?_)
          refine x_lr (z := some b) T_65_74 rfl ?_
          refine x_gR (z := some (b + 1)) T_65_75 F_2_0 (hP.o ho) (hP.rc ho rfl rfl) ?_
          refine x_li (z := i) T_65_78 rfl ?_
          refine x_alI (z := y0) T_65_80 (by decide) (hP.ta ha) (by omega) (by omega) (Eq.trans (hP.ai ha (by omega)) e0) ?_
          refine x_ic T_65_81 ?_
          refine x_ic2 T_65_83 (fun _ => ?_) (fun h => absurd (show ¬ y0 = 47 by omega) h)
          refine x_li (z := 0) T_65_88 rfl ?_
          refine x_if T_65_90 (fun _ => ?_) (fun h => absurd (show (0 : Int) = 0 by decide) h)
          refine x_ic T_65_109 ?_
          refine x_si (ls1 := [some (vR (some b)), some (vI s), some (vI e), some (vI k), some (vI 0), some (vI i)]) T_65_110 rfl ?_
          refine x_inc (w := (i + 1)) (ls1 := [some (vR (some b)), some (vI s), some (vI e), some (vI k), some (vI 0), some (vI (i + 1))]) T_65_112 rfl (w32_id (by omega) (by omega)) rfl ?_
          refine x_goto T_65_115 ?_
          exact hgo
        · have q4 : ¬ y0 = 46 := fun c => q3 ⟨rfl, e3.mp c⟩
          refine x_li (z := i) T_65_44 rfl ?_
          refine x_li (z := e) T_65_46 rfl ?_
          refine x_ic2 T_65_47 (fun h => absurd (show e ≤ i from h) (by omega)) (fun _ => ?_)
          refine x_lr (z := some b) T_65_50 rfl ?_
          refine x_gR (z := some (b + 1)) T_65_51 F_2_0 (hP.o ho) (hP.rc ho rfl rfl) ?_
          refine x_li (z := i) T_65_54 rfl ?_
          refine x_alI (z := y0) T_65_56 (by decide) (hP.ta ha) (by omega) (by omega) (Eq.trans (hP.ai ha (by omega)) e0) ?_
          refine x_ic T_65_57 ?_
          refine x_ic2 T_65_59 (fun h => absurd (show y0 < 33 from h) (by omega)) (fun _ => ?_)
          refine x_lr (z := some b) T_65_62 rfl ?_
          refine x_gR (z := some (b + 1)) T_65_63 F_2_0 (hP.o ho) (hP.rc ho rfl rfl) ?_
          refine x_li (z := i) T_65_66 rfl ?_
          refine x_alI (z := y0) T_65_68 (by decide) (hP.ta ha) (by omega) (by omega) (Eq.trans (hP.ai ha (by omega)) e0) ?_
          refine x_ic T_65_69 ?_
          refine x_ic2 T_65_71 (fun h => absurd (show 126 < y0 from h) (by omega)) (fun _ => ?_)
          refine x_lr (z := some b) T_65_74 rfl ?_
          refine x_gR (z := some (b + 1)) T_65_75 F_2_0 (hP.o ho) (hP.rc ho rfl rfl) ?_
          refine x_li (z := i) T_65_78 rfl ?_
          refine x_alI (z := y0) T_65_80 (by decide) (hP.ta ha) (by omega) (by omega) (Eq.trans (hP.ai ha (by omega)) e0) ?_
          refine x_ic T_65_81 ?_
          refine x_ic2 T_65_83 (fun _ => ?_) (fun h => absurd (show ¬ y0 = 47 by omega) h)
          refine x_li (z := 1) T_65_88 rfl ?_
          refine x_if T_65_90 (fun h => absurd (show (1 : Int) = 0 from h) (by decide)) (fun _ => ?_)
          refine x_lr (z := some b) T_65_93 rfl ?_
          refine x_gR (z := some (b + 1)) T_65_94 F_2_0 (hP.o ho) (hP.rc ho rfl rfl) ?_
          refine x_li (z := i) T_65_97 rfl ?_
          refine x_alI (z := y0) T_65_99 (by decide) (hP.ta ha) (by omega) (by omega) (Eq.trans (hP.ai ha (by omega)) e0) ?_
          refine x_ic T_65_100 ?_
          refine x_ic2 T_65_102 (fun _ => ?_) (fun h => absurd (show ¬ y0 = 46 by omega) h)
          refine x_ic T_65_109 ?_
          refine x_si (ls1 := [some (vR (some b)), some (vI s), some (vI e), some (vI k), some (vI 0), some (vI i)]) T_65_110 rfl ?_
          refine x_inc (w := (i + 1)) (ls1 := [some (vR (some b)), some (vI s), some (vI e), some (vI k), some (vI 0), some (vI (i + 1))]) T_65_112 rfl (w32_id (by omega) (by omega)) rfl ?_
          refine x_goto T_65_115 ?_
          exact hgo
    · have q2 : ¬ ((33 ≤ y0 ∧ y0 ≤ 126) ∧ ¬ y0 = 47) := fun c => q1 (nmSign_iff.mpr (e2.mp c))
      rw [if_neg (fun c => q1 (Bool.and_eq_true _ _ ▸ c.1).1)]
      by_cases q5 : y0 < 33
      · skip
        refine x_li (z := i) T_65_44 rfl ?_
        refine x_li (z := e) T_65_46 rfl ?_
        refine x_ic2 T_65_47 (fun h => absurd (show e ≤ i from h) (by omega)) (fun _ => ?_)
        refine x_lr (z := some b) T_65_50 rfl ?_
        refine x_gR (z := some (b + 1)) T_65_51 F_2_0 (hP.o ho) (hP.rc ho rfl rfl) ?_
        refine x_li (z := i) T_65_54 rfl ?_
        refine x_alI (z := y0) T_65_56 (by decide) (hP.ta ha) (by omega) (by omega) (Eq.trans (hP.ai ha (by omega)) e0) ?_
        refine x_ic T_65_57 ?_
        refine x_ic2 T_65_59 (fun _ => ?_) (fun h => absurd (show y0 < 33 by omega) h)
        refine x_ic T_65_86 ?_
        refine x_rz T_65_87 rfl ?_
        exact ⟨rfl, rfl⟩
      · by_cases q6 : 126 < y0
        · skip
          refine x_li (z := i) T_65_44 rfl ?_
          refine x_li (z := e) T_65_46 rfl ?_
          refine x_ic2 T_65_47 (fun h => absurd (show e ≤ i from h) (by omega)) (fun _ => ?_)
          refine x_lr (z := some b) T_65_50 rfl ?_
          refine x_gR (z := some (b + 1)) T_65_51 F_2_0 (hP.o ho) (hP.rc ho rfl rfl) ?_
          refine x_li (z := i) T_65_54 rfl ?_
          refine x_alI (z := y0) T_65_56 (by decide) (hP.ta ha) (by omega) (by omega) (Eq.trans (hP.ai ha (by omega)) e0) ?_
          refine x_ic T_65_57 ?_
          refine x_ic2 T_65_59 (fun h => absurd (show y0 < 33 from h) (by omega)) (fun _ => ?_)
          refine x_lr (z := some b) T_65_62 rfl ?_
          refine x_gR (z := some (b + 1)) T_65_63 F_2_0 (hP.o ho) (hP.rc ho rfl rfl) ?_
          refine x_li (z := i) T_65_66 rfl ?_
          refine x_alI (z := y0) T_65_68 (by decide) (hP.ta ha) (by omega) (by omega) (Eq.trans (hP.ai ha (by omega)) e0) ?_
          refine x_ic T_65_69 ?_
          refine x_ic2 T_65_71 (fun _ => ?_) (fun h => absurd (show 126 < y0 by omega) h)
          refine x_ic T_65_86 ?_
          refine x_rz T_65_87 rfl ?_
          exact ⟨rfl, rfl⟩
        · skip
          refine x_li (z := i) T_65_44 rfl ?_
          refine x_li (z := e) T_65_46 rfl ?_
          refine x_ic2 T_65_47 (fun h => absurd (show e ≤ i from h) (by omega)) (fun _ => ?_)
          refine x_lr (z := some b) T_65_50 rfl ?_
          refine x_gR (z := some (b + 1)) T_65_51 F_2_0 (hP.o ho) (hP.rc ho rfl rfl) ?_
          refine x_li (z := i) T_65_54 rfl ?_
          refine x_alI (z := y0) T_65_56 (by decide) (hP.ta ha) (by omega) (by omega) (Eq.trans (hP.ai ha (by omega)) e0) ?_
          refine x_ic T_65_57 ?_
          refine x_ic2 T_65_59 (fun h => absurd (show y0 < 33 from h) (by omega)) (fun _ => ?_)
          refine x_lr (z := some b) T_65_62 rfl ?_
          refine x_gR (z := some (b + 1)) T_65_63 F_2_0 (hP.o ho) (hP.rc ho rfl rfl) ?_
          refine x_li (z := i) T_65_66 rfl ?_
          refine x_alI (z := y0) T_65_68 (by decide) (hP.ta ha) (by omega) (by omega) (Eq.trans (hP.ai ha (by omega)) e0) ?_
          refine x_ic T_65_69 ?_
          refine x_ic2 T_65_71 (fun h => absurd (show 126 < y0 from h) (by omega)) (fun _ => ?_)
          refine x_lr (z := some b) T_65_74 rfl ?_
          refine x_gR (z := some (b + 1)) T_65_75 F_2_0 (hP.o ho) (hP.rc ho rfl rfl) ?_
          refine x_li (z := i) T_65_78 rfl ?_
          refine x_alI (z := y0) T_65_80 (by decide) (hP.ta ha) (by omega) (by omega) (Eq.trans (hP.ai ha (by omega)) e0) ?_
          refine x_ic T_65_81 ?_
          refine x_ic2 T_65_83 (fun h => absurd (show ¬ y0 = 47 from h) (by omega)) (fun _ => ?_)
          refine x_ic T_65_86 ?_
          refine x_rz T_65_87 rfl ?_
          exact ⟨rfl, rfl⟩
theorem nmOk_iff {L : List Int} : nmOk L = true ↔ (1 ≤ L.length ∧ L.length ≤ 12) ∧ L.all nmSign = true ∧ ¬ (L.length < 3 ∧ L = List.replicate L.length 46) := by
  unfold nmOk
  rw [Bool.and_eq_true, Bool.and_eq_true, Bool.and_eq_true, Bool.and_eq_true, decide_eq_true_eq, decide_eq_true_eq, decide_eq_true_eq, decide_eq_true_eq]
  constructor
  · rintro ⟨a1, a2, a3, a4, a5⟩
    refine ⟨⟨a1, a2⟩, a3, fun c => ?_⟩
    have hl : L.length = 1 ∨ L.length = 2 := by omega
    rcases hl with q | q
    · exact a4 (by rw [c.2, q]; rfl)
    · exact a5 (by rw [c.2, q]; rfl)
  · rintro ⟨⟨a1, a2⟩, a3, a4⟩
    refine ⟨a1, a2, a3, fun c => a4 ?_, fun c => a4 ?_⟩
    · rw [c]
      exact ⟨by decide, rfl⟩
    · rw [c]
      exact ⟨by decide, rfl⟩
theorem x_isName (hP : PX σ0 W R σ) (hB : BY W b n l) (hz : (l.length : Int) = z) (hs : -1000000 ≤ s ∧ s ≤ 1000000) (he : -1000000 ≤ e ∧ e ≤ 1000000) : CL fb d 65 [vR (some b), vI s, vI e] σ (rP (if (0 ≤ s ∧ e ≤ z) ∧ nmOk (seg (lg l) s (e - s).toNat) = true then 1 else 0) σ) := by
  have ho := hB.1
  have h1 := hB.sz hz
  by_cases q1 : s < 0
  · rw [if_neg (fun c => by omega)]
    refine CL_in mL_65 rfl ?_
    show WP fb _ 65 0 [some (vR (some b)), some (vI s), some (vI e), none, none, none] [] σ _
    refine x_li (z := e) T_65_0 rfl ?_
    refine x_li (z := s) T_65_1 rfl ?_
    refine x_ib (w := (e - s)) T_65_2 (fun h => absurd h.1 (by decide)) (w32_id (by omega) (by omega)) ?_
    refine x_si (ls1 := [some (vR (some b)), some (vI s), some (vI e), some (vI (e - s)), none, none]) T_65_3 rfl ?_
    refine x_li (z := s) T_65_4 rfl ?_
    refine x_if T_65_5 (fun _ => ?_) (fun h => absurd (show s < 0 by omega) h)
    refine x_ic T_65_27 ?_
    refine x_rz T_65_28 rfl ?_
    exact ⟨rfl, rfl⟩
  by_cases q2 : z < e
  · rw [if_neg (fun c => by omega)]
    refine CL_in mL_65 rfl ?_
    show WP fb _ 65 0 [some (vR (some b)), some (vI s), some (vI e), none, none, none] [] σ _
    refine x_li (z := e) T_65_0 rfl ?_
    refine x_li (z := s) T_65_1 rfl ?_
    refine x_ib (w := (e - s)) T_65_2 (fun h => absurd h.1 (by decide)) (w32_id (by omega) (by omega)) ?_
    refine x_si (ls1 := [some (vR (some b)), some (vI s), some (vI e), some (vI (e - s)), none, none]) T_65_3 rfl ?_
    refine x_li (z := s) T_65_4 rfl ?_
    refine x_if T_65_5 (fun h => absurd (show s < 0 from h) (by omega)) (fun _ => ?_)
    refine x_li (z := e) T_65_8 rfl ?_
    refine x_lr (z := some b) T_65_9 rfl ?_
    refine x_gI (z := z) T_65_10 (Or.inl F_2_1) (hP.o ho) (Eq.trans (hP.gi ho (key := 2065) rfl) h1) ?_
    refine x_ic2 T_65_13 (fun _ => ?_) (fun h => absurd (show z < e by omega) h)
    refine x_ic T_65_27 ?_
    refine x_rz T_65_28 rfl ?_
    exact ⟨rfl, rfl⟩
  by_cases q3 : e - s < 1
  · rw [if_neg (fun c => by
      have := (nmOk_iff.mp c.2).1.1
      rw [seg_len] at this
      omega)]
    refine CL_in mL_65 rfl ?_
    show WP fb _ 65 0 [some (vR (some b)), some (vI s), some (vI e), none, none, none] [] σ _
    refine x_li (z := e) T_65_0 rfl ?_
    refine x_li (z := s) T_65_1 rfl ?_
    refine x_ib (w := (e - s)) T_65_2 (fun h => absurd h.1 (by decide)) (w32_id (by omega) (by omega)) ?_
    refine x_si (ls1 := [some (vR (some b)), some (vI s), some (vI e), some (vI (e - s)), none, none]) T_65_3 rfl ?_
    refine x_li (z := s) T_65_4 rfl ?_
    refine x_if T_65_5 (fun h => absurd (show s < 0 from h) (by omega)) (fun _ => ?_)
    refine x_li (z := e) T_65_8 rfl ?_
    refine x_lr (z := some b) T_65_9 rfl ?_
    refine x_gI (z := z) T_65_10 (Or.inl F_2_1) (hP.o ho) (Eq.trans (hP.gi ho (key := 2065) rfl) h1) ?_
    refine x_ic2 T_65_13 (fun h => absurd (show z < e from h) (by omega)) (fun _ => ?_)
    refine x_li (z := (e - s)) T_65_16 rfl ?_
    refine x_ic T_65_17 ?_
    refine x_ic2 T_65_18 (fun _ => ?_) (fun h => absurd (show (e - s) < 1 by omega) h)
    refine x_ic T_65_27 ?_
    refine x_rz T_65_28 rfl ?_
    exact ⟨rfl, rfl⟩
  by_cases q4 : 12 < e - s
  · rw [if_neg (fun c => by
      have := (nmOk_iff.mp c.2).1.2
      rw [seg_len] at this
      omega)]
    refine CL_in mL_65 rfl ?_
    show WP fb _ 65 0 [some (vR (some b)), some (vI s), some (vI e), none, none, none] [] σ _
    refine x_li (z := e) T_65_0 rfl ?_
    refine x_li (z := s) T_65_1 rfl ?_
    refine x_ib (w := (e - s)) T_65_2 (fun h => absurd h.1 (by decide)) (w32_id (by omega) (by omega)) ?_
    refine x_si (ls1 := [some (vR (some b)), some (vI s), some (vI e), some (vI (e - s)), none, none]) T_65_3 rfl ?_
    refine x_li (z := s) T_65_4 rfl ?_
    refine x_if T_65_5 (fun h => absurd (show s < 0 from h) (by omega)) (fun _ => ?_)
    refine x_li (z := e) T_65_8 rfl ?_
    refine x_lr (z := some b) T_65_9 rfl ?_
    refine x_gI (z := z) T_65_10 (Or.inl F_2_1) (hP.o ho) (Eq.trans (hP.gi ho (key := 2065) rfl) h1) ?_
    refine x_ic2 T_65_13 (fun h => absurd (show z < e from h) (by omega)) (fun _ => ?_)
    refine x_li (z := (e - s)) T_65_16 rfl ?_
    refine x_ic T_65_17 ?_
    refine x_ic2 T_65_18 (fun h => absurd (show (e - s) < 1 from h) (by omega)) (fun _ => ?_)
    refine x_li (z := (e - s)) T_65_21 rfl ?_
    refine x_ic T_65_22 ?_
    refine x_ic2 T_65_24 (fun h => absurd (show (e - s) ≤ 12 from h) (by omega)) (fun _ => ?_)
    refine x_ic T_65_27 ?_
    refine x_rz T_65_28 rfl ?_
    exact ⟨rfl, rfl⟩
  obtain ⟨m, hm⟩ : ∃ m, (e - s).toNat = m := ⟨_, rfl⟩
  have hgo := fun o => x_name_loop (fb := fb) (d := d) (k := e - s) hP hB (s := s) (e := e) (by omega) (by omega) m s o (by omega) (Int.le_refl s)
  have hll : (seg (lg l) s m).length = m := seg_len _ _ _
  by_cases q5 : e - s < 3
  · have hgo := hgo 1 (Or.inr rfl)
    rw [hm, ifc (show (0 ≤ s ∧ e ≤ z) ∧ nmOk (seg (lg l) s m) = true ↔ (seg (lg l) s m).all nmSign = true ∧ ¬ ((1 : Int) = 1 ∧ seg (lg l) s m = List.replicate m 46) by
      rw [nmOk_iff, hll]
      exact ⟨fun c => ⟨c.2.2.1, fun c2 => c.2.2.2 ⟨by omega, c2.2⟩⟩, fun c => ⟨by omega, by omega, c.1, fun c2 => c.2 ⟨rfl, c2.2⟩⟩⟩)]
    refine CL_in mL_65 rfl ?_
    show WP fb _ 65 0 [some (vR (some b)), some (vI s), some (vI e), none, none, none] [] σ _
    refine x_li (z := e) T_65_0 rfl ?_
    refine x_li (z := s) T_65_1 rfl ?_
    refine x_ib (w := (e - s)) T_65_2 (fun h => absurd h.1 (by decide)) (w32_id (by omega) (by omega)) ?_
    refine x_si (ls1 := [some (vR (some b)), some (vI s), some (vI e), some (vI (e - s)), none, none]) T_65_3 rfl ?_
    refine x_li (z := s) T_65_4 rfl ?_
    refine x_if T_65_5 (fun h => absurd (show s < 0 from h) (by omega)) (fun _ => ?_)
    refine x_li (z := e) T_65_8 rfl ?_
    refine x_lr (z := some b) T_65_9 rfl ?_
    refine x_gI (z := z) T_65_10 (Or.inl F_2_1) (hP.o ho) (Eq.trans (hP.gi ho (key := 2065) rfl) h1) ?_
    refine x_ic2 T_65_13 (fun h => absurd (show z < e from h) (by omega)) (fun _ => ?_)
    refine x_li (z := (e - s)) T_65_16 rfl ?_
    refine x_ic T_65_17 ?_
    refine x_ic2 T_65_18 (fun h => absurd (show (e - s) < 1 from h) (by omega)) (fun _ => ?_)
    refine x_li (z := (e - s)) T_65_21 rfl ?_
    refine x_ic T_65_22 ?_
    refine x_ic2 T_65_24 (fun _ => ?_) (fun h => absurd (show (e - s) ≤ 12 by omega) h)
    refine x_li (z := (e - s)) T_65_29 rfl ?_
    refine x_ic T_65_30 ?_
    refine x_ic2 T_65_31 (fun h => absurd (show 3 ≤ (e - s) from h) (by omega)) (fun _ => ?_)
    refine x_ic T_65_34 ?_
    refine x_goto T_65_35 ?_
    refine x_si (ls1 := [some (vR (some b)), some (vI s), some (vI e), some (vI (e - s)), some (vI 1), none]) T_65_39 rfl ?_
    refine x_li (z := s) T_65_41 rfl ?_
    refine x_si (ls1 := [some (vR (some b)), some (vI s), some (vI e), some (vI (e - s)), some (vI 1), some (vI s)]) T_65_42 rfl ?_
    exact hgo
  · have hgo := hgo 0 (Or.inl rfl)
    rw [hm, ifc (show (0 ≤ s ∧ e ≤ z) ∧ nmOk (seg (lg l) s m) = true ↔ (seg (lg l) s m).all nmSign = true ∧ ¬ ((0 : Int) = 1 ∧ seg (lg l) s m = List.replicate m 46) by
      rw [nmOk_iff, hll]
      exact ⟨fun c => ⟨c.2.2.1, fun c2 => absurd c2.1 (by decide)⟩, fun c => ⟨by omega, by omega, c.1, fun c2 => absurd c2.1 (by omega)⟩⟩)]
    refine CL_in mL_65 rfl ?_
    show WP fb _ 65 0 [some (vR (some b)), some (vI s), some (vI e), none, none, none] [] σ _
    refine x_li (z := e) T_65_0 rfl ?_
    refine x_li (z := s) T_65_1 rfl ?_
    refine x_ib (w := (e - s)) T_65_2 (fun h => absurd h.1 (by decide)) (w32_id (by omega) (by omega)) ?_
    refine x_si (ls1 := [some (vR (some b)), some (vI s), some (vI e), some (vI (e - s)), none, none]) T_65_3 rfl ?_
    refine x_li (z := s) T_65_4 rfl ?_
    refine x_if T_65_5 (fun h => absurd (show s < 0 from h) (by omega)) (fun _ => ?_)
    refine x_li (z := e) T_65_8 rfl ?_
    refine x_lr (z := some b) T_65_9 rfl ?_
    refine x_gI (z := z) T_65_10 (Or.inl F_2_1) (hP.o ho) (Eq.trans (hP.gi ho (key := 2065) rfl) h1) ?_
    refine x_ic2 T_65_13 (fun h => absurd (show z < e from h) (by omega)) (fun _ => ?_)
    refine x_li (z := (e - s)) T_65_16 rfl ?_
    refine x_ic T_65_17 ?_
    refine x_ic2 T_65_18 (fun h => absurd (show (e - s) < 1 from h) (by omega)) (fun _ => ?_)
    refine x_li (z := (e - s)) T_65_21 rfl ?_
    refine x_ic T_65_22 ?_
    refine x_ic2 T_65_24 (fun _ => ?_) (fun h => absurd (show (e - s) ≤ 12 by omega) h)
    refine x_li (z := (e - s)) T_65_29 rfl ?_
    refine x_ic T_65_30 ?_
    refine x_ic2 T_65_31 (fun _ => ?_) (fun h => absurd (show 3 ≤ (e - s) by omega) h)
    refine x_ic T_65_38 ?_
    refine x_si (ls1 := [some (vR (some b)), some (vI s), some (vI e), some (vI (e - s)), some (vI 0), none]) T_65_39 rfl ?_
    refine x_li (z := s) T_65_41 rfl ?_
    refine x_si (ls1 := [some (vR (some b)), some (vI s), some (vI e), some (vI (e - s)), some (vI 0), some (vI s)]) T_65_42 rfl ?_
    exact hgo
/-- a text of the class's -/
abbrev txt (j : Nat) : List Int := hTb.getD j []
theorem txt_rng (hj : j < 58) (h0 : 0 ≤ i) (h1 : i < ((txt j).length : Int)) : 0 ≤ lg (txt j) i ∧ lg (txt j) i ≤ 127 := (sTx_ok j hj).2 i.toNat (by show i.toNat < (txt j).length; omega)
theorem txt_len (hj : j < 58) : (txt j).length ≤ 20 := (sTx_ok j hj).1
theorem x_spell_loop (hj : j < 58) (hP : PX σ0 W R σ) (hB : BY W b n l) (hs : 0 ≤ s) (he : e ≤ l.length) (hl : e - s = (txt j).length) : ∀ (m : Nat) (i : Int), i + m = e → s ≤ i → WP fb (d + 4) 47 27 [some (vR (some b)), some (vI s), some (vI e), some (vR (some (4 + 2 * j))), some (vI i)] [] σ (rP (if seg (lg l) i m = seg (lg (txt j)) (i - s) m then 1 else 0) σ) := by
  obtain ⟨ho, ha, hn, h3, h4, h5, h6⟩ := id hB
  have hgx := (hP.gx.1 j hj).1
  intro m
  induction m with
  | zero =>
    intro i h1 h2
    have h1 : i + ((0 : Nat) : Int) = e := h1
    rw [if_pos (show seg (lg l) i 0 = seg (lg (txt j)) (i - s) 0 from rfl)]
    refine x_li (z := i) T_47_27 rfl ?_
    refine x_li (z := e) T_47_29 rfl ?_
    refine x_ic2 T_47_30 (fun _ => ?_) (fun h => absurd (show e ≤ i by omega) h)
    refine x_ic T_47_63 ?_
    refine x_rz T_47_64 rfl ?_
    exact ⟨rfl, rfl⟩
  | succ m ih =>
    intro i h1 h2
    have e0 := h6 i (by omega) (by omega)
    have r0 := h5 i (by omega)
    have hgo := ih (i + 1) (by omega) (by omega)
    rw [show i + 1 - s = i - s + 1 by omega] at hgo
    rw [seg_cons, seg_cons]
    obtain ⟨x0, hx0⟩ : ∃ x, lg l i = x := ⟨_, rfl⟩
    obtain ⟨x1, hx1⟩ : ∃ x, lg (txt j) (i - s) = x := ⟨_, rfl⟩
    have hch := s_char (fb := fb) (d := d) (k := i - s) (x := x1) hP.gx hj ⟨by omega, by show i - s < ((txt j).length : Int); omega⟩ hx1
    rw [hx0] at e0 r0 ⊢
    rw [hx1]
    by_cases qq : x0 = x1
    · rw [ifc (show x0 :: seg (lg l) (i + 1) m = x1 :: seg (lg (txt j)) (i - s + 1) m ↔ seg (lg l) (i + 1) m = seg (lg (txt j)) (i - s + 1) m from ⟨fun c => (List.cons.inj c).2, fun c => by rw [qq, c]⟩)]
      refine x_li (z := i) T_47_27 rfl ?_
      refine x_li (z := e) T_47_29 rfl ?_
      refine x_ic2 T_47_30 (fun h => absurd (show e ≤ i from h) (by omega)) (fun _ => ?_)
      refine x_lr (z := some b) T_47_33 rfl ?_
      refine x_gR (z := some (b + 1)) T_47_34 F_2_0 (hP.o ho) (hP.rc ho rfl rfl) ?_
      refine x_li (z := i) T_47_37 rfl ?_
      refine x_alI (z := (sb8 x0)) T_47_39 (by decide) (hP.ta ha) (by omega) (by omega) (Eq.trans (hP.ai ha (by omega)) e0) ?_
      refine x_ic T_47_40 ?_
      refine x_ib (w := x0) T_47_43 (fun h => absurd h.1 (by decide)) (and32_byte r0) ?_
      refine x_lr (z := some (4+2*j)) T_47_44 rfl ?_
      refine x_li (z := i) T_47_45 rfl ?_
      refine x_li (z := s) T_47_47 rfl ?_
      refine x_ib (w := (i - s)) T_47_48 (fun h => absurd h.1 (by decide)) (w32_id (by omega) (by omega)) ?_
      refine x_cv2 T_47_49 mN_15 mL_15 (Nat.le_of_ble_eq_true rfl) mO_15 hgx (Nat.le_of_ble_eq_true rfl) (hch) ?_
      rintro _ σ ⟨rfl, rfl⟩
      refine cI ?_
      refine x_ic2 T_47_52 (fun _ => ?_) (fun h => absurd (show x0 = x1 by exact qq) h)
      refine x_inc (w := (i + 1)) (ls1 := [some (vR (some b)), some (vI s), some (vI e), some (vR (some (4+2*j))), some (vI (i + 1))]) T_47_57 rfl (w32_id (by omega) (by omega)) rfl ?_
      refine x_goto T_47_60 ?_
      exact hgo
    · rw [if_neg (fun c => qq (List.cons.inj c).1)]
      refine x_li (z := i) T_47_27 rfl ?_
      refine x_li (z := e) T_47_29 rfl ?_
      refine x_ic2 T_47_30 (fun h => absurd (show e ≤ i from h) (by omega)) (fun _ => ?_)
      refine x_lr (z := some b) T_47_33 rfl ?_
      refine x_gR (z := some (b + 1)) T_47_34 F_2_0 (hP.o ho) (hP.rc ho rfl rfl) ?_
      refine x_li (z := i) T_47_37 rfl ?_
      refine x_alI (z := (sb8 x0)) T_47_39 (by decide) (hP.ta ha) (by omega) (by omega) (Eq.trans (hP.ai ha (by omega)) e0) ?_
      refine x_ic T_47_40 ?_
      refine x_ib (w := x0) T_47_43 (fun h => absurd h.1 (by decide)) (and32_byte r0) ?_
      refine x_lr (z := some (4+2*j)) T_47_44 rfl ?_
      refine x_li (z := i) T_47_45 rfl ?_
      refine x_li (z := s) T_47_47 rfl ?_
      refine x_ib (w := (i - s)) T_47_48 (fun h => absurd h.1 (by decide)) (w32_id (by omega) (by omega)) ?_
      refine x_cv2 T_47_49 mN_15 mL_15 (Nat.le_of_ble_eq_true rfl) mO_15 hgx (Nat.le_of_ble_eq_true rfl) (hch) ?_
      rintro _ σ ⟨rfl, rfl⟩
      refine cI ?_
      refine x_ic2 T_47_52 (fun h => absurd (show x0 = x1 from h) (by exact qq)) (fun _ => ?_)
      refine x_ic T_47_55 ?_
      refine x_rz T_47_56 rfl ?_
      exact ⟨rfl, rfl⟩
theorem x_spells (hj : j < 58) (hP : PX σ0 W R σ) (hB : BY W b n l) (hz : (l.length : Int) = z) (hs : -1000000 ≤ s ∧ s ≤ 1000000) (he : -1000000 ≤ e ∧ e ≤ 1000000) : CL fb (d + 4) 47 [vR (some b), vI s, vI e, vR (some (4 + 2 * j))] σ (rP (if (0 ≤ s ∧ e ≤ z) ∧ s ≤ e ∧ seg (lg l) s (e - s).toNat = txt j then 1 else 0) σ) := by
  have ho := hB.1
  have hgx := (hP.gx.1 j hj).1
  have h1 := hB.sz hz
  have htl := txt_len hj
  obtain ⟨z2, hz2⟩ : ∃ z : Int, ((txt j).length : Int) = z := ⟨_, rfl⟩
  have hln := s_len (fb := fb) (d := d + 2) (n := z2) hP.gx hj hz2
  by_cases q1 : s < 0
  · rw [if_neg (fun c => by omega)]
    refine CL_in mL_47 rfl ?_
    show WP fb _ 47 0 [some (vR (some b)), some (vI s), some (vI e), some (vR (some (4+2*j))), none] [] σ _
    refine x_li (z := s) T_47_0 rfl ?_
    refine x_if T_47_1 (fun _ => ?_) (fun h => absurd (show s < 0 by omega) h)
    refine x_ic T_47_22 ?_
    refine x_rz T_47_23 rfl ?_
    exact ⟨rfl, rfl⟩
  by_cases q2 : z < e
  · rw [if_neg (fun c => by omega)]
    refine CL_in mL_47 rfl ?_
    show WP fb _ 47 0 [some (vR (some b)), some (vI s), some (vI e), some (vR (some (4+2*j))), none] [] σ _
    refine x_li (z := s) T_47_0 rfl ?_
    refine x_if T_47_1 (fun h => absurd (show s < 0 from h) (by omega)) (fun _ => ?_)
    refine x_li (z := e) T_47_4 rfl ?_
    refine x_lr (z := some b) T_47_5 rfl ?_
    refine x_gI (z := z) T_47_6 (Or.inl F_2_1) (hP.o ho) (Eq.trans (hP.gi ho (key := 2065) rfl) h1) ?_
    refine x_ic2 T_47_9 (fun _ => ?_) (fun h => absurd (show z < e by omega) h)
    refine x_ic T_47_22 ?_
    refine x_rz T_47_23 rfl ?_
    exact ⟨rfl, rfl⟩
  by_cases q3 : e - s = z2
  · have hgo := x_spell_loop (fb := fb) (d := d) hj hP hB (s := s) (e := e) (by omega) (by omega) (by omega) (e - s).toNat s (by omega) (Int.le_refl s)
    rw [Int.sub_self, show seg (lg (txt j)) 0 (e - s).toNat = txt j by rw [show (e - s).toNat = (txt j).length by omega]; exact seg_all] at hgo
    rw [ifc (show (0 ≤ s ∧ e ≤ z) ∧ s ≤ e ∧ seg (lg l) s (e - s).toNat = txt j ↔ seg (lg l) s (e - s).toNat = txt j from ⟨fun c => c.2.2, fun c => ⟨by omega, by omega, c⟩⟩)]
    refine CL_in mL_47 rfl ?_
    show WP fb _ 47 0 [some (vR (some b)), some (vI s), some (vI e), some (vR (some (4+2*j))), none] [] σ _
    refine x_li (z := s) T_47_0 rfl ?_
    refine x_if T_47_1 (fun h => absurd (show s < 0 from h) (by omega)) (fun _ => ?_)
    refine x_li (z := e) T_47_4 rfl ?_
    refine x_lr (z := some b) T_47_5 rfl ?_
    refine x_gI (z := z) T_47_6 (Or.inl F_2_1) (hP.o ho) (Eq.trans (hP.gi ho (key := 2065) rfl) h1) ?_
    refine x_ic2 T_47_9 (fun h => absurd (show z < e from h) (by omega)) (fun _ => ?_)
    refine x_li (z := e) T_47_12 rfl ?_
    refine x_li (z := s) T_47_13 rfl ?_
    refine x_ib (w := (e - s)) T_47_14 (fun h => absurd h.1 (by decide)) (w32_id (by omega) (by omega)) ?_
    refine x_lr (z := some (4+2*j)) T_47_15 rfl ?_
    refine x_cv1 T_47_16 mN_13 mL_13 (Nat.le_of_ble_eq_true rfl) mO_13 hgx (Nat.le_of_ble_eq_true rfl) (hln) ?_
    rintro _ σ ⟨rfl, rfl⟩
    refine cI ?_
    refine x_ic2 T_47_19 (fun _ => ?_) (fun h => absurd (show (e - s) = z2 by omega) h)
    refine x_li (z := s) T_47_24 rfl ?_
    refine x_si (ls1 := [some (vR (some b)), some (vI s), some (vI e), some (vR (some (4+2*j))), some (vI s)]) T_47_25 rfl ?_
    exact hgo
  · rw [if_neg (fun c => by
      have := congrArg List.length c.2.2
      rw [seg_len] at this
      omega)]
    refine CL_in mL_47 rfl ?_
    show WP fb _ 47 0 [some (vR (some b)), some (vI s), some (vI e), some (vR (some (4+2*j))), none] [] σ _
    refine x_li (z := s) T_47_0 rfl ?_
    refine x_if T_47_1 (fun h => absurd (show s < 0 from h) (by omega)) (fun _ => ?_)
    refine x_li (z := e) T_47_4 rfl ?_
    refine x_lr (z := some b) T_47_5 rfl ?_
    refine x_gI (z := z) T_47_6 (Or.inl F_2_1) (hP.o ho) (Eq.trans (hP.gi ho (key := 2065) rfl) h1) ?_
    refine x_ic2 T_47_9 (fun h => absurd (show z < e from h) (by omega)) (fun _ => ?_)
    refine x_li (z := e) T_47_12 rfl ?_
    refine x_li (z := s) T_47_13 rfl ?_
    refine x_ib (w := (e - s)) T_47_14 (fun h => absurd h.1 (by decide)) (w32_id (by omega) (by omega)) ?_
    refine x_lr (z := some (4+2*j)) T_47_15 rfl ?_
    refine x_cv1 T_47_16 mN_13 mL_13 (Nat.le_of_ble_eq_true rfl) mO_13 hgx (Nat.le_of_ble_eq_true rfl) (hln) ?_
    rintro _ σ ⟨rfl, rfl⟩
    refine cI ?_
    refine x_ic2 T_47_19 (fun h => absurd (show (e - s) = z2 from h) (by omega)) (fun _ => ?_)
    refine x_ic T_47_22 ?_
    refine x_rz T_47_23 rfl ?_
    exact ⟨rfl, rfl⟩
end XBY5
