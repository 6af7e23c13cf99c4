/-! Rows of bytes: what they spell; bytes that are added and dropped. -/
theorem T_31_0 : hTab 31 0 = some ((3, 0, 2, []), 1) := rfl
theorem T_31_1 : hTab 31 1 = some ((0, 0, 0, []), 2) := rfl
theorem T_31_2 : hTab 31 2 = some ((25, 2, Int.ofNat 1, []), 5) := rfl
theorem T_31_5 : hTab 31 5 = some ((3, 0, 2, []), 6) := rfl
theorem T_31_6 : hTab 31 6 = some ((3, 1, 2, []), 7) := rfl
theorem T_31_7 : hTab 31 7 = some ((3, 2, 0, []), 8) := rfl
theorem T_31_8 : hTab 31 8 = some ((3, 3, 0, []), 9) := rfl
theorem T_31_9 : hTab 31 9 = some ((31, 32, 0, []), 12) := rfl
theorem T_31_12 : hTab 31 12 = some ((33, 2, 0, []), 13) := rfl
theorem T_32_0 : hTab 32 0 = some ((3, 2, 0, []), 1) := rfl
theorem T_32_1 : hTab 32 1 = some ((4, 4, 0, []), 3) := rfl
theorem T_32_3 : hTab 32 3 = some ((3, 4, 0, []), 5) := rfl
theorem T_32_5 : hTab 32 5 = some ((3, 3, 0, []), 6) := rfl
theorem T_32_6 : hTab 32 6 = some ((19, 3, Int.ofNat 69, []), 9) := rfl
theorem T_32_9 : hTab 32 9 = some ((3, 0, 2, []), 10) := rfl
theorem T_32_10 : hTab 32 10 = some ((24, 2, Int.ofNat 1, []), 13) := rfl
theorem T_32_13 : hTab 32 13 = some ((3, 0, 2, []), 14) := rfl
theorem T_32_14 : hTab 32 14 = some ((24, 2, Int.ofNat 0, []), 17) := rfl
theorem T_32_17 : hTab 32 17 = some ((28, 0, 0, []), 18) := rfl
theorem T_32_18 : hTab 32 18 = some ((19, 3, Int.ofNat 35, []), 21) := rfl
theorem T_32_21 : hTab 32 21 = some ((3, 4, 0, []), 23) := rfl
theorem T_32_23 : hTab 32 23 = some ((18, 2, Int.ofNat 35, []), 26) := rfl
theorem T_32_26 : hTab 32 26 = some ((3, 4, 0, []), 28) := rfl
theorem T_32_28 : hTab 32 28 = some ((3, 1, 2, []), 29) := rfl
theorem T_32_29 : hTab 32 29 = some ((24, 2, Int.ofNat 1, []), 32) := rfl
theorem T_32_32 : hTab 32 32 = some ((19, 2, Int.ofNat 37, []), 35) := rfl
theorem T_32_35 : hTab 32 35 = some ((0, 0, 0, []), 36) := rfl
theorem T_32_36 : hTab 32 36 = some ((33, 2, 0, []), 37) := rfl
theorem T_32_37 : hTab 32 37 = some ((3, 0, 2, []), 38) := rfl
theorem T_32_38 : hTab 32 38 = some ((24, 2, Int.ofNat 0, []), 41) := rfl
theorem T_32_41 : hTab 32 41 = some ((3, 0, 2, []), 42) := rfl
theorem T_32_42 : hTab 32 42 = some ((24, 2, Int.ofNat 1, []), 45) := rfl
theorem T_32_45 : hTab 32 45 = some ((3, 1, 2, []), 46) := rfl
theorem T_32_46 : hTab 32 46 = some ((24, 2, Int.ofNat 0, []), 49) := rfl
theorem T_32_49 : hTab 32 49 = some ((3, 4, 0, []), 51) := rfl
theorem T_32_51 : hTab 32 51 = some ((26, 1, 0, []), 52) := rfl
theorem T_32_52 : hTab 32 52 = some ((27, 1, 0, []), 53) := rfl
theorem T_32_53 : hTab 32 53 = some ((3, 0, 2, []), 54) := rfl
theorem T_32_54 : hTab 32 54 = some ((6, 0, 0, []), 55) := rfl
theorem T_32_55 : hTab 32 55 = some ((24, 2, Int.ofNat 1, []), 58) := rfl
theorem T_32_58 : hTab 32 58 = some ((0, 0, 1, []), 59) := rfl
theorem T_32_59 : hTab 32 59 = some ((10, 0, 0, []), 60) := rfl
theorem T_32_60 : hTab 32 60 = some ((25, 2, Int.ofNat 1, []), 63) := rfl
theorem T_32_63 : hTab 32 63 = some ((5, 4, 1, []), 66) := rfl
theorem T_32_66 : hTab 32 66 = some ((22, 0, Int.ofNat 3, []), 69) := rfl
theorem T_32_69 : hTab 32 69 = some ((0, 0, 1, []), 70) := rfl
theorem T_32_70 : hTab 32 70 = some ((33, 2, 0, []), 71) := rfl
theorem T_36_0 : hTab 36 0 = some ((3, 1, 0, []), 1) := rfl
theorem T_36_1 : hTab 36 1 = some ((18, 2, Int.ofNat 14, []), 4) := rfl
theorem T_36_4 : hTab 36 4 = some ((3, 1, 0, []), 5) := rfl
theorem T_36_5 : hTab 36 5 = some ((0, 0, 2, []), 6) := rfl
theorem T_36_6 : hTab 36 6 = some ((10, 0, 0, []), 7) := rfl
theorem T_36_7 : hTab 36 7 = some ((3, 0, 2, []), 8) := rfl
theorem T_36_8 : hTab 36 8 = some ((24, 2, Int.ofNat 1, []), 11) := rfl
theorem T_36_11 : hTab 36 11 = some ((19, 5, Int.ofNat 16, []), 14) := rfl
theorem T_36_14 : hTab 36 14 = some ((0, 0, (-1), []), 15) := rfl
theorem T_36_15 : hTab 36 15 = some ((33, 1, 0, []), 16) := rfl
theorem T_36_16 : hTab 36 16 = some ((3, 1, 0, []), 17) := rfl
theorem T_36_17 : hTab 36 17 = some ((0, 0, 2, []), 18) := rfl
theorem T_36_18 : hTab 36 18 = some ((10, 0, 0, []), 19) := rfl
theorem T_36_19 : hTab 36 19 = some ((3, 0, 2, []), 20) := rfl
theorem T_36_20 : hTab 36 20 = some ((24, 2, Int.ofNat 0, []), 23) := rfl
theorem T_36_23 : hTab 36 23 = some ((3, 1, 0, []), 24) := rfl
theorem T_36_24 : hTab 36 24 = some ((26, 1, 0, []), 25) := rfl
theorem T_36_25 : hTab 36 25 = some ((0, 0, 255, []), 28) := rfl
theorem T_36_28 : hTab 36 28 = some ((10, 5, 0, []), 29) := rfl
theorem T_36_29 : hTab 36 29 = some ((10, 0, 0, []), 30) := rfl
theorem T_36_30 : hTab 36 30 = some ((0, 0, 256, []), 33) := rfl
theorem T_36_33 : hTab 36 33 = some ((3, 0, 2, []), 34) := rfl
theorem T_36_34 : hTab 36 34 = some ((24, 2, Int.ofNat 0, []), 37) := rfl
theorem T_36_37 : hTab 36 37 = some ((3, 1, 0, []), 38) := rfl
theorem T_36_38 : hTab 36 38 = some ((0, 0, 1, []), 39) := rfl
theorem T_36_39 : hTab 36 39 = some ((10, 0, 0, []), 40) := rfl
theorem T_36_40 : hTab 36 40 = some ((26, 1, 0, []), 41) := rfl
theorem T_36_41 : hTab 36 41 = some ((0, 0, 255, []), 44) := rfl
theorem T_36_44 : hTab 36 44 = some ((10, 5, 0, []), 45) := rfl
theorem T_36_45 : hTab 36 45 = some ((10, 2, 0, []), 46) := rfl
theorem T_36_46 : hTab 36 46 = some ((10, 0, 0, []), 47) := rfl
theorem T_36_47 : hTab 36 47 = some ((4, 2, 0, []), 48) := rfl
theorem T_36_48 : hTab 36 48 = some ((3, 2, 0, []), 49) := rfl
theorem T_36_49 : hTab 36 49 = some ((3, 0, 2, []), 50) := rfl
theorem T_36_50 : hTab 36 50 = some ((24, 2, Int.ofNat 1, []), 53) := rfl
theorem T_36_53 : hTab 36 53 = some ((19, 5, Int.ofNat 60, []), 56) := rfl
theorem T_36_56 : hTab 36 56 = some ((0, 0, (-1), []), 57) := rfl
theorem T_36_57 : hTab 36 57 = some ((22, 0, Int.ofNat 61, []), 60) := rfl
theorem T_36_60 : hTab 36 60 = some ((3, 2, 0, []), 61) := rfl
theorem T_36_61 : hTab 36 61 = some ((33, 1, 0, []), 62) := rfl
theorem T_58_0 : hTab 58 0 = some ((3, 1, 0, []), 1) := rfl
theorem T_58_1 : hTab 58 1 = some ((18, 2, Int.ofNat 22, []), 4) := rfl
theorem T_58_4 : hTab 58 4 = some ((3, 2, 0, []), 5) := rfl
theorem T_58_5 : hTab 58 5 = some ((3, 0, 2, []), 6) := rfl
theorem T_58_6 : hTab 58 6 = some ((24, 2, Int.ofNat 1, []), 9) := rfl
theorem T_58_9 : hTab 58 9 = some ((19, 4, Int.ofNat 22, []), 12) := rfl
theorem T_58_12 : hTab 58 12 = some ((3, 2, 0, []), 13) := rfl
theorem T_58_13 : hTab 58 13 = some ((3, 1, 0, []), 14) := rfl
theorem T_58_14 : hTab 58 14 = some ((10, 1, 0, []), 15) := rfl
theorem T_58_15 : hTab 58 15 = some ((3, 3, 2, []), 16) := rfl
theorem T_58_16 : hTab 58 16 = some ((24, 2, Int.ofNat 1, []), 19) := rfl
theorem T_58_19 : hTab 58 19 = some ((19, 0, Int.ofNat 24, []), 22) := rfl
theorem T_58_22 : hTab 58 22 = some ((0, 0, 0, []), 23) := rfl
theorem T_58_23 : hTab 58 23 = some ((33, 2, 0, []), 24) := rfl
theorem T_58_24 : hTab 58 24 = some ((3, 1, 0, []), 25) := rfl
theorem T_58_25 : hTab 58 25 = some ((4, 4, 0, []), 27) := rfl
theorem T_58_27 : hTab 58 27 = some ((3, 4, 0, []), 29) := rfl
theorem T_58_29 : hTab 58 29 = some ((3, 2, 0, []), 30) := rfl
theorem T_58_30 : hTab 58 30 = some ((19, 3, Int.ofNat 60, []), 33) := rfl
theorem T_58_33 : hTab 58 33 = some ((3, 0, 2, []), 34) := rfl
theorem T_58_34 : hTab 58 34 = some ((24, 2, Int.ofNat 0, []), 37) := rfl
theorem T_58_37 : hTab 58 37 = some ((3, 4, 0, []), 39) := rfl
theorem T_58_39 : hTab 58 39 = some ((26, 1, 0, []), 40) := rfl
theorem T_58_40 : hTab 58 40 = some ((3, 3, 2, []), 41) := rfl
theorem T_58_41 : hTab 58 41 = some ((24, 2, Int.ofNat 0, []), 44) := rfl
theorem T_58_44 : hTab 58 44 = some ((3, 4, 0, []), 46) := rfl
theorem T_58_46 : hTab 58 46 = some ((3, 1, 0, []), 47) := rfl
theorem T_58_47 : hTab 58 47 = some ((10, 1, 0, []), 48) := rfl
theorem T_58_48 : hTab 58 48 = some ((26, 1, 0, []), 49) := rfl
theorem T_58_49 : hTab 58 49 = some ((19, 0, Int.ofNat 54, []), 52) := rfl
theorem T_58_52 : hTab 58 52 = some ((0, 0, 0, []), 53) := rfl
theorem T_58_53 : hTab 58 53 = some ((33, 2, 0, []), 54) := rfl
theorem T_58_54 : hTab 58 54 = some ((5, 4, 1, []), 57) := rfl
theorem T_58_57 : hTab 58 57 = some ((22, 0, Int.ofNat 27, []), 60) := rfl
theorem T_58_60 : hTab 58 60 = some ((0, 0, 1, []), 61) := rfl
theorem T_58_61 : hTab 58 61 = some ((33, 2, 0, []), 62) := rfl
theorem mN_31 : hmN 31 = 4 := by decide +kernel
theorem mL_31 : hmL 31 = 4 := by decide +kernel
theorem mK_31 : hmK 31 = 1 := by decide +kernel
theorem mO_31 : hmO 31 = 2 := by decide +kernel
theorem mN_32 : hmN 32 = 4 := by decide +kernel
theorem mL_32 : hmL 32 = 5 := by decide +kernel
theorem mK_32 : hmK 32 = 1 := by decide +kernel
theorem mO_32 : hmO 32 = 2 := by decide +kernel
theorem mN_36 : hmN 36 = 2 := by decide +kernel
theorem mL_36 : hmL 36 = 3 := by decide +kernel
theorem mK_36 : hmK 36 = 1 := by decide +kernel
theorem mO_36 : hmO 36 = 2 := by decide +kernel
theorem mN_58 : hmN 58 = 4 := by decide +kernel
theorem mL_58 : hmL 58 = 5 := by decide +kernel
theorem mK_58 : hmK 58 = 1 := by decide +kernel
theorem mO_58 : hmO 58 = 2 := by decide +kernel
section XBY3
variable {fb : Bool} {d b c n m q : Nat} {σ0 σ : hM} {W W0 W1 W2 : qR} {R : rR} {l lo t : List Int} {i k x z v s e w : Int} {f : Int → Int}
theorem ifc {p q : Prop} [Decidable p] [Decidable q] {α : Type} {x y : α} (h : p ↔ q) : (if p then x else y) = if q then x else y := by
  by_cases hq : q
  · rw [if_pos hq, if_pos (h.mpr hq)]
  · rw [if_neg hq, if_neg (fun c => hq (h.mp c))]
theorem nu_two (h0 : 0 ≤ i) : nu (lg l) i 2 = lg l i + 256 * lg l (i + 1) := by
  rw [show (2 : Nat) = 1 + 1 from rfl, nu_cons, show (1 : Nat) = 0 + 1 from rfl, nu_cons]
  show lg l i + 256 * (lg l (i + 1) + 256 * 0) = _
  omega
theorem x_stringEnd (hP : PX σ0 W R σ) (hB : BY W b n l) (hz : (l.length : Int) = z) (hs : -1000000 ≤ s ∧ s ≤ 1000000) : CL fb d 36 [vR (some b), vI s] σ (rP (sE (lg l) z s) σ) := by
  obtain ⟨ho, ha, hn, h3, h4, h5, h6⟩ := id hB
  obtain ⟨N, hN⟩ : ∃ N : Int, (n : Int) = N := ⟨_, rfl⟩
  rw [hz] at h3 h6
  unfold sE
  by_cases q1 : s < 0
  · rw [if_pos (Or.inl q1)]
    refine CL_in mL_36 rfl ?_
    show WP fb _ 36 0 [some (vR (some b)), some (vI s), none] [] σ _
    refine x_li (z := s) T_36_0 rfl ?_
    refine x_if T_36_1 (fun _ => ?_) (fun h => absurd (show s < 0 by omega) h)
    refine x_ic T_36_14 ?_
    refine x_ri T_36_15 ?_
    exact ⟨rfl, rfl⟩
  by_cases q2 : z < s + 2
  · rw [if_pos (Or.inr q2)]
    refine CL_in mL_36 rfl ?_
    show WP fb _ 36 0 [some (vR (some b)), some (vI s), none] [] σ _
    refine x_li (z := s) T_36_0 rfl ?_
    refine x_if T_36_1 (fun h => absurd (show s < 0 from h) (by omega)) (fun _ => ?_)
    refine x_li (z := s) T_36_4 rfl ?_
    refine x_ic T_36_5 ?_
    refine x_ib (w := (s + 2)) T_36_6 (fun h => absurd h.1 (by decide)) (w32_id (by omega) (by omega)) ?_
    refine x_lr (z := some b) T_36_7 rfl ?_
    refine x_gI (z := z) T_36_8 (Or.inl F_2_1) (hP.o ho) (Eq.trans (hP.gi ho (key := 2065) rfl) h3) ?_
    refine x_ic2 T_36_11 (fun h => absurd (show (s + 2) ≤ z from h) (by omega)) (fun _ => ?_)
    refine x_ic T_36_14 ?_
    refine x_ri T_36_15 ?_
    exact ⟨rfl, rfl⟩
  rw [if_neg (by omega), nu_two (by omega)]
  have e0 := h6 s (by omega) (by omega)
  have e1 := h6 (s + 1) (by omega) (by omega)
  have r0 := h5 s (by omega)
  have r1 := h5 (s + 1) (by omega)
  obtain ⟨x0, hx0⟩ : ∃ x, lg l s = x := ⟨_, rfl⟩
  obtain ⟨x1, hx1⟩ : ∃ x, lg l (s + 1) = x := ⟨_, rfl⟩
  rw [hx0] at e0 r0 ⊢
  rw [hx1] at e1 r1 ⊢
  by_cases q3 : z < s + 2 + (x0 + 256 * x1)
  · rw [if_pos q3]
    refine CL_in mL_36 rfl ?_
    show WP fb _ 36 0 [some (vR (some b)), some (vI s), none] [] σ _
    refine x_li (z := s) T_36_0 rfl ?_
    refine x_if T_36_1 (fun h => absurd (show s < 0 from h) (by omega)) (fun _ => ?_)
    refine x_li (z := s) T_36_4 rfl ?_
    refine x_ic T_36_5 ?_
    refine x_ib (w := (s + 2)) T_36_6 (fun h => absurd h.1 (by decide)) (w32_id (by omega) (by omega)) ?_
    refine x_lr (z := some b) T_36_7 rfl ?_
    refine x_gI (z := z) T_36_8 (Or.inl F_2_1) (hP.o ho) (Eq.trans (hP.gi ho (key := 2065) rfl) h3) ?_
    refine x_ic2 T_36_11 (fun _ => ?_) (fun h => absurd (show (s + 2) ≤ z by omega) h)
    refine x_li (z := s) T_36_16 rfl ?_
    refine x_ic T_36_17 ?_
    refine x_ib (w := (s + 2)) T_36_18 (fun h => absurd h.1 (by decide)) (w32_id (by omega) (by omega)) ?_
    refine x_lr (z := some b) T_36_19 rfl ?_
    refine x_gR (z := some (b + 1)) T_36_20 F_2_0 (hP.o ho) (hP.rc ho rfl rfl) ?_
    refine x_li (z := s) T_36_23 rfl ?_
    refine x_alI (z := (sb8 x0)) T_36_24 (by decide) (hP.ta ha) (by omega) (by omega) (Eq.trans (hP.ai ha (by omega)) e0) ?_
    refine x_ic T_36_25 ?_
    refine x_ib (w := x0) T_36_28 (fun h => absurd h.1 (by decide)) (and32_byte r0) ?_
    refine x_ib (w := ((s + 2) + x0)) T_36_29 (fun h => absurd h.1 (by decide)) (w32_id (by omega) (by omega)) ?_
    refine x_ic T_36_30 ?_
    refine x_lr (z := some b) T_36_33 rfl ?_
    refine x_gR (z := some (b + 1)) T_36_34 F_2_0 (hP.o ho) (hP.rc ho rfl rfl) ?_
    refine x_li (z := s) T_36_37 rfl ?_
    refine x_ic T_36_38 ?_
    refine x_ib (w := (s + 1)) T_36_39 (fun h => absurd h.1 (by decide)) (w32_id (by omega) (by omega)) ?_
    refine x_alI (z := (sb8 x1)) T_36_40 (by decide) (hP.ta ha) (by omega) (by omega) (Eq.trans (hP.ai ha (by omega)) e1) ?_
    refine x_ic T_36_41 ?_
    refine x_ib (w := x1) T_36_44 (fun h => absurd h.1 (by decide)) (and32_byte r1) ?_
    refine x_ib (w := (256 * x1)) T_36_45 (fun h => absurd h.1 (by decide)) (w32_id (by omega) (by omega)) ?_
    refine x_ib (w := (((s + 2) + x0) + (256 * x1))) T_36_46 (fun h => absurd h.1 (by decide)) (w32_id (by omega) (by omega)) ?_
    refine x_si (ls1 := [some (vR (some b)), some (vI s), some (vI (((s + 2) + x0) + (256 * x1)))]) T_36_47 rfl ?_
    refine x_li (z := (((s + 2) + x0) + (256 * x1))) T_36_48 rfl ?_
    refine x_lr (z := some b) T_36_49 rfl ?_
    refine x_gI (z := z) T_36_50 (Or.inl F_2_1) (hP.o ho) (Eq.trans (hP.gi ho (key := 2065) rfl) h3) ?_
    refine x_ic2 T_36_53 (fun h => absurd (show (((s + 2) + x0) + (256 * x1)) ≤ z from h) (by omega)) (fun _ => ?_)
    refine x_ic T_36_56 ?_
    refine x_goto T_36_57 ?_
    refine x_ri T_36_61 ?_
    exact ⟨rfl, rfl⟩
  · rw [if_neg q3, show s + 2 + (x0 + 256 * x1) = s + 2 + x0 + 256 * x1 by omega]
    refine CL_in mL_36 rfl ?_
    show WP fb _ 36 0 [some (vR (some b)), some (vI s), none] [] σ _
    refine x_li (z := s) T_36_0 rfl ?_
    refine x_if T_36_1 (fun h => absurd (show s < 0 from h) (by omega)) (fun _ => ?_)
    refine x_li (z := s) T_36_4 rfl ?_
    refine x_ic T_36_5 ?_
    refine x_ib (w := (s + 2)) T_36_6 (fun h => absurd h.1 (by decide)) (w32_id (by omega) (by omega)) ?_
    refine x_lr (z := some b) T_36_7 rfl ?_
    refine x_gI (z := z) T_36_8 (Or.inl F_2_1) (hP.o ho) (Eq.trans (hP.gi ho (key := 2065) rfl) h3) ?_
    refine x_ic2 T_36_11 (fun _ => ?_) (fun h => absurd (show (s + 2) ≤ z by omega) h)
    refine x_li (z := s) T_36_16 rfl ?_
    refine x_ic T_36_17 ?_
    refine x_ib (w := (s + 2)) T_36_18 (fun h => absurd h.1 (by decide)) (w32_id (by omega) (by omega)) ?_
    refine x_lr (z := some b) T_36_19 rfl ?_
    refine x_gR (z := some (b + 1)) T_36_20 F_2_0 (hP.o ho) (hP.rc ho rfl rfl) ?_
    refine x_li (z := s) T_36_23 rfl ?_
    refine x_alI (z := (sb8 x0)) T_36_24 (by decide) (hP.ta ha) (by omega) (by omega) (Eq.trans (hP.ai ha (by omega)) e0) ?_
    refine x_ic T_36_25 ?_
    refine x_ib (w := x0) T_36_28 (fun h => absurd h.1 (by decide)) (and32_byte r0) ?_
    refine x_ib (w := ((s + 2) + x0)) T_36_29 (fun h => absurd h.1 (by decide)) (w32_id (by omega) (by omega)) ?_
    refine x_ic T_36_30 ?_
    refine x_lr (z := some b) T_36_33 rfl ?_
    refine x_gR (z := some (b + 1)) T_36_34 F_2_0 (hP.o ho) (hP.rc ho rfl rfl) ?_
    refine x_li (z := s) T_36_37 rfl ?_
    refine x_ic T_36_38 ?_
    refine x_ib (w := (s + 1)) T_36_39 (fun h => absurd h.1 (by decide)) (w32_id (by omega) (by omega)) ?_
    refine x_alI (z := (sb8 x1)) T_36_40 (by decide) (hP.ta ha) (by omega) (by omega) (Eq.trans (hP.ai ha (by omega)) e1) ?_
    refine x_ic T_36_41 ?_
    refine x_ib (w := x1) T_36_44 (fun h => absurd h.1 (by decide)) (and32_byte r1) ?_
    refine x_ib (w := (256 * x1)) T_36_45 (fun h => absurd h.1 (by decide)) (w32_id (by omega) (by omega)) ?_
    refine x_ib (w := (((s + 2) + x0) + (256 * x1))) T_36_46 (fun h => absurd h.1 (by decide)) (w32_id (by omega) (by omega)) ?_
    refine x_si (ls1 := [some (vR (some b)), some (vI s), some (vI (((s + 2) + x0) + (256 * x1)))]) T_36_47 rfl ?_
    refine x_li (z := (((s + 2) + x0) + (256 * x1))) T_36_48 rfl ?_
    refine x_lr (z := some b) T_36_49 rfl ?_
    refine x_gI (z := z) T_36_50 (Or.inl F_2_1) (hP.o ho) (Eq.trans (hP.gi ho (key := 2065) rfl) h3) ?_
    refine x_ic2 T_36_53 (fun _ => ?_) (fun h => absurd (show (((s + 2) + x0) + (256 * x1)) ≤ z by omega) h)
    refine x_li (z := (((s + 2) + x0) + (256 * x1))) T_36_60 rfl ?_
    refine x_ri T_36_61 ?_
    exact ⟨rfl, rfl⟩
theorem sb8_inj {x y : Int} (hx : 0 ≤ x ∧ x ≤ 255) (hy : 0 ≤ y ∧ y ≤ 255) : sb8 x = sb8 y ↔ x = y := by
  constructor
  · intro h
    rw [← and32_byte hx, ← and32_byte hy, h]
  · exact fun h => by rw [h]
theorem seg_cons {i : Int} {m : Nat} : seg f i (m + 1) = f i :: seg f (i + 1) m := rfl
theorem x_match_loop (hP : PX σ0 W R σ) (hB : BY W b n l) (hC : BY W c q lo) (hs : 0 ≤ s) (he : e ≤ l.length) (hl : e - s = lo.length) : ∀ (m : Nat) (i : Int), i + m = e → s ≤ i → WP fb d 58 27 [some (vR (some b)), some (vI s), some (vI e), some (vR (some c)), some (vI i)] [] σ (rP (if seg (lg l) i m = seg (lg lo) (i - s) m then 1 else 0) σ) := by
  obtain ⟨ho, ha, hn, h3, h4, h5, h6⟩ := id hB
  obtain ⟨ho2, ha2, hn2, h32, h42, h52, h62⟩ := id hC
  obtain ⟨z, hz⟩ : ∃ z : Int, (l.length : Int) = z := ⟨_, rfl⟩
  obtain ⟨z2, hz2⟩ : ∃ z : Int, (lo.length : Int) = z := ⟨_, rfl⟩
  rw [hz] at h3 h6
  rw [hz2] at h62
  intro m
  induction m with
  | zero =>
    intro i h1 h2
    have h1 : i + ((0 : Nat) : Int) = e := h1
    rw [if_pos (show seg (lg l) i 0 = seg (lg lo) (i - s) 0 from rfl)]
    refine x_li (z := i) T_58_27 rfl ?_
    refine x_li (z := e) T_58_29 rfl ?_
    refine x_ic2 T_58_30 (fun _ => ?_) (fun h => absurd (show e ≤ i by omega) h)
    refine x_ic T_58_60 ?_
    refine x_rz T_58_61 rfl ?_
    exact ⟨rfl, rfl⟩
  | succ m ih =>
    intro i h1 h2
    have e0 := h6 i (by omega) (by omega)
    have e1 := h62 (i - s) (by omega) (by omega)
    have r0 := h5 i (by omega)
    have r1 := h52 (i - s) (by omega)
    have hgo := ih (i + 1) (by omega) (by omega)
    rw [show i + 1 - s = i - s + 1 by omega] at hgo
    rw [seg_cons, seg_cons]
    obtain ⟨x0, hx0⟩ : ∃ x, lg l i = x := ⟨_, rfl⟩
    obtain ⟨x1, hx1⟩ : ∃ x, lg lo (i - s) = x := ⟨_, rfl⟩
    rw [hx0] at e0 r0 ⊢
    rw [hx1] at e1 r1 ⊢
    by_cases qq : x0 = x1
    · rw [ifc (show x0 :: seg (lg l) (i + 1) m = x1 :: seg (lg lo) (i - s + 1) m ↔ seg (lg l) (i + 1) m = seg (lg lo) (i - s + 1) m from ⟨fun c => (List.cons.inj c).2, fun c => by rw [qq, c]⟩)]
      refine x_li (z := i) T_58_27 rfl ?_
      refine x_li (z := e) T_58_29 rfl ?_
      refine x_ic2 T_58_30 (fun h => absurd (show e ≤ i from h) (by omega)) (fun _ => ?_)
      refine x_lr (z := some b) T_58_33 rfl ?_
      refine x_gR (z := some (b + 1)) T_58_34 F_2_0 (hP.o ho) (hP.rc ho rfl rfl) ?_
      refine x_li (z := i) T_58_37 rfl ?_
      refine x_alI (z := (sb8 x0)) T_58_39 (by decide) (hP.ta ha) (by omega) (by omega) (Eq.trans (hP.ai ha (by omega)) e0) ?_
      refine x_lr (z := some c) T_58_40 rfl ?_
      refine x_gR (z := some (c + 1)) T_58_41 F_2_0 (hP.o ho2) (hP.rc ho2 rfl rfl) ?_
      refine x_li (z := i) T_58_44 rfl ?_
      refine x_li (z := s) T_58_46 rfl ?_
      refine x_ib (w := (i - s)) T_58_47 (fun h => absurd h.1 (by decide)) (w32_id (by omega) (by omega)) ?_
      refine x_alI (z := (sb8 x1)) T_58_48 (by decide) (hP.ta ha2) (by omega) (by omega) (Eq.trans (hP.ai ha2 (by omega)) e1) ?_
      refine x_ic2 T_58_49 (fun _ => ?_) (fun h => absurd (show (sb8 x0) = (sb8 x1) by rw [qq]) h)
      refine x_inc (w := (i + 1)) (ls1 := [some (vR (some b)), some (vI s), some (vI e), some (vR (some c)), some (vI (i + 1))]) T_58_54 rfl (w32_id (by omega) (by omega)) rfl ?_
      refine x_goto T_58_57 ?_
      exact hgo
    · rw [if_neg (fun c => qq (List.cons.inj c).1)]
      refine x_li (z := i) T_58_27 rfl ?_
      refine x_li (z := e) T_58_29 rfl ?_
      refine x_ic2 T_58_30 (fun h => absurd (show e ≤ i from h) (by omega)) (fun _ => ?_)
      refine x_lr (z := some b) T_58_33 rfl ?_
      refine x_gR (z := some (b + 1)) T_58_34 F_2_0 (hP.o ho) (hP.rc ho rfl rfl) ?_
      refine x_li (z := i) T_58_37 rfl ?_
      refine x_alI (z := (sb8 x0)) T_58_39 (by decide) (hP.ta ha) (by omega) (by omega) (Eq.trans (hP.ai ha (by omega)) e0) ?_
      refine x_lr (z := some c) T_58_40 rfl ?_
      refine x_gR (z := some (c + 1)) T_58_41 F_2_0 (hP.o ho2) (hP.rc ho2 rfl rfl) ?_
      refine x_li (z := i) T_58_44 rfl ?_
      refine x_li (z := s) T_58_46 rfl ?_
      refine x_ib (w := (i - s)) T_58_47 (fun h => absurd h.1 (by decide)) (w32_id (by omega) (by omega)) ?_
      refine x_alI (z := (sb8 x1)) T_58_48 (by decide) (hP.ta ha2) (by omega) (by omega) (Eq.trans (hP.ai ha2 (by omega)) e1) ?_
      refine x_ic2 T_58_49 (fun h => absurd (show (sb8 x0) = (sb8 x1) from h) (by exact fun c => qq ((sb8_inj r0 r1).mp c))) (fun _ => ?_)
      refine x_ic T_58_52 ?_
      refine x_rz T_58_53 rfl ?_
      exact ⟨rfl, rfl⟩
theorem seg_all : seg (lg l) 0 l.length = l := seg_eq.mpr ⟨rfl, fun i _ _ => by rw [Int.zero_add]⟩
theorem x_matches (hP : PX σ0 W R σ) (hB : BY W b n l) (hC : BY W c q lo) (hz : (l.length : Int) = z) (hs : -1000000 ≤ s ∧ s ≤ 1000000) (he : -1000000 ≤ e ∧ e ≤ 1000000) : CL fb d 58 [vR (some b), vI s, vI e, vR (some c)] σ (rP (if (0 ≤ s ∧ e ≤ z) ∧ s ≤ e ∧ seg (lg l) s (e - s).toNat = lo then 1 else 0) σ) := by
  have ho := hB.1
  have ho2 := hC.1
  have h1 := hB.sz hz
  obtain ⟨z2, hz2⟩ : ∃ z : Int, (lo.length : Int) = z := ⟨_, rfl⟩
  have h2 := hC.sz hz2
  have hn := hC.2.2.1
  have hn2 := hC.2.2.2.2.1
  by_cases q1 : s < 0
  · rw [if_neg (fun c => by omega)]
    refine CL_in mL_58 rfl ?_
    show WP fb _ 58 0 [some (vR (some b)), some (vI s), some (vI e), some (vR (some c)), none] [] σ _
    refine x_li (z := s) T_58_0 rfl ?_
    refine x_if T_58_1 (fun _ => ?_) (fun h => absurd (show s < 0 by omega) h)
    refine x_ic T_58_22 ?_
    refine x_rz T_58_23 rfl ?_
    exact ⟨rfl, rfl⟩
  by_cases q2 : z < e
  · rw [if_neg (fun c => by omega)]
    refine CL_in mL_58 rfl ?_
    show WP fb _ 58 0 [some (vR (some b)), some (vI s), some (vI e), some (vR (some c)), none] [] σ _
    refine x_li (z := s) T_58_0 rfl ?_
    refine x_if T_58_1 (fun h => absurd (show s < 0 from h) (by omega)) (fun _ => ?_)
    refine x_li (z := e) T_58_4 rfl ?_
    refine x_lr (z := some b) T_58_5 rfl ?_
    refine x_gI (z := z) T_58_6 (Or.inl F_2_1) (hP.o ho) (Eq.trans (hP.gi ho (key := 2065) rfl) h1) ?_
    refine x_ic2 T_58_9 (fun _ => ?_) (fun h => absurd (show z < e by omega) h)
    refine x_ic T_58_22 ?_
    refine x_rz T_58_23 rfl ?_
    exact ⟨rfl, rfl⟩
  by_cases q3 : e - s = z2
  · have hgo := x_match_loop (fb := fb) (d := d) hP hB hC (s := s) (e := e) (by omega) (by omega) (by omega) (e - s).toNat s (by omega) (Int.le_refl s)
    rw [Int.sub_self, show seg (lg lo) 0 (e - s).toNat = lo by rw [show (e - s).toNat = lo.length by omega]; exact seg_all] at hgo
    rw [ifc (show (0 ≤ s ∧ e ≤ z) ∧ s ≤ e ∧ seg (lg l) s (e - s).toNat = lo ↔ seg (lg l) s (e - s).toNat = lo from ⟨fun c => c.2.2, fun c => ⟨by omega, by omega, c⟩⟩)]
    refine CL_in mL_58 rfl ?_
    show WP fb _ 58 0 [some (vR (some b)), some (vI s), some (vI e), some (vR (some c)), none] [] σ _
    refine x_li (z := s) T_58_0 rfl ?_
    refine x_if T_58_1 (fun h => absurd (show s < 0 from h) (by omega)) (fun _ => ?_)
    refine x_li (z := e) T_58_4 rfl ?_
    refine x_lr (z := some b) T_58_5 rfl ?_
    refine x_gI (z := z) T_58_6 (Or.inl F_2_1) (hP.o ho) (Eq.trans (hP.gi ho (key := 2065) rfl) h1) ?_
    refine x_ic2 T_58_9 (fun h => absurd (show z < e from h) (by omega)) (fun _ => ?_)
    refine x_li (z := e) T_58_12 rfl ?_
    refine x_li (z := s) T_58_13 rfl ?_
    refine x_ib (w := (e - s)) T_58_14 (fun h => absurd h.1 (by decide)) (w32_id (by omega) (by omega)) ?_
    refine x_lr (z := some c) T_58_15 rfl ?_
    refine x_gI (z := z2) T_58_16 (Or.inl F_2_1) (hP.o ho2) (Eq.trans (hP.gi ho2 (key := 2065) rfl) h2) ?_
    refine x_ic2 T_58_19 (fun _ => ?_) (fun h => absurd (show (e - s) = z2 by omega) h)
    refine x_li (z := s) T_58_24 rfl ?_
    refine x_si (ls1 := [some (vR (some b)), some (vI s), some (vI e), some (vR (some c)), some (vI s)]) T_58_25 rfl ?_
    exact hgo
  · rw [if_neg (fun c => by
      have := congrArg List.length c.2.2
      rw [seg_len] at this
      omega)]
    refine CL_in mL_58 rfl ?_
    show WP fb _ 58 0 [some (vR (some b)), some (vI s), some (vI e), some (vR (some c)), none] [] σ _
    refine x_li (z := s) T_58_0 rfl ?_
    refine x_if T_58_1 (fun h => absurd (show s < 0 from h) (by omega)) (fun _ => ?_)
    refine x_li (z := e) T_58_4 rfl ?_
    refine x_lr (z := some b) T_58_5 rfl ?_
    refine x_gI (z := z) T_58_6 (Or.inl F_2_1) (hP.o ho) (Eq.trans (hP.gi ho (key := 2065) rfl) h1) ?_
    refine x_ic2 T_58_9 (fun h => absurd (show z < e from h) (by omega)) (fun _ => ?_)
    refine x_li (z := e) T_58_12 rfl ?_
    refine x_li (z := s) T_58_13 rfl ?_
    refine x_ib (w := (e - s)) T_58_14 (fun h => absurd h.1 (by decide)) (w32_id (by omega) (by omega)) ?_
    refine x_lr (z := some c) T_58_15 rfl ?_
    refine x_gI (z := z2) T_58_16 (Or.inl F_2_1) (hP.o ho2) (Eq.trans (hP.gi ho2 (key := 2065) rfl) h2) ?_
    refine x_ic2 T_58_19 (fun h => absurd (show (e - s) = z2 from h) (by omega)) (fun _ => ?_)
    refine x_ic T_58_22 ?_
    refine x_rz T_58_23 rfl ?_
    exact ⟨rfl, rfl⟩
theorem x_all_loop (hcb : c ≠ b) (he : e ≤ lo.length) : ∀ (m : Nat) (i : Int) (l : List Int) (W : qR) (σ : hM), (i + m = e ∧ 0 ≤ i) ∨ (m = 0 ∧ e ≤ i) → PX σ0 W R σ → BY W b n l → BY W c q lo → FB b W0 W → WP fb d 32 3 [some (vR (some b)), some (vR (some c)), some (vI s), some (vI e), some (vI i)] [] σ (XB σ0 W0 R b n ((l ++ seg (lg lo) i m).take n) (some (vI (if l.length + m ≤ n then 1 else 0)))) := by
  intro m
  induction m with
  | zero =>
    intro i l W σ h1 hP hB hC hF
    have h1 : (i + ((0 : Nat) : Int) = e ∧ 0 ≤ i) ∨ (0 = 0 ∧ e ≤ i) := h1
    have ho := hB.1
    have hl := hB.2.2.2.2.1
    rw [show seg (lg lo) i 0 = [] from rfl, List.append_nil, List.take_of_length_le hl, if_pos (by omega)]
    refine x_li (z := i) T_32_3 rfl ?_
    refine x_li (z := e) T_32_5 rfl ?_
    refine x_ic2 T_32_6 (fun _ => ?_) (fun h => absurd (show e ≤ i by omega) h)
    refine x_ic T_32_69 ?_
    refine x_rz T_32_70 rfl ?_
    exact ⟨rfl, W, hP, hB, hF⟩
  | succ m ih =>
    intro i l W σ h1 hP hB hC hF
    obtain ⟨ho, ha, hn, h3, h4, h5, h6⟩ := id hB
    obtain ⟨ho2, ha2, hn2, h32, h42, h52, h62⟩ := id hC
    obtain ⟨z, hz⟩ : ∃ z : Int, (l.length : Int) = z := ⟨_, rfl⟩
    obtain ⟨z2, hz2⟩ : ∃ z : Int, (lo.length : Int) = z := ⟨_, rfl⟩
    obtain ⟨N, hN⟩ : ∃ N : Int, (n : Int) = N := ⟨_, rfl⟩
    have h1 : i + ((m + 1 : Nat) : Int) = e ∧ 0 ≤ i := by omega
    rw [hz] at h3 h6
    rw [hz2] at h32 h62
    by_cases qf : z = N
    · rw [if_neg (by omega), List.take_append_of_le_length (by omega), List.take_of_length_le h4]
      refine x_li (z := i) T_32_3 rfl ?_
      refine x_li (z := e) T_32_5 rfl ?_
      refine x_ic2 T_32_6 (fun h => absurd (show e ≤ i from h) (by omega)) (fun _ => ?_)
      refine x_lr (z := some b) T_32_9 rfl ?_
      refine x_gI (z := z) T_32_10 (Or.inl F_2_1) (hP.o ho) (Eq.trans (hP.gi ho (key := 2065) rfl) h3) ?_
      refine x_lr (z := some b) T_32_13 rfl ?_
      refine x_gR (z := some (b + 1)) T_32_14 F_2_0 (hP.o ho) (hP.rc ho rfl rfl) ?_
      refine x_len (len := n) T_32_17 (hP.ta ha) ?_
      rw [hN]
      refine x_ic2 T_32_18 (fun _ => ?_) (fun h => absurd (show N ≤ z by omega) h)
      refine x_ic T_32_35 ?_
      refine x_rz T_32_36 rfl ?_
      exact ⟨rfl, W, hP, hB, hF⟩
    · have e1 := h62 i (by omega) (by omega)
      have r1 := h52 i (by omega)
      obtain ⟨x1, hx1⟩ : ∃ x, lg lo i = x := ⟨_, rfl⟩
      rw [hx1] at e1 r1
      have hgo := fun (σ : hM) (hP : PX σ0 (rU (rU W (b + 1) z (sb8 x1)) b 2065 (z + 1)) R σ) => ih (i + 1) (l ++ [x1]) _ σ (Or.inl ⟨by omega, by omega⟩) hP (hB.more hz (by omega) r1 rfl) ((FB_put (by omega)).by hC hcb) (FB_tr hF (FB_put (by omega)))
      rw [List.append_assoc, show [x1] ++ seg (lg lo) (i + 1) m = seg (lg lo) i (m + 1) by rw [seg_cons, hx1]; rfl, ifc (show (l ++ [x1]).length + m ≤ n ↔ l.length + (m + 1) ≤ n by rw [List.length_append]; show l.length + 1 + m ≤ n ↔ _; omega)] at hgo
      refine x_li (z := i) T_32_3 rfl ?_
      refine x_li (z := e) T_32_5 rfl ?_
      refine x_ic2 T_32_6 (fun h => absurd (show e ≤ i from h) (by omega)) (fun _ => ?_)
      refine x_lr (z := some b) T_32_9 rfl ?_
      refine x_gI (z := z) T_32_10 (Or.inl F_2_1) (hP.o ho) (Eq.trans (hP.gi ho (key := 2065) rfl) h3) ?_
      refine x_lr (z := some b) T_32_13 rfl ?_
      refine x_gR (z := some (b + 1)) T_32_14 F_2_0 (hP.o ho) (hP.rc ho rfl rfl) ?_
      refine x_len (len := n) T_32_17 (hP.ta ha) ?_
      rw [hN]
      refine x_ic2 T_32_18 (fun h => absurd (show N ≤ z from h) (by omega)) (fun _ => ?_)
      refine x_li (z := i) T_32_21 rfl ?_
      refine x_if T_32_23 (fun h => absurd (show i < 0 from h) (by omega)) (fun _ => ?_)
      refine x_li (z := i) T_32_26 rfl ?_
      refine x_lr (z := some c) T_32_28 rfl ?_
      refine x_gI (z := z2) T_32_29 (Or.inl F_2_1) (hP.o ho2) (Eq.trans (hP.gi ho2 (key := 2065) rfl) h32) ?_
      refine x_ic2 T_32_32 (fun _ => ?_) (fun h => absurd (show i < z2 by omega) h)
      refine x_lr (z := some b) T_32_37 rfl ?_
      refine x_gR (z := some (b + 1)) T_32_38 F_2_0 (hP.o ho) (hP.rc ho rfl rfl) ?_
      refine x_lr (z := some b) T_32_41 rfl ?_
      refine x_gI (z := z) T_32_42 (Or.inl F_2_1) (hP.o ho) (Eq.trans (hP.gi ho (key := 2065) rfl) h3) ?_
      refine x_lr (z := some c) T_32_45 rfl ?_
      refine x_gR (z := some (c + 1)) T_32_46 F_2_0 (hP.o ho2) (hP.rc ho2 rfl rfl) ?_
      refine x_li (z := i) T_32_49 rfl ?_
      refine x_alI (z := (sb8 x1)) T_32_51 (by decide) (hP.ta ha2) (by omega) (by omega) (Eq.trans (hP.ai ha2 (by omega)) e1) ?_
      refine z_aB (v := (sb8 x1)) hP T_32_52 (sb8_sb8 x1) ha (by omega) (by omega) (fun σ hP => ?_)
      refine x_lr (z := some b) T_32_53 rfl ?_
      refine x_dupR T_32_54 ?_
      refine x_gI (z := z) T_32_55 (Or.inl F_2_1) (hP.o ho) (Eq.trans (Eq.trans (hP.gi ho (key := 2065) rfl) (rU_j (by omega))) h3) ?_
      refine x_ic T_32_58 ?_
      refine x_ib (w := (z + 1)) T_32_59 (fun h => absurd h.1 (by decide)) (w32_id (by omega) (by omega)) ?_
      refine z_pI hP T_32_60 F_2_1 ho (key := 2065) rfl (fun σ hP => ?_)
      refine x_inc (w := (i + 1)) (ls1 := [some (vR (some b)), some (vR (some c)), some (vI s), some (vI e), some (vI (i + 1))]) T_32_63 rfl (w32_id (by omega) (by omega)) rfl ?_
      refine x_goto T_32_66 ?_
      exact hgo σ hP
theorem x_addAll (hP : PX σ0 W R σ) (hB : BY W b n l) (hC : BY W c q lo) (hcb : c ≠ b) (h : e ≤ s ∨ 0 ≤ s) (he : e ≤ lo.length) : CL fb d 32 [vR (some b), vR (some c), vI s, vI e] σ (XB σ0 W R b n ((l ++ seg (lg lo) s (e - s).toNat).take n) (some (vI (if l.length + (e - s).toNat ≤ n then 1 else 0)))) := by
  have ho := hB.1
  have hgo := x_all_loop (fb := fb) (d := d) (σ0 := σ0) (W0 := W) (R := R) (b := b) (n := n) (s := s) hcb he (e - s).toNat s l W σ (by omega) hP hB hC FB_rfl
  refine CL_in mL_32 rfl ?_
  show WP fb _ 32 0 [some (vR (some b)), some (vR (some c)), some (vI s), some (vI e), none] [] σ _
  refine x_li (z := s) T_32_0 rfl ?_
  refine x_si (ls1 := [some (vR (some b)), some (vR (some c)), some (vI s), some (vI e), some (vI s)]) T_32_1 rfl ?_
  exact hgo
theorem x_take (hP : PX σ0 W R σ) (hB : BY W b n l) (hC : BY W c q lo) (hcb : c ≠ b) (h : e ≤ s ∨ 0 ≤ s) (he : e ≤ lo.length) : CL fb (d + 1) 31 [vR (some b), vR (some c), vI s, vI e] σ (XB σ0 W R b n ((seg (lg lo) s (e - s).toNat).take n) (some (vI (if (e - s).toNat ≤ n then 1 else 0)))) := by
  have ho := hB.1
  have hgo := fun (σ : hM) (hP : PX σ0 (rU W b 2065 0) R σ) => x_addAll (fb := fb) (d := d) hP hB.set0 (FB_set.by hC hcb) hcb h he
  simp only [List.nil_append, List.length_nil, Nat.zero_add] at hgo
  obtain ⟨r1, hr1⟩ : ∃ r1 : Int, (if (e - s).toNat ≤ n then (1 : Int) else 0) = r1 := ⟨_, rfl⟩
  have hr2 : r1 = 0 ∨ r1 = 1 := by
    rw [← hr1]
    split
    · exact Or.inr rfl
    · exact Or.inl rfl
  rw [hr1] at hgo ⊢
  refine CL_in mL_31 rfl ?_
  show WP fb _ 31 0 [some (vR (some b)), some (vR (some c)), some (vI s), some (vI e)] [] σ _
  refine x_lr (z := some b) T_31_0 rfl ?_
  refine x_ic T_31_1 ?_
  refine z_pI hP T_31_2 F_2_1 ho (key := 2065) rfl (fun σ hP => ?_)
  refine x_lr (z := some b) T_31_5 rfl ?_
  refine x_lr (z := some c) T_31_6 rfl ?_
  refine x_li (z := s) T_31_7 rfl ?_
  refine x_li (z := e) T_31_8 rfl ?_
  refine x_cv4 T_31_9 mN_32 mL_32 (Nat.le_of_ble_eq_true rfl) mO_32 (hP.o ho) (Nat.le_of_ble_eq_true rfl) (hgo σ hP) ?_
  clear hP hgo
  rintro _ σ ⟨rfl, W2, hP, hB2, hF2⟩
  refine cI ?_
  refine x_rz T_31_12 (h01_of (by omega)) ?_
  exact ⟨rfl, W2, hP, hB2, FB_tr FB_set hF2⟩
end XBY3
