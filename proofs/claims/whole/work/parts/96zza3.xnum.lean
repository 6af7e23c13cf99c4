/-! The class's commands: a word's length, the number that it is. -/
theorem T_104_21 : hTab 104 21 = some ((0, 0, 0, []), 22) := rfl
theorem T_104_22 : hTab 104 22 = some ((22, 0, Int.ofNat 31, []), 25) := rfl
theorem T_105_0 : hTab 105 0 = some ((3, 0, 2, []), 1) := rfl
theorem T_105_1 : hTab 105 1 = some ((3, 1, 0, []), 2) := rfl
theorem T_105_2 : hTab 105 2 = some ((31, 106, 0, []), 5) := rfl
theorem T_105_5 : hTab 105 5 = some ((3, 0, 2, []), 6) := rfl
theorem T_105_6 : hTab 105 6 = some ((3, 1, 0, []), 7) := rfl
theorem T_105_7 : hTab 105 7 = some ((31, 104, 0, []), 10) := rfl
theorem T_105_10 : hTab 105 10 = some ((10, 1, 0, []), 11) := rfl
theorem T_105_11 : hTab 105 11 = some ((33, 1, 0, []), 12) := rfl
theorem T_106_21 : hTab 106 21 = some ((0, 0, 0, []), 22) := rfl
theorem T_106_22 : hTab 106 22 = some ((22, 0, Int.ofNat 31, []), 25) := rfl
theorem T_149_0 : hTab 149 0 = some ((3, 0, 2, []), 1) := rfl
theorem T_149_1 : hTab 149 1 = some ((3, 1, 0, []), 2) := rfl
theorem T_149_2 : hTab 149 2 = some ((0, 0, 8, []), 4) := rfl
theorem T_149_4 : hTab 149 4 = some ((0, 0, 3, []), 5) := rfl
theorem T_149_5 : hTab 149 5 = some ((31, 150, 0, []), 8) := rfl
theorem T_149_8 : hTab 149 8 = some ((33, 1, 0, []), 9) := rfl
theorem T_150_0 : hTab 150 0 = some ((3, 0, 2, []), 1) := rfl
theorem T_150_1 : hTab 150 1 = some ((3, 1, 0, []), 2) := rfl
theorem T_150_2 : hTab 150 2 = some ((31, 105, 0, []), 5) := rfl
theorem T_150_5 : hTab 150 5 = some ((4, 4, 0, []), 7) := rfl
theorem T_150_7 : hTab 150 7 = some ((0, 0, 0, []), 8) := rfl
theorem T_150_8 : hTab 150 8 = some ((4, 5, 0, []), 10) := rfl
theorem T_150_10 : hTab 150 10 = some ((0, 0, 0, []), 11) := rfl
theorem T_150_11 : hTab 150 11 = some ((4, 6, 0, []), 13) := rfl
theorem T_150_13 : hTab 150 13 = some ((3, 6, 0, []), 15) := rfl
theorem T_150_15 : hTab 150 15 = some ((3, 4, 0, []), 17) := rfl
theorem T_150_17 : hTab 150 17 = some ((19, 3, Int.ofNat 74, []), 20) := rfl
theorem T_150_20 : hTab 150 20 = some ((3, 6, 0, []), 22) := rfl
theorem T_150_22 : hTab 150 22 = some ((3, 3, 0, []), 23) := rfl
theorem T_150_23 : hTab 150 23 = some ((19, 3, Int.ofNat 74, []), 26) := rfl
theorem T_150_26 : hTab 150 26 = some ((3, 0, 2, []), 27) := rfl
theorem T_150_27 : hTab 150 27 = some ((24, 16, Int.ofNat 0, []), 30) := rfl
theorem T_150_30 : hTab 150 30 = some ((3, 0, 2, []), 31) := rfl
theorem T_150_31 : hTab 150 31 = some ((3, 1, 0, []), 32) := rfl
theorem T_150_32 : hTab 150 32 = some ((31, 104, 0, []), 35) := rfl
theorem T_150_35 : hTab 150 35 = some ((3, 6, 0, []), 37) := rfl
theorem T_150_37 : hTab 150 37 = some ((10, 0, 0, []), 38) := rfl
theorem T_150_38 : hTab 150 38 = some ((31, 33, 0, []), 41) := rfl
theorem T_150_41 : hTab 150 41 = some ((0, 0, 48, []), 43) := rfl
theorem T_150_43 : hTab 150 43 = some ((10, 1, 0, []), 44) := rfl
theorem T_150_44 : hTab 150 44 = some ((4, 7, 0, []), 46) := rfl
theorem T_150_46 : hTab 150 46 = some ((3, 7, 0, []), 48) := rfl
theorem T_150_48 : hTab 150 48 = some ((18, 2, Int.ofNat 57, []), 51) := rfl
theorem T_150_51 : hTab 150 51 = some ((3, 7, 0, []), 53) := rfl
theorem T_150_53 : hTab 150 53 = some ((3, 2, 0, []), 54) := rfl
theorem T_150_54 : hTab 150 54 = some ((19, 2, Int.ofNat 59, []), 57) := rfl
theorem T_150_57 : hTab 150 57 = some ((0, 0, (-1), []), 58) := rfl
theorem T_150_58 : hTab 150 58 = some ((33, 1, 0, []), 59) := rfl
theorem T_150_59 : hTab 150 59 = some ((3, 5, 0, []), 61) := rfl
theorem T_150_61 : hTab 150 61 = some ((3, 2, 0, []), 62) := rfl
theorem T_150_62 : hTab 150 62 = some ((10, 2, 0, []), 63) := rfl
theorem T_150_63 : hTab 150 63 = some ((3, 7, 0, []), 65) := rfl
theorem T_150_65 : hTab 150 65 = some ((10, 0, 0, []), 66) := rfl
theorem T_150_66 : hTab 150 66 = some ((4, 5, 0, []), 68) := rfl
theorem T_150_68 : hTab 150 68 = some ((5, 6, 1, []), 71) := rfl
theorem T_150_71 : hTab 150 71 = some ((22, 0, Int.ofNat 13, []), 74) := rfl
theorem T_150_74 : hTab 150 74 = some ((3, 4, 0, []), 76) := rfl
theorem T_150_76 : hTab 150 76 = some ((0, 0, 1, []), 77) := rfl
theorem T_150_77 : hTab 150 77 = some ((19, 2, Int.ofNat 86, []), 80) := rfl
theorem T_150_80 : hTab 150 80 = some ((3, 4, 0, []), 82) := rfl
theorem T_150_82 : hTab 150 82 = some ((3, 3, 0, []), 83) := rfl
theorem T_150_83 : hTab 150 83 = some ((19, 5, Int.ofNat 90, []), 86) := rfl
theorem T_150_86 : hTab 150 86 = some ((0, 0, (-1), []), 87) := rfl
theorem T_150_87 : hTab 150 87 = some ((22, 0, Int.ofNat 92, []), 90) := rfl
theorem T_150_90 : hTab 150 90 = some ((3, 5, 0, []), 92) := rfl
theorem T_150_92 : hTab 150 92 = some ((33, 1, 0, []), 93) := rfl
theorem T_151_0 : hTab 151 0 = some ((3, 0, 2, []), 1) := rfl
theorem T_151_1 : hTab 151 1 = some ((3, 1, 0, []), 2) := rfl
theorem T_151_2 : hTab 151 2 = some ((0, 0, 8, []), 4) := rfl
theorem T_151_4 : hTab 151 4 = some ((0, 0, 1, []), 5) := rfl
theorem T_151_5 : hTab 151 5 = some ((31, 150, 0, []), 8) := rfl
theorem T_151_8 : hTab 151 8 = some ((33, 1, 0, []), 9) := rfl
theorem T_160_0 : hTab 160 0 = some ((3, 0, 2, []), 1) := rfl
theorem T_160_1 : hTab 160 1 = some ((3, 1, 0, []), 2) := rfl
theorem T_160_2 : hTab 160 2 = some ((0, 0, 10, []), 4) := rfl
theorem T_160_4 : hTab 160 4 = some ((0, 0, 4, []), 5) := rfl
theorem T_160_5 : hTab 160 5 = some ((31, 150, 0, []), 8) := rfl
theorem T_160_8 : hTab 160 8 = some ((33, 1, 0, []), 9) := rfl
theorem mN_105 : hmN 105 = 2 := by decide +kernel
theorem mL_105 : hmL 105 = 2 := by decide +kernel
theorem mK_105 : hmK 105 = 1 := by decide +kernel
theorem mO_105 : hmO 105 = 16 := by decide +kernel
theorem mN_149 : hmN 149 = 2 := by decide +kernel
theorem mL_149 : hmL 149 = 2 := by decide +kernel
theorem mK_149 : hmK 149 = 1 := by decide +kernel
theorem mO_149 : hmO 149 = 16 := by decide +kernel
theorem mN_150 : hmN 150 = 4 := by decide +kernel
theorem mL_150 : hmL 150 = 8 := by decide +kernel
theorem mK_150 : hmK 150 = 1 := by decide +kernel
theorem mO_150 : hmO 150 = 16 := by decide +kernel
theorem mN_151 : hmN 151 = 2 := by decide +kernel
theorem mL_151 : hmL 151 = 2 := by decide +kernel
theorem mK_151 : hmK 151 = 1 := by decide +kernel
theorem mO_151 : hmO 151 = 16 := by decide +kernel
theorem mN_160 : hmN 160 = 2 := by decide +kernel
theorem mL_160 : hmL 160 = 2 := by decide +kernel
theorem mK_160 : hmK 160 = 1 := by decide +kernel
theorem mO_160 : hmO 160 = 16 := by decide +kernel
section XNUM
variable {fb : Bool} {d b q m k c : Nat} {σ0 σ : hM} {W W0 W1 W2 W3 P Q : qR} {R R1 R2 : rR} {i j x z v s e w p o n g K T U base most : Int} {l l0 lo nm raw pre wd M : List Int}
theorem x_startOf0 (hP : PX σ0 W R σ) (h : CMD W k l) (hw : ((lnW l).length : Int) ≤ w) (hw1 : 0 ≤ w) : CL fb d 104 [vR (some k), vI w] σ (rP 0 σ) := by
  obtain ⟨h1, ⟨h2, h2'⟩, h3, h4, h5, h6⟩ := h
  obtain ⟨n, hn⟩ : ∃ q : Int, ((lnW l).length : Int) = q := ⟨_, rfl⟩
  rw [hn] at h5 hw
  refine CL_in mL_104 rfl ?_
  show WP fb _ 104 0 [some (vR (some k)), some (vI w)] [] σ _
  refine x_li (z := w) T_104_0 rfl ?_
  refine x_if T_104_1 (fun h => absurd (show w < 0 from h) (by omega)) (fun _ => ?_)
  refine x_li (z := w) T_104_4 rfl ?_
  refine x_lr (z := some k) T_104_5 rfl ?_
  refine x_gI (z := n) T_104_6 (Or.inl F_16_4) (hP.o h1) (Eq.trans (hP.gi h1 (key := 2516) rfl) h5) ?_
  refine x_ic2 T_104_9 (fun _ => ?_) (fun h => absurd (show n ≤ w by omega) h)
  refine x_ic T_104_21 ?_
  refine x_goto T_104_22 ?_
  refine x_ri T_104_31 ?_
  exact ⟨rfl, rfl⟩
theorem x_endOf0 (hP : PX σ0 W R σ) (h : CMD W k l) (hw : ((lnW l).length : Int) ≤ w) (hw1 : 0 ≤ w) : CL fb d 106 [vR (some k), vI w] σ (rP 0 σ) := by
  obtain ⟨h1, ⟨h2, h2'⟩, h3, h4, h5, h6⟩ := h
  obtain ⟨n, hn⟩ : ∃ q : Int, ((lnW l).length : Int) = q := ⟨_, rfl⟩
  rw [hn] at h5 hw
  refine CL_in mL_106 rfl ?_
  show WP fb _ 106 0 [some (vR (some k)), some (vI w)] [] σ _
  refine x_li (z := w) T_106_0 rfl ?_
  refine x_if T_106_1 (fun h => absurd (show w < 0 from h) (by omega)) (fun _ => ?_)
  refine x_li (z := w) T_106_4 rfl ?_
  refine x_lr (z := some k) T_106_5 rfl ?_
  refine x_gI (z := n) T_106_6 (Or.inl F_16_4) (hP.o h1) (Eq.trans (hP.gi h1 (key := 2516) rfl) h5) ?_
  refine x_ic2 T_106_9 (fun _ => ?_) (fun h => absurd (show n ≤ w by omega) h)
  refine x_ic T_106_21 ?_
  refine x_goto T_106_22 ?_
  refine x_ri T_106_31 ?_
  exact ⟨rfl, rfl⟩
theorem x_lengthOf (hP : PX σ0 W R σ) (h : CMD W k l) (hw : 0 ≤ w ∧ w < ((lnW l).length : Int)) (hz : ((lnB l w).length : Int) = z) : CL fb (d + 1) 105 [vR (some k), vI w] σ (rP z σ) := by
  obtain ⟨-, a, e, ha, he, h1, h2, h3, h4⟩ := h.word hw
  have hl := h.2.2.2.1.2.2.2.2.1
  have hso := x_startOf (fb := fb) (d := d) hP h hw ha
  have heo := x_endOf (fb := fb) (d := d) hP h hw he
  have e0 : e - a = z := by rw [← hz, h4, seg_len]; omega
  refine CL_in mL_105 rfl ?_
  show WP fb _ 105 0 [some (vR (some k)), some (vI w)] [] σ _
  refine x_lr (z := some k) T_105_0 rfl ?_
  refine x_li (z := w) T_105_1 rfl ?_
  refine x_cv2 T_105_2 mN_106 mL_106 (Nat.le_of_ble_eq_true rfl) mO_106 (hP.o h.1) (Nat.le_of_ble_eq_true rfl) (heo) ?_
  rintro _ σ ⟨rfl, rfl⟩
  refine cI ?_
  refine x_lr (z := some k) T_105_5 rfl ?_
  refine x_li (z := w) T_105_6 rfl ?_
  refine x_cv2 T_105_7 mN_104 mL_104 (Nat.le_of_ble_eq_true rfl) mO_104 (hP.o h.1) (Nat.le_of_ble_eq_true rfl) (hso) ?_
  rintro _ σ ⟨rfl, rfl⟩
  refine cI ?_
  refine x_ib (w := (e - a)) T_105_10 (fun h => absurd h.1 (by decide)) (w32_id (by omega) (by omega)) ?_
  refine x_ri T_105_11 ?_
  exact ⟨by rw [e0], rfl⟩
theorem x_lengthOf0 (hP : PX σ0 W R σ) (h : CMD W k l) (hw : ((lnW l).length : Int) ≤ w) (hw1 : 0 ≤ w) : CL fb (d + 1) 105 [vR (some k), vI w] σ (rP 0 σ) := by
  have hso := x_startOf0 (fb := fb) (d := d) hP h hw hw1
  have heo := x_endOf0 (fb := fb) (d := d) hP h hw hw1
  refine CL_in mL_105 rfl ?_
  show WP fb _ 105 0 [some (vR (some k)), some (vI w)] [] σ _
  refine x_lr (z := some k) T_105_0 rfl ?_
  refine x_li (z := w) T_105_1 rfl ?_
  refine x_cv2 T_105_2 mN_106 mL_106 (Nat.le_of_ble_eq_true rfl) mO_106 (hP.o h.1) (Nat.le_of_ble_eq_true rfl) (heo) ?_
  rintro _ σ ⟨rfl, rfl⟩
  refine cI ?_
  refine x_lr (z := some k) T_105_5 rfl ?_
  refine x_li (z := w) T_105_6 rfl ?_
  refine x_cv2 T_105_7 mN_104 mL_104 (Nat.le_of_ble_eq_true rfl) mO_104 (hP.o h.1) (Nat.le_of_ble_eq_true rfl) (hso) ?_
  rintro _ σ ⟨rfl, rfl⟩
  refine cI ?_
  refine x_ib (w := 0) T_105_10 (fun h => absurd h.1 (by decide)) (by decide) ?_
  refine x_ri T_105_11 ?_
  exact ⟨rfl, rfl⟩
theorem nm_loop8 (hP : PX σ0 W R σ) (h : CMD W k l) (hw : 0 ≤ w ∧ w < ((lnW l).length : Int)) (hn : ((lnB l w).length : Int) = n) (hn1 : 1 ≤ n) (hm : 1 ≤ most ∧ most ≤ 4) : ∀ (r : List Int) (i v : Int) (l7 : Option AV), i + r.length = n → 0 ≤ i → i ≤ most → (∀ j : Nat, j < r.length → lg (lnB l w) (i + j) = r.getD j 0) → ((i ≤ 0 → v < 1) ∧ (i ≤ 1 → v < 10) ∧ (i ≤ 2 → v < 100) ∧ (i ≤ 3 → v < 1000) ∧ v < 10000 ∧ 0 ≤ v) → WP fb (d + 1) 150 13 [some (vR (some k)), some (vI w), some (vI 8), some (vI most), some (vI n), some (vI v), some (vI i), l7] [] σ (rP (if n ≤ most then nmV 8 r v else -1) σ) := by
  obtain ⟨-, a, e, ha, he, h1, h2, h3, h4⟩ := h.word hw
  have hB := h.2.2.2.1
  have hl := hB.2.2.2.2.1
  have hso := x_startOf (fb := fb) (d := d) hP h hw ha
  have e0 : e - a = n := by rw [← hn, h4, seg_len]; omega
  intro r
  induction r with
  | nil =>
    intro i v l7 g1 g2 g3 g4 g5
    have g1 : i + ((0 : Nat) : Int) = n := g1
    rw [if_pos (show n ≤ most by omega)]
    refine x_li (z := i) T_150_13 rfl ?_
    refine x_li (z := n) T_150_15 rfl ?_
    refine x_ic2 T_150_17 (fun _ => ?_) (fun h => absurd (show n ≤ i by omega) h)
    refine x_li (z := n) T_150_74 rfl ?_
    refine x_ic T_150_76 ?_
    refine x_ic2 T_150_77 (fun h => absurd (show n < 1 from h) (by omega)) (fun _ => ?_)
    refine x_li (z := n) T_150_80 rfl ?_
    refine x_li (z := most) T_150_82 rfl ?_
    refine x_ic2 T_150_83 (fun _ => ?_) (fun h => absurd (show n ≤ most by omega) h)
    refine x_li (z := v) T_150_90 rfl ?_
    refine x_ri T_150_92 ?_
    exact ⟨rfl, rfl⟩
  | cons x r ih =>
    intro i v l7 g1 g2 g3 g4 g5
    rw [List.length_cons] at g1
    have hx := g4 0 (by rw [List.length_cons]; omega)
    rw [show i + ((0 : Nat) : Int) = i by omega] at hx
    have hx : lg (lnB l w) i = x := hx
    rw [h4, lg_seg _ _ _ _ g2 (by omega)] at hx
    have hxb := hB.2.2.2.2.2.1 (a + i) (by omega)
    have hat := x_at (fb := fb) (d := d) (i := a + i) hP hB
    rw [if_pos ⟨by omega, by omega⟩, hx] at hat
    rw [hx] at hxb
    by_cases qm : i < most
    · by_cases q : 48 ≤ x ∧ x ≤ 47 + 8
      · have en : nmV 8 (x :: r) v = nmV 8 r (8 * v + x - 48) := if_pos q
        rw [en]
        have hgo := fun l7 => ih (i + 1) (v * 8 + (x - 48)) l7 (by omega) (by omega) (by omega) (fun j hj => by
          have := g4 (j + 1) (by rw [List.length_cons]; omega)
          rw [show i + ((j + 1 : Nat) : Int) = i + 1 + (j : Int) by omega] at this
          exact this) (by omega)
        rw [show v * 8 + (x - 48) = 8 * v + x - 48 by omega] at hgo
        rw [show 8 * v + x - 48 = v * 8 + (x - 48) by omega] at hgo ⊢
        refine x_li (z := i) T_150_13 rfl ?_
        refine x_li (z := n) T_150_15 rfl ?_
        refine x_ic2 T_150_17 (fun h => absurd (show n ≤ i from h) (by omega)) (fun _ => ?_)
        refine x_li (z := i) T_150_20 rfl ?_
        refine x_li (z := most) T_150_22 rfl ?_
        refine x_ic2 T_150_23 (fun h => absurd (show most ≤ i from h) (by omega)) (fun _ => ?_)
        refine x_lr (z := some k) T_150_26 rfl ?_
        refine x_gR (z := some (k + 1)) T_150_27 F_16_0 (hP.o h.1) (hP.rc h.1 rfl rfl) ?_
        refine x_lr (z := some k) T_150_30 rfl ?_
        refine x_li (z := w) T_150_31 rfl ?_
        refine x_cv2 T_150_32 mN_104 mL_104 (Nat.le_of_ble_eq_true rfl) mO_104 (hP.o h.1) (Nat.le_of_ble_eq_true rfl) (hso) ?_
        rintro _ σ ⟨rfl, rfl⟩
        refine cI ?_
        refine x_li (z := i) T_150_35 rfl ?_
        refine x_ib (w := (a + i)) T_150_37 (fun h => absurd h.1 (by decide)) (w32_id (by omega) (by omega)) ?_
        refine x_cv2 T_150_38 mN_33 mL_33 (Nat.le_of_ble_eq_true rfl) mO_33 (hP.o hB.1) (Nat.le_of_ble_eq_true rfl) (hat) ?_
        rintro _ σ ⟨rfl, rfl⟩
        refine cI ?_
        refine x_ic T_150_41 ?_
        refine x_ib (w := (x - 48)) T_150_43 (fun h => absurd h.1 (by decide)) (w32_id (by omega) (by omega)) ?_
        refine x_si (ls1 := [some (vR (some k)), some (vI w), some (vI 8), some (vI most), some (vI n), some (vI v), some (vI i), some (vI (x - 48))]) T_150_44 rfl ?_
        refine x_li (z := (x - 48)) T_150_46 rfl ?_
        refine x_if T_150_48 (fun h => absurd (show (x - 48) < 0 from h) (by omega)) (fun _ => ?_)
        refine x_li (z := (x - 48)) T_150_51 rfl ?_
        refine x_li (z := 8) T_150_53 rfl ?_
        refine x_ic2 T_150_54 (fun _ => ?_) (fun h => absurd (show (x - 48) < 8 by omega) h)
        refine x_li (z := v) T_150_59 rfl ?_
        refine x_li (z := 8) T_150_61 rfl ?_
        refine x_ib (w := (v * 8)) T_150_62 (fun h => absurd h.1 (by decide)) (w32_id (by omega) (by omega)) ?_
        refine x_li (z := (x - 48)) T_150_63 rfl ?_
        refine x_ib (w := ((v * 8) + (x - 48))) T_150_65 (fun h => absurd h.1 (by decide)) (w32_id (by omega) (by omega)) ?_
        refine x_si (ls1 := [some (vR (some k)), some (vI w), some (vI 8), some (vI most), some (vI n), some (vI ((v * 8) + (x - 48))), some (vI i), some (vI (x - 48))]) T_150_66 rfl ?_
        refine x_inc (w := (i + 1)) (ls1 := [some (vR (some k)), some (vI w), some (vI 8), some (vI most), some (vI n), some (vI ((v * 8) + (x - 48))), some (vI (i + 1)), some (vI (x - 48))]) T_150_68 rfl (w32_id (by omega) (by omega)) rfl ?_
        refine x_goto T_150_71 ?_
        exact hgo _
      · have en : nmV 8 (x :: r) v = -1 := if_neg q
        rw [en, ite_self]
        by_cases q2 : x - 48 < 0
        · skip
          refine x_li (z := i) T_150_13 rfl ?_
          refine x_li (z := n) T_150_15 rfl ?_
          refine x_ic2 T_150_17 (fun h => absurd (show n ≤ i from h) (by omega)) (fun _ => ?_)
          refine x_li (z := i) T_150_20 rfl ?_
          refine x_li (z := most) T_150_22 rfl ?_
          refine x_ic2 T_150_23 (fun h => absurd (show most ≤ i from h) (by omega)) (fun _ => ?_)
          refine x_lr (z := some k) T_150_26 rfl ?_
          refine x_gR (z := some (k + 1)) T_150_27 F_16_0 (hP.o h.1) (hP.rc h.1 rfl rfl) ?_
          refine x_lr (z := some k) T_150_30 rfl ?_
          refine x_li (z := w) T_150_31 rfl ?_
          refine x_cv2 T_150_32 mN_104 mL_104 (Nat.le_of_ble_eq_true rfl) mO_104 (hP.o h.1) (Nat.le_of_ble_eq_true rfl) (hso) ?_
          rintro _ σ ⟨rfl, rfl⟩
          refine cI ?_
          refine x_li (z := i) T_150_35 rfl ?_
          refine x_ib (w := (a + i)) T_150_37 (fun h => absurd h.1 (by decide)) (w32_id (by omega) (by omega)) ?_
          refine x_cv2 T_150_38 mN_33 mL_33 (Nat.le_of_ble_eq_true rfl) mO_33 (hP.o hB.1) (Nat.le_of_ble_eq_true rfl) (hat) ?_
          rintro _ σ ⟨rfl, rfl⟩
          refine cI ?_
          refine x_ic T_150_41 ?_
          refine x_ib (w := (x - 48)) T_150_43 (fun h => absurd h.1 (by decide)) (w32_id (by omega) (by omega)) ?_
          refine x_si (ls1 := [some (vR (some k)), some (vI w), some (vI 8), some (vI most), some (vI n), some (vI v), some (vI i), some (vI (x - 48))]) T_150_44 rfl ?_
          refine x_li (z := (x - 48)) T_150_46 rfl ?_
          refine x_if T_150_48 (fun _ => ?_) (fun h => absurd (show (x - 48) < 0 by omega) h)
          refine x_ic T_150_57 ?_
          refine x_ri T_150_58 ?_
          exact ⟨rfl, rfl⟩
        · skip
          refine x_li (z := i) T_150_13 rfl ?_
          refine x_li (z := n) T_150_15 rfl ?_
          refine x_ic2 T_150_17 (fun h => absurd (show n ≤ i from h) (by omega)) (fun _ => ?_)
          refine x_li (z := i) T_150_20 rfl ?_
          refine x_li (z := most) T_150_22 rfl ?_
          refine x_ic2 T_150_23 (fun h => absurd (show most ≤ i from h) (by omega)) (fun _ => ?_)
          refine x_lr (z := some k) T_150_26 rfl ?_
          refine x_gR (z := some (k + 1)) T_150_27 F_16_0 (hP.o h.1) (hP.rc h.1 rfl rfl) ?_
          refine x_lr (z := some k) T_150_30 rfl ?_
          refine x_li (z := w) T_150_31 rfl ?_
          refine x_cv2 T_150_32 mN_104 mL_104 (Nat.le_of_ble_eq_true rfl) mO_104 (hP.o h.1) (Nat.le_of_ble_eq_true rfl) (hso) ?_
          rintro _ σ ⟨rfl, rfl⟩
          refine cI ?_
          refine x_li (z := i) T_150_35 rfl ?_
          refine x_ib (w := (a + i)) T_150_37 (fun h => absurd h.1 (by decide)) (w32_id (by omega) (by omega)) ?_
          refine x_cv2 T_150_38 mN_33 mL_33 (Nat.le_of_ble_eq_true rfl) mO_33 (hP.o hB.1) (Nat.le_of_ble_eq_true rfl) (hat) ?_
          rintro _ σ ⟨rfl, rfl⟩
          refine cI ?_
          refine x_ic T_150_41 ?_
          refine x_ib (w := (x - 48)) T_150_43 (fun h => absurd h.1 (by decide)) (w32_id (by omega) (by omega)) ?_
          refine x_si (ls1 := [some (vR (some k)), some (vI w), some (vI 8), some (vI most), some (vI n), some (vI v), some (vI i), some (vI (x - 48))]) T_150_44 rfl ?_
          refine x_li (z := (x - 48)) T_150_46 rfl ?_
          refine x_if T_150_48 (fun h => absurd (show (x - 48) < 0 from h) (by omega)) (fun _ => ?_)
          refine x_li (z := (x - 48)) T_150_51 rfl ?_
          refine x_li (z := 8) T_150_53 rfl ?_
          refine x_ic2 T_150_54 (fun h => absurd (show (x - 48) < 8 from h) (by omega)) (fun _ => ?_)
          refine x_ic T_150_57 ?_
          refine x_ri T_150_58 ?_
          exact ⟨rfl, rfl⟩
    · rw [if_neg (show ¬ n ≤ most by omega)]
      refine x_li (z := i) T_150_13 rfl ?_
      refine x_li (z := n) T_150_15 rfl ?_
      refine x_ic2 T_150_17 (fun h => absurd (show n ≤ i from h) (by omega)) (fun _ => ?_)
      refine x_li (z := i) T_150_20 rfl ?_
      refine x_li (z := most) T_150_22 rfl ?_
      refine x_ic2 T_150_23 (fun _ => ?_) (fun h => absurd (show most ≤ i by omega) h)
      refine x_li (z := n) T_150_74 rfl ?_
      refine x_ic T_150_76 ?_
      refine x_ic2 T_150_77 (fun h => absurd (show n < 1 from h) (by omega)) (fun _ => ?_)
      refine x_li (z := n) T_150_80 rfl ?_
      refine x_li (z := most) T_150_82 rfl ?_
      refine x_ic2 T_150_83 (fun h => absurd (show n ≤ most from h) (by omega)) (fun _ => ?_)
      refine x_ic T_150_86 ?_
      refine x_goto T_150_87 ?_
      refine x_ri T_150_92 ?_
      exact ⟨rfl, rfl⟩
theorem x_num8 (hP : PX σ0 W R σ) (h : CMD W k l) (hw : 0 ≤ w ∧ w < ((lnW l).length : Int)) (hm : 1 ≤ most ∧ most ≤ 4) : CL fb (d + 2) 150 [vR (some k), vI w, vI 8, vI most] σ (rP (nmN (lnB l w) 8 most) σ) := by
  have hl := h.2.2.2.1.2.2.2.2.1
  have h1 := (lnB_len hl hw).1
  obtain ⟨n, hn⟩ : ∃ q : Int, ((lnB l w).length : Int) = q := ⟨_, rfl⟩
  have hle := x_lengthOf (fb := fb) (d := d) hP h hw hn
  have hgo := nm_loop8 (fb := fb) (d := d + 1) (most := most) hP h hw hn (by omega) hm (lnB l w) 0 0 none (by omega) (by decide) (by omega) (fun j _ => by
    unfold lg
    rw [show ((0 : Int) + (j : Int)).toNat = j by omega]) (by decide)
  rw [show (if n ≤ most then nmV 8 (lnB l w) 0 else -1) = nmN (lnB l w) 8 most by unfold nmN; rw [hn]] at hgo
  refine CL_in mL_150 rfl ?_
  show WP fb _ 150 0 [some (vR (some k)), some (vI w), some (vI 8), some (vI most), none, none, none, none] [] σ _
  refine x_lr (z := some k) T_150_0 rfl ?_
  refine x_li (z := w) T_150_1 rfl ?_
  refine x_cv2 T_150_2 mN_105 mL_105 (Nat.le_of_ble_eq_true rfl) mO_105 (hP.o h.1) (Nat.le_of_ble_eq_true rfl) (hle) ?_
  rintro _ σ ⟨rfl, rfl⟩
  refine cI ?_
  refine x_si (ls1 := [some (vR (some k)), some (vI w), some (vI 8), some (vI most), some (vI n), none, none, none]) T_150_5 rfl ?_
  refine x_ic T_150_7 ?_
  refine x_si (ls1 := [some (vR (some k)), some (vI w), some (vI 8), some (vI most), some (vI n), some (vI 0), none, none]) T_150_8 rfl ?_
  refine x_ic T_150_10 ?_
  refine x_si (ls1 := [some (vR (some k)), some (vI w), some (vI 8), some (vI most), some (vI n), some (vI 0), some (vI 0), none]) T_150_11 rfl ?_
  exact hgo
theorem x_num80 (hP : PX σ0 W R σ) (h : CMD W k l) (hw : ((lnW l).length : Int) ≤ w) (hw1 : 0 ≤ w) : CL fb (d + 2) 150 [vR (some k), vI w, vI 8, vI most] σ (rP (-1) σ) := by
  have hle := x_lengthOf0 (fb := fb) (d := d) hP h hw hw1
  refine CL_in mL_150 rfl ?_
  show WP fb _ 150 0 [some (vR (some k)), some (vI w), some (vI 8), some (vI most), none, none, none, none] [] σ _
  refine x_lr (z := some k) T_150_0 rfl ?_
  refine x_li (z := w) T_150_1 rfl ?_
  refine x_cv2 T_150_2 mN_105 mL_105 (Nat.le_of_ble_eq_true rfl) mO_105 (hP.o h.1) (Nat.le_of_ble_eq_true rfl) (hle) ?_
  rintro _ σ ⟨rfl, rfl⟩
  refine cI ?_
  refine x_si (ls1 := [some (vR (some k)), some (vI w), some (vI 8), some (vI most), some (vI 0), none, none, none]) T_150_5 rfl ?_
  refine x_ic T_150_7 ?_
  refine x_si (ls1 := [some (vR (some k)), some (vI w), some (vI 8), some (vI most), some (vI 0), some (vI 0), none, none]) T_150_8 rfl ?_
  refine x_ic T_150_10 ?_
  refine x_si (ls1 := [some (vR (some k)), some (vI w), some (vI 8), some (vI most), some (vI 0), some (vI 0), some (vI 0), none]) T_150_11 rfl ?_
  refine x_li (z := 0) T_150_13 rfl ?_
  refine x_li (z := 0) T_150_15 rfl ?_
  refine x_ic2 T_150_17 (fun _ => ?_) (fun h => absurd (show 0 ≤ (0 : Int) by decide) h)
  refine x_li (z := 0) T_150_74 rfl ?_
  refine x_ic T_150_76 ?_
  refine x_ic2 T_150_77 (fun _ => ?_) (fun h => absurd (show (0 : Int) < 1 by decide) h)
  refine x_ic T_150_86 ?_
  refine x_goto T_150_87 ?_
  refine x_ri T_150_92 ?_
  exact ⟨rfl, rfl⟩
theorem nm_loop10 (hP : PX σ0 W R σ) (h : CMD W k l) (hw : 0 ≤ w ∧ w < ((lnW l).length : Int)) (hn : ((lnB l w).length : Int) = n) (hn1 : 1 ≤ n) (hm : 1 ≤ most ∧ most ≤ 4) : ∀ (r : List Int) (i v : Int) (l7 : Option AV), i + r.length = n → 0 ≤ i → i ≤ most → (∀ j : Nat, j < r.length → lg (lnB l w) (i + j) = r.getD j 0) → ((i ≤ 0 → v < 1) ∧ (i ≤ 1 → v < 10) ∧ (i ≤ 2 → v < 100) ∧ (i ≤ 3 → v < 1000) ∧ v < 10000 ∧ 0 ≤ v) → WP fb (d + 1) 150 13 [some (vR (some k)), some (vI w), some (vI 10), some (vI most), some (vI n), some (vI v), some (vI i), l7] [] σ (rP (if n ≤ most then nmV 10 r v else -1) σ) := by
  obtain ⟨-, a, e, ha, he, h1, h2, h3, h4⟩ := h.word hw
  have hB := h.2.2.2.1
  have hl := hB.2.2.2.2.1
  have hso := x_startOf (fb := fb) (d := d) hP h hw ha
  have e0 : e - a = n := by rw [← hn, h4, seg_len]; omega
  intro r
  induction r with
  | nil =>
    intro i v l7 g1 g2 g3 g4 g5
    have g1 : i + ((0 : Nat) : Int) = n := g1
    rw [if_pos (show n ≤ most by omega)]
    refine x_li (z := i) T_150_13 rfl ?_
    refine x_li (z := n) T_150_15 rfl ?_
    refine x_ic2 T_150_17 (fun _ => ?_) (fun h => absurd (show n ≤ i by omega) h)
    refine x_li (z := n) T_150_74 rfl ?_
    refine x_ic T_150_76 ?_
    refine x_ic2 T_150_77 (fun h => absurd (show n < 1 from h) (by omega)) (fun _ => ?_)
    refine x_li (z := n) T_150_80 rfl ?_
    refine x_li (z := most) T_150_82 rfl ?_
    refine x_ic2 T_150_83 (fun _ => ?_) (fun h => absurd (show n ≤ most by omega) h)
    refine x_li (z := v) T_150_90 rfl ?_
    refine x_ri T_150_92 ?_
    exact ⟨rfl, rfl⟩
  | cons x r ih =>
    intro i v l7 g1 g2 g3 g4 g5
    rw [List.length_cons] at g1
    have hx := g4 0 (by rw [List.length_cons]; omega)
    rw [show i + ((0 : Nat) : Int) = i by omega] at hx
    have hx : lg (lnB l w) i = x := hx
    rw [h4, lg_seg _ _ _ _ g2 (by omega)] at hx
    have hxb := hB.2.2.2.2.2.1 (a + i) (by omega)
    have hat := x_at (fb := fb) (d := d) (i := a + i) hP hB
    rw [if_pos ⟨by omega, by omega⟩, hx] at hat
    rw [hx] at hxb
    by_cases qm : i < most
    · by_cases q : 48 ≤ x ∧ x ≤ 47 + 10
      · have en : nmV 10 (x :: r) v = nmV 10 r (10 * v + x - 48) := if_pos q
        rw [en]
        have hgo := fun l7 => ih (i + 1) (v * 10 + (x - 48)) l7 (by omega) (by omega) (by omega) (fun j hj => by
          have := g4 (j + 1) (by rw [List.length_cons]; omega)
          rw [show i + ((j + 1 : Nat) : Int) = i + 1 + (j : Int) by omega] at this
          exact this) (by omega)
        rw [show v * 10 + (x - 48) = 10 * v + x - 48 by omega] at hgo
        rw [show 10 * v + x - 48 = v * 10 + (x - 48) by omega] at hgo ⊢
        refine x_li (z := i) T_150_13 rfl ?_
        refine x_li (z := n) T_150_15 rfl ?_
        refine x_ic2 T_150_17 (fun h => absurd (show n ≤ i from h) (by omega)) (fun _ => ?_)
        refine x_li (z := i) T_150_20 rfl ?_
        refine x_li (z := most) T_150_22 rfl ?_
        refine x_ic2 T_150_23 (fun h => absurd (show most ≤ i from h) (by omega)) (fun _ => ?_)
        refine x_lr (z := some k) T_150_26 rfl ?_
        refine x_gR (z := some (k + 1)) T_150_27 F_16_0 (hP.o h.1) (hP.rc h.1 rfl rfl) ?_
        refine x_lr (z := some k) T_150_30 rfl ?_
        refine x_li (z := w) T_150_31 rfl ?_
        refine x_cv2 T_150_32 mN_104 mL_104 (Nat.le_of_ble_eq_true rfl) mO_104 (hP.o h.1) (Nat.le_of_ble_eq_true rfl) (hso) ?_
        rintro _ σ ⟨rfl, rfl⟩
        refine cI ?_
        refine x_li (z := i) T_150_35 rfl ?_
        refine x_ib (w := (a + i)) T_150_37 (fun h => absurd h.1 (by decide)) (w32_id (by omega) (by omega)) ?_
        refine x_cv2 T_150_38 mN_33 mL_33 (Nat.le_of_ble_eq_true rfl) mO_33 (hP.o hB.1) (Nat.le_of_ble_eq_true rfl) (hat) ?_
        rintro _ σ ⟨rfl, rfl⟩
        refine cI ?_
        refine x_ic T_150_41 ?_
        refine x_ib (w := (x - 48)) T_150_43 (fun h => absurd h.1 (by decide)) (w32_id (by omega) (by omega)) ?_
        refine x_si (ls1 := [some (vR (some k)), some (vI w), some (vI 10), some (vI most), some (vI n), some (vI v), some (vI i), some (vI (x - 48))]) T_150_44 rfl ?_
        refine x_li (z := (x - 48)) T_150_46 rfl ?_
        refine x_if T_150_48 (fun h => absurd (show (x - 48) < 0 from h) (by omega)) (fun _ => ?_)
        refine x_li (z := (x - 48)) T_150_51 rfl ?_
        refine x_li (z := 10) T_150_53 rfl ?_
        refine x_ic2 T_150_54 (fun _ => ?_) (fun h => absurd (show (x - 48) < 10 by omega) h)
        refine x_li (z := v) T_150_59 rfl ?_
        refine x_li (z := 10) T_150_61 rfl ?_
        refine x_ib (w := (v * 10)) T_150_62 (fun h => absurd h.1 (by decide)) (w32_id (by omega) (by omega)) ?_
        refine x_li (z := (x - 48)) T_150_63 rfl ?_
        refine x_ib (w := ((v * 10) + (x - 48))) T_150_65 (fun h => absurd h.1 (by decide)) (w32_id (by omega) (by omega)) ?_
        refine x_si (ls1 := [some (vR (some k)), some (vI w), some (vI 10), some (vI most), some (vI n), some (vI ((v * 10) + (x - 48))), some (vI i), some (vI (x - 48))]) T_150_66 rfl ?_
        refine x_inc (w := (i + 1)) (ls1 := [some (vR (some k)), some (vI w), some (vI 10), some (vI most), some (vI n), some (vI ((v * 10) + (x - 48))), some (vI (i + 1)), some (vI (x - 48))]) T_150_68 rfl (w32_id (by omega) (by omega)) rfl ?_
        refine x_goto T_150_71 ?_
        exact hgo _
      · have en : nmV 10 (x :: r) v = -1 := if_neg q
        rw [en, ite_self]
        by_cases q2 : x - 48 < 0
        · skip
          refine x_li (z := i) T_150_13 rfl ?_
          refine x_li (z := n) T_150_15 rfl ?_
          refine x_ic2 T_150_17 (fun h => absurd (show n ≤ i from h) (by omega)) (fun _ => ?_)
          refine x_li (z := i) T_150_20 rfl ?_
          refine x_li (z := most) T_150_22 rfl ?_
          refine x_ic2 T_150_23 (fun h => absurd (show most ≤ i from h) (by omega)) (fun _ => ?_)
          refine x_lr (z := some k) T_150_26 rfl ?_
          refine x_gR (z := some (k + 1)) T_150_27 F_16_0 (hP.o h.1) (hP.rc h.1 rfl rfl) ?_
          refine x_lr (z := some k) T_150_30 rfl ?_
          refine x_li (z := w) T_150_31 rfl ?_
          refine x_cv2 T_150_32 mN_104 mL_104 (Nat.le_of_ble_eq_true rfl) mO_104 (hP.o h.1) (Nat.le_of_ble_eq_true rfl) (hso) ?_
          rintro _ σ ⟨rfl, rfl⟩
          refine cI ?_
          refine x_li (z := i) T_150_35 rfl ?_
          refine x_ib (w := (a + i)) T_150_37 (fun h => absurd h.1 (by decide)) (w32_id (by omega) (by omega)) ?_
          refine x_cv2 T_150_38 mN_33 mL_33 (Nat.le_of_ble_eq_true rfl) mO_33 (hP.o hB.1) (Nat.le_of_ble_eq_true rfl) (hat) ?_
          rintro _ σ ⟨rfl, rfl⟩
          refine cI ?_
          refine x_ic T_150_41 ?_
          refine x_ib (w := (x - 48)) T_150_43 (fun h => absurd h.1 (by decide)) (w32_id (by omega) (by omega)) ?_
          refine x_si (ls1 := [some (vR (some k)), some (vI w), some (vI 10), some (vI most), some (vI n), some (vI v), some (vI i), some (vI (x - 48))]) T_150_44 rfl ?_
          refine x_li (z := (x - 48)) T_150_46 rfl ?_
          refine x_if T_150_48 (fun _ => ?_) (fun h => absurd (show (x - 48) < 0 by omega) h)
          refine x_ic T_150_57 ?_
          refine x_ri T_150_58 ?_
          exact ⟨rfl, rfl⟩
        · skip
          refine x_li (z := i) T_150_13 rfl ?_
          refine x_li (z := n) T_150_15 rfl ?_
          refine x_ic2 T_150_17 (fun h => absurd (show n ≤ i from h) (by omega)) (fun _ => ?_)
          refine x_li (z := i) T_150_20 rfl ?_
          refine x_li (z := most) T_150_22 rfl ?_
          refine x_ic2 T_150_23 (fun h => absurd (show most ≤ i from h) (by omega)) (fun _ => ?_)
          refine x_lr (z := some k) T_150_26 rfl ?_
          refine x_gR (z := some (k + 1)) T_150_27 F_16_0 (hP.o h.1) (hP.rc h.1 rfl rfl) ?_
          refine x_lr (z := some k) T_150_30 rfl ?_
          refine x_li (z := w) T_150_31 rfl ?_
          refine x_cv2 T_150_32 mN_104 mL_104 (Nat.le_of_ble_eq_true rfl) mO_104 (hP.o h.1) (Nat.le_of_ble_eq_true rfl) (hso) ?_
          rintro _ σ ⟨rfl, rfl⟩
          refine cI ?_
          refine x_li (z := i) T_150_35 rfl ?_
          refine x_ib (w := (a + i)) T_150_37 (fun h => absurd h.1 (by decide)) (w32_id (by omega) (by omega)) ?_
          refine x_cv2 T_150_38 mN_33 mL_33 (Nat.le_of_ble_eq_true rfl) mO_33 (hP.o hB.1) (Nat.le_of_ble_eq_true rfl) (hat) ?_
          rintro _ σ ⟨rfl, rfl⟩
          refine cI ?_
          refine x_ic T_150_41 ?_
          refine x_ib (w := (x - 48)) T_150_43 (fun h => absurd h.1 (by decide)) (w32_id (by omega) (by omega)) ?_
          refine x_si (ls1 := [some (vR (some k)), some (vI w), some (vI 10), some (vI most), some (vI n), some (vI v), some (vI i), some (vI (x - 48))]) T_150_44 rfl ?_
          refine x_li (z := (x - 48)) T_150_46 rfl ?_
          refine x_if T_150_48 (fun h => absurd (show (x - 48) < 0 from h) (by omega)) (fun _ => ?_)
          refine x_li (z := (x - 48)) T_150_51 rfl ?_
          refine x_li (z := 10) T_150_53 rfl ?_
          refine x_ic2 T_150_54 (fun h => absurd (show (x - 48) < 10 from h) (by omega)) (fun _ => ?_)
          refine x_ic T_150_57 ?_
          refine x_ri T_150_58 ?_
          exact ⟨rfl, rfl⟩
    · rw [if_neg (show ¬ n ≤ most by omega)]
      refine x_li (z := i) T_150_13 rfl ?_
      refine x_li (z := n) T_150_15 rfl ?_
      refine x_ic2 T_150_17 (fun h => absurd (show n ≤ i from h) (by omega)) (fun _ => ?_)
      refine x_li (z := i) T_150_20 rfl ?_
      refine x_li (z := most) T_150_22 rfl ?_
      refine x_ic2 T_150_23 (fun _ => ?_) (fun h => absurd (show most ≤ i by omega) h)
      refine x_li (z := n) T_150_74 rfl ?_
      refine x_ic T_150_76 ?_
      refine x_ic2 T_150_77 (fun h => absurd (show n < 1 from h) (by omega)) (fun _ => ?_)
      refine x_li (z := n) T_150_80 rfl ?_
      refine x_li (z := most) T_150_82 rfl ?_
      refine x_ic2 T_150_83 (fun h => absurd (show n ≤ most from h) (by omega)) (fun _ => ?_)
      refine x_ic T_150_86 ?_
      refine x_goto T_150_87 ?_
      refine x_ri T_150_92 ?_
      exact ⟨rfl, rfl⟩
theorem x_num10 (hP : PX σ0 W R σ) (h : CMD W k l) (hw : 0 ≤ w ∧ w < ((lnW l).length : Int)) (hm : 1 ≤ most ∧ most ≤ 4) : CL fb (d + 2) 150 [vR (some k), vI w, vI 10, vI most] σ (rP (nmN (lnB l w) 10 most) σ) := by
  have hl := h.2.2.2.1.2.2.2.2.1
  have h1 := (lnB_len hl hw).1
  obtain ⟨n, hn⟩ : ∃ q : Int, ((lnB l w).length : Int) = q := ⟨_, rfl⟩
  have hle := x_lengthOf (fb := fb) (d := d) hP h hw hn
  have hgo := nm_loop10 (fb := fb) (d := d + 1) (most := most) hP h hw hn (by omega) hm (lnB l w) 0 0 none (by omega) (by decide) (by omega) (fun j _ => by
    unfold lg
    rw [show ((0 : Int) + (j : Int)).toNat = j by omega]) (by decide)
  rw [show (if n ≤ most then nmV 10 (lnB l w) 0 else -1) = nmN (lnB l w) 10 most by unfold nmN; rw [hn]] at hgo
  refine CL_in mL_150 rfl ?_
  show WP fb _ 150 0 [some (vR (some k)), some (vI w), some (vI 10), some (vI most), none, none, none, none] [] σ _
  refine x_lr (z := some k) T_150_0 rfl ?_
  refine x_li (z := w) T_150_1 rfl ?_
  refine x_cv2 T_150_2 mN_105 mL_105 (Nat.le_of_ble_eq_true rfl) mO_105 (hP.o h.1) (Nat.le_of_ble_eq_true rfl) (hle) ?_
  rintro _ σ ⟨rfl, rfl⟩
  refine cI ?_
  refine x_si (ls1 := [some (vR (some k)), some (vI w), some (vI 10), some (vI most), some (vI n), none, none, none]) T_150_5 rfl ?_
  refine x_ic T_150_7 ?_
  refine x_si (ls1 := [some (vR (some k)), some (vI w), some (vI 10), some (vI most), some (vI n), some (vI 0), none, none]) T_150_8 rfl ?_
  refine x_ic T_150_10 ?_
  refine x_si (ls1 := [some (vR (some k)), some (vI w), some (vI 10), some (vI most), some (vI n), some (vI 0), some (vI 0), none]) T_150_11 rfl ?_
  exact hgo
theorem x_num100 (hP : PX σ0 W R σ) (h : CMD W k l) (hw : ((lnW l).length : Int) ≤ w) (hw1 : 0 ≤ w) : CL fb (d + 2) 150 [vR (some k), vI w, vI 10, vI most] σ (rP (-1) σ) := by
  have hle := x_lengthOf0 (fb := fb) (d := d) hP h hw hw1
  refine CL_in mL_150 rfl ?_
  show WP fb _ 150 0 [some (vR (some k)), some (vI w), some (vI 10), some (vI most), none, none, none, none] [] σ _
  refine x_lr (z := some k) T_150_0 rfl ?_
  refine x_li (z := w) T_150_1 rfl ?_
  refine x_cv2 T_150_2 mN_105 mL_105 (Nat.le_of_ble_eq_true rfl) mO_105 (hP.o h.1) (Nat.le_of_ble_eq_true rfl) (hle) ?_
  rintro _ σ ⟨rfl, rfl⟩
  refine cI ?_
  refine x_si (ls1 := [some (vR (some k)), some (vI w), some (vI 10), some (vI most), some (vI 0), none, none, none]) T_150_5 rfl ?_
  refine x_ic T_150_7 ?_
  refine x_si (ls1 := [some (vR (some k)), some (vI w), some (vI 10), some (vI most), some (vI 0), some (vI 0), none, none]) T_150_8 rfl ?_
  refine x_ic T_150_10 ?_
  refine x_si (ls1 := [some (vR (some k)), some (vI w), some (vI 10), some (vI most), some (vI 0), some (vI 0), some (vI 0), none]) T_150_11 rfl ?_
  refine x_li (z := 0) T_150_13 rfl ?_
  refine x_li (z := 0) T_150_15 rfl ?_
  refine x_ic2 T_150_17 (fun _ => ?_) (fun h => absurd (show 0 ≤ (0 : Int) by decide) h)
  refine x_li (z := 0) T_150_74 rfl ?_
  refine x_ic T_150_76 ?_
  refine x_ic2 T_150_77 (fun _ => ?_) (fun h => absurd (show (0 : Int) < 1 by decide) h)
  refine x_ic T_150_86 ?_
  refine x_goto T_150_87 ?_
  refine x_ri T_150_92 ?_
  exact ⟨rfl, rfl⟩
theorem x_octal (hP : PX σ0 W R σ) (h : CMD W k l) (hw : 0 ≤ w) : CL fb (d + 3) 149 [vR (some k), vI w] σ (rP (if w < ((lnW l).length : Int) then nmN (lnB l w) 8 3 else -1) σ) := by
  by_cases q : w < ((lnW l).length : Int)
  · rw [if_pos q]
    have hn := x_num8 (fb := fb) (d := d) (most := 3) hP h ⟨hw, q⟩ (by decide)
    refine CL_in mL_149 rfl ?_
    show WP fb _ 149 0 [some (vR (some k)), some (vI w)] [] σ _
    refine x_lr (z := some k) T_149_0 rfl ?_
    refine x_li (z := w) T_149_1 rfl ?_
    refine x_ic T_149_2 ?_
    refine x_ic T_149_4 ?_
    refine x_cv4 T_149_5 mN_150 mL_150 (Nat.le_of_ble_eq_true rfl) mO_150 (hP.o h.1) (Nat.le_of_ble_eq_true rfl) (hn) ?_
    rintro _ σ ⟨rfl, rfl⟩
    refine cI ?_
    refine x_ri T_149_8 ?_
    exact ⟨rfl, rfl⟩
  · rw [if_neg q]
    have hn := x_num80 (fb := fb) (d := d) (most := 3) hP h (by omega) hw
    refine CL_in mL_149 rfl ?_
    show WP fb _ 149 0 [some (vR (some k)), some (vI w)] [] σ _
    refine x_lr (z := some k) T_149_0 rfl ?_
    refine x_li (z := w) T_149_1 rfl ?_
    refine x_ic T_149_2 ?_
    refine x_ic T_149_4 ?_
    refine x_cv4 T_149_5 mN_150 mL_150 (Nat.le_of_ble_eq_true rfl) mO_150 (hP.o h.1) (Nat.le_of_ble_eq_true rfl) (hn) ?_
    rintro _ σ ⟨rfl, rfl⟩
    refine cI ?_
    refine x_ri T_149_8 ?_
    exact ⟨rfl, rfl⟩
theorem x_decimal (hP : PX σ0 W R σ) (h : CMD W k l) (hw : 0 ≤ w) : CL fb (d + 3) 160 [vR (some k), vI w] σ (rP (if w < ((lnW l).length : Int) then nmN (lnB l w) 10 4 else -1) σ) := by
  by_cases q : w < ((lnW l).length : Int)
  · rw [if_pos q]
    have hn := x_num10 (fb := fb) (d := d) (most := 4) hP h ⟨hw, q⟩ (by decide)
    refine CL_in mL_160 rfl ?_
    show WP fb _ 160 0 [some (vR (some k)), some (vI w)] [] σ _
    refine x_lr (z := some k) T_160_0 rfl ?_
    refine x_li (z := w) T_160_1 rfl ?_
    refine x_ic T_160_2 ?_
    refine x_ic T_160_4 ?_
    refine x_cv4 T_160_5 mN_150 mL_150 (Nat.le_of_ble_eq_true rfl) mO_150 (hP.o h.1) (Nat.le_of_ble_eq_true rfl) (hn) ?_
    rintro _ σ ⟨rfl, rfl⟩
    refine cI ?_
    refine x_ri T_160_8 ?_
    exact ⟨rfl, rfl⟩
  · rw [if_neg q]
    have hn := x_num100 (fb := fb) (d := d) (most := 4) hP h (by omega) hw
    refine CL_in mL_160 rfl ?_
    show WP fb _ 160 0 [some (vR (some k)), some (vI w)] [] σ _
    refine x_lr (z := some k) T_160_0 rfl ?_
    refine x_li (z := w) T_160_1 rfl ?_
    refine x_ic T_160_2 ?_
    refine x_ic T_160_4 ?_
    refine x_cv4 T_160_5 mN_150 mL_150 (Nat.le_of_ble_eq_true rfl) mO_150 (hP.o h.1) (Nat.le_of_ble_eq_true rfl) (hn) ?_
    rintro _ σ ⟨rfl, rfl⟩
    refine cI ?_
    refine x_ri T_160_8 ?_
    exact ⟨rfl, rfl⟩
theorem x_cdigit (hP : PX σ0 W R σ) (h : CMD W k l) (hw : 0 ≤ w) : CL fb (d + 3) 151 [vR (some k), vI w] σ (rP (if w < ((lnW l).length : Int) then nmN (lnB l w) 8 1 else -1) σ) := by
  by_cases q : w < ((lnW l).length : Int)
  · rw [if_pos q]
    have hn := x_num8 (fb := fb) (d := d) (most := 1) hP h ⟨hw, q⟩ (by decide)
    refine CL_in mL_151 rfl ?_
    show WP fb _ 151 0 [some (vR (some k)), some (vI w)] [] σ _
    refine x_lr (z := some k) T_151_0 rfl ?_
    refine x_li (z := w) T_151_1 rfl ?_
    refine x_ic T_151_2 ?_
    refine x_ic T_151_4 ?_
    refine x_cv4 T_151_5 mN_150 mL_150 (Nat.le_of_ble_eq_true rfl) mO_150 (hP.o h.1) (Nat.le_of_ble_eq_true rfl) (hn) ?_
    rintro _ σ ⟨rfl, rfl⟩
    refine cI ?_
    refine x_ri T_151_8 ?_
    exact ⟨rfl, rfl⟩
  · rw [if_neg q]
    have hn := x_num80 (fb := fb) (d := d) (most := 1) hP h (by omega) hw
    refine CL_in mL_151 rfl ?_
    show WP fb _ 151 0 [some (vR (some k)), some (vI w)] [] σ _
    refine x_lr (z := some k) T_151_0 rfl ?_
    refine x_li (z := w) T_151_1 rfl ?_
    refine x_ic T_151_2 ?_
    refine x_ic T_151_4 ?_
    refine x_cv4 T_151_5 mN_150 mL_150 (Nat.le_of_ble_eq_true rfl) mO_150 (hP.o h.1) (Nat.le_of_ble_eq_true rfl) (hn) ?_
    rintro _ σ ⟨rfl, rfl⟩
    refine cI ?_
    refine x_ri T_151_8 ?_
    exact ⟨rfl, rfl⟩
theorem nmN_r8 : -1 ≤ nmN wd 8 3 ∧ nmN wd 8 3 ≤ 999 := by
  unfold nmN
  split
  · rename_i q
    have h := nmV_rng (base := 8) (by decide) wd 0 1 (by decide) (by decide)
    have h2 : (10 : Int) ^ wd.length ≤ 1000 := by
      have : wd.length = 0 ∨ wd.length = 1 ∨ wd.length = 2 ∨ wd.length = 3 := by omega
      rcases this with e | e | e | e <;> rw [e] <;> decide
    omega
  · decide
end XNUM
