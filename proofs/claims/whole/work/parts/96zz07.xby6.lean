/-! Rows of bytes: texts and numbers added. -/
theorem T_11_0 : hTab 11 0 = some ((3, 0, 2, []), 1) := rfl
theorem T_11_1 : hTab 11 1 = some ((0, 0, 0, []), 2) := rfl
theorem T_11_2 : hTab 11 2 = some ((25, 2, Int.ofNat 1, []), 5) := rfl
theorem T_11_5 : hTab 11 5 = some ((3, 0, 2, []), 6) := rfl
theorem T_11_6 : hTab 11 6 = some ((3, 1, 2, []), 7) := rfl
theorem T_11_7 : hTab 11 7 = some ((31, 12, 0, []), 10) := rfl
theorem T_11_10 : hTab 11 10 = some ((33, 0, 0, []), 11) := rfl
theorem T_12_0 : hTab 12 0 = some ((0, 0, 0, []), 1) := rfl
theorem T_12_1 : hTab 12 1 = some ((4, 2, 0, []), 2) := rfl
theorem T_12_2 : hTab 12 2 = some ((3, 2, 0, []), 3) := rfl
theorem T_12_3 : hTab 12 3 = some ((3, 1, 2, []), 4) := rfl
theorem T_12_4 : hTab 12 4 = some ((31, 13, 0, []), 7) := rfl
theorem T_12_7 : hTab 12 7 = some ((19, 3, Int.ofNat 53, []), 10) := rfl
theorem T_12_10 : hTab 12 10 = some ((3, 0, 2, []), 11) := rfl
theorem T_12_11 : hTab 12 11 = some ((24, 2, Int.ofNat 1, []), 14) := rfl
theorem T_12_14 : hTab 12 14 = some ((3, 0, 2, []), 15) := rfl
theorem T_12_15 : hTab 12 15 = some ((24, 2, Int.ofNat 0, []), 18) := rfl
theorem T_12_18 : hTab 12 18 = some ((28, 0, 0, []), 19) := rfl
theorem T_12_19 : hTab 12 19 = some ((19, 3, Int.ofNat 53, []), 22) := rfl
theorem T_12_22 : hTab 12 22 = some ((3, 0, 2, []), 23) := rfl
theorem T_12_23 : hTab 12 23 = some ((24, 2, Int.ofNat 0, []), 26) := rfl
theorem T_12_26 : hTab 12 26 = some ((3, 0, 2, []), 27) := rfl
theorem T_12_27 : hTab 12 27 = some ((24, 2, Int.ofNat 1, []), 30) := rfl
theorem T_12_30 : hTab 12 30 = some ((3, 1, 2, []), 31) := rfl
theorem T_12_31 : hTab 12 31 = some ((3, 2, 0, []), 32) := rfl
theorem T_12_32 : hTab 12 32 = some ((31, 15, 0, []), 35) := rfl
theorem T_12_35 : hTab 12 35 = some ((16, 0, 0, []), 36) := rfl
theorem T_12_36 : hTab 12 36 = some ((27, 1, 0, []), 37) := rfl
theorem T_12_37 : hTab 12 37 = some ((3, 0, 2, []), 38) := rfl
theorem T_12_38 : hTab 12 38 = some ((6, 0, 0, []), 39) := rfl
theorem T_12_39 : hTab 12 39 = some ((24, 2, Int.ofNat 1, []), 42) := rfl
theorem T_12_42 : hTab 12 42 = some ((0, 0, 1, []), 43) := rfl
theorem T_12_43 : hTab 12 43 = some ((10, 0, 0, []), 44) := rfl
theorem T_12_44 : hTab 12 44 = some ((25, 2, Int.ofNat 1, []), 47) := rfl
theorem T_12_47 : hTab 12 47 = some ((5, 2, 1, []), 50) := rfl
theorem T_12_50 : hTab 12 50 = some ((22, 0, Int.ofNat 2, []), 53) := rfl
theorem T_12_53 : hTab 12 53 = some ((33, 0, 0, []), 54) := rfl
theorem T_23_0 : hTab 23 0 = some ((3, 0, 2, []), 1) := rfl
theorem T_23_1 : hTab 23 1 = some ((3, 1, 2, []), 2) := rfl
theorem T_23_2 : hTab 23 2 = some ((31, 13, 0, []), 5) := rfl
theorem T_23_5 : hTab 23 5 = some ((14, 0, 0, []), 6) := rfl
theorem T_23_6 : hTab 23 6 = some ((0, 0, 2, []), 7) := rfl
theorem T_23_7 : hTab 23 7 = some ((31, 22, 0, []), 10) := rfl
theorem T_23_10 : hTab 23 10 = some ((3, 0, 2, []), 11) := rfl
theorem T_23_11 : hTab 23 11 = some ((3, 1, 2, []), 12) := rfl
theorem T_23_12 : hTab 23 12 = some ((31, 12, 0, []), 15) := rfl
theorem T_23_15 : hTab 23 15 = some ((33, 0, 0, []), 16) := rfl
theorem T_75_0 : hTab 75 0 = some ((1, 0, 1, []), 1) := rfl
theorem T_75_1 : hTab 75 1 = some ((4, 3, 1, []), 2) := rfl
theorem T_75_2 : hTab 75 2 = some ((3, 1, 1, []), 3) := rfl
theorem T_75_3 : hTab 75 3 = some ((1, 0, 10, []), 6) := rfl
theorem T_75_6 : hTab 75 6 = some ((11, 3, 0, []), 7) := rfl
theorem T_75_7 : hTab 75 7 = some ((4, 5, 1, []), 9) := rfl
theorem T_75_9 : hTab 75 9 = some ((3, 5, 1, []), 11) := rfl
theorem T_75_11 : hTab 75 11 = some ((1, 0, 0, []), 12) := rfl
theorem T_75_12 : hTab 75 12 = some ((17, 0, 0, []), 13) := rfl
theorem T_75_13 : hTab 75 13 = some ((18, 5, Int.ofNat 33, []), 16) := rfl
theorem T_75_16 : hTab 75 16 = some ((3, 3, 1, []), 17) := rfl
theorem T_75_17 : hTab 75 17 = some ((1, 0, 10, []), 20) := rfl
theorem T_75_20 : hTab 75 20 = some ((11, 2, 0, []), 21) := rfl
theorem T_75_21 : hTab 75 21 = some ((4, 3, 1, []), 22) := rfl
theorem T_75_22 : hTab 75 22 = some ((3, 5, 1, []), 24) := rfl
theorem T_75_24 : hTab 75 24 = some ((1, 0, 10, []), 27) := rfl
theorem T_75_27 : hTab 75 27 = some ((11, 3, 0, []), 28) := rfl
theorem T_75_28 : hTab 75 28 = some ((4, 5, 1, []), 30) := rfl
theorem T_75_30 : hTab 75 30 = some ((22, 0, Int.ofNat 9, []), 33) := rfl
theorem T_75_33 : hTab 75 33 = some ((3, 3, 1, []), 34) := rfl
theorem T_75_34 : hTab 75 34 = some ((1, 0, 0, []), 35) := rfl
theorem T_75_35 : hTab 75 35 = some ((17, 0, 0, []), 36) := rfl
theorem T_75_36 : hTab 75 36 = some ((18, 5, Int.ofNat 92, []), 39) := rfl
theorem T_75_39 : hTab 75 39 = some ((3, 0, 2, []), 40) := rfl
theorem T_75_40 : hTab 75 40 = some ((24, 2, Int.ofNat 1, []), 43) := rfl
theorem T_75_43 : hTab 75 43 = some ((3, 0, 2, []), 44) := rfl
theorem T_75_44 : hTab 75 44 = some ((24, 2, Int.ofNat 0, []), 47) := rfl
theorem T_75_47 : hTab 75 47 = some ((28, 0, 0, []), 48) := rfl
theorem T_75_48 : hTab 75 48 = some ((19, 3, Int.ofNat 92, []), 51) := rfl
theorem T_75_51 : hTab 75 51 = some ((3, 0, 2, []), 52) := rfl
theorem T_75_52 : hTab 75 52 = some ((24, 2, Int.ofNat 0, []), 55) := rfl
theorem T_75_55 : hTab 75 55 = some ((3, 0, 2, []), 56) := rfl
theorem T_75_56 : hTab 75 56 = some ((24, 2, Int.ofNat 1, []), 59) := rfl
theorem T_75_59 : hTab 75 59 = some ((1, 0, 48, []), 62) := rfl
theorem T_75_62 : hTab 75 62 = some ((3, 1, 1, []), 63) := rfl
theorem T_75_63 : hTab 75 63 = some ((3, 3, 1, []), 64) := rfl
theorem T_75_64 : hTab 75 64 = some ((11, 3, 0, []), 65) := rfl
theorem T_75_65 : hTab 75 65 = some ((1, 0, 10, []), 68) := rfl
theorem T_75_68 : hTab 75 68 = some ((11, 4, 0, []), 69) := rfl
theorem T_75_69 : hTab 75 69 = some ((11, 0, 0, []), 70) := rfl
theorem T_75_70 : hTab 75 70 = some ((15, 0, 0, []), 71) := rfl
theorem T_75_71 : hTab 75 71 = some ((16, 0, 0, []), 72) := rfl
theorem T_75_72 : hTab 75 72 = some ((27, 1, 0, []), 73) := rfl
theorem T_75_73 : hTab 75 73 = some ((3, 0, 2, []), 74) := rfl
theorem T_75_74 : hTab 75 74 = some ((6, 0, 0, []), 75) := rfl
theorem T_75_75 : hTab 75 75 = some ((24, 2, Int.ofNat 1, []), 78) := rfl
theorem T_75_78 : hTab 75 78 = some ((0, 0, 1, []), 79) := rfl
theorem T_75_79 : hTab 75 79 = some ((10, 0, 0, []), 80) := rfl
theorem T_75_80 : hTab 75 80 = some ((25, 2, Int.ofNat 1, []), 83) := rfl
theorem T_75_83 : hTab 75 83 = some ((3, 3, 1, []), 84) := rfl
theorem T_75_84 : hTab 75 84 = some ((1, 0, 10, []), 87) := rfl
theorem T_75_87 : hTab 75 87 = some ((11, 3, 0, []), 88) := rfl
theorem T_75_88 : hTab 75 88 = some ((4, 3, 1, []), 89) := rfl
theorem T_75_89 : hTab 75 89 = some ((22, 0, Int.ofNat 33, []), 92) := rfl
theorem T_75_92 : hTab 75 92 = some ((33, 0, 0, []), 93) := rfl
theorem mN_11 : hmN 11 = 2 := by decide +kernel
theorem mL_11 : hmL 11 = 2 := by decide +kernel
theorem mK_11 : hmK 11 = 1 := by decide +kernel
theorem mO_11 : hmO 11 = 2 := by decide +kernel
theorem mN_12 : hmN 12 = 2 := by decide +kernel
theorem mL_12 : hmL 12 = 3 := by decide +kernel
theorem mK_12 : hmK 12 = 1 := by decide +kernel
theorem mO_12 : hmO 12 = 2 := by decide +kernel
theorem mN_23 : hmN 23 = 2 := by decide +kernel
theorem mL_23 : hmL 23 = 2 := by decide +kernel
theorem mK_23 : hmK 23 = 1 := by decide +kernel
theorem mO_23 : hmO 23 = 2 := by decide +kernel
theorem mN_75 : hmN 75 = 2 := by decide +kernel
theorem mL_75 : hmL 75 = 7 := by decide +kernel
theorem mK_75 : hmK 75 = 1 := by decide +kernel
theorem mO_75 : hmO 75 = 2 := by decide +kernel
section XBY6
variable {fb : Bool} {d b c n m q j : Nat} {σ0 σ : hM} {W W0 W1 W2 : qR} {R : rR} {l lo t : List Int} {i k x z v s e w g o : Int} {f : Int → Int} {rest : Option AV}
theorem x_text_loop (hj : j < 58) : ∀ (m : Nat) (i : Int) (l : List Int) (W : qR) (σ : hM), i + m = (txt j).length → 0 ≤ i → PX σ0 W R σ → BY W b n l → FB b W0 W → l.length + m ≤ n → WP fb (d + 4) 12 2 [some (vR (some b)), some (vR (some (4 + 2 * j))), some (vI i)] [] σ (XB σ0 W0 R b n (l ++ seg (lg (txt j)) i m) none) := by
  have htl := txt_len hj
  obtain ⟨z2, hz2⟩ : ∃ z : Int, ((txt j).length : Int) = z := ⟨_, rfl⟩
  intro m
  induction m with
  | zero =>
    intro i l W σ h1 h2 hP hB hF hl
    have h1 : i + ((0 : Nat) : Int) = (txt j).length := h1
    have ho := hB.1
    have hgx := (hP.gx.1 j hj).1
    have hln := s_len (fb := fb) (d := d + 2) (n := z2) hP.gx hj hz2
    refine x_li (z := i) T_12_2 rfl ?_
    refine x_lr (z := some (4+2*j)) T_12_3 rfl ?_
    refine x_cv1 T_12_4 mN_13 mL_13 (Nat.le_of_ble_eq_true rfl) mO_13 hgx (Nat.le_of_ble_eq_true rfl) (hln) ?_
    rintro _ σ ⟨rfl, rfl⟩
    refine cI ?_
    refine x_ic2 T_12_7 (fun _ => ?_) (fun h => absurd (show z2 ≤ i by omega) h)
    refine x_rv T_12_53 ?_
    exact ⟨rfl, W, hP, by rw [show seg (lg (txt j)) i 0 = [] from rfl, List.append_nil]; exact hB, hF⟩
  | succ m ih =>
    intro i l W σ h1 h2 hP hB hF hl
    obtain ⟨ho, ha, hn, h3, h4, h5, h6⟩ := id hB
    obtain ⟨z, hz⟩ : ∃ z : Int, (l.length : Int) = z := ⟨_, rfl⟩
    obtain ⟨N, hN⟩ : ∃ N : Int, (n : Int) = N := ⟨_, rfl⟩
    rw [hz] at h3
    have hgx := (hP.gx.1 j hj).1
    have hln := s_len (fb := fb) (d := d + 2) (n := z2) hP.gx hj hz2
    have hr := txt_rng hj h2 (show i < ((txt j).length : Int) by omega)
    obtain ⟨x1, hx1⟩ : ∃ x, lg (txt j) i = x := ⟨_, rfl⟩
    have hch := s_char (fb := fb) (d := d) (k := i) (x := x1) hP.gx hj ⟨by omega, by show i < ((txt j).length : Int); omega⟩ hx1
    rw [hx1] at hr
    have hgo := fun (σ : hM) (hP : PX σ0 (rU (rU W (b + 1) z (sb8 x1)) b 2065 (z + 1)) R σ) => ih (i + 1) (l ++ [x1]) _ σ (by omega) (by omega) hP (hB.more hz (by omega) (by omega) rfl) (FB_tr hF (FB_put (by omega))) (by rw [List.length_append]; show l.length + 1 + m ≤ n; omega)
    rw [List.append_assoc, show [x1] ++ seg (lg (txt j)) (i + 1) m = seg (lg (txt j)) i (m + 1) by rw [seg_cons, hx1]; rfl] at hgo
    refine x_li (z := i) T_12_2 rfl ?_
    refine x_lr (z := some (4+2*j)) T_12_3 rfl ?_
    refine x_cv1 T_12_4 mN_13 mL_13 (Nat.le_of_ble_eq_true rfl) mO_13 hgx (Nat.le_of_ble_eq_true rfl) (hln) ?_
    rintro _ σ ⟨rfl, rfl⟩
    refine cI ?_
    refine x_ic2 T_12_7 (fun h => absurd (show z2 ≤ i from h) (by omega)) (fun _ => ?_)
    refine x_lr (z := some b) T_12_10 rfl ?_
    refine x_gI (z := z) T_12_11 (Or.inl F_2_1) (hP.o ho) (Eq.trans (hP.gi ho (key := 2065) rfl) h3) ?_
    refine x_lr (z := some b) T_12_14 rfl ?_
    refine x_gR (z := some (b + 1)) T_12_15 F_2_0 (hP.o ho) (hP.rc ho rfl rfl) ?_
    refine x_len (len := n) T_12_18 (hP.ta ha) ?_
    rw [hN]
    refine x_ic2 T_12_19 (fun h => absurd (show N ≤ z from h) (by omega)) (fun _ => ?_)
    refine x_lr (z := some b) T_12_22 rfl ?_
    refine x_gR (z := some (b + 1)) T_12_23 F_2_0 (hP.o ho) (hP.rc ho rfl rfl) ?_
    refine x_lr (z := some b) T_12_26 rfl ?_
    refine x_gI (z := z) T_12_27 (Or.inl F_2_1) (hP.o ho) (Eq.trans (hP.gi ho (key := 2065) rfl) h3) ?_
    refine x_lr (z := some (4+2*j)) T_12_30 rfl ?_
    refine x_li (z := i) T_12_31 rfl ?_
    refine x_cv2 T_12_32 mN_15 mL_15 (Nat.le_of_ble_eq_true rfl) mO_15 hgx (Nat.le_of_ble_eq_true rfl) (hch) ?_
    rintro _ σ ⟨rfl, rfl⟩
    refine cI ?_
    refine x_i2b (w := (sb8 x1)) T_12_35 rfl ?_
    refine z_aB (v := (sb8 x1)) hP T_12_36 (sb8_sb8 x1) ha (by omega) (by omega) (fun σ hP => ?_)
    refine x_lr (z := some b) T_12_37 rfl ?_
    refine x_dupR T_12_38 ?_
    refine x_gI (z := z) T_12_39 (Or.inl F_2_1) (hP.o ho) (Eq.trans (Eq.trans (hP.gi ho (key := 2065) rfl) (rU_j (by omega))) h3) ?_
    refine x_ic T_12_42 ?_
    refine x_ib (w := (z + 1)) T_12_43 (fun h => absurd h.1 (by decide)) (w32_id (by omega) (by omega)) ?_
    refine z_pI hP T_12_44 F_2_1 ho (key := 2065) rfl (fun σ hP => ?_)
    refine x_inc (w := (i + 1)) (ls1 := [some (vR (some b)), some (vR (some (4+2*j))), some (vI (i + 1))]) T_12_47 rfl (w32_id (by omega) (by omega)) rfl ?_
    refine x_goto T_12_50 ?_
    exact hgo σ hP
theorem x_addText (hj : j < 58) (hP : PX σ0 W R σ) (hB : BY W b n l) (hl : l.length + (txt j).length ≤ n) : CL fb (d + 4) 12 [vR (some b), vR (some (4 + 2 * j))] σ (XB σ0 W R b n (l ++ txt j) none) := by
  have hgo := x_text_loop (fb := fb) (d := d) (σ0 := σ0) (R := R) (b := b) (n := n) hj (txt j).length 0 l W σ (by omega) (by decide) hP hB FB_rfl hl
  rw [seg_all] at hgo
  refine CL_in mL_12 rfl ?_
  show WP fb _ 12 0 [some (vR (some b)), some (vR (some (4+2*j))), none] [] σ _
  refine x_ic T_12_0 ?_
  refine x_si (ls1 := [some (vR (some b)), some (vR (some (4+2*j))), some (vI 0)]) T_12_1 rfl ?_
  exact hgo
theorem x_takeText (hj : j < 58) (hP : PX σ0 W R σ) (hB : BY W b n l) (hl : (txt j).length ≤ n) : CL fb (d + 5) 11 [vR (some b), vR (some (4 + 2 * j))] σ (XB σ0 W R b n (txt j) none) := by
  have ho := hB.1
  have p1 := fun (σ : hM) (hP : PX σ0 (rU W b 2065 0) R σ) => x_addText (fb := fb) (d := d) hj hP hB.set0 (by show 0 + _ ≤ n; omega)
  refine CL_in mL_11 rfl ?_
  show WP fb _ 11 0 [some (vR (some b)), some (vR (some (4+2*j)))] [] σ _
  refine x_lr (z := some b) T_11_0 rfl ?_
  refine x_ic T_11_1 ?_
  refine z_pI hP T_11_2 F_2_1 ho (key := 2065) rfl (fun σ hP => ?_)
  refine x_lr (z := some b) T_11_5 rfl ?_
  refine x_lr (z := some (4+2*j)) T_11_6 rfl ?_
  refine x_cv2 T_11_7 mN_12 mL_12 (Nat.le_of_ble_eq_true rfl) mO_12 (hP.o ho) (Nat.le_of_ble_eq_true rfl) (p1 σ hP) ?_
  clear hP p1
  rintro _ σ ⟨rfl, W2, hP, hB2, hF2⟩
  refine cV ?_
  refine x_rv T_11_10 ?_
  exact ⟨rfl, W2, hP, hB2, FB_tr FB_set hF2⟩
theorem x_putString (hj : j < 58) (hP : PX σ0 W R σ) (hB : BY W b n l) (hl : l.length + 2 + (txt j).length ≤ n) : CL fb (d + 5) 23 [vR (some b), vR (some (4 + 2 * j))] σ (XB σ0 W R b n (l ++ (leb 2 ((txt j).length : Int) ++ txt j)) none) := by
  have ho := hB.1
  have htl := txt_len hj
  have hgx := (hP.gx.1 j hj).1
  obtain ⟨z2, hz2⟩ : ∃ z : Int, ((txt j).length : Int) = z := ⟨_, rfl⟩
  have hln := s_len (fb := fb) (d := d + 3) (n := z2) hP.gx hj hz2
  rw [hz2]
  have p1 := x_put (fb := fb) (d := d + 4) (k := 2) (v := z2) 2 hP hB rfl (by decide) ⟨by omega, by omega⟩ (by omega)
  have p2 := fun (σ : hM) (W1 : qR) (hP : PX σ0 W1 R σ) (hB1 : BY W1 b n (l ++ leb 2 z2)) => x_addText (fb := fb) (d := d) hj hP hB1 (by rw [List.length_append, leb_len]; omega)
  refine CL_in mL_23 rfl ?_
  show WP fb _ 23 0 [some (vR (some b)), some (vR (some (4+2*j)))] [] σ _
  refine x_lr (z := some b) T_23_0 rfl ?_
  refine x_lr (z := some (4+2*j)) T_23_1 rfl ?_
  refine x_cv1 T_23_2 mN_13 mL_13 (Nat.le_of_ble_eq_true rfl) mO_13 hgx (Nat.le_of_ble_eq_true rfl) (hln) ?_
  rintro _ σ ⟨rfl, rfl⟩
  refine cI ?_
  refine x_i2l T_23_5 ?_
  refine x_ic T_23_6 ?_
  refine x_cv3 T_23_7 mN_22 mL_22 (Nat.le_of_ble_eq_true rfl) mO_22 (hP.o ho) (Nat.le_of_ble_eq_true rfl) (p1) ?_
  clear hP p1
  rintro _ σ ⟨rfl, W1, hP, hB1, hF1⟩
  refine cV ?_
  refine x_lr (z := some b) T_23_10 rfl ?_
  refine x_lr (z := some (4+2*j)) T_23_11 rfl ?_
  refine x_cv2 T_23_12 mN_12 mL_12 (Nat.le_of_ble_eq_true rfl) mO_12 (hP.o ho) (Nat.le_of_ble_eq_true rfl) (p2 σ W1 hP hB1) ?_
  clear hP p2
  rintro _ σ ⟨rfl, W2, hP, hB2, hF2⟩
  refine cV ?_
  refine x_rv T_23_15 ?_
  exact ⟨rfl, W2, hP, by rw [List.append_assoc] at hB2; exact hB2, FB_tr hF1 hF2⟩
theorem x_unit {v : Int} (hv : 0 ≤ v ∧ v < 1000000000000000000) {Q : Option AV → hM → Prop} (hQ : ∀ r : Int, WP fb d 75 33 [some (vR (some b)), some (vL v), none, some (vL (10 ^ ndF v 18 0)), none, some (vL r), none] [] σ Q) : ∀ (m i : Nat), i + m = 18 → ndF v m i = ndF v 18 0 → WP fb d 75 9 [some (vR (some b)), some (vL v), none, some (vL (10 ^ i)), none, some (vL (v / 10 ^ (i + 1))), none] [] σ Q := by
  intro m
  have e18 : (10 : Int) ^ 18 = 1000000000000000000 := by decide
  induction m with
  | zero =>
    intro i h1 h2
    have h2 : i = ndF v 18 0 := h2
    have hi : i = 18 := by omega
    rw [← h2] at hQ
    have e19 : (10 : Int) ^ (i + 1) = 10000000000000000000 := by
      rw [hi]
      decide
    have hz : v / 10 ^ (i + 1) = 0 := Int.ediv_eq_zero_of_lt hv.1 (by omega)
    rw [hz]
    obtain ⟨u, hu⟩ : ∃ u : Int, 10 ^ i = u := ⟨_, rfl⟩
    rw [hu] at hQ ⊢
    have hgo := hQ 0
    refine x_ll (z := 0) T_75_9 rfl ?_
    refine x_lc T_75_11 ?_
    refine x_lif T_75_12 T_75_13 (fun _ => ?_) (fun h => absurd (show (0 : Int) ≤ 0 by decide) h)
    exact hgo
  | succ m ih =>
    intro i h1 h2
    have hp1 : (10 : Int) ^ i ≤ 10 ^ 17 := pow10_le (by omega)
    have e17 : (10 : Int) ^ 17 = 100000000000000000 := by decide
    have hp0 : (0 : Int) < 10 ^ i := Int.pow_pos (by decide)
    have e1 : v / 10 ^ (i + 1) = v / 10 ^ i / 10 := by rw [Int.pow_succ, Int.ediv_ediv_of_nonneg (by omega)]
    have e2 : v / 10 ^ (i + 1) / 10 = v / 10 ^ (i + 1 + 1) := by rw [Int.pow_succ (10 : Int) (i + 1), Int.ediv_ediv_of_nonneg (Int.le_of_lt (Int.pow_pos (by decide)))]
    have hy0 : 0 ≤ v / 10 ^ i := Int.ediv_nonneg hv.1 (by omega)
    have hy1 : v / 10 ^ i ≤ v := Int.ediv_le_self _ hv.1
    by_cases q : 10 ≤ v / 10 ^ i
    · rw [show ndF v (m + 1) i = ndF v m (i + 1) from if_pos q] at h2
      have hgo := ih (i + 1) (by omega) h2
      rw [show (10 : Int) ^ (i + 1) = 10 ^ i * 10 from Int.pow_succ _ _, ← e2] at hgo
      obtain ⟨y, hy⟩ : ∃ y, v / 10 ^ (i + 1) = y := ⟨_, rfl⟩
      rw [hy] at e1 hgo ⊢
      obtain ⟨u, hu⟩ : ∃ u : Int, 10 ^ i = u := ⟨_, rfl⟩
      rw [hu] at hgo q hp1 hp0 e1 hy0 hy1 ⊢
      refine x_ll (z := y) T_75_9 rfl ?_
      refine x_lc T_75_11 ?_
      refine x_lif T_75_12 T_75_13 (fun h => absurd (show y ≤ 0 from h) (by omega)) (fun _ => ?_)
      refine x_ll (z := u) T_75_16 rfl ?_
      refine x_lc T_75_17 ?_
      refine x_lb (w := (u * 10)) T_75_20 (fun h => absurd h.1 (by decide)) (w64_id (by omega) (by omega)) ?_
      refine x_sl (ls1 := [some (vR (some b)), some (vL v), none, some (vL (u * 10)), none, some (vL y), none]) T_75_21 rfl ?_
      refine x_ll (z := y) T_75_22 rfl ?_
      refine x_lc T_75_24 ?_
      refine x_lb (w := (y / 10)) T_75_27 (fun h => absurd h.2 (by decide)) (div64_n (by omega) (by decide)) ?_
      refine x_sl (ls1 := [some (vR (some b)), some (vL v), none, some (vL (u * 10)), none, some (vL (y / 10)), none]) T_75_28 rfl ?_
      refine x_goto T_75_30 ?_
      exact hgo
    · rw [show ndF v (m + 1) i = i from if_neg q] at h2
      rw [← h2] at hQ
      rw [show v / 10 ^ (i + 1) = 0 by omega]
      obtain ⟨u, hu⟩ : ∃ u : Int, 10 ^ i = u := ⟨_, rfl⟩
      rw [hu] at hQ ⊢
      have hgo := hQ 0
      refine x_ll (z := 0) T_75_9 rfl ?_
      refine x_lc T_75_11 ?_
      refine x_lif T_75_12 T_75_13 (fun _ => ?_) (fun h => absurd (show (0 : Int) ≤ 0 by decide) h)
      exact hgo
theorem x_digit {v r : Int} (hv : 0 ≤ v ∧ v < 1000000000000000000) : ∀ (k : Nat) (l : List Int) (W : qR) (σ : hM), k ≤ 18 → PX σ0 W R σ → BY W b n l → FB b W0 W → WP fb d 75 33 [some (vR (some b)), some (vL v), none, some (vL (10 ^ k)), none, some (vL r), none] [] σ (XB σ0 W0 R b n ((l ++ dcL v k).take n) none) := by
  intro k
  have full : ∀ (k : Nat) (l : List Int) (W : qR) (σ : hM), k ≤ 18 → PX σ0 W R σ → BY W b n l → FB b W0 W → ¬ l.length < n → WP fb d 75 33 [some (vR (some b)), some (vL v), none, some (vL (10 ^ k)), none, some (vL r), none] [] σ (XB σ0 W0 R b n ((l ++ dcL v k).take n) none) := fun k l W σ hk hP hB hF hl => by
    obtain ⟨ho, ha, hn, h3, h4, h5, h6⟩ := id hB
    obtain ⟨z, hz⟩ : ∃ z : Int, (l.length : Int) = z := ⟨_, rfl⟩
    obtain ⟨N, hN⟩ : ∃ N : Int, (n : Int) = N := ⟨_, rfl⟩
    have hp0 : (0 : Int) < 10 ^ k := Int.pow_pos (by decide)
    rw [hz] at h3
    rw [List.take_append_of_le_length (by omega), List.take_of_length_le h4]
    obtain ⟨u, hu⟩ : ∃ u : Int, 10 ^ k = u := ⟨_, rfl⟩
    rw [hu] at hp0 ⊢
    refine x_ll (z := u) T_75_33 rfl ?_
    refine x_lc T_75_34 ?_
    refine x_lif T_75_35 T_75_36 (fun h => absurd (show u ≤ 0 from h) (by omega)) (fun _ => ?_)
    refine x_lr (z := some b) T_75_39 rfl ?_
    refine x_gI (z := z) T_75_40 (Or.inl F_2_1) (hP.o ho) (Eq.trans (hP.gi ho (key := 2065) rfl) h3) ?_
    refine x_lr (z := some b) T_75_43 rfl ?_
    refine x_gR (z := some (b + 1)) T_75_44 F_2_0 (hP.o ho) (hP.rc ho rfl rfl) ?_
    refine x_len (len := n) T_75_47 (hP.ta ha) ?_
    rw [hN]
    refine x_ic2 T_75_48 (fun _ => ?_) (fun h => absurd (show N ≤ z by omega) h)
    refine x_rv T_75_92 ?_
    exact ⟨rfl, W, hP, hB, hF⟩
  induction k with
  | zero =>
    intro l W σ hk hP hB hF
    by_cases hl : l.length < n
    · obtain ⟨ho, ha, hn, h3, h4, h5, h6⟩ := id hB
      obtain ⟨z, hz⟩ : ∃ z : Int, (l.length : Int) = z := ⟨_, rfl⟩
      obtain ⟨N, hN⟩ : ∃ N : Int, (n : Int) = N := ⟨_, rfl⟩
      rw [hz] at h3
      have hm := Int.emod_nonneg v (show (10 : Int) ≠ 0 by decide)
      have hm2 := Int.emod_lt_of_pos v (show (0 : Int) < 10 by decide)
      rw [show dcL v 0 = [48 + v % 10] by show [48 + v / 10 ^ 0 % 10] = _; rw [show v / (10 : Int) ^ 0 = v from Int.ediv_one v], List.take_of_length_le (by rw [List.length_append]; show l.length + 1 ≤ n; omega)]
      have hfin := fun (σ : hM) (hP : PX σ0 (rU (rU W (b + 1) z (sb8 (48 + v % 10))) b 2065 (z + 1)) R σ) => (⟨rfl, _, hP, hB.more hz (by omega) (by omega) rfl, FB_tr hF (FB_put (by omega))⟩ : XB σ0 W0 R b n (l ++ [48 + v % 10]) none none σ)
      show WP fb d _ _ [some (vR (some b)), some (vL v), none, some (vL 1), none, some (vL r), none] _ _ _
      refine x_ll (z := 1) T_75_33 rfl ?_
      refine x_lc T_75_34 ?_
      refine x_lif T_75_35 T_75_36 (fun h => absurd (show (1 : Int) ≤ 0 from h) (by decide)) (fun _ => ?_)
      refine x_lr (z := some b) T_75_39 rfl ?_
      refine x_gI (z := z) T_75_40 (Or.inl F_2_1) (hP.o ho) (Eq.trans (hP.gi ho (key := 2065) rfl) h3) ?_
      refine x_lr (z := some b) T_75_43 rfl ?_
      refine x_gR (z := some (b + 1)) T_75_44 F_2_0 (hP.o ho) (hP.rc ho rfl rfl) ?_
      refine x_len (len := n) T_75_47 (hP.ta ha) ?_
      rw [hN]
      refine x_ic2 T_75_48 (fun h => absurd (show N ≤ z from h) (by omega)) (fun _ => ?_)
      refine x_lr (z := some b) T_75_51 rfl ?_
      refine x_gR (z := some (b + 1)) T_75_52 F_2_0 (hP.o ho) (hP.rc ho rfl rfl) ?_
      refine x_lr (z := some b) T_75_55 rfl ?_
      refine x_gI (z := z) T_75_56 (Or.inl F_2_1) (hP.o ho) (Eq.trans (hP.gi ho (key := 2065) rfl) h3) ?_
      refine x_lc T_75_59 ?_
      refine x_ll (z := v) T_75_62 rfl ?_
      refine x_ll (z := 1) T_75_63 rfl ?_
      refine x_lb (w := v) T_75_64 (fun h => absurd h.2 (by decide)) ((div64_n (by omega) (by decide)).trans (Int.ediv_one v)) ?_
      refine x_lc T_75_65 ?_
      refine x_lb (w := (v % 10)) T_75_68 (fun h => absurd h.2 (by decide)) (rem64_n (by omega) (by decide)) ?_
      refine x_lb (w := (48 + v % 10)) T_75_69 (fun h => absurd h.1 (by decide)) (w64_id (by omega) (by omega)) ?_
      refine x_l2i (w := (48 + v % 10)) T_75_70 (w32_id (by omega) (by omega)) ?_
      refine x_i2b (w := (sb8 (48 + v % 10))) T_75_71 rfl ?_
      refine z_aB (v := (sb8 (48 + v % 10))) hP T_75_72 (sb8_sb8 _) ha (by omega) (by omega) (fun σ hP => ?_)
      refine x_lr (z := some b) T_75_73 rfl ?_
      refine x_dupR T_75_74 ?_
      refine x_gI (z := z) T_75_75 (Or.inl F_2_1) (hP.o ho) (Eq.trans (Eq.trans (hP.gi ho (key := 2065) rfl) (rU_j (by omega))) h3) ?_
      refine x_ic T_75_78 ?_
      refine x_ib (w := (z + 1)) T_75_79 (fun h => absurd h.1 (by decide)) (w32_id (by omega) (by omega)) ?_
      refine z_pI hP T_75_80 F_2_1 ho (key := 2065) rfl (fun σ hP => ?_)
      refine x_ll (z := 1) T_75_83 rfl ?_
      refine x_lc T_75_84 ?_
      refine x_lb (w := 0) T_75_87 (fun h => absurd h.2 (by decide)) (by decide) ?_
      refine x_sl (ls1 := [some (vR (some b)), some (vL v), none, some (vL 0), none, some (vL r), none]) T_75_88 rfl ?_
      refine x_goto T_75_89 ?_
      refine x_ll (z := 0) T_75_33 rfl ?_
      refine x_lc T_75_34 ?_
      refine x_lif T_75_35 T_75_36 (fun _ => ?_) (fun h => absurd (show (0 : Int) ≤ 0 by decide) h)
      refine x_rv T_75_92 ?_
      exact hfin σ hP
    · exact full 0 l W σ hk hP hB hF hl
  | succ k ih =>
    intro l W σ hk hP hB hF
    by_cases hl : l.length < n
    · obtain ⟨ho, ha, hn, h3, h4, h5, h6⟩ := id hB
      obtain ⟨z, hz⟩ : ∃ z : Int, (l.length : Int) = z := ⟨_, rfl⟩
      obtain ⟨N, hN⟩ : ∃ N : Int, (n : Int) = N := ⟨_, rfl⟩
      rw [hz] at h3
      have hp1 : (10 : Int) ^ (k + 1) ≤ 10 ^ 18 := pow10_le (by omega)
      have e18 : (10 : Int) ^ 18 = 1000000000000000000 := by decide
      have hp0 : (0 : Int) < 10 ^ (k + 1) := Int.pow_pos (by decide)
      have e1 : (10 : Int) ^ (k + 1) = 10 * 10 ^ k := by rw [Int.pow_succ, Int.mul_comm]
      have hgo := fun (l : List Int) (W : qR) (σ : hM) => ih l W σ (by omega)
      rw [show dcL v (k + 1) = [48 + v / 10 ^ (k + 1) % 10] ++ dcL v k from rfl, ← List.append_assoc]
      obtain ⟨u0, hu0⟩ : ∃ u0 : Int, 10 ^ k = u0 := ⟨_, rfl⟩
      obtain ⟨u, hu⟩ : ∃ u : Int, 10 ^ (k + 1) = u := ⟨_, rfl⟩
      rw [hu0] at e1 hgo
      rw [hu] at e1 hp1 hp0 ⊢
      have hq : 0 ≤ v / u := Int.ediv_nonneg hv.1 (by omega)
      have hq1 : v / u ≤ v := Int.ediv_le_self u hv.1
      obtain ⟨y, hy⟩ : ∃ y, v / u = y := ⟨_, rfl⟩
      rw [hy] at hq hq1 ⊢
      have hm := Int.emod_nonneg y (show (10 : Int) ≠ 0 by decide)
      have hm2 := Int.emod_lt_of_pos y (show (0 : Int) < 10 by decide)
      have hgo := fun (σ : hM) (hP : PX σ0 (rU (rU W (b + 1) z (sb8 (48 + y % 10))) b 2065 (z + 1)) R σ) => hgo (l ++ [48 + y % 10]) _ σ hP (hB.more hz (by omega) (by omega) rfl) (FB_tr hF (FB_put (by omega)))
      refine x_ll (z := u) T_75_33 rfl ?_
      refine x_lc T_75_34 ?_
      refine x_lif T_75_35 T_75_36 (fun h => absurd (show u ≤ 0 from h) (by omega)) (fun _ => ?_)
      refine x_lr (z := some b) T_75_39 rfl ?_
      refine x_gI (z := z) T_75_40 (Or.inl F_2_1) (hP.o ho) (Eq.trans (hP.gi ho (key := 2065) rfl) h3) ?_
      refine x_lr (z := some b) T_75_43 rfl ?_
      refine x_gR (z := some (b + 1)) T_75_44 F_2_0 (hP.o ho) (hP.rc ho rfl rfl) ?_
      refine x_len (len := n) T_75_47 (hP.ta ha) ?_
      rw [hN]
      refine x_ic2 T_75_48 (fun h => absurd (show N ≤ z from h) (by omega)) (fun _ => ?_)
      refine x_lr (z := some b) T_75_51 rfl ?_
      refine x_gR (z := some (b + 1)) T_75_52 F_2_0 (hP.o ho) (hP.rc ho rfl rfl) ?_
      refine x_lr (z := some b) T_75_55 rfl ?_
      refine x_gI (z := z) T_75_56 (Or.inl F_2_1) (hP.o ho) (Eq.trans (hP.gi ho (key := 2065) rfl) h3) ?_
      refine x_lc T_75_59 ?_
      refine x_ll (z := v) T_75_62 rfl ?_
      refine x_ll (z := u) T_75_63 rfl ?_
      refine x_lb (w := y) T_75_64 (by omega) ((div64_n (by omega) (by omega)).trans hy) ?_
      refine x_lc T_75_65 ?_
      refine x_lb (w := (y % 10)) T_75_68 (fun h => absurd h.2 (by decide)) (rem64_n (by omega) (by decide)) ?_
      refine x_lb (w := (48 + y % 10)) T_75_69 (fun h => absurd h.1 (by decide)) (w64_id (by omega) (by omega)) ?_
      refine x_l2i (w := (48 + y % 10)) T_75_70 (w32_id (by omega) (by omega)) ?_
      refine x_i2b (w := (sb8 (48 + y % 10))) T_75_71 rfl ?_
      refine z_aB (v := (sb8 (48 + y % 10))) hP T_75_72 (sb8_sb8 _) ha (by omega) (by omega) (fun σ hP => ?_)
      refine x_lr (z := some b) T_75_73 rfl ?_
      refine x_dupR T_75_74 ?_
      refine x_gI (z := z) T_75_75 (Or.inl F_2_1) (hP.o ho) (Eq.trans (Eq.trans (hP.gi ho (key := 2065) rfl) (rU_j (by omega))) h3) ?_
      refine x_ic T_75_78 ?_
      refine x_ib (w := (z + 1)) T_75_79 (fun h => absurd h.1 (by decide)) (w32_id (by omega) (by omega)) ?_
      refine z_pI hP T_75_80 F_2_1 ho (key := 2065) rfl (fun σ hP => ?_)
      refine x_ll (z := u) T_75_83 rfl ?_
      refine x_lc T_75_84 ?_
      refine x_lb (w := u0) T_75_87 (fun h => absurd h.2 (by decide)) ((div64_n (by omega) (by decide)).trans (by omega)) ?_
      refine x_sl (ls1 := [some (vR (some b)), some (vL v), none, some (vL u0), none, some (vL r), none]) T_75_88 rfl ?_
      refine x_goto T_75_89 ?_
      exact hgo σ hP
    · exact full (k + 1) l W σ hk hP hB hF hl
theorem x_addNumber {v : Int} (hP : PX σ0 W R σ) (hB : BY W b n l) (hv : 0 ≤ v ∧ v < 1000000000000000000) : CL fb d 75 [vR (some b), vL v] σ (XB σ0 W R b n ((l ++ decL v).take n) none) := by
  have hl := ndF_le (v := v) 18 0
  have hgo := x_unit (fb := fb) (d := d) (b := b) (σ := σ) hv (fun r => x_digit (r := r) hv (ndF v 18 0) l W σ (by omega) hP hB FB_rfl) 18 0 (by decide) rfl
  rw [show v / (10 : Int) ^ (0 + 1) = v / 10 from rfl] at hgo
  have hgo : WP fb d 75 9 [some (vR (some b)), some (vL v), none, some (vL 1), none, some (vL (v / 10)), none] [] σ _ := hgo
  refine CL_in mL_75 rfl ?_
  show WP fb _ 75 0 [some (vR (some b)), some (vL v), none, none, none, none, none] [] σ _
  refine x_lc T_75_0 ?_
  refine x_sl (ls1 := [some (vR (some b)), some (vL v), none, some (vL 1), none, none, none]) T_75_1 rfl ?_
  refine x_ll (z := v) T_75_2 rfl ?_
  refine x_lc T_75_3 ?_
  refine x_lb (w := (v / 10)) T_75_6 (fun h => absurd h.2 (by decide)) (div64_n (by omega) (by decide)) ?_
  refine x_sl (ls1 := [some (vR (some b)), some (vL v), none, some (vL 1), none, some (vL (v / 10)), none]) T_75_7 rfl ?_
  exact hgo
end XBY6
