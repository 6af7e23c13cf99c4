/-! The class's commands: set, exit. -/
theorem T_103_0 : hTab 103 0 = some ((3, 0, 2, []), 1) := rfl
theorem T_103_1 : hTab 103 1 = some ((24, 16, Int.ofNat 0, []), 4) := rfl
theorem T_103_4 : hTab 103 4 = some ((3, 0, 2, []), 5) := rfl
theorem T_103_5 : hTab 103 5 = some ((3, 1, 0, []), 6) := rfl
theorem T_103_6 : hTab 103 6 = some ((31, 104, 0, []), 9) := rfl
theorem T_103_9 : hTab 103 9 = some ((31, 33, 0, []), 12) := rfl
theorem T_103_12 : hTab 103 12 = some ((0, 0, 97, []), 14) := rfl
theorem T_103_14 : hTab 103 14 = some ((10, 1, 0, []), 15) := rfl
theorem T_103_15 : hTab 103 15 = some ((4, 2, 0, []), 16) := rfl
theorem T_103_16 : hTab 103 16 = some ((3, 0, 2, []), 17) := rfl
theorem T_103_17 : hTab 103 17 = some ((3, 1, 0, []), 18) := rfl
theorem T_103_18 : hTab 103 18 = some ((31, 105, 0, []), 21) := rfl
theorem T_103_21 : hTab 103 21 = some ((0, 0, 1, []), 22) := rfl
theorem T_103_22 : hTab 103 22 = some ((19, 1, Int.ofNat 39, []), 25) := rfl
theorem T_103_25 : hTab 103 25 = some ((3, 2, 0, []), 26) := rfl
theorem T_103_26 : hTab 103 26 = some ((18, 2, Int.ofNat 39, []), 29) := rfl
theorem T_103_29 : hTab 103 29 = some ((3, 2, 0, []), 30) := rfl
theorem T_103_30 : hTab 103 30 = some ((0, 0, 26, []), 32) := rfl
theorem T_103_32 : hTab 103 32 = some ((19, 3, Int.ofNat 39, []), 35) := rfl
theorem T_103_35 : hTab 103 35 = some ((3, 2, 0, []), 36) := rfl
theorem T_103_36 : hTab 103 36 = some ((22, 0, Int.ofNat 40, []), 39) := rfl
theorem T_103_39 : hTab 103 39 = some ((0, 0, (-1), []), 40) := rfl
theorem T_103_40 : hTab 103 40 = some ((33, 1, 0, []), 41) := rfl
theorem T_194_0 : hTab 194 0 = some ((3, 2, 2, []), 1) := rfl
theorem T_194_1 : hTab 194 1 = some ((24, 16, Int.ofNat 4, []), 4) := rfl
theorem T_194_4 : hTab 194 4 = some ((0, 0, 1, []), 5) := rfl
theorem T_194_5 : hTab 194 5 = some ((19, 0, Int.ofNat 11, []), 8) := rfl
theorem T_194_11 : hTab 194 11 = some ((3, 1, 2, []), 12) := rfl
theorem T_194_12 : hTab 194 12 = some ((0, 0, 1, []), 13) := rfl
theorem T_194_13 : hTab 194 13 = some ((25, 6, Int.ofNat 6, []), 16) := rfl
theorem T_194_16 : hTab 194 16 = some ((0, 0, 0, []), 17) := rfl
theorem T_194_17 : hTab 194 17 = some ((33, 1, 0, []), 18) := rfl
theorem T_195_0 : hTab 195 0 = some ((3, 1, 2, []), 1) := rfl
theorem T_195_1 : hTab 195 1 = some ((3, 2, 2, []), 2) := rfl
theorem T_195_2 : hTab 195 2 = some ((0, 0, 1, []), 3) := rfl
theorem T_195_3 : hTab 195 3 = some ((31, 103, 0, []), 6) := rfl
theorem T_195_6 : hTab 195 6 = some ((31, 107, 0, []), 9) := rfl
theorem T_195_9 : hTab 195 9 = some ((4, 3, 2, []), 10) := rfl
theorem T_195_10 : hTab 195 10 = some ((3, 2, 2, []), 11) := rfl
theorem T_195_11 : hTab 195 11 = some ((24, 16, Int.ofNat 4, []), 14) := rfl
theorem T_195_14 : hTab 195 14 = some ((0, 0, 2, []), 15) := rfl
theorem T_195_15 : hTab 195 15 = some ((19, 2, Int.ofNat 40, []), 18) := rfl
theorem T_195_18 : hTab 195 18 = some ((3, 2, 2, []), 19) := rfl
theorem T_195_19 : hTab 195 19 = some ((24, 16, Int.ofNat 4, []), 22) := rfl
theorem T_195_22 : hTab 195 22 = some ((0, 0, 3, []), 23) := rfl
theorem T_195_23 : hTab 195 23 = some ((19, 4, Int.ofNat 40, []), 26) := rfl
theorem T_195_26 : hTab 195 26 = some ((3, 3, 2, []), 27) := rfl
theorem T_195_27 : hTab 195 27 = some ((20, 0, Int.ofNat 40, []), 30) := rfl
theorem T_195_30 : hTab 195 30 = some ((3, 2, 2, []), 31) := rfl
theorem T_195_31 : hTab 195 31 = some ((0, 0, 2, []), 32) := rfl
theorem T_195_32 : hTab 195 32 = some ((31, 105, 0, []), 35) := rfl
theorem T_195_35 : hTab 195 35 = some ((0, 0, 20, []), 37) := rfl
theorem T_195_37 : hTab 195 37 = some ((19, 5, Int.ofNat 43, []), 40) := rfl
theorem T_195_40 : hTab 195 40 = some ((0, 0, 18, []), 42) := rfl
theorem T_195_42 : hTab 195 42 = some ((33, 1, 0, []), 43) := rfl
theorem T_195_43 : hTab 195 43 = some ((3, 3, 2, []), 44) := rfl
theorem T_195_44 : hTab 195 44 = some ((3, 2, 2, []), 45) := rfl
theorem T_195_45 : hTab 195 45 = some ((24, 16, Int.ofNat 0, []), 48) := rfl
theorem T_195_48 : hTab 195 48 = some ((3, 2, 2, []), 49) := rfl
theorem T_195_49 : hTab 195 49 = some ((0, 0, 2, []), 50) := rfl
theorem T_195_50 : hTab 195 50 = some ((31, 104, 0, []), 53) := rfl
theorem T_195_53 : hTab 195 53 = some ((3, 2, 2, []), 54) := rfl
theorem T_195_54 : hTab 195 54 = some ((0, 0, 2, []), 55) := rfl
theorem T_195_55 : hTab 195 55 = some ((31, 106, 0, []), 58) := rfl
theorem T_195_58 : hTab 195 58 = some ((31, 31, 0, []), 61) := rfl
theorem T_195_61 : hTab 195 61 = some ((7, 0, 0, []), 62) := rfl
theorem T_195_62 : hTab 195 62 = some ((0, 0, 0, []), 63) := rfl
theorem T_195_63 : hTab 195 63 = some ((33, 1, 0, []), 64) := rfl
theorem mN_103 : hmN 103 = 2 := by decide +kernel
theorem mL_103 : hmL 103 = 3 := by decide +kernel
theorem mK_103 : hmK 103 = 1 := by decide +kernel
theorem mO_103 : hmO 103 = 16 := by decide +kernel
theorem mN_194 : hmN 194 = 3 := by decide +kernel
theorem mL_194 : hmL 194 = 3 := by decide +kernel
theorem mK_194 : hmK 194 = 1 := by decide +kernel
theorem mO_194 : hmO 194 = 14 := by decide +kernel
theorem mN_195 : hmN 195 = 3 := by decide +kernel
theorem mL_195 : hmL 195 = 4 := by decide +kernel
theorem mK_195 : hmK 195 = 1 := by decide +kernel
theorem mO_195 : hmO 195 = 14 := by decide +kernel
section XSET
variable {fb : Bool} {d b q m k c n : Nat} {σ0 σ : hM} {W W0 W1 W2 W3 P Q : qR} {R R1 R2 : rR} {i j x z v s e w p p2 o g K T U N : Int} {l l0 lo nm raw pre wd M ord : List Int}
theorem x_variableAt (hP : PX σ0 W R σ) (h : CMD W k l) (hw : 0 ≤ w ∧ w < ((lnW l).length : Int)) : CL fb (d + 2) 103 [vR (some k), vI w] σ (rP (if 0 ≤ vaN (lnB l w) ∧ vaN (lnB l w) ≤ 25 then vaN (lnB l w) else -1) σ) := by
  obtain ⟨-, a, e, ha, he, h1, h2, h3, h4⟩ := h.word hw
  have hB := h.2.2.2.1
  have hl := hB.2.2.2.2.1
  have hso := x_startOf (fb := fb) (d := d + 1) hP h hw ha
  have hle := x_lengthOf (fb := fb) (d := d) hP h hw rfl
  have hat := x_at (fb := fb) (d := d + 1) (i := a) hP hB
  rw [if_pos ⟨h1, by omega⟩] at hat
  have h0 : lg (lnB l w) 0 = lg l a := by rw [h4, lg_seg _ _ _ _ (by decide) (by omega), Int.add_zero]
  have hv : vaN (lnB l w) = if ((lnB l w).length : Int) = 1 then lg l a - 97 else -1 := by rw [← h0]; rfl
  have hb := hB.2.2.2.2.2.1 a h1
  obtain ⟨u, hu⟩ : ∃ q, lg l a = q := ⟨_, rfl⟩
  rw [hu] at hat hv hb
  obtain ⟨z, hz⟩ : ∃ q : Int, ((lnB l w).length : Int) = q := ⟨_, rfl⟩
  rw [hz] at hle hv
  by_cases q1 : z = 1
  · rw [if_pos q1] at hv
    rw [hv]
    by_cases q2 : u - 97 < 0
    · rw [if_neg (by omega)]
      refine CL_in mL_103 rfl ?_
      show WP fb _ 103 0 [some (vR (some k)), some (vI w), none] [] σ _
      refine x_lr (z := some k) T_103_0 rfl ?_
      refine x_gR (z := some (k + 1)) T_103_1 F_16_0 (hP.o h.1) (hP.rc h.1 rfl rfl) ?_
      refine x_lr (z := some k) T_103_4 rfl ?_
      refine x_li (z := w) T_103_5 rfl ?_
      refine x_cv2 T_103_6 mN_104 mL_104 (Nat.le_of_ble_eq_true rfl) mO_104 (hP.o h.1) (Nat.le_of_ble_eq_true rfl) (hso) ?_
      rintro _ σ ⟨rfl, rfl⟩
      refine cI ?_
      refine x_cv2 T_103_9 mN_33 mL_33 (Nat.le_of_ble_eq_true rfl) mO_33 (hP.o hB.1) (Nat.le_of_ble_eq_true rfl) (hat) ?_
      rintro _ σ ⟨rfl, rfl⟩
      refine cI ?_
      refine x_ic T_103_12 ?_
      refine x_ib (w := (u - 97)) T_103_14 (fun h => absurd h.1 (by decide)) (w32_id (by omega) (by omega)) ?_
      refine x_si (ls1 := [some (vR (some k)), some (vI w), some (vI (u - 97))]) T_103_15 rfl ?_
      refine x_lr (z := some k) T_103_16 rfl ?_
      refine x_li (z := w) T_103_17 rfl ?_
      refine x_cv2 T_103_18 mN_105 mL_105 (Nat.le_of_ble_eq_true rfl) mO_105 (hP.o h.1) (Nat.le_of_ble_eq_true rfl) (hle) ?_
      rintro _ σ ⟨rfl, rfl⟩
      refine cI ?_
      refine x_ic T_103_21 ?_
      refine x_ic2 T_103_22 (fun h => absurd (show ¬ z = 1 from h) (by omega)) (fun _ => ?_)
      refine x_li (z := (u - 97)) T_103_25 rfl ?_
      refine x_if T_103_26 (fun _ => ?_) (fun h => absurd (show (u - 97) < 0 by omega) h)
      refine x_ic T_103_39 ?_
      refine x_ri T_103_40 ?_
      exact ⟨rfl, rfl⟩
    · by_cases q3 : 26 ≤ u - 97
      · rw [if_neg (by omega)]
        refine CL_in mL_103 rfl ?_
        show WP fb _ 103 0 [some (vR (some k)), some (vI w), none] [] σ _
        refine x_lr (z := some k) T_103_0 rfl ?_
        refine x_gR (z := some (k + 1)) T_103_1 F_16_0 (hP.o h.1) (hP.rc h.1 rfl rfl) ?_
        refine x_lr (z := some k) T_103_4 rfl ?_
        refine x_li (z := w) T_103_5 rfl ?_
        refine x_cv2 T_103_6 mN_104 mL_104 (Nat.le_of_ble_eq_true rfl) mO_104 (hP.o h.1) (Nat.le_of_ble_eq_true rfl) (hso) ?_
        rintro _ σ ⟨rfl, rfl⟩
        refine cI ?_
        refine x_cv2 T_103_9 mN_33 mL_33 (Nat.le_of_ble_eq_true rfl) mO_33 (hP.o hB.1) (Nat.le_of_ble_eq_true rfl) (hat) ?_
        rintro _ σ ⟨rfl, rfl⟩
        refine cI ?_
        refine x_ic T_103_12 ?_
        refine x_ib (w := (u - 97)) T_103_14 (fun h => absurd h.1 (by decide)) (w32_id (by omega) (by omega)) ?_
        refine x_si (ls1 := [some (vR (some k)), some (vI w), some (vI (u - 97))]) T_103_15 rfl ?_
        refine x_lr (z := some k) T_103_16 rfl ?_
        refine x_li (z := w) T_103_17 rfl ?_
        refine x_cv2 T_103_18 mN_105 mL_105 (Nat.le_of_ble_eq_true rfl) mO_105 (hP.o h.1) (Nat.le_of_ble_eq_true rfl) (hle) ?_
        rintro _ σ ⟨rfl, rfl⟩
        refine cI ?_
        refine x_ic T_103_21 ?_
        refine x_ic2 T_103_22 (fun h => absurd (show ¬ z = 1 from h) (by omega)) (fun _ => ?_)
        refine x_li (z := (u - 97)) T_103_25 rfl ?_
        refine x_if T_103_26 (fun h => absurd (show (u - 97) < 0 from h) (by omega)) (fun _ => ?_)
        refine x_li (z := (u - 97)) T_103_29 rfl ?_
        refine x_ic T_103_30 ?_
        refine x_ic2 T_103_32 (fun _ => ?_) (fun h => absurd (show 26 ≤ (u - 97) by omega) h)
        refine x_ic T_103_39 ?_
        refine x_ri T_103_40 ?_
        exact ⟨rfl, rfl⟩
      · rw [if_pos (by omega)]
        refine CL_in mL_103 rfl ?_
        show WP fb _ 103 0 [some (vR (some k)), some (vI w), none] [] σ _
        refine x_lr (z := some k) T_103_0 rfl ?_
        refine x_gR (z := some (k + 1)) T_103_1 F_16_0 (hP.o h.1) (hP.rc h.1 rfl rfl) ?_
        refine x_lr (z := some k) T_103_4 rfl ?_
        refine x_li (z := w) T_103_5 rfl ?_
        refine x_cv2 T_103_6 mN_104 mL_104 (Nat.le_of_ble_eq_true rfl) mO_104 (hP.o h.1) (Nat.le_of_ble_eq_true rfl) (hso) ?_
        rintro _ σ ⟨rfl, rfl⟩
        refine cI ?_
        refine x_cv2 T_103_9 mN_33 mL_33 (Nat.le_of_ble_eq_true rfl) mO_33 (hP.o hB.1) (Nat.le_of_ble_eq_true rfl) (hat) ?_
        rintro _ σ ⟨rfl, rfl⟩
        refine cI ?_
        refine x_ic T_103_12 ?_
        refine x_ib (w := (u - 97)) T_103_14 (fun h => absurd h.1 (by decide)) (w32_id (by omega) (by omega)) ?_
        refine x_si (ls1 := [some (vR (some k)), some (vI w), some (vI (u - 97))]) T_103_15 rfl ?_
        refine x_lr (z := some k) T_103_16 rfl ?_
        refine x_li (z := w) T_103_17 rfl ?_
        refine x_cv2 T_103_18 mN_105 mL_105 (Nat.le_of_ble_eq_true rfl) mO_105 (hP.o h.1) (Nat.le_of_ble_eq_true rfl) (hle) ?_
        rintro _ σ ⟨rfl, rfl⟩
        refine cI ?_
        refine x_ic T_103_21 ?_
        refine x_ic2 T_103_22 (fun h => absurd (show ¬ z = 1 from h) (by omega)) (fun _ => ?_)
        refine x_li (z := (u - 97)) T_103_25 rfl ?_
        refine x_if T_103_26 (fun h => absurd (show (u - 97) < 0 from h) (by omega)) (fun _ => ?_)
        refine x_li (z := (u - 97)) T_103_29 rfl ?_
        refine x_ic T_103_30 ?_
        refine x_ic2 T_103_32 (fun h => absurd (show 26 ≤ (u - 97) from h) (by omega)) (fun _ => ?_)
        refine x_li (z := (u - 97)) T_103_35 rfl ?_
        refine x_goto T_103_36 ?_
        refine x_ri T_103_40 ?_
        exact ⟨rfl, rfl⟩
  · rw [if_neg q1] at hv
    rw [hv, if_neg (by decide)]
    refine CL_in mL_103 rfl ?_
    show WP fb _ 103 0 [some (vR (some k)), some (vI w), none] [] σ _
    refine x_lr (z := some k) T_103_0 rfl ?_
    refine x_gR (z := some (k + 1)) T_103_1 F_16_0 (hP.o h.1) (hP.rc h.1 rfl rfl) ?_
    refine x_lr (z := some k) T_103_4 rfl ?_
    refine x_li (z := w) T_103_5 rfl ?_
    refine x_cv2 T_103_6 mN_104 mL_104 (Nat.le_of_ble_eq_true rfl) mO_104 (hP.o h.1) (Nat.le_of_ble_eq_true rfl) (hso) ?_
    rintro _ σ ⟨rfl, rfl⟩
    refine cI ?_
    refine x_cv2 T_103_9 mN_33 mL_33 (Nat.le_of_ble_eq_true rfl) mO_33 (hP.o hB.1) (Nat.le_of_ble_eq_true rfl) (hat) ?_
    rintro _ σ ⟨rfl, rfl⟩
    refine cI ?_
    refine x_ic T_103_12 ?_
    refine x_ib (w := (u - 97)) T_103_14 (fun h => absurd h.1 (by decide)) (w32_id (by omega) (by omega)) ?_
    refine x_si (ls1 := [some (vR (some k)), some (vI w), some (vI (u - 97))]) T_103_15 rfl ?_
    refine x_lr (z := some k) T_103_16 rfl ?_
    refine x_li (z := w) T_103_17 rfl ?_
    refine x_cv2 T_103_18 mN_105 mL_105 (Nat.le_of_ble_eq_true rfl) mO_105 (hP.o h.1) (Nat.le_of_ble_eq_true rfl) (hle) ?_
    rintro _ σ ⟨rfl, rfl⟩
    refine cI ?_
    refine x_ic T_103_21 ?_
    refine x_ic2 T_103_22 (fun _ => ?_) (fun h => absurd (show ¬ z = 1 by omega) h)
    refine x_ic T_103_39 ?_
    refine x_ri T_103_40 ?_
    exact ⟨rfl, rfl⟩
theorem FCM_fb (h : FB b W W2) (hb : b + 1 < 2187) : FCM W W2 R R := ⟨fun x k _ _ _ => h x k (by omega) (by omega), fun _ _ _ => rfl⟩
theorem x_set (hP : PX σ0 W R σ) (hX : XW K T U W R P) (hp : 0 ≤ p ∧ p < 8) (hlv : ¬ P 2320 p = 0) (hC : CMD W k l) (hN : ((lnW l).length : Int) = N) (hw : N = 2 ∨ N = 3) : CL fb (d + 4) 195 [vR (some 2175), vR (some (prO p)), vR (some k)] σ (XCM σ0 K T U W R ((cSet P p l).1, (cSet P p l).2, [])) := by
  have hpo := prO_o hp
  have hrp := prO_rng hp
  have h5 := hC.2.2.2.2.1.trans hN
  have hk := hC.2.2.1
  have hB := hC.2.2.2.1
  have hll := hB.2.2.2.2.1
  have hva := x_variableAt (fb := fb) (d := d + 1) (w := 1) hP hC ⟨by decide, by omega⟩
  have hL := (hX.1.2.2.1.1 p hp.1 hp.2).2.2.2 hlv
  have hvo := fun (v : Int) => x_variableOf (fb := fb) (d := d + 3) (k := v) hP hp
  obtain ⟨wd, hwd⟩ : ∃ q : List Int, (if N = 3 then lnB l 2 else []) = q := ⟨_, rfl⟩
  have hse : ∃ a e : Int, (e ≤ a ∨ 0 ≤ a) ∧ e ≤ (l.length : Int) ∧ seg (lg l) a (e - a).toNat = wd ∧ (∀ z : Int, (wd.length : Int) = z → CL fb (d + 3) 105 [vR (some k), vI 2] σ (rP z σ)) ∧ CL fb (d + 3) 104 [vR (some k), vI 2] σ (rP a σ) ∧ CL fb (d + 3) 106 [vR (some k), vI 2] σ (rP e σ) := by
    rcases hw with rfl | rfl
    · rw [if_neg (by decide)] at hwd
      exact ⟨0, 0, Or.inl (by decide), by omega, hwd, fun z hz => by
        have hz0 : z = 0 := by rw [← hz, ← hwd]; rfl
        rw [hz0]
        exact x_lengthOf0 (fb := fb) (d := d + 2) hP hC (by omega) (by decide), x_startOf0 (fb := fb) (d := d + 3) hP hC (by omega) (by decide), x_endOf0 (fb := fb) (d := d + 3) hP hC (by omega) (by decide)⟩
    · rw [if_pos rfl] at hwd
      obtain ⟨-, a, e, ha, he, g1, g2, g3, g4⟩ := hC.word (w := 2) ⟨by decide, by omega⟩
      exact ⟨a, e, Or.inr g1, g3, by rw [← hwd, g4], fun z hz => x_lengthOf (fb := fb) (d := d + 2) hP hC ⟨by decide, by omega⟩ (by rw [hwd]; exact hz), x_startOf (fb := fb) (d := d + 3) hP hC ⟨by decide, by omega⟩ ha, x_endOf (fb := fb) (d := d + 3) hP hC ⟨by decide, by omega⟩ he⟩
  obtain ⟨a, e, g1, g2, g3, hle, hso, heo⟩ := hse
  have hwb : byt wd := by
    rw [← hwd]
    split
    · exact byt_lnB hB.2.2.2.2.2.1
    · exact byt_nil
  have eK : cSet P p l = if ¬ (0 ≤ vaN (lnB l 1) ∧ vaN (lnB l 1) ≤ 25) ∨ 20 < (wd.length : Int) then (18, P) else (0, gVar P p (vaN (lnB l 1)) wd) := by
    unfold cSet
    rw [hN, hwd]
    rcases hw with rfl | rfl
    · rw [if_neg (by decide)] at hwd
      by_cases qv : ¬ (0 ≤ vaN (lnB l 1) ∧ vaN (lnB l 1) ≤ 25)
      · rw [if_pos (Or.inl qv), if_pos (Or.inl qv)]
      · rw [if_neg (fun c => by rcases c with c | c; exact qv c; omega), if_neg (fun c => by rcases c with c | c; exact qv c; rw [← hwd] at c; exact absurd c (by decide))]
    · rw [if_pos rfl] at hwd
      rw [hwd]
      by_cases qv : ¬ (0 ≤ vaN (lnB l 1) ∧ vaN (lnB l 1) ≤ 25) ∨ 20 < (wd.length : Int)
      · rw [if_pos qv, if_pos (by omega)]
      · rw [if_neg qv, if_neg (by omega)]
  rw [eK]
  obtain ⟨v, hv⟩ : ∃ q, vaN (lnB l 1) = q := ⟨_, rfl⟩
  rw [hv] at hva ⊢
  obtain ⟨z, hz⟩ : ∃ q : Int, (wd.length : Int) = q := ⟨_, rfl⟩
  have hle := hle z hz
  rw [hz]
  obtain ⟨pr, hpr⟩ : ∃ q, prO p = q := ⟨_, rfl⟩
  by_cases q1 : 0 ≤ v ∧ v ≤ 25
  · rw [if_pos q1] at hva
    have hvo := hvo v
    rw [if_pos ⟨q1.1, by omega⟩] at hvo
    obtain ⟨vb, hvb⟩ : ∃ q, prO p + 7 + 2 * v.toNat = q := ⟨_, rfl⟩
    have hVB := hL.2.2.2.2.2 v q1.1 (by omega)
    have hfin := fun (W2 : qR) (hF : FB (prO p + 7 + 2 * v.toNat) W W2) (hB : BY W2 (prO p + 7 + 2 * v.toNat) 20 wd) (h20 : wd.length ≤ 20) => hX.var hp ⟨q1.1, by omega⟩ h20 hwb hlv hF hB
    have hvb2 : vb + 1 < 2187 ∧ k + 1 ≠ vb := by omega
    rw [hvb] at hvo hVB hfin
    have hvt := hVB.1
    rw [hpr] at hvo hpo ⊢
    by_cases q2 : 20 < z
    · rw [if_pos (Or.inr q2)]
      rcases hw with rfl | rfl
      · skip
        refine CL_in mL_195 rfl ?_
        show WP fb _ 195 0 [some (vR (some 2175)), some (vR (some pr)), some (vR (some k)), none] [] σ _
        refine x_lr (z := some pr) T_195_0 rfl ?_
        refine x_lr (z := some k) T_195_1 rfl ?_
        refine x_ic T_195_2 ?_
        refine x_cv2 T_195_3 mN_103 mL_103 (Nat.le_of_ble_eq_true rfl) mO_103 (hP.o hC.1) (Nat.le_of_ble_eq_true rfl) (hva) ?_
        rintro _ σ ⟨rfl, rfl⟩
        refine cI ?_
        refine x_cv2 T_195_6 mN_107 mL_107 (Nat.le_of_ble_eq_true rfl) mO_107 (hP.o hpo) (Nat.le_of_ble_eq_true rfl) (hvo) ?_
        rintro _ σ ⟨rfl, rfl⟩
        refine cR ?_
        refine x_sr (ls1 := [some (vR (some 2175)), some (vR (some pr)), some (vR (some k)), some (vR (some vb))]) T_195_9 rfl ?_
        refine x_lr (z := some k) T_195_10 rfl ?_
        refine x_gI (z := 2) T_195_11 (Or.inl F_16_4) (hP.o hC.1) (Eq.trans (hP.gi hC.1 (key := 2516) rfl) h5) ?_
        refine x_ic T_195_14 ?_
        refine x_ic2 T_195_15 (fun h => absurd (show (2 : Int) < 2 from h) (by decide)) (fun _ => ?_)
        refine x_lr (z := some k) T_195_18 rfl ?_
        refine x_gI (z := 2) T_195_19 (Or.inl F_16_4) (hP.o hC.1) (Eq.trans (hP.gi hC.1 (key := 2516) rfl) h5) ?_
        refine x_ic T_195_22 ?_
        refine x_ic2 T_195_23 (fun h => absurd (show 3 < (2 : Int) from h) (by decide)) (fun _ => ?_)
        refine x_lr (z := some vb) T_195_26 rfl ?_
        refine x_nul T_195_27 (fun h0 => absurd h0 (by simp)) (fun _ _ => ?_)
        refine x_lr (z := some k) T_195_30 rfl ?_
        refine x_ic T_195_31 ?_
        refine x_cv2 T_195_32 mN_105 mL_105 (Nat.le_of_ble_eq_true rfl) mO_105 (hP.o hC.1) (Nat.le_of_ble_eq_true rfl) (hle) ?_
        rintro _ σ ⟨rfl, rfl⟩
        refine cI ?_
        refine x_ic T_195_35 ?_
        refine x_ic2 T_195_37 (fun h => absurd (show z ≤ 20 from h) (by omega)) (fun _ => ?_)
        refine x_ic T_195_40 ?_
        refine x_ri T_195_42 ?_
        exact ⟨rfl, W, R, hP, hX, FCM_rfl⟩
      · skip
        refine CL_in mL_195 rfl ?_
        show WP fb _ 195 0 [some (vR (some 2175)), some (vR (some pr)), some (vR (some k)), none] [] σ _
        refine x_lr (z := some pr) T_195_0 rfl ?_
        refine x_lr (z := some k) T_195_1 rfl ?_
        refine x_ic T_195_2 ?_
        refine x_cv2 T_195_3 mN_103 mL_103 (Nat.le_of_ble_eq_true rfl) mO_103 (hP.o hC.1) (Nat.le_of_ble_eq_true rfl) (hva) ?_
        rintro _ σ ⟨rfl, rfl⟩
        refine cI ?_
        refine x_cv2 T_195_6 mN_107 mL_107 (Nat.le_of_ble_eq_true rfl) mO_107 (hP.o hpo) (Nat.le_of_ble_eq_true rfl) (hvo) ?_
        rintro _ σ ⟨rfl, rfl⟩
        refine cR ?_
        refine x_sr (ls1 := [some (vR (some 2175)), some (vR (some pr)), some (vR (some k)), some (vR (some vb))]) T_195_9 rfl ?_
        refine x_lr (z := some k) T_195_10 rfl ?_
        refine x_gI (z := 3) T_195_11 (Or.inl F_16_4) (hP.o hC.1) (Eq.trans (hP.gi hC.1 (key := 2516) rfl) h5) ?_
        refine x_ic T_195_14 ?_
        refine x_ic2 T_195_15 (fun h => absurd (show (3 : Int) < 2 from h) (by decide)) (fun _ => ?_)
        refine x_lr (z := some k) T_195_18 rfl ?_
        refine x_gI (z := 3) T_195_19 (Or.inl F_16_4) (hP.o hC.1) (Eq.trans (hP.gi hC.1 (key := 2516) rfl) h5) ?_
        refine x_ic T_195_22 ?_
        refine x_ic2 T_195_23 (fun h => absurd (show 3 < (3 : Int) from h) (by decide)) (fun _ => ?_)
        refine x_lr (z := some vb) T_195_26 rfl ?_
        refine x_nul T_195_27 (fun h0 => absurd h0 (by simp)) (fun _ _ => ?_)
        refine x_lr (z := some k) T_195_30 rfl ?_
        refine x_ic T_195_31 ?_
        refine x_cv2 T_195_32 mN_105 mL_105 (Nat.le_of_ble_eq_true rfl) mO_105 (hP.o hC.1) (Nat.le_of_ble_eq_true rfl) (hle) ?_
        rintro _ σ ⟨rfl, rfl⟩
        refine cI ?_
        refine x_ic T_195_35 ?_
        refine x_ic2 T_195_37 (fun h => absurd (show z ≤ 20 from h) (by omega)) (fun _ => ?_)
        refine x_ic T_195_40 ?_
        refine x_ri T_195_42 ?_
        exact ⟨rfl, W, R, hP, hX, FCM_rfl⟩
    · rw [if_neg (by omega)]
      have hta := x_take (fb := fb) (d := d + 2) (s := a) (e := e) hP hVB hB hvb2.2 g1 g2
      have e20 : (seg (lg l) a (e - a).toNat).take 20 = wd := by rw [g3, List.take_of_length_le (by omega)]
      rw [e20] at hta
      obtain ⟨r1, hr1⟩ : ∃ q : Int, (if (e - a).toNat ≤ 20 then 1 else 0) = q := ⟨_, rfl⟩
      rw [hr1] at hta
      rcases hw with rfl | rfl
      · skip
        refine CL_in mL_195 rfl ?_
        show WP fb _ 195 0 [some (vR (some 2175)), some (vR (some pr)), some (vR (some k)), none] [] σ _
        refine x_lr (z := some pr) T_195_0 rfl ?_
        refine x_lr (z := some k) T_195_1 rfl ?_
        refine x_ic T_195_2 ?_
        refine x_cv2 T_195_3 mN_103 mL_103 (Nat.le_of_ble_eq_true rfl) mO_103 (hP.o hC.1) (Nat.le_of_ble_eq_true rfl) (hva) ?_
        rintro _ σ ⟨rfl, rfl⟩
        refine cI ?_
        refine x_cv2 T_195_6 mN_107 mL_107 (Nat.le_of_ble_eq_true rfl) mO_107 (hP.o hpo) (Nat.le_of_ble_eq_true rfl) (hvo) ?_
        rintro _ σ ⟨rfl, rfl⟩
        refine cR ?_
        refine x_sr (ls1 := [some (vR (some 2175)), some (vR (some pr)), some (vR (some k)), some (vR (some vb))]) T_195_9 rfl ?_
        refine x_lr (z := some k) T_195_10 rfl ?_
        refine x_gI (z := 2) T_195_11 (Or.inl F_16_4) (hP.o hC.1) (Eq.trans (hP.gi hC.1 (key := 2516) rfl) h5) ?_
        refine x_ic T_195_14 ?_
        refine x_ic2 T_195_15 (fun h => absurd (show (2 : Int) < 2 from h) (by decide)) (fun _ => ?_)
        refine x_lr (z := some k) T_195_18 rfl ?_
        refine x_gI (z := 2) T_195_19 (Or.inl F_16_4) (hP.o hC.1) (Eq.trans (hP.gi hC.1 (key := 2516) rfl) h5) ?_
        refine x_ic T_195_22 ?_
        refine x_ic2 T_195_23 (fun h => absurd (show 3 < (2 : Int) from h) (by decide)) (fun _ => ?_)
        refine x_lr (z := some vb) T_195_26 rfl ?_
        refine x_nul T_195_27 (fun h0 => absurd h0 (by simp)) (fun _ _ => ?_)
        refine x_lr (z := some k) T_195_30 rfl ?_
        refine x_ic T_195_31 ?_
        refine x_cv2 T_195_32 mN_105 mL_105 (Nat.le_of_ble_eq_true rfl) mO_105 (hP.o hC.1) (Nat.le_of_ble_eq_true rfl) (hle) ?_
        rintro _ σ ⟨rfl, rfl⟩
        refine cI ?_
        refine x_ic T_195_35 ?_
        refine x_ic2 T_195_37 (fun _ => ?_) (fun h => absurd (show z ≤ 20 by omega) h)
        refine x_lr (z := some vb) T_195_43 rfl ?_
        refine x_lr (z := some k) T_195_44 rfl ?_
        refine x_gR (z := some (k + 1)) T_195_45 F_16_0 (hP.o hC.1) (hP.rc hC.1 rfl rfl) ?_
        refine x_lr (z := some k) T_195_48 rfl ?_
        refine x_ic T_195_49 ?_
        refine x_cv2 T_195_50 mN_104 mL_104 (Nat.le_of_ble_eq_true rfl) mO_104 (hP.o hC.1) (Nat.le_of_ble_eq_true rfl) (hso) ?_
        rintro _ σ ⟨rfl, rfl⟩
        refine cI ?_
        refine x_lr (z := some k) T_195_53 rfl ?_
        refine x_ic T_195_54 ?_
        refine x_cv2 T_195_55 mN_106 mL_106 (Nat.le_of_ble_eq_true rfl) mO_106 (hP.o hC.1) (Nat.le_of_ble_eq_true rfl) (heo) ?_
        rintro _ σ ⟨rfl, rfl⟩
        refine cI ?_
        refine x_cv4 T_195_58 mN_31 mL_31 (Nat.le_of_ble_eq_true rfl) mO_31 (hP.o hvt) (Nat.le_of_ble_eq_true rfl) (hta) ?_
        clear hP hta
        rintro _ σ ⟨rfl, V, hP, hBV, hFV⟩
        refine cI ?_
        refine x_popI T_195_61 ?_
        refine x_ic T_195_62 ?_
        refine x_ri T_195_63 ?_
        exact ⟨rfl, V, R, hP, hfin V hFV hBV (by omega), FCM_fb hFV hvb2.1⟩
      · skip
        refine CL_in mL_195 rfl ?_
        show WP fb _ 195 0 [some (vR (some 2175)), some (vR (some pr)), some (vR (some k)), none] [] σ _
        refine x_lr (z := some pr) T_195_0 rfl ?_
        refine x_lr (z := some k) T_195_1 rfl ?_
        refine x_ic T_195_2 ?_
        refine x_cv2 T_195_3 mN_103 mL_103 (Nat.le_of_ble_eq_true rfl) mO_103 (hP.o hC.1) (Nat.le_of_ble_eq_true rfl) (hva) ?_
        rintro _ σ ⟨rfl, rfl⟩
        refine cI ?_
        refine x_cv2 T_195_6 mN_107 mL_107 (Nat.le_of_ble_eq_true rfl) mO_107 (hP.o hpo) (Nat.le_of_ble_eq_true rfl) (hvo) ?_
        rintro _ σ ⟨rfl, rfl⟩
        refine cR ?_
        refine x_sr (ls1 := [some (vR (some 2175)), some (vR (some pr)), some (vR (some k)), some (vR (some vb))]) T_195_9 rfl ?_
        refine x_lr (z := some k) T_195_10 rfl ?_
        refine x_gI (z := 3) T_195_11 (Or.inl F_16_4) (hP.o hC.1) (Eq.trans (hP.gi hC.1 (key := 2516) rfl) h5) ?_
        refine x_ic T_195_14 ?_
        refine x_ic2 T_195_15 (fun h => absurd (show (3 : Int) < 2 from h) (by decide)) (fun _ => ?_)
        refine x_lr (z := some k) T_195_18 rfl ?_
        refine x_gI (z := 3) T_195_19 (Or.inl F_16_4) (hP.o hC.1) (Eq.trans (hP.gi hC.1 (key := 2516) rfl) h5) ?_
        refine x_ic T_195_22 ?_
        refine x_ic2 T_195_23 (fun h => absurd (show 3 < (3 : Int) from h) (by decide)) (fun _ => ?_)
        refine x_lr (z := some vb) T_195_26 rfl ?_
        refine x_nul T_195_27 (fun h0 => absurd h0 (by simp)) (fun _ _ => ?_)
        refine x_lr (z := some k) T_195_30 rfl ?_
        refine x_ic T_195_31 ?_
        refine x_cv2 T_195_32 mN_105 mL_105 (Nat.le_of_ble_eq_true rfl) mO_105 (hP.o hC.1) (Nat.le_of_ble_eq_true rfl) (hle) ?_
        rintro _ σ ⟨rfl, rfl⟩
        refine cI ?_
        refine x_ic T_195_35 ?_
        refine x_ic2 T_195_37 (fun _ => ?_) (fun h => absurd (show z ≤ 20 by omega) h)
        refine x_lr (z := some vb) T_195_43 rfl ?_
        refine x_lr (z := some k) T_195_44 rfl ?_
        refine x_gR (z := some (k + 1)) T_195_45 F_16_0 (hP.o hC.1) (hP.rc hC.1 rfl rfl) ?_
        refine x_lr (z := some k) T_195_48 rfl ?_
        refine x_ic T_195_49 ?_
        refine x_cv2 T_195_50 mN_104 mL_104 (Nat.le_of_ble_eq_true rfl) mO_104 (hP.o hC.1) (Nat.le_of_ble_eq_true rfl) (hso) ?_
        rintro _ σ ⟨rfl, rfl⟩
        refine cI ?_
        refine x_lr (z := some k) T_195_53 rfl ?_
        refine x_ic T_195_54 ?_
        refine x_cv2 T_195_55 mN_106 mL_106 (Nat.le_of_ble_eq_true rfl) mO_106 (hP.o hC.1) (Nat.le_of_ble_eq_true rfl) (heo) ?_
        rintro _ σ ⟨rfl, rfl⟩
        refine cI ?_
        refine x_cv4 T_195_58 mN_31 mL_31 (Nat.le_of_ble_eq_true rfl) mO_31 (hP.o hvt) (Nat.le_of_ble_eq_true rfl) (hta) ?_
        clear hP hta
        rintro _ σ ⟨rfl, V, hP, hBV, hFV⟩
        refine cI ?_
        refine x_popI T_195_61 ?_
        refine x_ic T_195_62 ?_
        refine x_ri T_195_63 ?_
        exact ⟨rfl, V, R, hP, hfin V hFV hBV (by omega), FCM_fb hFV hvb2.1⟩
  · rw [if_neg q1] at hva
    have hvo := hvo (-1)
    rw [if_neg (by decide)] at hvo
    rw [if_pos (Or.inl q1)]
    rw [hpr] at hvo hpo ⊢
    rcases hw with rfl | rfl
    · skip
      refine CL_in mL_195 rfl ?_
      show WP fb _ 195 0 [some (vR (some 2175)), some (vR (some pr)), some (vR (some k)), none] [] σ _
      refine x_lr (z := some pr) T_195_0 rfl ?_
      refine x_lr (z := some k) T_195_1 rfl ?_
      refine x_ic T_195_2 ?_
      refine x_cv2 T_195_3 mN_103 mL_103 (Nat.le_of_ble_eq_true rfl) mO_103 (hP.o hC.1) (Nat.le_of_ble_eq_true rfl) (hva) ?_
      rintro _ σ ⟨rfl, rfl⟩
      refine cI ?_
      refine x_cv2 T_195_6 mN_107 mL_107 (Nat.le_of_ble_eq_true rfl) mO_107 (hP.o hpo) (Nat.le_of_ble_eq_true rfl) (hvo) ?_
      rintro _ σ ⟨rfl, rfl⟩
      refine cR ?_
      refine x_sr (ls1 := [some (vR (some 2175)), some (vR (some pr)), some (vR (some k)), some (vR none)]) T_195_9 rfl ?_
      refine x_lr (z := some k) T_195_10 rfl ?_
      refine x_gI (z := 2) T_195_11 (Or.inl F_16_4) (hP.o hC.1) (Eq.trans (hP.gi hC.1 (key := 2516) rfl) h5) ?_
      refine x_ic T_195_14 ?_
      refine x_ic2 T_195_15 (fun h => absurd (show (2 : Int) < 2 from h) (by decide)) (fun _ => ?_)
      refine x_lr (z := some k) T_195_18 rfl ?_
      refine x_gI (z := 2) T_195_19 (Or.inl F_16_4) (hP.o hC.1) (Eq.trans (hP.gi hC.1 (key := 2516) rfl) h5) ?_
      refine x_ic T_195_22 ?_
      refine x_ic2 T_195_23 (fun h => absurd (show 3 < (2 : Int) from h) (by decide)) (fun _ => ?_)
      refine x_lr (z := none) T_195_26 rfl ?_
      refine x_nul T_195_27 (fun _ => ?_) (fun a0 h0 => absurd h0 (by simp))
      refine x_ic T_195_40 ?_
      refine x_ri T_195_42 ?_
      exact ⟨rfl, W, R, hP, hX, FCM_rfl⟩
    · skip
      refine CL_in mL_195 rfl ?_
      show WP fb _ 195 0 [some (vR (some 2175)), some (vR (some pr)), some (vR (some k)), none] [] σ _
      refine x_lr (z := some pr) T_195_0 rfl ?_
      refine x_lr (z := some k) T_195_1 rfl ?_
      refine x_ic T_195_2 ?_
      refine x_cv2 T_195_3 mN_103 mL_103 (Nat.le_of_ble_eq_true rfl) mO_103 (hP.o hC.1) (Nat.le_of_ble_eq_true rfl) (hva) ?_
      rintro _ σ ⟨rfl, rfl⟩
      refine cI ?_
      refine x_cv2 T_195_6 mN_107 mL_107 (Nat.le_of_ble_eq_true rfl) mO_107 (hP.o hpo) (Nat.le_of_ble_eq_true rfl) (hvo) ?_
      rintro _ σ ⟨rfl, rfl⟩
      refine cR ?_
      refine x_sr (ls1 := [some (vR (some 2175)), some (vR (some pr)), some (vR (some k)), some (vR none)]) T_195_9 rfl ?_
      refine x_lr (z := some k) T_195_10 rfl ?_
      refine x_gI (z := 3) T_195_11 (Or.inl F_16_4) (hP.o hC.1) (Eq.trans (hP.gi hC.1 (key := 2516) rfl) h5) ?_
      refine x_ic T_195_14 ?_
      refine x_ic2 T_195_15 (fun h => absurd (show (3 : Int) < 2 from h) (by decide)) (fun _ => ?_)
      refine x_lr (z := some k) T_195_18 rfl ?_
      refine x_gI (z := 3) T_195_19 (Or.inl F_16_4) (hP.o hC.1) (Eq.trans (hP.gi hC.1 (key := 2516) rfl) h5) ?_
      refine x_ic T_195_22 ?_
      refine x_ic2 T_195_23 (fun h => absurd (show 3 < (3 : Int) from h) (by decide)) (fun _ => ?_)
      refine x_lr (z := none) T_195_26 rfl ?_
      refine x_nul T_195_27 (fun _ => ?_) (fun a0 h0 => absurd h0 (by simp))
      refine x_ic T_195_40 ?_
      refine x_ri T_195_42 ?_
      exact ⟨rfl, W, R, hP, hX, FCM_rfl⟩
/-- a process is to end -/
theorem XW.die (h : XW K T U W R P) (hp : 0 ≤ p ∧ p < 8) : XW K T U (rU W (prO p) 2198 1) R (rU P 2321 p 1) := by
  have hD := h.1.2.2.2.2.1
  have h6 := h.1.1.len7 hD.1
  obtain ⟨⟨⟨a1, a2, a3⟩, x2, x3, x4, x5, x6, x7⟩, l0, h0⟩ := h
  have hrp := prO_rng hp
  have hW : ∀ (x : Nat) (k : Int), ¬ (x = prO p ∧ k = 2198) → rU W (prO p) 2198 1 x k = W x k := fun x k hx => if_neg hx
  have hb : ∀ {b n : Nat} {l : List Int}, BY W b n l → BY (rU W (prO p) 2198 1) b n l := fun {b n l} h => h.key (by decide) (by decide)
  have r : RF [2321] (rU P 2321 p 1) P := fun f k hf => rU_f (fun e => by rw [e] at hf; exact absurd hf (by decide))
  refine ⟨⟨⟨fun s s0 s1 => ?_, a2.fv (hW 0 0 (by omega)) (hW 0 1 (by omega)) (fun _ => rfl), hb a3.1, hb a3.2.1, fun p2 p0 p1 => ?_⟩, ?_, x3.fr x4.iv (fun x k _ _ hk => hW x k (by omega)) (fun _ _ _ _ => rfl) (fun f k hf => rU_f (fun e => by rw [e] at hf; exact absurd hf (by decide))), GI_one (f := 2321) (ty := 2) (len := 8) x4 rfl (show (0 : Int) ≤ 1 ∧ (1 : Int) ≤ 1 by decide) rfl rfl rfl rfl rfl rfl rfl rfl rfl (by decide) (by decide), x5.rf (x5.1.rf r rfl rfl rfl rfl rfl rfl rfl rfl rfl rfl rfl rfl rfl rfl rfl) r rfl rfl rfl rfl, x6.fr (fun _ => rU_f (by decide)) (fun _ => rU_f (by decide)) (fun _ => rU_f (by decide)), x7.row (fun _ => rU_f (by decide)) (fun _ => rU_f (by decide))⟩, l0, hb h0⟩
  · obtain ⟨o, t, h⟩ := a1 s s0 s1
    exact ⟨o, t, (h.fr (fun x k _ _ => hW x k (by omega)) (fun _ _ _ _ => rfl) (fun _ c k _ _ _ q => hW c k (by omega)) (fun n q => h6 s n s0 q)).rest (fun f k _ _ a _ => rU_f a)⟩
  · by_cases q : p2 = p
    · subst q
      rw [show (295 + 125 * p2.toNat : Nat) = prO p2 from rfl, rU_s, rU_s]
    · have e1 : rU W (prO p) 2198 1 (295 + 125 * p2.toNat) 2198 = W (295 + 125 * p2.toNat) 2198 := hW _ _ (by have : prO p = 295 + 125 * p.toNat := rfl; omega)
      rw [e1, rU_k q]
      exact a3.2.2 p2 p0 p1
  · obtain ⟨m1, m2, m3⟩ := x2
    exact ⟨(hW _ _ (by omega)).trans (m1.trans (rU_f (by decide)).symm), (hW _ _ (by omega)).trans (m2.trans (rU_f (by decide)).symm), fun i i0 i1 => by
      rw [rU_f (show 2317 ≠ 2321 by decide), show rU P 2321 p 1 2316 = P 2316 from funext (fun k => rU_f (by decide))]
      exact ⟨(m3 i i0 i1).1, hb (m3 i i0 i1).2⟩⟩
theorem x_exit (hP : PX σ0 W R σ) (hX : XW K T U W R P) (hp : 0 ≤ p ∧ p < 8) (hC : CMD W k l) (hN : ((lnW l).length : Int) = 1) : CL fb d 194 [vR (some 2175), vR (some (prO p)), vR (some k)] σ (XCM σ0 K T U W R (0, rU P 2321 p 1, [])) := by
  have hpo := prO_o hp
  have hrp := prO_rng hp
  have h5 := hC.2.2.2.2.1.trans hN
  have hfin := hX.die hp
  obtain ⟨pr, hpr⟩ : ∃ q, prO p = q := ⟨_, rfl⟩
  rw [hpr] at hpo hfin hrp ⊢
  refine CL_in mL_194 rfl ?_
  show WP fb _ 194 0 [some (vR (some 2175)), some (vR (some pr)), some (vR (some k))] [] σ _
  refine x_lr (z := some k) T_194_0 rfl ?_
  refine x_gI (z := 1) T_194_1 (Or.inl F_16_4) (hP.o hC.1) (Eq.trans (hP.gi hC.1 (key := 2516) rfl) h5) ?_
  refine x_ic T_194_4 ?_
  refine x_ic2 T_194_5 (fun _ => ?_) (fun h => absurd (show (1 : Int) = 1 by decide) h)
  refine x_lr (z := some pr) T_194_11 rfl ?_
  refine x_ic T_194_12 ?_
  refine z_pZ hP T_194_13 F_6_6 rfl hpo (key := 2198) rfl (fun σ hP => ?_)
  refine x_ic T_194_16 ?_
  refine x_ri T_194_17 ?_
  exact ⟨rfl, _, R, hP, hfin, fun x k _ _ hk => if_neg (fun c => hk c.2), fun _ _ _ => rfl⟩
end XSET
