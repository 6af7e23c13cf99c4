/-! The class's commands: words alike. -/
theorem T_197_0 : hTab 197 0 = some ((3, 0, 2, []), 1) := rfl
theorem T_197_1 : hTab 197 1 = some ((3, 1, 0, []), 2) := rfl
theorem T_197_2 : hTab 197 2 = some ((31, 105, 0, []), 5) := rfl
theorem T_197_5 : hTab 197 5 = some ((4, 3, 0, []), 6) := rfl
theorem T_197_6 : hTab 197 6 = some ((3, 3, 0, []), 7) := rfl
theorem T_197_7 : hTab 197 7 = some ((3, 0, 2, []), 8) := rfl
theorem T_197_8 : hTab 197 8 = some ((3, 2, 0, []), 9) := rfl
theorem T_197_9 : hTab 197 9 = some ((31, 105, 0, []), 12) := rfl
theorem T_197_12 : hTab 197 12 = some ((19, 1, Int.ofNat 19, []), 15) := rfl
theorem T_197_15 : hTab 197 15 = some ((0, 0, 1, []), 16) := rfl
theorem T_197_16 : hTab 197 16 = some ((22, 0, Int.ofNat 20, []), 19) := rfl
theorem T_197_19 : hTab 197 19 = some ((0, 0, 0, []), 20) := rfl
theorem T_197_20 : hTab 197 20 = some ((4, 4, 0, []), 22) := rfl
theorem T_197_22 : hTab 197 22 = some ((0, 0, 0, []), 23) := rfl
theorem T_197_23 : hTab 197 23 = some ((4, 5, 0, []), 25) := rfl
theorem T_197_25 : hTab 197 25 = some ((3, 5, 0, []), 27) := rfl
theorem T_197_27 : hTab 197 27 = some ((3, 3, 0, []), 28) := rfl
theorem T_197_28 : hTab 197 28 = some ((19, 3, Int.ofNat 82, []), 31) := rfl
theorem T_197_31 : hTab 197 31 = some ((3, 4, 0, []), 33) := rfl
theorem T_197_33 : hTab 197 33 = some ((18, 0, Int.ofNat 82, []), 36) := rfl
theorem T_197_36 : hTab 197 36 = some ((3, 0, 2, []), 37) := rfl
theorem T_197_37 : hTab 197 37 = some ((24, 16, Int.ofNat 0, []), 40) := rfl
theorem T_197_40 : hTab 197 40 = some ((3, 0, 2, []), 41) := rfl
theorem T_197_41 : hTab 197 41 = some ((3, 1, 0, []), 42) := rfl
theorem T_197_42 : hTab 197 42 = some ((31, 104, 0, []), 45) := rfl
theorem T_197_45 : hTab 197 45 = some ((3, 5, 0, []), 47) := rfl
theorem T_197_47 : hTab 197 47 = some ((10, 0, 0, []), 48) := rfl
theorem T_197_48 : hTab 197 48 = some ((31, 33, 0, []), 51) := rfl
theorem T_197_51 : hTab 197 51 = some ((3, 0, 2, []), 52) := rfl
theorem T_197_52 : hTab 197 52 = some ((24, 16, Int.ofNat 0, []), 55) := rfl
theorem T_197_55 : hTab 197 55 = some ((3, 0, 2, []), 56) := rfl
theorem T_197_56 : hTab 197 56 = some ((3, 2, 0, []), 57) := rfl
theorem T_197_57 : hTab 197 57 = some ((31, 104, 0, []), 60) := rfl
theorem T_197_60 : hTab 197 60 = some ((3, 5, 0, []), 62) := rfl
theorem T_197_62 : hTab 197 62 = some ((10, 0, 0, []), 63) := rfl
theorem T_197_63 : hTab 197 63 = some ((31, 33, 0, []), 66) := rfl
theorem T_197_66 : hTab 197 66 = some ((19, 1, Int.ofNat 73, []), 69) := rfl
theorem T_197_69 : hTab 197 69 = some ((0, 0, 1, []), 70) := rfl
theorem T_197_70 : hTab 197 70 = some ((22, 0, Int.ofNat 74, []), 73) := rfl
theorem T_197_73 : hTab 197 73 = some ((0, 0, 0, []), 74) := rfl
theorem T_197_74 : hTab 197 74 = some ((4, 4, 0, []), 76) := rfl
theorem T_197_76 : hTab 197 76 = some ((5, 5, 1, []), 79) := rfl
theorem T_197_79 : hTab 197 79 = some ((22, 0, Int.ofNat 25, []), 82) := rfl
theorem T_197_82 : hTab 197 82 = some ((3, 4, 0, []), 84) := rfl
theorem T_197_84 : hTab 197 84 = some ((33, 2, 0, []), 85) := rfl
theorem mN_197 : hmN 197 = 3 := by decide +kernel
theorem mL_197 : hmL 197 = 6 := by decide +kernel
theorem mK_197 : hmK 197 = 1 := by decide +kernel
theorem mO_197 : hmO 197 = 16 := by decide +kernel
section XALK
variable {fb : Bool} {d k : Nat} {σ0 σ : hM} {W : qR} {R : rR} {i a b n sa sb ea eb : Int} {l A B : List Int}
theorem al_end {v n : Int} {r : Int} (h : CMD W k l) (hv : v = 0) (hr : r = 0) : WP fb (d + 1) 197 25 [some (vR (some k)), some (vI a), some (vI b), some (vI n), some (vI v), some (vI i)] [] σ (rP r σ) := by
  subst hv
  subst hr
  by_cases q : i < n
  · skip
    refine x_li (z := i) T_197_25 rfl ?_
    refine x_li (z := n) T_197_27 rfl ?_
    refine x_ic2 T_197_28 (fun h => absurd (show n ≤ i from h) (by omega)) (fun _ => ?_)
    refine x_li (z := 0) T_197_31 rfl ?_
    refine x_if T_197_33 (fun _ => ?_) (fun h => absurd (show (0 : Int) = 0 by rfl) h)
    refine x_li (z := 0) T_197_82 rfl ?_
    refine x_rz T_197_84 rfl ?_
    exact ⟨rfl, rfl⟩
  · skip
    refine x_li (z := i) T_197_25 rfl ?_
    refine x_li (z := n) T_197_27 rfl ?_
    refine x_ic2 T_197_28 (fun _ => ?_) (fun h => absurd (show n ≤ i by omega) h)
    refine x_li (z := 0) T_197_82 rfl ?_
    refine x_rz T_197_84 rfl ?_
    exact ⟨rfl, rfl⟩
theorem al_loop (hP : PX σ0 W R σ) (h : CMD W k l) (hw : 0 ≤ a ∧ a < ((lnW l).length : Int)) (hw2 : 0 ≤ b ∧ b < ((lnW l).length : Int)) (hA : lnB l a = A) (hB : lnB l b = B) (hn : (A.length : Int) = n) (hn2 : (B.length : Int) = n) : ∀ (m : Nat) (i : Int), i + m = n → 0 ≤ i → (∀ j : Int, 0 ≤ j → j < i → lg A j = lg B j) → WP fb (d + 1) 197 25 [some (vR (some k)), some (vI a), some (vI b), some (vI n), some (vI 1), some (vI i)] [] σ (rP (if A = B then 1 else 0) σ) := by
  obtain ⟨-, sa, ea, ha1, ha2, a1, a2, a3, a4⟩ := h.word hw
  obtain ⟨-, sb, eb, hb1, hb2, b1, b2, b3, b4⟩ := h.word hw2
  have hT := h.2.2.2.1
  have hll := hT.2.2.2.2.1
  have hsa := x_startOf (fb := fb) (d := d) hP h hw ha1
  have hsb := x_startOf (fb := fb) (d := d) hP h hw2 hb1
  have ena : ea - sa = n := by rw [← hn, ← hA, a4, seg_len]; omega
  have enb : eb - sb = n := by rw [← hn2, ← hB, b4, seg_len]; omega
  intro m
  induction m with
  | zero =>
    intro i g1 g2 g3
    have g1 : i + ((0 : Nat) : Int) = n := g1
    have e : A = B := by
      have h1 : seg (lg A) 0 A.length = seg (lg B) 0 A.length := seg_seg.mpr (fun j j0 j1 => by rw [Int.zero_add]; exact g3 j j0 (by omega))
      have h2 : A.length = B.length := by omega
      rw [seg_all] at h1
      rw [h1, h2, seg_all]
    rw [if_pos e]
    refine x_li (z := i) T_197_25 rfl ?_
    refine x_li (z := n) T_197_27 rfl ?_
    refine x_ic2 T_197_28 (fun _ => ?_) (fun h => absurd (show n ≤ i by omega) h)
    refine x_li (z := 1) T_197_82 rfl ?_
    refine x_rz T_197_84 rfl ?_
    exact ⟨rfl, rfl⟩
  | succ m ih =>
    intro i g1 g2 g3
    have g1 : i + ((m + 1 : Nat) : Int) = n := g1
    have hat1 := x_at (fb := fb) (d := d) (i := sa + i) hP hT
    have hat2 := x_at (fb := fb) (d := d) (i := sb + i) hP hT
    rw [if_pos ⟨by omega, by omega⟩] at hat1 hat2
    have e1 : lg A i = lg l (sa + i) := by rw [← hA, a4, lg_seg _ _ _ _ g2 (by omega)]
    have e2 : lg B i = lg l (sb + i) := by rw [← hB, b4, lg_seg _ _ _ _ g2 (by omega)]
    obtain ⟨u, hu⟩ : ∃ q, lg l (sa + i) = q := ⟨_, rfl⟩
    obtain ⟨v, hv⟩ : ∃ q, lg l (sb + i) = q := ⟨_, rfl⟩
    rw [hu] at hat1 e1
    rw [hv] at hat2 e2
    by_cases q : u = v
    · have hgo := ih (i + 1) (by omega) (by omega) (fun j j0 j1 => by
        by_cases qj : j = i
        · rw [qj, e1, e2, q]
        · exact g3 j j0 (by omega))
      refine x_li (z := i) T_197_25 rfl ?_
      refine x_li (z := n) T_197_27 rfl ?_
      refine x_ic2 T_197_28 (fun h => absurd (show n ≤ i from h) (by omega)) (fun _ => ?_)
      refine x_li (z := 1) T_197_31 rfl ?_
      refine x_if T_197_33 (fun h => absurd (show (1 : Int) = 0 from h) (by decide)) (fun _ => ?_)
      refine x_lr (z := some k) T_197_36 rfl ?_
      refine x_gR (z := some (k + 1)) T_197_37 F_16_0 (hP.o h.1) (hP.rc h.1 rfl rfl) ?_
      refine x_lr (z := some k) T_197_40 rfl ?_
      refine x_li (z := a) T_197_41 rfl ?_
      refine x_cv2 T_197_42 mN_104 mL_104 (Nat.le_of_ble_eq_true rfl) mO_104 (hP.o h.1) (Nat.le_of_ble_eq_true rfl) (hsa) ?_
      rintro _ σ ⟨rfl, rfl⟩
      refine cI ?_
      refine x_li (z := i) T_197_45 rfl ?_
      refine x_ib (w := (sa + i)) T_197_47 (fun h => absurd h.1 (by decide)) (w32_id (by omega) (by omega)) ?_
      refine x_cv2 T_197_48 mN_33 mL_33 (Nat.le_of_ble_eq_true rfl) mO_33 (hP.o hT.1) (Nat.le_of_ble_eq_true rfl) (hat1) ?_
      rintro _ σ ⟨rfl, rfl⟩
      refine cI ?_
      refine x_lr (z := some k) T_197_51 rfl ?_
      refine x_gR (z := some (k + 1)) T_197_52 F_16_0 (hP.o h.1) (hP.rc h.1 rfl rfl) ?_
      refine x_lr (z := some k) T_197_55 rfl ?_
      refine x_li (z := b) T_197_56 rfl ?_
      refine x_cv2 T_197_57 mN_104 mL_104 (Nat.le_of_ble_eq_true rfl) mO_104 (hP.o h.1) (Nat.le_of_ble_eq_true rfl) (hsb) ?_
      rintro _ σ ⟨rfl, rfl⟩
      refine cI ?_
      refine x_li (z := i) T_197_60 rfl ?_
      refine x_ib (w := (sb + i)) T_197_62 (fun h => absurd h.1 (by decide)) (w32_id (by omega) (by omega)) ?_
      refine x_cv2 T_197_63 mN_33 mL_33 (Nat.le_of_ble_eq_true rfl) mO_33 (hP.o hT.1) (Nat.le_of_ble_eq_true rfl) (hat2) ?_
      rintro _ σ ⟨rfl, rfl⟩
      refine cI ?_
      refine x_ic2 T_197_66 (fun h => absurd (show ¬ u = v from h) (by omega)) (fun _ => ?_)
      refine x_ic T_197_69 ?_
      refine x_goto T_197_70 ?_
      refine x_si (ls1 := [some (vR (some k)), some (vI a), some (vI b), some (vI n), some (vI 1), some (vI i)]) T_197_74 rfl ?_
      refine x_inc (w := (i + 1)) (ls1 := [some (vR (some k)), some (vI a), some (vI b), some (vI n), some (vI 1), some (vI (i + 1))]) T_197_76 rfl (w32_id (by omega) (by omega)) rfl ?_
      refine x_goto T_197_79 ?_
      exact hgo
    · have hne : A ≠ B := fun c => q (by rw [← e1, ← e2, c])
      rw [if_neg hne]
      have hend := fun (i : Int) => al_end (fb := fb) (d := d) (σ := σ) (a := a) (b := b) (i := i) (n := n) (v := 0) (r := 0) h rfl rfl
      refine x_li (z := i) T_197_25 rfl ?_
      refine x_li (z := n) T_197_27 rfl ?_
      refine x_ic2 T_197_28 (fun h => absurd (show n ≤ i from h) (by omega)) (fun _ => ?_)
      refine x_li (z := 1) T_197_31 rfl ?_
      refine x_if T_197_33 (fun h => absurd (show (1 : Int) = 0 from h) (by decide)) (fun _ => ?_)
      refine x_lr (z := some k) T_197_36 rfl ?_
      refine x_gR (z := some (k + 1)) T_197_37 F_16_0 (hP.o h.1) (hP.rc h.1 rfl rfl) ?_
      refine x_lr (z := some k) T_197_40 rfl ?_
      refine x_li (z := a) T_197_41 rfl ?_
      refine x_cv2 T_197_42 mN_104 mL_104 (Nat.le_of_ble_eq_true rfl) mO_104 (hP.o h.1) (Nat.le_of_ble_eq_true rfl) (hsa) ?_
      rintro _ σ ⟨rfl, rfl⟩
      refine cI ?_
      refine x_li (z := i) T_197_45 rfl ?_
      refine x_ib (w := (sa + i)) T_197_47 (fun h => absurd h.1 (by decide)) (w32_id (by omega) (by omega)) ?_
      refine x_cv2 T_197_48 mN_33 mL_33 (Nat.le_of_ble_eq_true rfl) mO_33 (hP.o hT.1) (Nat.le_of_ble_eq_true rfl) (hat1) ?_
      rintro _ σ ⟨rfl, rfl⟩
      refine cI ?_
      refine x_lr (z := some k) T_197_51 rfl ?_
      refine x_gR (z := some (k + 1)) T_197_52 F_16_0 (hP.o h.1) (hP.rc h.1 rfl rfl) ?_
      refine x_lr (z := some k) T_197_55 rfl ?_
      refine x_li (z := b) T_197_56 rfl ?_
      refine x_cv2 T_197_57 mN_104 mL_104 (Nat.le_of_ble_eq_true rfl) mO_104 (hP.o h.1) (Nat.le_of_ble_eq_true rfl) (hsb) ?_
      rintro _ σ ⟨rfl, rfl⟩
      refine cI ?_
      refine x_li (z := i) T_197_60 rfl ?_
      refine x_ib (w := (sb + i)) T_197_62 (fun h => absurd h.1 (by decide)) (w32_id (by omega) (by omega)) ?_
      refine x_cv2 T_197_63 mN_33 mL_33 (Nat.le_of_ble_eq_true rfl) mO_33 (hP.o hT.1) (Nat.le_of_ble_eq_true rfl) (hat2) ?_
      rintro _ σ ⟨rfl, rfl⟩
      refine cI ?_
      refine x_ic2 T_197_66 (fun _ => ?_) (fun h => absurd (show ¬ u = v by omega) h)
      refine x_ic T_197_73 ?_
      refine x_si (ls1 := [some (vR (some k)), some (vI a), some (vI b), some (vI n), some (vI 0), some (vI i)]) T_197_74 rfl ?_
      refine x_inc (w := (i + 1)) (ls1 := [some (vR (some k)), some (vI a), some (vI b), some (vI n), some (vI 0), some (vI (i + 1))]) T_197_76 rfl (w32_id (by omega) (by omega)) rfl ?_
      refine x_goto T_197_79 ?_
      exact hend _
theorem x_areAlike (hP : PX σ0 W R σ) (h : CMD W k l) (hw : 0 ≤ a ∧ a < ((lnW l).length : Int)) (hw2 : 0 ≤ b ∧ b < ((lnW l).length : Int)) : CL fb (d + 2) 197 [vR (some k), vI a, vI b] σ (rP (if lnB l a = lnB l b then 1 else 0) σ) := by
  have hl1 := x_lengthOf (fb := fb) (d := d) hP h hw rfl
  have hl2 := x_lengthOf (fb := fb) (d := d) hP h hw2 rfl
  obtain ⟨A, hA⟩ : ∃ q, lnB l a = q := ⟨_, rfl⟩
  obtain ⟨B, hB⟩ : ∃ q, lnB l b = q := ⟨_, rfl⟩
  rw [hA] at hl1 ⊢
  rw [hB] at hl2 ⊢
  obtain ⟨n, hn⟩ : ∃ q : Int, (A.length : Int) = q := ⟨_, rfl⟩
  obtain ⟨n2, hn2⟩ : ∃ q : Int, (B.length : Int) = q := ⟨_, rfl⟩
  rw [hn] at hl1
  rw [hn2] at hl2
  by_cases q : n = n2
  · subst q
    have hgo := al_loop (fb := fb) (d := d + 1) hP h hw hw2 hA hB hn hn2 A.length 0 (by omega) (by decide) (fun j a b => by omega)
    refine CL_in mL_197 rfl ?_
    show WP fb _ 197 0 [some (vR (some k)), some (vI a), some (vI b), none, none, none] [] σ _
    refine x_lr (z := some k) T_197_0 rfl ?_
    refine x_li (z := a) T_197_1 rfl ?_
    refine x_cv2 T_197_2 mN_105 mL_105 (Nat.le_of_ble_eq_true rfl) mO_105 (hP.o h.1) (Nat.le_of_ble_eq_true rfl) (hl1) ?_
    rintro _ σ ⟨rfl, rfl⟩
    refine cI ?_
    refine x_si (ls1 := [some (vR (some k)), some (vI a), some (vI b), some (vI n), none, none]) T_197_5 rfl ?_
    refine x_li (z := n) T_197_6 rfl ?_
    refine x_lr (z := some k) T_197_7 rfl ?_
    refine x_li (z := b) T_197_8 rfl ?_
    refine x_cv2 T_197_9 mN_105 mL_105 (Nat.le_of_ble_eq_true rfl) mO_105 (hP.o h.1) (Nat.le_of_ble_eq_true rfl) (hl2) ?_
    rintro _ σ ⟨rfl, rfl⟩
    refine cI ?_
    refine x_ic2 T_197_12 (fun h => absurd (show ¬ n = n from h) (by omega)) (fun _ => ?_)
    refine x_ic T_197_15 ?_
    refine x_goto T_197_16 ?_
    refine x_si (ls1 := [some (vR (some k)), some (vI a), some (vI b), some (vI n), some (vI 1), none]) T_197_20 rfl ?_
    refine x_ic T_197_22 ?_
    refine x_si (ls1 := [some (vR (some k)), some (vI a), some (vI b), some (vI n), some (vI 1), some (vI 0)]) T_197_23 rfl ?_
    exact hgo
  · rw [if_neg (fun c => q (by rw [← hn, ← hn2, c]))]
    have hend := al_end (fb := fb) (d := d + 1) (σ := σ) (a := a) (b := b) (i := 0) (n := n) (v := 0) (r := 0) h rfl rfl
    refine CL_in mL_197 rfl ?_
    show WP fb _ 197 0 [some (vR (some k)), some (vI a), some (vI b), none, none, none] [] σ _
    refine x_lr (z := some k) T_197_0 rfl ?_
    refine x_li (z := a) T_197_1 rfl ?_
    refine x_cv2 T_197_2 mN_105 mL_105 (Nat.le_of_ble_eq_true rfl) mO_105 (hP.o h.1) (Nat.le_of_ble_eq_true rfl) (hl1) ?_
    rintro _ σ ⟨rfl, rfl⟩
    refine cI ?_
    refine x_si (ls1 := [some (vR (some k)), some (vI a), some (vI b), some (vI n), none, none]) T_197_5 rfl ?_
    refine x_li (z := n) T_197_6 rfl ?_
    refine x_lr (z := some k) T_197_7 rfl ?_
    refine x_li (z := b) T_197_8 rfl ?_
    refine x_cv2 T_197_9 mN_105 mL_105 (Nat.le_of_ble_eq_true rfl) mO_105 (hP.o h.1) (Nat.le_of_ble_eq_true rfl) (hl2) ?_
    rintro _ σ ⟨rfl, rfl⟩
    refine cI ?_
    refine x_ic2 T_197_12 (fun _ => ?_) (fun h => absurd (show ¬ n = n2 by omega) h)
    refine x_ic T_197_19 ?_
    refine x_si (ls1 := [some (vR (some k)), some (vI a), some (vI b), some (vI n), some (vI 0), none]) T_197_20 rfl ?_
    refine x_ic T_197_22 ?_
    refine x_si (ls1 := [some (vR (some k)), some (vI a), some (vI b), some (vI n), some (vI 0), some (vI 0)]) T_197_23 rfl ?_
    exact hend
end XALK
