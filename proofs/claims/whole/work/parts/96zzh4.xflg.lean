/-! The class's commands: a word of flags. -/
theorem T_172_0 : hTab 172 0 = some ((3, 0, 2, []), 1) := rfl
theorem T_172_1 : hTab 172 1 = some ((3, 1, 0, []), 2) := rfl
theorem T_172_2 : hTab 172 2 = some ((31, 104, 0, []), 5) := rfl
theorem T_172_5 : hTab 172 5 = some ((4, 2, 0, []), 6) := rfl
theorem T_172_6 : hTab 172 6 = some ((0, 0, 0, []), 7) := rfl
theorem T_172_7 : hTab 172 7 = some ((4, 3, 0, []), 8) := rfl
theorem T_172_8 : hTab 172 8 = some ((3, 2, 0, []), 9) := rfl
theorem T_172_9 : hTab 172 9 = some ((0, 0, 1, []), 10) := rfl
theorem T_172_10 : hTab 172 10 = some ((10, 0, 0, []), 11) := rfl
theorem T_172_11 : hTab 172 11 = some ((4, 4, 0, []), 13) := rfl
theorem T_172_13 : hTab 172 13 = some ((3, 4, 0, []), 15) := rfl
theorem T_172_15 : hTab 172 15 = some ((3, 0, 2, []), 16) := rfl
theorem T_172_16 : hTab 172 16 = some ((3, 1, 0, []), 17) := rfl
theorem T_172_17 : hTab 172 17 = some ((31, 106, 0, []), 20) := rfl
theorem T_172_20 : hTab 172 20 = some ((19, 3, Int.ofNat 88, []), 23) := rfl
theorem T_172_23 : hTab 172 23 = some ((3, 0, 2, []), 24) := rfl
theorem T_172_24 : hTab 172 24 = some ((24, 16, Int.ofNat 0, []), 27) := rfl
theorem T_172_27 : hTab 172 27 = some ((3, 4, 0, []), 29) := rfl
theorem T_172_29 : hTab 172 29 = some ((31, 33, 0, []), 32) := rfl
theorem T_172_32 : hTab 172 32 = some ((4, 5, 0, []), 34) := rfl
theorem T_172_34 : hTab 172 34 = some ((3, 5, 0, []), 36) := rfl
theorem T_172_36 : hTab 172 36 = some ((0, 0, 97, []), 38) := rfl
theorem T_172_38 : hTab 172 38 = some ((19, 1, Int.ofNat 45, []), 41) := rfl
theorem T_172_41 : hTab 172 41 = some ((0, 0, 2, []), 42) := rfl
theorem T_172_42 : hTab 172 42 = some ((22, 0, Int.ofNat 68, []), 45) := rfl
theorem T_172_45 : hTab 172 45 = some ((3, 5, 0, []), 47) := rfl
theorem T_172_47 : hTab 172 47 = some ((0, 0, 98, []), 49) := rfl
theorem T_172_49 : hTab 172 49 = some ((19, 1, Int.ofNat 56, []), 52) := rfl
theorem T_172_52 : hTab 172 52 = some ((0, 0, 1, []), 53) := rfl
theorem T_172_53 : hTab 172 53 = some ((22, 0, Int.ofNat 68, []), 56) := rfl
theorem T_172_56 : hTab 172 56 = some ((3, 5, 0, []), 58) := rfl
theorem T_172_58 : hTab 172 58 = some ((0, 0, 99, []), 60) := rfl
theorem T_172_60 : hTab 172 60 = some ((19, 1, Int.ofNat 67, []), 63) := rfl
theorem T_172_63 : hTab 172 63 = some ((0, 0, 4, []), 64) := rfl
theorem T_172_64 : hTab 172 64 = some ((22, 0, Int.ofNat 68, []), 67) := rfl
theorem T_172_67 : hTab 172 67 = some ((0, 0, 0, []), 68) := rfl
theorem T_172_68 : hTab 172 68 = some ((4, 6, 0, []), 70) := rfl
theorem T_172_70 : hTab 172 70 = some ((3, 6, 0, []), 72) := rfl
theorem T_172_72 : hTab 172 72 = some ((18, 1, Int.ofNat 77, []), 75) := rfl
theorem T_172_75 : hTab 172 75 = some ((0, 0, (-1), []), 76) := rfl
theorem T_172_76 : hTab 172 76 = some ((33, 1, 0, []), 77) := rfl
theorem T_172_77 : hTab 172 77 = some ((3, 3, 0, []), 78) := rfl
theorem T_172_78 : hTab 172 78 = some ((3, 6, 0, []), 80) := rfl
theorem T_172_80 : hTab 172 80 = some ((10, 6, 0, []), 81) := rfl
theorem T_172_81 : hTab 172 81 = some ((4, 3, 0, []), 82) := rfl
theorem T_172_82 : hTab 172 82 = some ((5, 4, 1, []), 85) := rfl
theorem T_172_85 : hTab 172 85 = some ((22, 0, Int.ofNat 13, []), 88) := rfl
theorem T_172_88 : hTab 172 88 = some ((3, 0, 2, []), 89) := rfl
theorem T_172_89 : hTab 172 89 = some ((24, 16, Int.ofNat 0, []), 92) := rfl
theorem T_172_92 : hTab 172 92 = some ((3, 2, 0, []), 93) := rfl
theorem T_172_93 : hTab 172 93 = some ((31, 33, 0, []), 96) := rfl
theorem T_172_96 : hTab 172 96 = some ((0, 0, 45, []), 98) := rfl
theorem T_172_98 : hTab 172 98 = some ((19, 1, Int.ofNat 105, []), 101) := rfl
theorem T_172_101 : hTab 172 101 = some ((3, 3, 0, []), 102) := rfl
theorem T_172_102 : hTab 172 102 = some ((18, 1, Int.ofNat 109, []), 105) := rfl
theorem T_172_105 : hTab 172 105 = some ((0, 0, (-1), []), 106) := rfl
theorem T_172_106 : hTab 172 106 = some ((22, 0, Int.ofNat 110, []), 109) := rfl
theorem T_172_109 : hTab 172 109 = some ((3, 3, 0, []), 110) := rfl
theorem T_172_110 : hTab 172 110 = some ((33, 1, 0, []), 111) := rfl
theorem mN_172 : hmN 172 = 2 := by decide +kernel
theorem mL_172 : hmL 172 = 7 := by decide +kernel
theorem mK_172 : hmK 172 = 1 := by decide +kernel
theorem mO_172 : hmO 172 = 16 := by decide +kernel
def flb (y : Int) : Int := if y = 97 then 2 else if y = 98 then 1 else if y = 99 then 4 else 0
def flV : List Int → Int → Int
  | [], v => v
  | y :: r, v => if flb y = 0 then -1 else flV r (or32 v (flb y))
def flW (wd : List Int) : Int := if flV (wd.drop 1) 0 = -1 ∨ ¬ lg wd 0 = 45 ∨ flV (wd.drop 1) 0 = 0 then -1 else flV (wd.drop 1) 0
/-- the bits: before, behind, to create -/
def fV (b a c : Bool) : Int := (bif b then 1 else 0) + (bif a then 2 else 0) + (bif c then 4 else 0)
section XFLG
variable {fb : Bool} {d k : Nat} {σ0 σ : hM} {W W1 W2 V P Q : qR} {R R1 R2 V3 : rR} {i j x z v s e w f u p n : Int} {l wd r : List Int} {b a c : Bool}
theorem fV_or : or32 (fV b a c) 1 = fV true a c ∧ or32 (fV b a c) 2 = fV b true c ∧ or32 (fV b a c) 4 = fV b a true := by
  cases b <;> cases a <;> cases c <;> decide +kernel
theorem fV_and : and32 (fV b a c) 3 = fV b a false ∧ and32 (fV b a c) 1 = fV b false false ∧ and32 (fV b a c) 4 = fV false false c := by
  cases b <;> cases a <;> cases c <;> decide +kernel
theorem fV_0 : fV b a c = 0 ↔ b = false ∧ a = false ∧ c = false := by
  cases b <;> cases a <;> cases c <;> decide
theorem fV_rng : 0 ≤ fV b a c ∧ fV b a c ≤ 7 := by
  cases b <;> cases a <;> cases c <;> decide
theorem or_fl (hv : 0 ≤ v ∧ v ≤ 7) (hx : x = 1 ∨ x = 2 ∨ x = 4) : 0 ≤ or32 v x ∧ or32 v x ≤ 7 := by
  have h8 : v = 0 ∨ v = 1 ∨ v = 2 ∨ v = 3 ∨ v = 4 ∨ v = 5 ∨ v = 6 ∨ v = 7 := by omega
  rcases h8 with rfl | rfl | rfl | rfl | rfl | rfl | rfl | rfl <;> rcases hx with rfl | rfl | rfl <;> decide +kernel
theorem flb_v : flb x = 0 ∨ flb x = 1 ∨ flb x = 2 ∨ flb x = 4 := by
  unfold flb
  (repeat' split) <;> omega
theorem flb_0 : flb x = 0 ↔ ¬ (97 ≤ x ∧ x ≤ 99) := by
  unfold flb
  (repeat' split) <;> omega
theorem flV_ok : ∀ (r : List Int) (b a c : Bool), (∀ y ∈ r, 97 ≤ y ∧ y ≤ 99) → flV r (fV b a c) = fV (b || decide ((98 : Int) ∈ r)) (a || decide ((97 : Int) ∈ r)) (c || decide ((99 : Int) ∈ r))
  | [], b, a, c, _ => by
    simp [flV]
  | y :: r, b, a, c, h => by
    have hy := h y List.mem_cons_self
    have hr : ∀ y ∈ r, 97 ≤ y ∧ y ≤ 99 := fun z hz => h z (List.mem_cons_of_mem _ hz)
    have h3 : y = 97 ∨ y = 98 ∨ y = 99 := by omega
    rcases h3 with rfl | rfl | rfl
    · show flV r (or32 (fV b a c) 2) = _
      rw [fV_or.2.1, flV_ok r b true c hr]
      simp
    · show flV r (or32 (fV b a c) 1) = _
      rw [fV_or.1, flV_ok r true a c hr]
      simp
    · show flV r (or32 (fV b a c) 4) = _
      rw [fV_or.2.2, flV_ok r b a true hr]
      simp
theorem flV_bad : ∀ (r : List Int) (v : Int), ¬ (∀ y ∈ r, 97 ≤ y ∧ y ≤ 99) → flV r v = -1
  | [], v, h => absurd (fun y hy => absurd hy List.not_mem_nil) h
  | y :: r, v, h => by
    unfold flV
    by_cases q : flb y = 0
    · rw [if_pos q]
    · rw [if_neg q]
      have hy : 97 ≤ y ∧ y ≤ 99 := Classical.not_not.mp (fun c => q (flb_0.mpr c))
      refine flV_bad r _ (fun c => h (fun z hz => ?_))
      rcases List.mem_cons.mp hz with e | e
      · rw [e]; exact hy
      · exact c z e
theorem flW_ok (h : fgs wd) : flW wd = fV (decide ((98 : Int) ∈ wd.drop 1)) (decide ((97 : Int) ∈ wd.drop 1)) (decide ((99 : Int) ∈ wd.drop 1)) ∧ 1 ≤ flW wd ∧ flW wd ≤ 7 := by
  obtain ⟨h1, h2, h3⟩ := h
  have e := flV_ok (wd.drop 1) false false false h3
  rw [show fV false false false = 0 from rfl, Bool.false_or, Bool.false_or, Bool.false_or] at e
  have hr := fV_rng (b := decide ((98 : Int) ∈ wd.drop 1)) (a := decide ((97 : Int) ∈ wd.drop 1)) (c := decide ((99 : Int) ∈ wd.drop 1))
  have hne : ¬ fV (decide ((98 : Int) ∈ wd.drop 1)) (decide ((97 : Int) ∈ wd.drop 1)) (decide ((99 : Int) ∈ wd.drop 1)) = 0 := fun c => by
    obtain ⟨c1, c2, c3⟩ := fV_0.mp c
    have c1 := of_decide_eq_false c1
    have c2 := of_decide_eq_false c2
    have c3 := of_decide_eq_false c3
    have hl : 0 < (wd.drop 1).length := by rw [List.length_drop]; omega
    obtain ⟨y, r, hyr⟩ : ∃ y r, wd.drop 1 = y :: r := by
      match hq : wd.drop 1 with
      | [] => rw [hq] at hl; exact absurd hl (by decide)
      | y :: r => exact ⟨y, r, rfl⟩
    have hy := h3 y (by rw [hyr]; exact List.mem_cons_self)
    have h4 : y = 97 ∨ y = 98 ∨ y = 99 := by omega
    rcases h4 with q | q | q
    · exact c2 (by rw [hyr, q]; exact List.mem_cons_self)
    · exact c1 (by rw [hyr, q]; exact List.mem_cons_self)
    · exact c3 (by rw [hyr, q]; exact List.mem_cons_self)
  have e2 : flW wd = fV (decide ((98 : Int) ∈ wd.drop 1)) (decide ((97 : Int) ∈ wd.drop 1)) (decide ((99 : Int) ∈ wd.drop 1)) := by
    unfold flW
    rw [e, if_neg (by omega)]
  rw [e2]
  exact ⟨rfl, by omega, hr.2⟩
theorem flW_bad (h : ¬ fgs wd) : flW wd = -1 := by
  unfold flW
  by_cases q1 : lg wd 0 = 45
  · by_cases q2 : ∀ y ∈ wd.drop 1, 97 ≤ y ∧ y ≤ 99
    · have hl : wd.length ≤ 1 := by
        have : ¬ 1 < wd.length := fun c => h ⟨c, q1, q2⟩
        omega
      have e : wd.drop 1 = [] := List.drop_eq_nil_of_le hl
      rw [e]
      exact if_pos (Or.inr (Or.inr (show flV [] 0 = 0 from rfl)))
    · rw [flV_bad _ _ q2, if_pos (Or.inl rfl)]
  · rw [if_pos (Or.inr (Or.inl q1))]
theorem fl_loop {a e : Int} (hP : PX σ0 W R σ) (h : CMD W k l) (hw : 1 < ((lnW l).length : Int)) (ha : W (k + 5) 1 = a) (he : W (k + 6) 1 = e) (hae : 0 ≤ a ∧ a < e ∧ e ≤ (l.length : Int)) : ∀ (r : List Int) (i v : Int) (x5 x6 : Option AV), i + (r.length : Int) = e → a + 1 ≤ i → (∀ j : Nat, j < r.length → lg l (i + j) = r.getD j 0) → (0 ≤ v ∧ v ≤ 7) → WP fb (d + 1) 172 13 [some (vR (some k)), some (vI 1), some (vI a), some (vI v), some (vI i), x5, x6] [] σ (rP (if flV r v = -1 ∨ ¬ lg l a = 45 ∨ flV r v = 0 then -1 else flV r v) σ) := by
  have hB := h.2.2.2.1
  have hl := hB.2.2.2.2.1
  have hen := x_endOf (fb := fb) (d := d) (w := 1) hP h ⟨by decide, hw⟩ he
  have hk := h.1
  intro r
  induction r with
  | nil =>
    intro i v x5 x6 g1 g2 g3 g4
    have g1 : i + ((0 : Nat) : Int) = e := g1
    have hi : i = e := by omega
    subst hi
    have hat := x_at (fb := fb) (d := d) (i := a) hP hB
    rw [if_pos ⟨hae.1, by omega⟩] at hat
    have hab := hB.2.2.2.2.2.1 a hae.1
    obtain ⟨y, hy⟩ : ∃ y, lg l a = y := ⟨_, rfl⟩
    rw [hy] at hat hab ⊢
    show WP fb (d + 1) 172 13 _ [] σ (rP (if v = -1 ∨ ¬ y = 45 ∨ v = 0 then -1 else v) σ)
    by_cases q1 : y = 45
    · by_cases q2 : v = 0
      · rw [if_pos (Or.inr (Or.inr q2))]
        refine x_li (z := i) T_172_13 rfl ?_
        refine x_lr (z := some k) T_172_15 rfl ?_
        refine x_li (z := 1) T_172_16 rfl ?_
        refine x_cv2 T_172_17 mN_106 mL_106 (Nat.le_of_ble_eq_true rfl) mO_106 (hP.o hk) (Nat.le_of_ble_eq_true rfl) (hen) ?_
        rintro _ σ ⟨rfl, rfl⟩
        refine cI ?_
        refine x_ic2 T_172_20 (fun _ => ?_) (fun h => absurd (show i ≤ i by omega) h)
        refine x_lr (z := some k) T_172_88 rfl ?_
        refine x_gR (z := some (k + 1)) T_172_89 F_16_0 (hP.o hk) (hP.rc hk rfl rfl) ?_
        refine x_li (z := a) T_172_92 rfl ?_
        refine x_cv2 T_172_93 mN_33 mL_33 (Nat.le_of_ble_eq_true rfl) mO_33 (hP.o hB.1) (Nat.le_of_ble_eq_true rfl) (hat) ?_
        rintro _ σ ⟨rfl, rfl⟩
        refine cI ?_
        refine x_ic T_172_96 ?_
        refine x_ic2 T_172_98 (fun h => absurd (show ¬ y = 45 from h) (by omega)) (fun _ => ?_)
        refine x_li (z := v) T_172_101 rfl ?_
        refine x_if T_172_102 (fun h => absurd (show ¬ v = 0 from h) (by omega)) (fun _ => ?_)
        refine x_ic T_172_105 ?_
        refine x_goto T_172_106 ?_
        refine x_ri T_172_110 ?_
        exact ⟨rfl, rfl⟩
      · rw [if_neg (by omega)]
        refine x_li (z := i) T_172_13 rfl ?_
        refine x_lr (z := some k) T_172_15 rfl ?_
        refine x_li (z := 1) T_172_16 rfl ?_
        refine x_cv2 T_172_17 mN_106 mL_106 (Nat.le_of_ble_eq_true rfl) mO_106 (hP.o hk) (Nat.le_of_ble_eq_true rfl) (hen) ?_
        rintro _ σ ⟨rfl, rfl⟩
        refine cI ?_
        refine x_ic2 T_172_20 (fun _ => ?_) (fun h => absurd (show i ≤ i by omega) h)
        refine x_lr (z := some k) T_172_88 rfl ?_
        refine x_gR (z := some (k + 1)) T_172_89 F_16_0 (hP.o hk) (hP.rc hk rfl rfl) ?_
        refine x_li (z := a) T_172_92 rfl ?_
        refine x_cv2 T_172_93 mN_33 mL_33 (Nat.le_of_ble_eq_true rfl) mO_33 (hP.o hB.1) (Nat.le_of_ble_eq_true rfl) (hat) ?_
        rintro _ σ ⟨rfl, rfl⟩
        refine cI ?_
        refine x_ic T_172_96 ?_
        refine x_ic2 T_172_98 (fun h => absurd (show ¬ y = 45 from h) (by omega)) (fun _ => ?_)
        refine x_li (z := v) T_172_101 rfl ?_
        refine x_if T_172_102 (fun _ => ?_) (fun h => absurd (show ¬ v = 0 by omega) h)
        refine x_li (z := v) T_172_109 rfl ?_
        refine x_ri T_172_110 ?_
        exact ⟨rfl, rfl⟩
    · rw [if_pos (Or.inr (Or.inl q1))]
      refine x_li (z := i) T_172_13 rfl ?_
      refine x_lr (z := some k) T_172_15 rfl ?_
      refine x_li (z := 1) T_172_16 rfl ?_
      refine x_cv2 T_172_17 mN_106 mL_106 (Nat.le_of_ble_eq_true rfl) mO_106 (hP.o hk) (Nat.le_of_ble_eq_true rfl) (hen) ?_
      rintro _ σ ⟨rfl, rfl⟩
      refine cI ?_
      refine x_ic2 T_172_20 (fun _ => ?_) (fun h => absurd (show i ≤ i by omega) h)
      refine x_lr (z := some k) T_172_88 rfl ?_
      refine x_gR (z := some (k + 1)) T_172_89 F_16_0 (hP.o hk) (hP.rc hk rfl rfl) ?_
      refine x_li (z := a) T_172_92 rfl ?_
      refine x_cv2 T_172_93 mN_33 mL_33 (Nat.le_of_ble_eq_true rfl) mO_33 (hP.o hB.1) (Nat.le_of_ble_eq_true rfl) (hat) ?_
      rintro _ σ ⟨rfl, rfl⟩
      refine cI ?_
      refine x_ic T_172_96 ?_
      refine x_ic2 T_172_98 (fun _ => ?_) (fun h => absurd (show ¬ y = 45 by omega) h)
      refine x_ic T_172_105 ?_
      refine x_goto T_172_106 ?_
      refine x_ri T_172_110 ?_
      exact ⟨rfl, rfl⟩
  | cons y r ih =>
    intro i v x5 x6 g1 g2 g3 g4
    rw [List.length_cons] at g1
    have hx := g3 0 (by rw [List.length_cons]; omega)
    rw [show i + ((0 : Nat) : Int) = i by omega] at hx
    have hx : lg l i = y := hx
    have hat := x_at (fb := fb) (d := d) (i := i) hP hB
    rw [if_pos ⟨by omega, by omega⟩, hx] at hat
    have hyb := hB.2.2.2.2.2.1 i (by omega)
    rw [hx] at hyb
    have eF : flV (y :: r) v = if flb y = 0 then -1 else flV r (or32 v (flb y)) := rfl
    have hih := fun v x5 x6 => ih (i + 1) v x5 x6 (by omega) (by omega) (fun j hj => by
      have := g3 (j + 1) (by rw [List.length_cons]; omega)
      rw [show i + ((j + 1 : Nat) : Int) = i + 1 + (j : Int) by omega] at this
      exact this)
    by_cases q1 : y = 97
    · have ef : flb y = 2 := if_pos q1
      rw [ef, if_neg (show ¬ (2 : Int) = 0 by decide)] at eF
      rw [eF]
      have hgo := hih (or32 v 2) (some (vI y)) (some (vI 2)) (or_fl g4 (Or.inr (Or.inl rfl)))
      refine x_li (z := i) T_172_13 rfl ?_
      refine x_lr (z := some k) T_172_15 rfl ?_
      refine x_li (z := 1) T_172_16 rfl ?_
      refine x_cv2 T_172_17 mN_106 mL_106 (Nat.le_of_ble_eq_true rfl) mO_106 (hP.o hk) (Nat.le_of_ble_eq_true rfl) (hen) ?_
      rintro _ σ ⟨rfl, rfl⟩
      refine cI ?_
      refine x_ic2 T_172_20 (fun h => absurd (show e ≤ i from h) (by omega)) (fun _ => ?_)
      refine x_lr (z := some k) T_172_23 rfl ?_
      refine x_gR (z := some (k + 1)) T_172_24 F_16_0 (hP.o hk) (hP.rc hk rfl rfl) ?_
      refine x_li (z := i) T_172_27 rfl ?_
      refine x_cv2 T_172_29 mN_33 mL_33 (Nat.le_of_ble_eq_true rfl) mO_33 (hP.o hB.1) (Nat.le_of_ble_eq_true rfl) (hat) ?_
      rintro _ σ ⟨rfl, rfl⟩
      refine cI ?_
      refine x_si (ls1 := [some (vR (some k)), some (vI 1), some (vI a), some (vI v), some (vI i), some (vI y), x6]) T_172_32 rfl ?_
      refine x_li (z := y) T_172_34 rfl ?_
      refine x_ic T_172_36 ?_
      refine x_ic2 T_172_38 (fun h => absurd (show ¬ y = 97 from h) (by omega)) (fun _ => ?_)
      refine x_ic T_172_41 ?_
      refine x_goto T_172_42 ?_
      refine x_si (ls1 := [some (vR (some k)), some (vI 1), some (vI a), some (vI v), some (vI i), some (vI y), some (vI 2)]) T_172_68 rfl ?_
      refine x_li (z := 2) T_172_70 rfl ?_
      refine x_if T_172_72 (fun _ => ?_) (fun h => absurd (show ¬ (2 : Int) = 0 by decide) h)
      refine x_li (z := v) T_172_77 rfl ?_
      refine x_li (z := 2) T_172_78 rfl ?_
      refine x_ib (w := (or32 v 2)) T_172_80 (fun h => absurd h.1 (by decide)) rfl ?_
      refine x_si (ls1 := [some (vR (some k)), some (vI 1), some (vI a), some (vI (or32 v 2)), some (vI i), some (vI y), some (vI 2)]) T_172_81 rfl ?_
      refine x_inc (w := (i + 1)) (ls1 := [some (vR (some k)), some (vI 1), some (vI a), some (vI (or32 v 2)), some (vI (i + 1)), some (vI y), some (vI 2)]) T_172_82 rfl (w32_id (by omega) (by omega)) rfl ?_
      refine x_goto T_172_85 ?_
      exact hgo
    · by_cases q2 : y = 98
      · have ef : flb y = 1 := (if_neg q1).trans (if_pos q2)
        rw [ef, if_neg (show ¬ (1 : Int) = 0 by decide)] at eF
        rw [eF]
        have hgo := hih (or32 v 1) (some (vI y)) (some (vI 1)) (or_fl g4 (Or.inl rfl))
        refine x_li (z := i) T_172_13 rfl ?_
        refine x_lr (z := some k) T_172_15 rfl ?_
        refine x_li (z := 1) T_172_16 rfl ?_
        refine x_cv2 T_172_17 mN_106 mL_106 (Nat.le_of_ble_eq_true rfl) mO_106 (hP.o hk) (Nat.le_of_ble_eq_true rfl) (hen) ?_
        rintro _ σ ⟨rfl, rfl⟩
        refine cI ?_
        refine x_ic2 T_172_20 (fun h => absurd (show e ≤ i from h) (by omega)) (fun _ => ?_)
        refine x_lr (z := some k) T_172_23 rfl ?_
        refine x_gR (z := some (k + 1)) T_172_24 F_16_0 (hP.o hk) (hP.rc hk rfl rfl) ?_
        refine x_li (z := i) T_172_27 rfl ?_
        refine x_cv2 T_172_29 mN_33 mL_33 (Nat.le_of_ble_eq_true rfl) mO_33 (hP.o hB.1) (Nat.le_of_ble_eq_true rfl) (hat) ?_
        rintro _ σ ⟨rfl, rfl⟩
        refine cI ?_
        refine x_si (ls1 := [some (vR (some k)), some (vI 1), some (vI a), some (vI v), some (vI i), some (vI y), x6]) T_172_32 rfl ?_
        refine x_li (z := y) T_172_34 rfl ?_
        refine x_ic T_172_36 ?_
        refine x_ic2 T_172_38 (fun _ => ?_) (fun h => absurd (show ¬ y = 97 by omega) h)
        refine x_li (z := y) T_172_45 rfl ?_
        refine x_ic T_172_47 ?_
        refine x_ic2 T_172_49 (fun h => absurd (show ¬ y = 98 from h) (by omega)) (fun _ => ?_)
        refine x_ic T_172_52 ?_
        refine x_goto T_172_53 ?_
        refine x_si (ls1 := [some (vR (some k)), some (vI 1), some (vI a), some (vI v), some (vI i), some (vI y), some (vI 1)]) T_172_68 rfl ?_
        refine x_li (z := 1) T_172_70 rfl ?_
        refine x_if T_172_72 (fun _ => ?_) (fun h => absurd (show ¬ (1 : Int) = 0 by decide) h)
        refine x_li (z := v) T_172_77 rfl ?_
        refine x_li (z := 1) T_172_78 rfl ?_
        refine x_ib (w := (or32 v 1)) T_172_80 (fun h => absurd h.1 (by decide)) rfl ?_
        refine x_si (ls1 := [some (vR (some k)), some (vI 1), some (vI a), some (vI (or32 v 1)), some (vI i), some (vI y), some (vI 1)]) T_172_81 rfl ?_
        refine x_inc (w := (i + 1)) (ls1 := [some (vR (some k)), some (vI 1), some (vI a), some (vI (or32 v 1)), some (vI (i + 1)), some (vI y), some (vI 1)]) T_172_82 rfl (w32_id (by omega) (by omega)) rfl ?_
        refine x_goto T_172_85 ?_
        exact hgo
      · by_cases q3 : y = 99
        · have ef : flb y = 4 := (if_neg q1).trans ((if_neg q2).trans (if_pos q3))
          rw [ef, if_neg (show ¬ (4 : Int) = 0 by decide)] at eF
          rw [eF]
          have hgo := hih (or32 v 4) (some (vI y)) (some (vI 4)) (or_fl g4 (Or.inr (Or.inr rfl)))
          refine x_li (z := i) T_172_13 rfl ?_
          refine x_lr (z := some k) T_172_15 rfl ?_
          refine x_li (z := 1) T_172_16 rfl ?_
          refine x_cv2 T_172_17 mN_106 mL_106 (Nat.le_of_ble_eq_true rfl) mO_106 (hP.o hk) (Nat.le_of_ble_eq_true rfl) (hen) ?_
          rintro _ σ ⟨rfl, rfl⟩
          refine cI ?_
          refine x_ic2 T_172_20 (fun h => absurd (show e ≤ i from h) (by omega)) (fun _ => ?_)
          refine x_lr (z := some k) T_172_23 rfl ?_
          refine x_gR (z := some (k + 1)) T_172_24 F_16_0 (hP.o hk) (hP.rc hk rfl rfl) ?_
          refine x_li (z := i) T_172_27 rfl ?_
          refine x_cv2 T_172_29 mN_33 mL_33 (Nat.le_of_ble_eq_true rfl) mO_33 (hP.o hB.1) (Nat.le_of_ble_eq_true rfl) (hat) ?_
          rintro _ σ ⟨rfl, rfl⟩
          refine cI ?_
          refine x_si (ls1 := [some (vR (some k)), some (vI 1), some (vI a), some (vI v), some (vI i), some (vI y), x6]) T_172_32 rfl ?_
          refine x_li (z := y) T_172_34 rfl ?_
          refine x_ic T_172_36 ?_
          refine x_ic2 T_172_38 (fun _ => ?_) (fun h => absurd (show ¬ y = 97 by omega) h)
          refine x_li (z := y) T_172_45 rfl ?_
          refine x_ic T_172_47 ?_
          refine x_ic2 T_172_49 (fun _ => ?_) (fun h => absurd (show ¬ y = 98 by omega) h)
          refine x_li (z := y) T_172_56 rfl ?_
          refine x_ic T_172_58 ?_
          refine x_ic2 T_172_60 (fun h => absurd (show ¬ y = 99 from h) (by omega)) (fun _ => ?_)
          refine x_ic T_172_63 ?_
          refine x_goto T_172_64 ?_
          refine x_si (ls1 := [some (vR (some k)), some (vI 1), some (vI a), some (vI v), some (vI i), some (vI y), some (vI 4)]) T_172_68 rfl ?_
          refine x_li (z := 4) T_172_70 rfl ?_
          refine x_if T_172_72 (fun _ => ?_) (fun h => absurd (show ¬ (4 : Int) = 0 by decide) h)
          refine x_li (z := v) T_172_77 rfl ?_
          refine x_li (z := 4) T_172_78 rfl ?_
          refine x_ib (w := (or32 v 4)) T_172_80 (fun h => absurd h.1 (by decide)) rfl ?_
          refine x_si (ls1 := [some (vR (some k)), some (vI 1), some (vI a), some (vI (or32 v 4)), some (vI i), some (vI y), some (vI 4)]) T_172_81 rfl ?_
          refine x_inc (w := (i + 1)) (ls1 := [some (vR (some k)), some (vI 1), some (vI a), some (vI (or32 v 4)), some (vI (i + 1)), some (vI y), some (vI 4)]) T_172_82 rfl (w32_id (by omega) (by omega)) rfl ?_
          refine x_goto T_172_85 ?_
          exact hgo
        · have ef : flb y = 0 := (if_neg q1).trans ((if_neg q2).trans (if_neg q3))
          rw [if_pos ef] at eF
          rw [eF, if_pos (Or.inl rfl)]
          refine x_li (z := i) T_172_13 rfl ?_
          refine x_lr (z := some k) T_172_15 rfl ?_
          refine x_li (z := 1) T_172_16 rfl ?_
          refine x_cv2 T_172_17 mN_106 mL_106 (Nat.le_of_ble_eq_true rfl) mO_106 (hP.o hk) (Nat.le_of_ble_eq_true rfl) (hen) ?_
          rintro _ σ ⟨rfl, rfl⟩
          refine cI ?_
          refine x_ic2 T_172_20 (fun h => absurd (show e ≤ i from h) (by omega)) (fun _ => ?_)
          refine x_lr (z := some k) T_172_23 rfl ?_
          refine x_gR (z := some (k + 1)) T_172_24 F_16_0 (hP.o hk) (hP.rc hk rfl rfl) ?_
          refine x_li (z := i) T_172_27 rfl ?_
          refine x_cv2 T_172_29 mN_33 mL_33 (Nat.le_of_ble_eq_true rfl) mO_33 (hP.o hB.1) (Nat.le_of_ble_eq_true rfl) (hat) ?_
          rintro _ σ ⟨rfl, rfl⟩
          refine cI ?_
          refine x_si (ls1 := [some (vR (some k)), some (vI 1), some (vI a), some (vI v), some (vI i), some (vI y), x6]) T_172_32 rfl ?_
          refine x_li (z := y) T_172_34 rfl ?_
          refine x_ic T_172_36 ?_
          refine x_ic2 T_172_38 (fun _ => ?_) (fun h => absurd (show ¬ y = 97 by omega) h)
          refine x_li (z := y) T_172_45 rfl ?_
          refine x_ic T_172_47 ?_
          refine x_ic2 T_172_49 (fun _ => ?_) (fun h => absurd (show ¬ y = 98 by omega) h)
          refine x_li (z := y) T_172_56 rfl ?_
          refine x_ic T_172_58 ?_
          refine x_ic2 T_172_60 (fun _ => ?_) (fun h => absurd (show ¬ y = 99 by omega) h)
          refine x_ic T_172_67 ?_
          refine x_si (ls1 := [some (vR (some k)), some (vI 1), some (vI a), some (vI v), some (vI i), some (vI y), some (vI 0)]) T_172_68 rfl ?_
          refine x_li (z := 0) T_172_70 rfl ?_
          refine x_if T_172_72 (fun h => absurd (show ¬ (0 : Int) = 0 from h) (by decide)) (fun _ => ?_)
          refine x_ic T_172_75 ?_
          refine x_ri T_172_76 ?_
          exact ⟨rfl, rfl⟩
theorem x_flags (hP : PX σ0 W R σ) (h : CMD W k l) (hw : 1 < ((lnW l).length : Int)) : CL fb (d + 1) 172 [vR (some k), vI 1] σ (rP (flW (lnB l 1)) σ) := by
  obtain ⟨-, a, e, ha, he, h1, h2, h3, h4⟩ := h.word (w := 1) ⟨by decide, hw⟩
  have hso := x_startOf (fb := fb) (d := d) (w := 1) hP h ⟨by decide, hw⟩ ha
  have hl100 : l.length ≤ 100 := h.2.2.2.1.2.2.2.2.1
  have hlen : ((lnB l 1).length : Int) = e - a := by rw [h4, seg_len]; omega
  have e0 : lg (lnB l 1) 0 = lg l a := by rw [h4, lg_seg _ _ _ _ (by decide) (by omega)]; rw [Int.add_zero]
  have hlo := fl_loop (fb := fb) (d := d) hP h hw ha he ⟨h1, h2, h3⟩ ((lnB l 1).drop 1) (a + 1) 0 none none (by rw [List.length_drop]; omega) (by omega) (fun j hj => by
    rw [List.length_drop] at hj
    have e1 : ((lnB l 1).drop 1).getD j 0 = lg (lnB l 1) (1 + (j : Int)) := by
      rw [show (1 : Int) + (j : Int) = ((1 + j : Nat) : Int) by omega]
      simp only [List.getD_eq_getElem?_getD, List.getElem?_drop]
      rfl
    rw [e1, h4, lg_seg _ _ _ _ (by omega) (by omega)]
    congr 1
    omega) (by decide)
  unfold flW
  rw [e0]
  have hk := h.1
  refine CL_in mL_172 rfl ?_
  show WP fb _ 172 0 [some (vR (some k)), some (vI 1), none, none, none, none, none] [] σ _
  refine x_lr (z := some k) T_172_0 rfl ?_
  refine x_li (z := 1) T_172_1 rfl ?_
  refine x_cv2 T_172_2 mN_104 mL_104 (Nat.le_of_ble_eq_true rfl) mO_104 (hP.o hk) (Nat.le_of_ble_eq_true rfl) (hso) ?_
  rintro _ σ ⟨rfl, rfl⟩
  refine cI ?_
  refine x_si (ls1 := [some (vR (some k)), some (vI 1), some (vI a), none, none, none, none]) T_172_5 rfl ?_
  refine x_ic T_172_6 ?_
  refine x_si (ls1 := [some (vR (some k)), some (vI 1), some (vI a), some (vI 0), none, none, none]) T_172_7 rfl ?_
  refine x_li (z := a) T_172_8 rfl ?_
  refine x_ic T_172_9 ?_
  refine x_ib (w := (a + 1)) T_172_10 (fun h => absurd h.1 (by decide)) (w32_id (by omega) (by omega)) ?_
  refine x_si (ls1 := [some (vR (some k)), some (vI 1), some (vI a), some (vI 0), some (vI (a + 1)), none, none]) T_172_11 rfl ?_
  exact hlo
end XFLG
