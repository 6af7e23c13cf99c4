/-! Flags; variables. -/
theorem T_360_0 : hTab 360 0 = some ((3, 0, 2, []), 1) := rfl
theorem T_360_1 : hTab 360 1 = some ((0, 0, 1, []), 2) := rfl
theorem T_360_2 : hTab 360 2 = some ((31, 318, 0, []), 5) := rfl
theorem T_360_5 : hTab 360 5 = some ((0, 0, 1, []), 6) := rfl
theorem T_360_6 : hTab 360 6 = some ((19, 5, Int.ofNat 24, []), 9) := rfl
theorem T_360_9 : hTab 360 9 = some ((3, 0, 2, []), 10) := rfl
theorem T_360_10 : hTab 360 10 = some ((0, 0, 1, []), 11) := rfl
theorem T_360_11 : hTab 360 11 = some ((0, 0, 0, []), 12) := rfl
theorem T_360_12 : hTab 360 12 = some ((31, 319, 0, []), 15) := rfl
theorem T_360_15 : hTab 360 15 = some ((0, 0, 45, []), 17) := rfl
theorem T_360_17 : hTab 360 17 = some ((19, 1, Int.ofNat 24, []), 20) := rfl
theorem T_360_20 : hTab 360 20 = some ((0, 0, 1, []), 21) := rfl
theorem T_360_21 : hTab 360 21 = some ((22, 0, Int.ofNat 25, []), 24) := rfl
theorem T_360_24 : hTab 360 24 = some ((0, 0, 0, []), 25) := rfl
theorem T_360_25 : hTab 360 25 = some ((4, 1, 0, []), 26) := rfl
theorem T_360_26 : hTab 360 26 = some ((0, 0, 1, []), 27) := rfl
theorem T_360_27 : hTab 360 27 = some ((4, 2, 0, []), 28) := rfl
theorem T_360_28 : hTab 360 28 = some ((3, 2, 0, []), 29) := rfl
theorem T_360_29 : hTab 360 29 = some ((3, 0, 2, []), 30) := rfl
theorem T_360_30 : hTab 360 30 = some ((0, 0, 1, []), 31) := rfl
theorem T_360_31 : hTab 360 31 = some ((31, 318, 0, []), 34) := rfl
theorem T_360_34 : hTab 360 34 = some ((19, 3, Int.ofNat 57, []), 37) := rfl
theorem T_360_37 : hTab 360 37 = some ((3, 1, 0, []), 38) := rfl
theorem T_360_38 : hTab 360 38 = some ((18, 0, Int.ofNat 57, []), 41) := rfl
theorem T_360_41 : hTab 360 41 = some ((3, 0, 2, []), 42) := rfl
theorem T_360_42 : hTab 360 42 = some ((0, 0, 1, []), 43) := rfl
theorem T_360_43 : hTab 360 43 = some ((3, 2, 0, []), 44) := rfl
theorem T_360_44 : hTab 360 44 = some ((31, 319, 0, []), 47) := rfl
theorem T_360_47 : hTab 360 47 = some ((31, 361, 0, []), 50) := rfl
theorem T_360_50 : hTab 360 50 = some ((4, 1, 0, []), 51) := rfl
theorem T_360_51 : hTab 360 51 = some ((5, 2, 1, []), 54) := rfl
theorem T_360_54 : hTab 360 54 = some ((22, 0, Int.ofNat 28, []), 57) := rfl
theorem T_360_57 : hTab 360 57 = some ((3, 1, 0, []), 58) := rfl
theorem T_360_58 : hTab 360 58 = some ((33, 2, 0, []), 59) := rfl
theorem T_361_0 : hTab 361 0 = some ((3, 0, 0, []), 1) := rfl
theorem T_361_1 : hTab 361 1 = some ((14, 0, 0, []), 2) := rfl
theorem T_361_2 : hTab 361 2 = some ((1, 0, 97, []), 5) := rfl
theorem T_361_5 : hTab 361 5 = some ((1, 0, 99, []), 8) := rfl
theorem T_361_8 : hTab 361 8 = some ((31, 282, 0, []), 11) := rfl
theorem T_361_11 : hTab 361 11 = some ((33, 2, 0, []), 12) := rfl
theorem T_362_0 : hTab 362 0 = some ((0, 0, 0, []), 1) := rfl
theorem T_362_1 : hTab 362 1 = some ((4, 2, 0, []), 2) := rfl
theorem T_362_2 : hTab 362 2 = some ((0, 0, 1, []), 3) := rfl
theorem T_362_3 : hTab 362 3 = some ((4, 3, 0, []), 4) := rfl
theorem T_362_4 : hTab 362 4 = some ((3, 3, 0, []), 5) := rfl
theorem T_362_5 : hTab 362 5 = some ((3, 0, 2, []), 6) := rfl
theorem T_362_6 : hTab 362 6 = some ((0, 0, 1, []), 7) := rfl
theorem T_362_7 : hTab 362 7 = some ((31, 318, 0, []), 10) := rfl
theorem T_362_10 : hTab 362 10 = some ((19, 3, Int.ofNat 47, []), 13) := rfl
theorem T_362_13 : hTab 362 13 = some ((3, 0, 2, []), 14) := rfl
theorem T_362_14 : hTab 362 14 = some ((24, 17, Int.ofNat 77, []), 17) := rfl
theorem T_362_17 : hTab 362 17 = some ((0, 0, 4, []), 18) := rfl
theorem T_362_18 : hTab 362 18 = some ((19, 1, Int.ofNat 47, []), 21) := rfl
theorem T_362_21 : hTab 362 21 = some ((3, 2, 0, []), 22) := rfl
theorem T_362_22 : hTab 362 22 = some ((18, 1, Int.ofNat 35, []), 25) := rfl
theorem T_362_25 : hTab 362 25 = some ((3, 0, 2, []), 26) := rfl
theorem T_362_26 : hTab 362 26 = some ((0, 0, 1, []), 27) := rfl
theorem T_362_27 : hTab 362 27 = some ((3, 3, 0, []), 28) := rfl
theorem T_362_28 : hTab 362 28 = some ((31, 319, 0, []), 31) := rfl
theorem T_362_31 : hTab 362 31 = some ((3, 1, 0, []), 32) := rfl
theorem T_362_32 : hTab 362 32 = some ((19, 1, Int.ofNat 39, []), 35) := rfl
theorem T_362_35 : hTab 362 35 = some ((0, 0, 1, []), 36) := rfl
theorem T_362_36 : hTab 362 36 = some ((22, 0, Int.ofNat 40, []), 39) := rfl
theorem T_362_39 : hTab 362 39 = some ((0, 0, 0, []), 40) := rfl
theorem T_362_40 : hTab 362 40 = some ((4, 2, 0, []), 41) := rfl
theorem T_362_41 : hTab 362 41 = some ((5, 3, 1, []), 44) := rfl
theorem T_362_44 : hTab 362 44 = some ((22, 0, Int.ofNat 4, []), 47) := rfl
theorem T_362_47 : hTab 362 47 = some ((3, 2, 0, []), 48) := rfl
theorem T_362_48 : hTab 362 48 = some ((33, 2, 0, []), 49) := rfl
theorem mN_360 : hmN 360 = 1 := by decide +kernel
theorem mL_360 : hmL 360 = 3 := by decide +kernel
theorem mK_360 : hmK 360 = 1 := by decide +kernel
theorem mO_360 : hmO 360 = 17 := by decide +kernel
theorem mN_361 : hmN 361 = 1 := by decide +kernel
theorem mL_361 : hmL 361 = 1 := by decide +kernel
theorem mK_361 : hmK 361 = 0 := by decide +kernel
theorem mO_361 : hmO 361 = 17 := by decide +kernel
theorem mN_362 : hmN 362 = 2 := by decide +kernel
theorem mL_362 : hmL 362 = 4 := by decide +kernel
theorem mK_362 : hmK 362 = 1 := by decide +kernel
theorem mO_362 : hmO 362 = 17 := by decide +kernel
abbrev fgs (wd : List Int) : Prop := 1 < wd.length ∧ lg wd 0 = 45 ∧ ∀ b ∈ wd.drop 1, 97 ≤ b ∧ b ≤ 99
def gVar (P : qR) (p v : Int) (wd : List Int) : qR := rW (rU P 2362 (26 * p + v) (wd.length : Int)) 2361 (20 * (26 * p + v)) wd
def vaN (wd : List Int) : Int := if (wd.length : Int) = 1 then lg wd 0 - 97 else -1
def cSet (P : qR) (p : Int) (l : List Int) : Int × qR := if ¬ (0 ≤ vaN (lnB l 1) ∧ vaN (lnB l 1) ≤ 25) ∨ (((lnW l).length : Int) = 3 ∧ 20 < ((lnB l 2).length : Int)) then (18, P) else (0, gVar P p (vaN (lnB l 1)) (if ((lnW l).length : Int) = 3 then lnB l 2 else []))
section MSET
variable {fb : Bool} {d : Nat} {σ0 σ : hM} {P Q R S S1 S2 : qR} {T U s w g u p k e t z o thr pt off n N v : Int} {l l1 l2 nm wd A : List Int} {h : List Ch} {a f : Int → Int} {x : Int × Int} {c : Ch} {fr fd md n0 b : Int}
theorem m_isFlag {y : Int} : CL fb (d + 1) 361 [vI y] σ (rP (if 97 ≤ y ∧ y ≤ 99 then 1 else 0) σ) := by
  by_cases q : 97 ≤ y ∧ y ≤ 99
  · rw [if_pos q]
    refine CL_in mL_361 rfl ?_
    show WP fb _ 361 0 [some (vI y)] [] σ _
    refine x_li (z := y) T_361_0 rfl ?_
    refine x_i2l T_361_1 ?_
    refine x_lc T_361_2 ?_
    refine x_lc T_361_5 ?_
    refine x_cs3 T_361_8 mN_282 mL_282 (Nat.le_of_ble_eq_true rfl) mK_282 (Nat.le_of_ble_eq_true rfl) (m_in) ?_
    rintro _ σ ⟨rfl, rfl⟩
    refine cI ?_
    refine x_rz T_361_11 (h01_of (by omega)) ?_
    exact ⟨by rw [if_pos q], rfl⟩
  · rw [if_neg q]
    refine CL_in mL_361 rfl ?_
    show WP fb _ 361 0 [some (vI y)] [] σ _
    refine x_li (z := y) T_361_0 rfl ?_
    refine x_i2l T_361_1 ?_
    refine x_lc T_361_2 ?_
    refine x_lc T_361_5 ?_
    refine x_cs3 T_361_8 mN_282 mL_282 (Nat.le_of_ble_eq_true rfl) mK_282 (Nat.le_of_ble_eq_true rfl) (m_in) ?_
    rintro _ σ ⟨rfl, rfl⟩
    refine cI ?_
    refine x_rz T_361_11 (h01_of (by omega)) ?_
    exact ⟨by rw [if_neg q], rfl⟩
theorem m_areFlags_loop (hP : PM σ0 P S σ) (hL : LN S l) (hw : 1 < ((lnW l).length : Int)) (hn : ((lnB l 1).length : Int) = n) : ∀ (r : List Int) (k b : Int), k + (r.length : Int) = n → 0 ≤ k → (∀ i : Nat, i < r.length → lg (lnB l 1) (k + i) = r.getD i 0) → (b = 0 ∨ b = 1) → WP fb (d + 2) 360 28 [some (vR (some 2281)), some (vI b), some (vI k)] [] σ (rP (if b = 1 ∧ ∀ y ∈ r, 97 ≤ y ∧ y ≤ 99 then 1 else 0) σ) := by
  have h100 := lnB_len hL.2.1 (w := 1) ⟨by decide, hw⟩
  have hsz := CL_val (m_size (fb := fb) (d := d + 1) (w := 1) hP hL ⟨by decide, hw⟩) hn
  intro r
  induction r with
  | nil =>
    intro k b h1 h2 h3 hb
    have h1 : k + ((0 : Nat) : Int) = n := h1
    have e : (if b = 1 ∧ ∀ y ∈ ([] : List Int), 97 ≤ y ∧ y ≤ 99 then (1 : Int) else 0) = b := by
      rcases hb with rfl | rfl
      · exact if_neg (fun q => absurd q.1 (by decide))
      · exact if_pos ⟨rfl, fun y hy => absurd hy List.not_mem_nil⟩
    rw [e]
    refine x_li (z := k) T_360_28 rfl ?_
    refine x_lr (z := some 2281) T_360_29 rfl ?_
    refine x_ic T_360_30 ?_
    refine x_cv2 T_360_31 mN_318 mL_318 (Nat.le_of_ble_eq_true rfl) mO_318 (PM.t hP) (Nat.le_of_ble_eq_true rfl) (hsz) ?_
    rintro _ σ ⟨rfl, rfl⟩
    refine cI ?_
    refine x_ic2 T_360_34 (fun _ => ?_) (fun h => absurd (show n ≤ k by omega) h)
    refine x_li (z := b) T_360_57 rfl ?_
    refine x_rz T_360_58 (h01_of (by omega)) ?_
    exact ⟨rfl, rfl⟩
  | cons y r ih =>
    intro k b h1 h2 h3 hb
    have h1 : k + ((r.length + 1 : Nat) : Int) = n := h1
    rcases hb with rfl | rfl
    · rw [if_neg (fun q => absurd q.1 (by decide))]
      refine x_li (z := k) T_360_28 rfl ?_
      refine x_lr (z := some 2281) T_360_29 rfl ?_
      refine x_ic T_360_30 ?_
      refine x_cv2 T_360_31 mN_318 mL_318 (Nat.le_of_ble_eq_true rfl) mO_318 (PM.t hP) (Nat.le_of_ble_eq_true rfl) (hsz) ?_
      rintro _ σ ⟨rfl, rfl⟩
      refine cI ?_
      refine x_ic2 T_360_34 (fun h => absurd (show n ≤ k from h) (by omega)) (fun _ => ?_)
      refine x_li (z := 0) T_360_37 rfl ?_
      refine x_if T_360_38 (fun _ => ?_) (fun h => absurd (show (0 : Int) = 0 by rfl) h)
      refine x_li (z := 0) T_360_57 rfl ?_
      refine x_rz T_360_58 rfl ?_
      exact ⟨rfl, rfl⟩
    · have hy : lg (lnB l 1) k = y := by
        have := h3 0 (Nat.succ_pos _)
        rw [show k + ((0 : Nat) : Int) = k by omega] at this
        exact this
      have hsg := CL_val (m_sign (fb := fb) (d := d + 1) (w := 1) (k := k) hP hL ⟨by decide, hw⟩ ⟨h2, by omega⟩) hy
      have h4 : ∀ i : Nat, i < r.length → lg (lnB l 1) (k + 1 + i) = r.getD i 0 := fun i hi => by
        have := h3 (i + 1) (Nat.succ_lt_succ hi)
        rw [show k + ((i + 1 : Nat) : Int) = k + 1 + (i : Int) by omega] at this
        exact this
      by_cases q : 97 ≤ y ∧ y ≤ 99
      · have e : (if (1 : Int) = 1 ∧ ∀ x ∈ y :: r, 97 ≤ x ∧ x ≤ 99 then (1 : Int) else 0) = (if (1 : Int) = 1 ∧ ∀ x ∈ r, 97 ≤ x ∧ x ≤ 99 then (1 : Int) else 0) := by
          by_cases q2 : ∀ x ∈ r, 97 ≤ x ∧ x ≤ 99
          · have q3 : ∀ x ∈ y :: r, 97 ≤ x ∧ x ≤ 99 := fun x hx => by
              rcases List.mem_cons.mp hx with rfl | hx
              · exact q
              · exact q2 x hx
            rw [if_pos ⟨rfl, q3⟩, if_pos ⟨rfl, q2⟩]
          · rw [if_neg (fun c => q2 (fun x hx => c.2 x (List.mem_cons_of_mem _ hx))), if_neg (fun c => q2 c.2)]
        rw [e]
        have hfl := CL_val (m_isFlag (fb := fb) (d := d) (σ := σ) (y := y)) (if_pos q)
        have hgo := ih (k + 1) 1 (by omega) (by omega) h4 (Or.inr rfl)
        refine x_li (z := k) T_360_28 rfl ?_
        refine x_lr (z := some 2281) T_360_29 rfl ?_
        refine x_ic T_360_30 ?_
        refine x_cv2 T_360_31 mN_318 mL_318 (Nat.le_of_ble_eq_true rfl) mO_318 (PM.t hP) (Nat.le_of_ble_eq_true rfl) (hsz) ?_
        rintro _ σ ⟨rfl, rfl⟩
        refine cI ?_
        refine x_ic2 T_360_34 (fun h => absurd (show n ≤ k from h) (by omega)) (fun _ => ?_)
        refine x_li (z := 1) T_360_37 rfl ?_
        refine x_if T_360_38 (fun h => absurd (show (1 : Int) = 0 from h) (by decide)) (fun _ => ?_)
        refine x_lr (z := some 2281) T_360_41 rfl ?_
        refine x_ic T_360_42 ?_
        refine x_li (z := k) T_360_43 rfl ?_
        refine x_cv3 T_360_44 mN_319 mL_319 (Nat.le_of_ble_eq_true rfl) mO_319 (PM.t hP) (Nat.le_of_ble_eq_true rfl) (hsg) ?_
        rintro _ σ ⟨rfl, rfl⟩
        refine cI ?_
        refine x_cs1 T_360_47 mN_361 mL_361 (Nat.le_of_ble_eq_true rfl) mK_361 (Nat.le_of_ble_eq_true rfl) (hfl) ?_
        rintro _ σ ⟨rfl, rfl⟩
        refine cI ?_
        refine x_si (ls1 := [some (vR (some 2281)), some (vI 1), some (vI k)]) T_360_50 rfl ?_
        refine x_inc (w := (k + 1)) (ls1 := [some (vR (some 2281)), some (vI 1), some (vI (k + 1))]) T_360_51 rfl (w32_id (by omega) (by omega)) rfl ?_
        refine x_goto T_360_54 ?_
        exact hgo
      · have e : (if (1 : Int) = 1 ∧ ∀ x ∈ y :: r, 97 ≤ x ∧ x ≤ 99 then (1 : Int) else 0) = (if (0 : Int) = 1 ∧ ∀ x ∈ r, 97 ≤ x ∧ x ≤ 99 then (1 : Int) else 0) := by
          rw [if_neg (fun c => q (c.2 y List.mem_cons_self)), if_neg (fun c => absurd c.1 (by decide))]
        rw [e]
        have hfl := CL_val (m_isFlag (fb := fb) (d := d) (σ := σ) (y := y)) (if_neg q)
        have hgo := ih (k + 1) 0 (by omega) (by omega) h4 (Or.inl rfl)
        refine x_li (z := k) T_360_28 rfl ?_
        refine x_lr (z := some 2281) T_360_29 rfl ?_
        refine x_ic T_360_30 ?_
        refine x_cv2 T_360_31 mN_318 mL_318 (Nat.le_of_ble_eq_true rfl) mO_318 (PM.t hP) (Nat.le_of_ble_eq_true rfl) (hsz) ?_
        rintro _ σ ⟨rfl, rfl⟩
        refine cI ?_
        refine x_ic2 T_360_34 (fun h => absurd (show n ≤ k from h) (by omega)) (fun _ => ?_)
        refine x_li (z := 1) T_360_37 rfl ?_
        refine x_if T_360_38 (fun h => absurd (show (1 : Int) = 0 from h) (by decide)) (fun _ => ?_)
        refine x_lr (z := some 2281) T_360_41 rfl ?_
        refine x_ic T_360_42 ?_
        refine x_li (z := k) T_360_43 rfl ?_
        refine x_cv3 T_360_44 mN_319 mL_319 (Nat.le_of_ble_eq_true rfl) mO_319 (PM.t hP) (Nat.le_of_ble_eq_true rfl) (hsg) ?_
        rintro _ σ ⟨rfl, rfl⟩
        refine cI ?_
        refine x_cs1 T_360_47 mN_361 mL_361 (Nat.le_of_ble_eq_true rfl) mK_361 (Nat.le_of_ble_eq_true rfl) (hfl) ?_
        rintro _ σ ⟨rfl, rfl⟩
        refine cI ?_
        refine x_si (ls1 := [some (vR (some 2281)), some (vI 0), some (vI k)]) T_360_50 rfl ?_
        refine x_inc (w := (k + 1)) (ls1 := [some (vR (some 2281)), some (vI 0), some (vI (k + 1))]) T_360_51 rfl (w32_id (by omega) (by omega)) rfl ?_
        refine x_goto T_360_54 ?_
        exact hgo
theorem m_areFlags (hP : PM σ0 P S σ) (hL : LN S l) (hw : 1 < ((lnW l).length : Int)) : CL fb (d + 2) 360 [vR (some 2281)] σ (rP (if fgs (lnB l 1) then 1 else 0) σ) := by
  have h100 := lnB_len hL.2.1 (w := 1) ⟨by decide, hw⟩
  obtain ⟨n, hn⟩ : ∃ n : Int, ((lnB l 1).length : Int) = n := ⟨_, rfl⟩
  have hsz := CL_val (m_size (fb := fb) (d := d + 1) (w := 1) hP hL ⟨by decide, hw⟩) hn
  have hlp := fun b hb => m_areFlags_loop (fb := fb) (d := d) hP hL hw hn ((lnB l 1).drop 1) 1 b (by rw [List.length_drop]; omega) (by decide) (fun i hi => by rw [show (1 : Int) + (i : Int) = ((1 : Nat) : Int) + (i : Int) from rfl, ← lg_drop (by omega)]; rfl) hb
  obtain ⟨y, hy⟩ : ∃ y, lg (lnB l 1) 0 = y := ⟨_, rfl⟩
  have hsg := CL_val (m_sign (fb := fb) (d := d + 1) (w := 1) (k := 0) hP hL ⟨by decide, hw⟩ ⟨by decide, by omega⟩) hy
  by_cases q1 : 1 < n
  · by_cases q2 : y = 45
    · have e : (if fgs (lnB l 1) then (1 : Int) else 0) = (if (1 : Int) = 1 ∧ ∀ y ∈ (lnB l 1).drop 1, 97 ≤ y ∧ y ≤ 99 then 1 else 0) := by
        by_cases q3 : ∀ y ∈ (lnB l 1).drop 1, 97 ≤ y ∧ y ≤ 99
        · rw [if_pos (show fgs (lnB l 1) from ⟨by omega, hy.trans q2, q3⟩), if_pos ⟨rfl, q3⟩]
        · rw [if_neg (fun q : fgs (lnB l 1) => q3 q.2.2), if_neg (fun q => q3 q.2)]
      rw [e]
      have hgo := hlp 1 (Or.inr rfl)
      refine CL_in mL_360 rfl ?_
      show WP fb _ 360 0 [some (vR (some 2281)), none, none] [] σ _
      refine x_lr (z := some 2281) T_360_0 rfl ?_
      refine x_ic T_360_1 ?_
      refine x_cv2 T_360_2 mN_318 mL_318 (Nat.le_of_ble_eq_true rfl) mO_318 (PM.t hP) (Nat.le_of_ble_eq_true rfl) (hsz) ?_
      rintro _ σ ⟨rfl, rfl⟩
      refine cI ?_
      refine x_ic T_360_5 ?_
      refine x_ic2 T_360_6 (fun h => absurd (show n ≤ 1 from h) (by omega)) (fun _ => ?_)
      refine x_lr (z := some 2281) T_360_9 rfl ?_
      refine x_ic T_360_10 ?_
      refine x_ic T_360_11 ?_
      refine x_cv3 T_360_12 mN_319 mL_319 (Nat.le_of_ble_eq_true rfl) mO_319 (PM.t hP) (Nat.le_of_ble_eq_true rfl) (hsg) ?_
      rintro _ σ ⟨rfl, rfl⟩
      refine cI ?_
      refine x_ic T_360_15 ?_
      refine x_ic2 T_360_17 (fun h => absurd (show ¬ y = 45 from h) (by omega)) (fun _ => ?_)
      refine x_ic T_360_20 ?_
      refine x_goto T_360_21 ?_
      refine x_si (ls1 := [some (vR (some 2281)), some (vI 1), none]) T_360_25 rfl ?_
      refine x_ic T_360_26 ?_
      refine x_si (ls1 := [some (vR (some 2281)), some (vI 1), some (vI 1)]) T_360_27 rfl ?_
      exact hgo
    · have e : (if fgs (lnB l 1) then (1 : Int) else 0) = (if (0 : Int) = 1 ∧ ∀ y ∈ (lnB l 1).drop 1, 97 ≤ y ∧ y ≤ 99 then 1 else 0) := by
        rw [if_neg (fun q : fgs (lnB l 1) => q2 (hy.symm.trans q.2.1)), if_neg (fun c => absurd c.1 (by decide))]
      rw [e]
      have hgo := hlp 0 (Or.inl rfl)
      refine CL_in mL_360 rfl ?_
      show WP fb _ 360 0 [some (vR (some 2281)), none, none] [] σ _
      refine x_lr (z := some 2281) T_360_0 rfl ?_
      refine x_ic T_360_1 ?_
      refine x_cv2 T_360_2 mN_318 mL_318 (Nat.le_of_ble_eq_true rfl) mO_318 (PM.t hP) (Nat.le_of_ble_eq_true rfl) (hsz) ?_
      rintro _ σ ⟨rfl, rfl⟩
      refine cI ?_
      refine x_ic T_360_5 ?_
      refine x_ic2 T_360_6 (fun h => absurd (show n ≤ 1 from h) (by omega)) (fun _ => ?_)
      refine x_lr (z := some 2281) T_360_9 rfl ?_
      refine x_ic T_360_10 ?_
      refine x_ic T_360_11 ?_
      refine x_cv3 T_360_12 mN_319 mL_319 (Nat.le_of_ble_eq_true rfl) mO_319 (PM.t hP) (Nat.le_of_ble_eq_true rfl) (hsg) ?_
      rintro _ σ ⟨rfl, rfl⟩
      refine cI ?_
      refine x_ic T_360_15 ?_
      refine x_ic2 T_360_17 (fun _ => ?_) (fun h => absurd (show ¬ y = 45 by omega) h)
      refine x_ic T_360_24 ?_
      refine x_si (ls1 := [some (vR (some 2281)), some (vI 0), none]) T_360_25 rfl ?_
      refine x_ic T_360_26 ?_
      refine x_si (ls1 := [some (vR (some 2281)), some (vI 0), some (vI 1)]) T_360_27 rfl ?_
      exact hgo
  · have e : (if fgs (lnB l 1) then (1 : Int) else 0) = (if (0 : Int) = 1 ∧ ∀ y ∈ (lnB l 1).drop 1, 97 ≤ y ∧ y ≤ 99 then 1 else 0) := by
      rw [if_neg (fun q : fgs (lnB l 1) => by have := q.1; omega), if_neg (fun c => absurd c.1 (by decide))]
    rw [e]
    have hgo := hlp 0 (Or.inl rfl)
    refine CL_in mL_360 rfl ?_
    show WP fb _ 360 0 [some (vR (some 2281)), none, none] [] σ _
    refine x_lr (z := some 2281) T_360_0 rfl ?_
    refine x_ic T_360_1 ?_
    refine x_cv2 T_360_2 mN_318 mL_318 (Nat.le_of_ble_eq_true rfl) mO_318 (PM.t hP) (Nat.le_of_ble_eq_true rfl) (hsz) ?_
    rintro _ σ ⟨rfl, rfl⟩
    refine cI ?_
    refine x_ic T_360_5 ?_
    refine x_ic2 T_360_6 (fun _ => ?_) (fun h => absurd (show n ≤ 1 by omega) h)
    refine x_ic T_360_24 ?_
    refine x_si (ls1 := [some (vR (some 2281)), some (vI 0), none]) T_360_25 rfl ?_
    refine x_ic T_360_26 ?_
    refine x_si (ls1 := [some (vR (some 2281)), some (vI 0), some (vI 1)]) T_360_27 rfl ?_
    exact hgo
theorem m_isFlagged_loop {y : Int} (hP : PM σ0 P S σ) (hL : LN S l) (hw : ((lnW l).length : Int) = 4) (hn : ((lnB l 1).length : Int) = n) : ∀ (r : List Int) (k b : Int), k + (r.length : Int) = n → 0 ≤ k → (∀ i : Nat, i < r.length → lg (lnB l 1) (k + i) = r.getD i 0) → (b = 0 ∨ b = 1) → WP fb (d + 2) 362 4 [some (vR (some 2281)), some (vI y), some (vI b), some (vI k)] [] σ (rP (if b = 1 ∨ y ∈ r then 1 else 0) σ) := by
  have h100 := lnB_len hL.2.1 (w := 1) ⟨by decide, by omega⟩
  have h77 : S 2281 77 = 4 := hL.2.2.2.2.1.trans hw
  have hsz := CL_val (m_size (fb := fb) (d := d + 1) (w := 1) hP hL ⟨by decide, by omega⟩) hn
  intro r
  induction r with
  | nil =>
    intro k b h1 h2 h3 hb
    have h1 : k + ((0 : Nat) : Int) = n := h1
    have e : (if b = 1 ∨ y ∈ ([] : List Int) then (1 : Int) else 0) = b := by
      rcases hb with rfl | rfl
      · exact if_neg (fun q => q.elim (by decide) List.not_mem_nil)
      · exact if_pos (Or.inl rfl)
    rw [e]
    refine x_li (z := k) T_362_4 rfl ?_
    refine x_lr (z := some 2281) T_362_5 rfl ?_
    refine x_ic T_362_6 ?_
    refine x_cv2 T_362_7 mN_318 mL_318 (Nat.le_of_ble_eq_true rfl) mO_318 (PM.t hP) (Nat.le_of_ble_eq_true rfl) (hsz) ?_
    rintro _ σ ⟨rfl, rfl⟩
    refine cI ?_
    refine x_ic2 T_362_10 (fun _ => ?_) (fun h => absurd (show n ≤ k by omega) h)
    refine x_li (z := b) T_362_47 rfl ?_
    refine x_rz T_362_48 (h01_of (by omega)) ?_
    exact ⟨rfl, rfl⟩
  | cons v r ih =>
    intro k b h1 h2 h3 hb
    have h1 : k + ((r.length + 1 : Nat) : Int) = n := h1
    have hy : lg (lnB l 1) k = v := by
      have := h3 0 (Nat.succ_pos _)
      rw [show k + ((0 : Nat) : Int) = k by omega] at this
      exact this
    have h4 : ∀ i : Nat, i < r.length → lg (lnB l 1) (k + 1 + i) = r.getD i 0 := fun i hi => by
      have := h3 (i + 1) (Nat.succ_lt_succ hi)
      rw [show k + ((i + 1 : Nat) : Int) = k + 1 + (i : Int) by omega] at this
      exact this
    have hsg := CL_val (m_sign (fb := fb) (d := d + 1) (w := 1) (k := k) hP hL ⟨by decide, by omega⟩ ⟨h2, by omega⟩) hy
    rcases hb with rfl | rfl
    · by_cases q : v = y
      · have e : (if (0 : Int) = 1 ∨ y ∈ v :: r then (1 : Int) else 0) = (if (1 : Int) = 1 ∨ y ∈ r then (1 : Int) else 0) := by
          rw [if_pos (Or.inr (by rw [q]; exact List.mem_cons_self)), if_pos (Or.inl rfl)]
        rw [e]
        have hgo := ih (k + 1) 1 (by omega) (by omega) h4 (Or.inr rfl)
        refine x_li (z := k) T_362_4 rfl ?_
        refine x_lr (z := some 2281) T_362_5 rfl ?_
        refine x_ic T_362_6 ?_
        refine x_cv2 T_362_7 mN_318 mL_318 (Nat.le_of_ble_eq_true rfl) mO_318 (PM.t hP) (Nat.le_of_ble_eq_true rfl) (hsz) ?_
        rintro _ σ ⟨rfl, rfl⟩
        refine cI ?_
        refine x_ic2 T_362_10 (fun h => absurd (show n ≤ k from h) (by omega)) (fun _ => ?_)
        refine x_lr (z := some 2281) T_362_13 rfl ?_
        refine x_gI (z := 4) T_362_14 (Or.inl F_17_77) (PM.t hP) (Eq.trans (PM.nS hP 2281 77 77 rfl rfl rfl) h77) ?_
        refine x_ic T_362_17 ?_
        refine x_ic2 T_362_18 (fun h => absurd (show ¬ (4 : Int) = 4 from h) (by decide)) (fun _ => ?_)
        refine x_li (z := 0) T_362_21 rfl ?_
        refine x_if T_362_22 (fun h => absurd (show ¬ (0 : Int) = 0 from h) (by decide)) (fun _ => ?_)
        refine x_lr (z := some 2281) T_362_25 rfl ?_
        refine x_ic T_362_26 ?_
        refine x_li (z := k) T_362_27 rfl ?_
        refine x_cv3 T_362_28 mN_319 mL_319 (Nat.le_of_ble_eq_true rfl) mO_319 (PM.t hP) (Nat.le_of_ble_eq_true rfl) (hsg) ?_
        rintro _ σ ⟨rfl, rfl⟩
        refine cI ?_
        refine x_li (z := y) T_362_31 rfl ?_
        refine x_ic2 T_362_32 (fun h => absurd (show ¬ v = y from h) (by omega)) (fun _ => ?_)
        refine x_ic T_362_35 ?_
        refine x_goto T_362_36 ?_
        refine x_si (ls1 := [some (vR (some 2281)), some (vI y), some (vI 1), some (vI k)]) T_362_40 rfl ?_
        refine x_inc (w := (k + 1)) (ls1 := [some (vR (some 2281)), some (vI y), some (vI 1), some (vI (k + 1))]) T_362_41 rfl (w32_id (by omega) (by omega)) rfl ?_
        refine x_goto T_362_44 ?_
        exact hgo
      · have e : (if (0 : Int) = 1 ∨ y ∈ v :: r then (1 : Int) else 0) = (if (0 : Int) = 1 ∨ y ∈ r then (1 : Int) else 0) := by
          by_cases q2 : y ∈ r
          · rw [if_pos (Or.inr (List.mem_cons_of_mem _ q2)), if_pos (Or.inr q2)]
          · rw [if_neg (fun c => c.elim (by decide) (fun c => (List.mem_cons.mp c).elim (fun c => q c.symm) q2)), if_neg (fun c => c.elim (by decide) q2)]
        rw [e]
        have hgo := ih (k + 1) 0 (by omega) (by omega) h4 (Or.inl rfl)
        refine x_li (z := k) T_362_4 rfl ?_
        refine x_lr (z := some 2281) T_362_5 rfl ?_
        refine x_ic T_362_6 ?_
        refine x_cv2 T_362_7 mN_318 mL_318 (Nat.le_of_ble_eq_true rfl) mO_318 (PM.t hP) (Nat.le_of_ble_eq_true rfl) (hsz) ?_
        rintro _ σ ⟨rfl, rfl⟩
        refine cI ?_
        refine x_ic2 T_362_10 (fun h => absurd (show n ≤ k from h) (by omega)) (fun _ => ?_)
        refine x_lr (z := some 2281) T_362_13 rfl ?_
        refine x_gI (z := 4) T_362_14 (Or.inl F_17_77) (PM.t hP) (Eq.trans (PM.nS hP 2281 77 77 rfl rfl rfl) h77) ?_
        refine x_ic T_362_17 ?_
        refine x_ic2 T_362_18 (fun h => absurd (show ¬ (4 : Int) = 4 from h) (by decide)) (fun _ => ?_)
        refine x_li (z := 0) T_362_21 rfl ?_
        refine x_if T_362_22 (fun h => absurd (show ¬ (0 : Int) = 0 from h) (by decide)) (fun _ => ?_)
        refine x_lr (z := some 2281) T_362_25 rfl ?_
        refine x_ic T_362_26 ?_
        refine x_li (z := k) T_362_27 rfl ?_
        refine x_cv3 T_362_28 mN_319 mL_319 (Nat.le_of_ble_eq_true rfl) mO_319 (PM.t hP) (Nat.le_of_ble_eq_true rfl) (hsg) ?_
        rintro _ σ ⟨rfl, rfl⟩
        refine cI ?_
        refine x_li (z := y) T_362_31 rfl ?_
        refine x_ic2 T_362_32 (fun _ => ?_) (fun h => absurd (show ¬ v = y by omega) h)
        refine x_ic T_362_39 ?_
        refine x_si (ls1 := [some (vR (some 2281)), some (vI y), some (vI 0), some (vI k)]) T_362_40 rfl ?_
        refine x_inc (w := (k + 1)) (ls1 := [some (vR (some 2281)), some (vI y), some (vI 0), some (vI (k + 1))]) T_362_41 rfl (w32_id (by omega) (by omega)) rfl ?_
        refine x_goto T_362_44 ?_
        exact hgo
    · have e : (if (1 : Int) = 1 ∨ y ∈ v :: r then (1 : Int) else 0) = (if (1 : Int) = 1 ∨ y ∈ r then (1 : Int) else 0) := by
        rw [if_pos (Or.inl rfl), if_pos (Or.inl rfl)]
      rw [e]
      have hgo := ih (k + 1) 1 (by omega) (by omega) h4 (Or.inr rfl)
      refine x_li (z := k) T_362_4 rfl ?_
      refine x_lr (z := some 2281) T_362_5 rfl ?_
      refine x_ic T_362_6 ?_
      refine x_cv2 T_362_7 mN_318 mL_318 (Nat.le_of_ble_eq_true rfl) mO_318 (PM.t hP) (Nat.le_of_ble_eq_true rfl) (hsz) ?_
      rintro _ σ ⟨rfl, rfl⟩
      refine cI ?_
      refine x_ic2 T_362_10 (fun h => absurd (show n ≤ k from h) (by omega)) (fun _ => ?_)
      refine x_lr (z := some 2281) T_362_13 rfl ?_
      refine x_gI (z := 4) T_362_14 (Or.inl F_17_77) (PM.t hP) (Eq.trans (PM.nS hP 2281 77 77 rfl rfl rfl) h77) ?_
      refine x_ic T_362_17 ?_
      refine x_ic2 T_362_18 (fun h => absurd (show ¬ (4 : Int) = 4 from h) (by decide)) (fun _ => ?_)
      refine x_li (z := 1) T_362_21 rfl ?_
      refine x_if T_362_22 (fun _ => ?_) (fun h => absurd (show ¬ (1 : Int) = 0 by decide) h)
      refine x_ic T_362_35 ?_
      refine x_goto T_362_36 ?_
      refine x_si (ls1 := [some (vR (some 2281)), some (vI y), some (vI 1), some (vI k)]) T_362_40 rfl ?_
      refine x_inc (w := (k + 1)) (ls1 := [some (vR (some 2281)), some (vI y), some (vI 1), some (vI (k + 1))]) T_362_41 rfl (w32_id (by omega) (by omega)) rfl ?_
      refine x_goto T_362_44 ?_
      exact hgo
theorem m_isFlagged {y : Int} (hP : PM σ0 P S σ) (hL : LN S l) (hw : 1 < ((lnW l).length : Int)) : CL fb (d + 2) 362 [vR (some 2281), vI y] σ (rP (if ((lnW l).length : Int) = 4 ∧ y ∈ (lnB l 1).drop 1 then 1 else 0) σ) := by
  have h100 := lnB_len hL.2.1 (w := 1) ⟨by decide, hw⟩
  obtain ⟨n, hn⟩ : ∃ n : Int, ((lnB l 1).length : Int) = n := ⟨_, rfl⟩
  have hsz := CL_val (m_size (fb := fb) (d := d + 1) (w := 1) hP hL ⟨by decide, hw⟩) hn
  by_cases q1 : ((lnW l).length : Int) = 4
  · have hgo := m_isFlagged_loop (fb := fb) (d := d) (y := y) hP hL q1 hn ((lnB l 1).drop 1) 1 0 (by rw [List.length_drop]; omega) (by decide) (fun i hi => by rw [show (1 : Int) + (i : Int) = ((1 : Nat) : Int) + (i : Int) from rfl, ← lg_drop (by omega)]; rfl) (Or.inl rfl)
    have e : (if ((lnW l).length : Int) = 4 ∧ y ∈ (lnB l 1).drop 1 then (1 : Int) else 0) = (if (0 : Int) = 1 ∨ y ∈ (lnB l 1).drop 1 then (1 : Int) else 0) := by
      by_cases q2 : y ∈ (lnB l 1).drop 1
      · rw [if_pos ⟨q1, q2⟩, if_pos (Or.inr q2)]
      · rw [if_neg (fun c => q2 c.2), if_neg (fun c => c.elim (by decide) q2)]
    rw [e]
    refine CL_in mL_362 rfl ?_
    show WP fb _ 362 0 [some (vR (some 2281)), some (vI y), none, none] [] σ _
    refine x_ic T_362_0 ?_
    refine x_si (ls1 := [some (vR (some 2281)), some (vI y), some (vI 0), none]) T_362_1 rfl ?_
    refine x_ic T_362_2 ?_
    refine x_si (ls1 := [some (vR (some 2281)), some (vI y), some (vI 0), some (vI 1)]) T_362_3 rfl ?_
    exact hgo
  · rw [if_neg (fun c => q1 c.1)]
    have h77 := hL.2.2.2.2.1
    obtain ⟨N, hN⟩ : ∃ N : Int, ((lnW l).length : Int) = N := ⟨_, rfl⟩
    rw [hN] at h77 q1
    by_cases q2 : 1 < n
    · skip
      refine CL_in mL_362 rfl ?_
      show WP fb _ 362 0 [some (vR (some 2281)), some (vI y), none, none] [] σ _
      refine x_ic T_362_0 ?_
      refine x_si (ls1 := [some (vR (some 2281)), some (vI y), some (vI 0), none]) T_362_1 rfl ?_
      refine x_ic T_362_2 ?_
      refine x_si (ls1 := [some (vR (some 2281)), some (vI y), some (vI 0), some (vI 1)]) T_362_3 rfl ?_
      refine x_li (z := 1) T_362_4 rfl ?_
      refine x_lr (z := some 2281) T_362_5 rfl ?_
      refine x_ic T_362_6 ?_
      refine x_cv2 T_362_7 mN_318 mL_318 (Nat.le_of_ble_eq_true rfl) mO_318 (PM.t hP) (Nat.le_of_ble_eq_true rfl) (hsz) ?_
      rintro _ σ ⟨rfl, rfl⟩
      refine cI ?_
      refine x_ic2 T_362_10 (fun h => absurd (show n ≤ 1 from h) (by omega)) (fun _ => ?_)
      refine x_lr (z := some 2281) T_362_13 rfl ?_
      refine x_gI (z := N) T_362_14 (Or.inl F_17_77) (PM.t hP) (Eq.trans (PM.nS hP 2281 77 77 rfl rfl rfl) h77) ?_
      refine x_ic T_362_17 ?_
      refine x_ic2 T_362_18 (fun _ => ?_) (fun h => absurd (show ¬ N = 4 by omega) h)
      refine x_li (z := 0) T_362_47 rfl ?_
      refine x_rz T_362_48 rfl ?_
      exact ⟨rfl, rfl⟩
    · skip
      refine CL_in mL_362 rfl ?_
      show WP fb _ 362 0 [some (vR (some 2281)), some (vI y), none, none] [] σ _
      refine x_ic T_362_0 ?_
      refine x_si (ls1 := [some (vR (some 2281)), some (vI y), some (vI 0), none]) T_362_1 rfl ?_
      refine x_ic T_362_2 ?_
      refine x_si (ls1 := [some (vR (some 2281)), some (vI y), some (vI 0), some (vI 1)]) T_362_3 rfl ?_
      refine x_li (z := 1) T_362_4 rfl ?_
      refine x_lr (z := some 2281) T_362_5 rfl ?_
      refine x_ic T_362_6 ?_
      refine x_cv2 T_362_7 mN_318 mL_318 (Nat.le_of_ble_eq_true rfl) mO_318 (PM.t hP) (Nat.le_of_ble_eq_true rfl) (hsz) ?_
      rintro _ σ ⟨rfl, rfl⟩
      refine cI ?_
      refine x_ic2 T_362_10 (fun _ => ?_) (fun h => absurd (show n ≤ 1 by omega) h)
      refine x_li (z := 0) T_362_47 rfl ?_
      refine x_rz T_362_48 rfl ?_
      exact ⟨rfl, rfl⟩
end MSET
