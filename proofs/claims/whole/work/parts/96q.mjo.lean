/-! Words joined as a source; words alike; the first do. -/
theorem T_321_0 : hTab 321 0 = some ((3, 0, 2, []), 1) := rfl
theorem T_321_1 : hTab 321 1 = some ((3, 1, 0, []), 2) := rfl
theorem T_321_2 : hTab 321 2 = some ((31, 318, 0, []), 5) := rfl
theorem T_321_5 : hTab 321 5 = some ((3, 0, 2, []), 6) := rfl
theorem T_321_6 : hTab 321 6 = some ((3, 2, 0, []), 7) := rfl
theorem T_321_7 : hTab 321 7 = some ((31, 318, 0, []), 10) := rfl
theorem T_321_10 : hTab 321 10 = some ((19, 1, Int.ofNat 17, []), 13) := rfl
theorem T_321_13 : hTab 321 13 = some ((0, 0, 1, []), 14) := rfl
theorem T_321_14 : hTab 321 14 = some ((22, 0, Int.ofNat 18, []), 17) := rfl
theorem T_321_17 : hTab 321 17 = some ((0, 0, 0, []), 18) := rfl
theorem T_321_18 : hTab 321 18 = some ((4, 3, 0, []), 19) := rfl
theorem T_321_19 : hTab 321 19 = some ((0, 0, 0, []), 20) := rfl
theorem T_321_20 : hTab 321 20 = some ((4, 4, 0, []), 22) := rfl
theorem T_321_22 : hTab 321 22 = some ((3, 4, 0, []), 24) := rfl
theorem T_321_24 : hTab 321 24 = some ((3, 0, 2, []), 25) := rfl
theorem T_321_25 : hTab 321 25 = some ((3, 1, 0, []), 26) := rfl
theorem T_321_26 : hTab 321 26 = some ((31, 318, 0, []), 29) := rfl
theorem T_321_29 : hTab 321 29 = some ((19, 3, Int.ofNat 65, []), 32) := rfl
theorem T_321_32 : hTab 321 32 = some ((3, 3, 0, []), 33) := rfl
theorem T_321_33 : hTab 321 33 = some ((18, 0, Int.ofNat 65, []), 36) := rfl
theorem T_321_36 : hTab 321 36 = some ((3, 0, 2, []), 37) := rfl
theorem T_321_37 : hTab 321 37 = some ((3, 1, 0, []), 38) := rfl
theorem T_321_38 : hTab 321 38 = some ((3, 4, 0, []), 40) := rfl
theorem T_321_40 : hTab 321 40 = some ((31, 319, 0, []), 43) := rfl
theorem T_321_43 : hTab 321 43 = some ((3, 0, 2, []), 44) := rfl
theorem T_321_44 : hTab 321 44 = some ((3, 2, 0, []), 45) := rfl
theorem T_321_45 : hTab 321 45 = some ((3, 4, 0, []), 47) := rfl
theorem T_321_47 : hTab 321 47 = some ((31, 319, 0, []), 50) := rfl
theorem T_321_50 : hTab 321 50 = some ((19, 1, Int.ofNat 57, []), 53) := rfl
theorem T_321_53 : hTab 321 53 = some ((0, 0, 1, []), 54) := rfl
theorem T_321_54 : hTab 321 54 = some ((22, 0, Int.ofNat 58, []), 57) := rfl
theorem T_321_57 : hTab 321 57 = some ((0, 0, 0, []), 58) := rfl
theorem T_321_58 : hTab 321 58 = some ((4, 3, 0, []), 59) := rfl
theorem T_321_59 : hTab 321 59 = some ((5, 4, 1, []), 62) := rfl
theorem T_321_62 : hTab 321 62 = some ((22, 0, Int.ofNat 22, []), 65) := rfl
theorem T_321_65 : hTab 321 65 = some ((3, 3, 0, []), 66) := rfl
theorem T_321_66 : hTab 321 66 = some ((33, 2, 0, []), 67) := rfl
theorem T_322_0 : hTab 322 0 = some ((3, 0, 2, []), 1) := rfl
theorem T_322_1 : hTab 322 1 = some ((0, 0, 0, []), 2) := rfl
theorem T_322_2 : hTab 322 2 = some ((25, 17, Int.ofNat 105, []), 5) := rfl
theorem T_322_5 : hTab 322 5 = some ((3, 1, 0, []), 6) := rfl
theorem T_322_6 : hTab 322 6 = some ((4, 2, 0, []), 7) := rfl
theorem T_322_7 : hTab 322 7 = some ((3, 2, 0, []), 8) := rfl
theorem T_322_8 : hTab 322 8 = some ((3, 0, 2, []), 9) := rfl
theorem T_322_9 : hTab 322 9 = some ((24, 17, Int.ofNat 77, []), 12) := rfl
theorem T_322_12 : hTab 322 12 = some ((19, 3, Int.ofNat 89, []), 15) := rfl
theorem T_322_15 : hTab 322 15 = some ((3, 2, 0, []), 16) := rfl
theorem T_322_16 : hTab 322 16 = some ((3, 1, 0, []), 17) := rfl
theorem T_322_17 : hTab 322 17 = some ((19, 5, Int.ofNat 41, []), 20) := rfl
theorem T_322_20 : hTab 322 20 = some ((3, 0, 2, []), 21) := rfl
theorem T_322_21 : hTab 322 21 = some ((24, 17, Int.ofNat 104, []), 24) := rfl
theorem T_322_24 : hTab 322 24 = some ((3, 0, 2, []), 25) := rfl
theorem T_322_25 : hTab 322 25 = some ((24, 17, Int.ofNat 105, []), 28) := rfl
theorem T_322_28 : hTab 322 28 = some ((0, 0, 32, []), 30) := rfl
theorem T_322_30 : hTab 322 30 = some ((27, 0, 0, []), 31) := rfl
theorem T_322_31 : hTab 322 31 = some ((3, 0, 2, []), 32) := rfl
theorem T_322_32 : hTab 322 32 = some ((6, 0, 0, []), 33) := rfl
theorem T_322_33 : hTab 322 33 = some ((24, 17, Int.ofNat 105, []), 36) := rfl
theorem T_322_36 : hTab 322 36 = some ((0, 0, 1, []), 37) := rfl
theorem T_322_37 : hTab 322 37 = some ((10, 0, 0, []), 38) := rfl
theorem T_322_38 : hTab 322 38 = some ((25, 17, Int.ofNat 105, []), 41) := rfl
theorem T_322_41 : hTab 322 41 = some ((0, 0, 0, []), 42) := rfl
theorem T_322_42 : hTab 322 42 = some ((4, 3, 0, []), 43) := rfl
theorem T_322_43 : hTab 322 43 = some ((3, 3, 0, []), 44) := rfl
theorem T_322_44 : hTab 322 44 = some ((3, 0, 2, []), 45) := rfl
theorem T_322_45 : hTab 322 45 = some ((3, 2, 0, []), 46) := rfl
theorem T_322_46 : hTab 322 46 = some ((31, 318, 0, []), 49) := rfl
theorem T_322_49 : hTab 322 49 = some ((19, 3, Int.ofNat 83, []), 52) := rfl
theorem T_322_52 : hTab 322 52 = some ((3, 0, 2, []), 53) := rfl
theorem T_322_53 : hTab 322 53 = some ((24, 17, Int.ofNat 104, []), 56) := rfl
theorem T_322_56 : hTab 322 56 = some ((3, 0, 2, []), 57) := rfl
theorem T_322_57 : hTab 322 57 = some ((24, 17, Int.ofNat 105, []), 60) := rfl
theorem T_322_60 : hTab 322 60 = some ((3, 0, 2, []), 61) := rfl
theorem T_322_61 : hTab 322 61 = some ((3, 2, 0, []), 62) := rfl
theorem T_322_62 : hTab 322 62 = some ((3, 3, 0, []), 63) := rfl
theorem T_322_63 : hTab 322 63 = some ((31, 319, 0, []), 66) := rfl
theorem T_322_66 : hTab 322 66 = some ((27, 0, 0, []), 67) := rfl
theorem T_322_67 : hTab 322 67 = some ((3, 0, 2, []), 68) := rfl
theorem T_322_68 : hTab 322 68 = some ((6, 0, 0, []), 69) := rfl
theorem T_322_69 : hTab 322 69 = some ((24, 17, Int.ofNat 105, []), 72) := rfl
theorem T_322_72 : hTab 322 72 = some ((0, 0, 1, []), 73) := rfl
theorem T_322_73 : hTab 322 73 = some ((10, 0, 0, []), 74) := rfl
theorem T_322_74 : hTab 322 74 = some ((25, 17, Int.ofNat 105, []), 77) := rfl
theorem T_322_77 : hTab 322 77 = some ((5, 3, 1, []), 80) := rfl
theorem T_322_80 : hTab 322 80 = some ((22, 0, Int.ofNat 43, []), 83) := rfl
theorem T_322_83 : hTab 322 83 = some ((5, 2, 1, []), 86) := rfl
theorem T_322_86 : hTab 322 86 = some ((22, 0, Int.ofNat 7, []), 89) := rfl
theorem T_322_89 : hTab 322 89 = some ((33, 0, 0, []), 90) := rfl
theorem T_324_0 : hTab 324 0 = some ((0, 0, 3, []), 1) := rfl
theorem T_324_1 : hTab 324 1 = some ((4, 1, 0, []), 2) := rfl
theorem T_324_2 : hTab 324 2 = some ((3, 1, 0, []), 3) := rfl
theorem T_324_3 : hTab 324 3 = some ((3, 0, 2, []), 4) := rfl
theorem T_324_4 : hTab 324 4 = some ((24, 17, Int.ofNat 77, []), 7) := rfl
theorem T_324_7 : hTab 324 7 = some ((19, 3, Int.ofNat 49, []), 10) := rfl
theorem T_324_10 : hTab 324 10 = some ((3, 0, 2, []), 11) := rfl
theorem T_324_11 : hTab 324 11 = some ((3, 1, 0, []), 12) := rfl
theorem T_324_12 : hTab 324 12 = some ((31, 318, 0, []), 15) := rfl
theorem T_324_15 : hTab 324 15 = some ((0, 0, 2, []), 16) := rfl
theorem T_324_16 : hTab 324 16 = some ((19, 1, Int.ofNat 43, []), 19) := rfl
theorem T_324_19 : hTab 324 19 = some ((3, 0, 2, []), 20) := rfl
theorem T_324_20 : hTab 324 20 = some ((3, 1, 0, []), 21) := rfl
theorem T_324_21 : hTab 324 21 = some ((0, 0, 0, []), 22) := rfl
theorem T_324_22 : hTab 324 22 = some ((31, 319, 0, []), 25) := rfl
theorem T_324_25 : hTab 324 25 = some ((0, 0, 100, []), 27) := rfl
theorem T_324_27 : hTab 324 27 = some ((19, 1, Int.ofNat 43, []), 30) := rfl
theorem T_324_30 : hTab 324 30 = some ((3, 0, 2, []), 31) := rfl
theorem T_324_31 : hTab 324 31 = some ((3, 1, 0, []), 32) := rfl
theorem T_324_32 : hTab 324 32 = some ((0, 0, 1, []), 33) := rfl
theorem T_324_33 : hTab 324 33 = some ((31, 319, 0, []), 36) := rfl
theorem T_324_36 : hTab 324 36 = some ((0, 0, 111, []), 38) := rfl
theorem T_324_38 : hTab 324 38 = some ((19, 1, Int.ofNat 43, []), 41) := rfl
theorem T_324_41 : hTab 324 41 = some ((3, 1, 0, []), 42) := rfl
theorem T_324_42 : hTab 324 42 = some ((33, 1, 0, []), 43) := rfl
theorem T_324_43 : hTab 324 43 = some ((5, 1, 1, []), 46) := rfl
theorem T_324_46 : hTab 324 46 = some ((22, 0, Int.ofNat 2, []), 49) := rfl
theorem T_324_49 : hTab 324 49 = some ((0, 0, (-1), []), 50) := rfl
theorem T_324_50 : hTab 324 50 = some ((33, 1, 0, []), 51) := rfl
theorem mN_321 : hmN 321 = 3 := by decide +kernel
theorem mL_321 : hmL 321 = 5 := by decide +kernel
theorem mK_321 : hmK 321 = 1 := by decide +kernel
theorem mO_321 : hmO 321 = 17 := by decide +kernel
theorem mN_322 : hmN 322 = 2 := by decide +kernel
theorem mL_322 : hmL 322 = 4 := by decide +kernel
theorem mK_322 : hmK 322 = 1 := by decide +kernel
theorem mO_322 : hmO 322 = 17 := by decide +kernel
theorem mN_324 : hmN 324 = 1 := by decide +kernel
theorem mL_324 : hmL 324 = 2 := by decide +kernel
theorem mK_324 : hmK 324 = 1 := by decide +kernel
theorem mO_324 : hmO 324 = 17 := by decide +kernel
/-- the source, as far as it is laid down -/
def SRP (S : qR) (L : List Int) : Prop := S 2281 105 = (L.length : Int) ∧ ∀ j : Int, 0 ≤ j → j < L.length → S 2364 j = lg L j
def soR : List Nat := [2364]
def soN : List Int := [105]
/-- what is still to be joined, at word w -/
def jnT (l : List Int) (z fst w : Int) (m : Nat) : List Int := if w < z then (if fst < w then [32] else []) ++ ecT l z w m else []
def jnS (l : List Int) (fst : Int) : List Int := ecT l ((lnW l).length : Int) fst (((lnW l).length : Int) - fst).toNat
/-- the first do behind in, or -1 -/
def pdR (l : List Int) : Nat → Int → Int
  | 0, _ => -1
  | m + 1, w => if lnB l w = [100, 111] then w else pdR l m (w + 1)
def pdO (l : List Int) : Int := pdR l (((lnW l).length : Int) - 3).toNat 3
section MJO
variable {fb : Bool} {d : Nat} {σ0 σ : hM} {P Q R S S0 S1 S2 : qR} {T U s w g u p k e t z o n N v b a fst : Int} {l L TT wd : List Int} {h : List Ch} {l3 : Option AV}
theorem SRP_one (h : SRP S L) (hz : z = (L.length : Int)) : SRP (rU (rU S 2364 z b) 2281 105 (z + 1)) (L ++ [b]) := by
  have e : ((L ++ [b]).length : Int) = z + 1 := by rw [List.length_append, hz]; rfl
  refine ⟨by rw [rU_s, e], fun j a1 a2 => ?_⟩
  rw [e] at a2
  rw [rU_f (by decide), lg_app a1]
  by_cases q : j = z
  · rw [q, rU_s, if_neg (by omega), hz, Int.sub_self]
    rfl
  · rw [rU_k q, if_pos (by omega)]
    exact h.2 j a1 (by omega)
theorem SX_so (h : SX soR soN S S1) {j : Int} : SX soR soN S (rU (rU S1 2364 j b) 2281 105 v) := SX_un (SX_up h rfl rfl) rfl
theorem LN.so (hL : LN S l) (hX : SX soR soN S S1) : LN S1 l := hL.of (hX.1 _ rfl) (hX.1 _ rfl) (fun _ => hX.2 _ _ rfl rfl) (fun _ => hX.2 _ _ rfl rfl) (fun _ => hX.2 _ _ rfl rfl)
theorem m_join_in (hL : LN S l) (hw : 0 ≤ w ∧ w < ((lnW l).length : Int)) (hn : ((lnB l w).length : Int) = n) {Q : Option AV → hM → Prop} : ∀ (r : List Int) (k : Int) (L : List Int) (S1 : qR) (σ : hM), k + (r.length : Int) = n → 0 ≤ k → (∀ i : Nat, i < r.length → lg (lnB l w) (k + i) = r.getD i 0) → L.length + r.length ≤ 200 → PM σ0 P S1 σ → IV true T U S1 → SRP S1 L → SX soR soN S S1 → (∀ (σ : hM) (S2 : qR), PM σ0 P S2 σ → IV true T U S2 → SRP S2 (L ++ r) → SX soR soN S S2 → WP fb (d + 1) 322 83 [some (vR (some 2281)), some (vI fst), some (vI w), some (vI n)] [] σ Q) → WP fb (d + 1) 322 43 [some (vR (some 2281)), some (vI fst), some (vI w), some (vI k)] [] σ Q := by
  have hl := (lnB_len hL.2.1 hw).2
  intro r
  induction r with
  | nil =>
    intro k L S1 σ h1 h2 h3 h4 hP hJ hR hX hQ
    have h1 : k + ((0 : Nat) : Int) = n := h1
    have hk : k = n := by omega
    subst hk
    rw [List.append_nil] at hQ
    have hgo := hQ σ S1 hP hJ hR hX
    have hsz := fun (σ : hM) (hP : PM σ0 P S1 σ) => CL_val (m_size (fb := fb) (d := d) hP (hL.so hX) hw) hn
    refine x_li (z := k) T_322_43 rfl ?_
    refine x_lr (z := some 2281) T_322_44 rfl ?_
    refine x_li (z := w) T_322_45 rfl ?_
    refine x_cv2 T_322_46 mN_318 mL_318 (Nat.le_of_ble_eq_true rfl) mO_318 (PM.t hP) (Nat.le_of_ble_eq_true rfl) (hsz σ hP) ?_
    rintro _ σ ⟨rfl, rfl⟩
    refine cI ?_
    refine x_ic2 T_322_49 (fun _ => ?_) (fun h => absurd (show k ≤ k by omega) h)
    exact hgo
  | cons b r ih =>
    intro k L S1 σ h1 h2 h3 h4 hP hJ hR hX hQ
    have h1 : k + ((r.length + 1 : Nat) : Int) = n := h1
    have h4 : L.length + (r.length + 1) ≤ 200 := h4
    have hb : lg (lnB l w) k = b := by
      have := h3 0 (Nat.succ_pos _)
      rw [show k + ((0 : Nat) : Int) = k by omega] at this
      exact this
    have bb : 0 ≤ b ∧ b ≤ 255 := by rw [← hb]; exact lnB_b hL h2
    have h3' : ∀ i : Nat, i < r.length → lg (lnB l w) (k + 1 + i) = r.getD i 0 := fun i hi => by
      have := h3 (i + 1) (Nat.succ_lt_succ hi)
      rw [show k + ((i + 1 : Nat) : Int) = k + 1 + (i : Int) by omega] at this
      exact this
    have hL1 := hL.so hX
    have hsz := fun (σ : hM) (hP : PM σ0 P S1 σ) => CL_val (m_size (fb := fb) (d := d) hP hL1 hw) hn
    have hsg := fun (σ : hM) (hP : PM σ0 P S1 σ) => CL_val (m_sign (fb := fb) (d := d) (k := k) hP hL1 hw ⟨h2, by omega⟩) hb
    obtain ⟨z, hz⟩ : ∃ z : Int, (L.length : Int) = z := ⟨_, rfl⟩
    have h105 : S1 2281 105 = z := hR.1.trans hz
    have hJ2 : IV true T U (rU (rU S1 2364 z b) 2281 105 (z + 1)) := (hJ.uA 2364 rfl bb).uN 105 105 rfl (by show 0 ≤ z + 1 ∧ z + 1 ≤ 200; omega)
    have hgo := fun (σ : hM) (hP : PM σ0 P (rU (rU S1 2364 z b) 2281 105 (z + 1)) σ) => ih (k + 1) (L ++ [b]) _ σ (by omega) (by omega) h3' (by rw [List.length_append]; show L.length + 1 + r.length ≤ 200; omega) hP hJ2 (SRP_one hR hz.symm) (SX_so hX) (fun σ S2 a1 a2 a3 a4 => by
      rw [List.append_assoc] at a3
      exact hQ σ S2 a1 a2 a3 a4)
    refine x_li (z := k) T_322_43 rfl ?_
    refine x_lr (z := some 2281) T_322_44 rfl ?_
    refine x_li (z := w) T_322_45 rfl ?_
    refine x_cv2 T_322_46 mN_318 mL_318 (Nat.le_of_ble_eq_true rfl) mO_318 (PM.t hP) (Nat.le_of_ble_eq_true rfl) (hsz σ hP) ?_
    rintro _ σ ⟨rfl, rfl⟩
    refine cI ?_
    refine x_ic2 T_322_49 (fun h => absurd (show n ≤ k from h) (by omega)) (fun _ => ?_)
    refine x_lr (z := some 2281) T_322_52 rfl ?_
    refine x_gR (z := some 2364) T_322_53 F_17_104 (PM.t hP) (PM.r hP 104 2364 rfl) ?_
    refine x_lr (z := some 2281) T_322_56 rfl ?_
    refine x_gI (z := z) T_322_57 (Or.inl F_17_105) (PM.t hP) (Eq.trans (PM.nS hP 2281 105 105 rfl rfl rfl) h105) ?_
    refine x_lr (z := some 2281) T_322_60 rfl ?_
    refine x_li (z := w) T_322_61 rfl ?_
    refine x_li (z := k) T_322_62 rfl ?_
    refine x_cv3 T_322_63 mN_319 mL_319 (Nat.le_of_ble_eq_true rfl) mO_319 (PM.t hP) (Nat.le_of_ble_eq_true rfl) (hsg σ hP) ?_
    rintro _ σ ⟨rfl, rfl⟩
    refine cI ?_
    refine y_aIS hP T_322_66 2364 200 rfl rfl rfl (by omega) (by omega) (fun σ hP => ?_)
    refine x_lr (z := some 2281) T_322_67 rfl ?_
    refine x_dupR T_322_68 ?_
    refine x_gI (z := z) T_322_69 (Or.inl F_17_105) (PM.t hP) (Eq.trans (Eq.trans (PM.nS hP 2281 105 105 rfl rfl rfl) (rU_f (Nat.ne_of_beq_eq_false rfl))) h105) ?_
    refine x_ic T_322_72 ?_
    refine x_ib (w := (z + 1)) T_322_73 (fun h => absurd h.1 (by decide)) (w32_id (by omega) (by omega)) ?_
    refine y_pIS hP T_322_74 F_17_105 105 rfl rfl (fun σ hP => ?_)
    refine x_inc (w := (k + 1)) (ls1 := [some (vR (some 2281)), some (vI fst), some (vI w), some (vI (k + 1))]) T_322_77 rfl (w32_id (by omega) (by omega)) rfl ?_
    refine x_goto T_322_80 ?_
    exact hgo σ hP
theorem m_join_out (hL : LN S l) (hz : z = ((lnW l).length : Int)) (hf : 0 ≤ fst) {Q : Option AV → hM → Prop} : ∀ (m : Nat) (w : Int) (L : List Int) (S1 : qR) (σ : hM) (l3 : Option AV), w + m = z → fst ≤ w → (L ++ jnT l z fst w m).length ≤ 200 → PM σ0 P S1 σ → IV true T U S1 → SRP S1 L → SX soR soN S S1 → (∀ (σ : hM) (S2 : qR), PM σ0 P S2 σ → IV true T U S2 → SRP S2 (L ++ jnT l z fst w m) → SX soR soN S S2 → Q none σ) → WP fb (d + 1) 322 7 [some (vR (some 2281)), some (vI fst), some (vI w), l3] [] σ Q := by
  have h50 := (lnW_ok hL.2.1).2
  intro m
  induction m with
  | zero =>
    intro w L S1 σ l3 h1 h2 h3 hP hJ hR hX hQ
    have h1 : w + ((0 : Nat) : Int) = z := h1
    have e0 : jnT l z fst w 0 = [] := if_neg (by omega)
    rw [e0, List.append_nil] at hQ
    have hgo := hQ σ S1 hP hJ hR hX
    have h77 : S1 2281 77 = z := (hL.so hX).2.2.2.2.1.trans hz.symm
    refine x_li (z := w) T_322_7 rfl ?_
    refine x_lr (z := some 2281) T_322_8 rfl ?_
    refine x_gI (z := z) T_322_9 (Or.inl F_17_77) (PM.t hP) (Eq.trans (PM.nS hP 2281 77 77 rfl rfl rfl) h77) ?_
    refine x_ic2 T_322_12 (fun _ => ?_) (fun h => absurd (show z ≤ w by omega) h)
    refine x_rv T_322_89 ?_
    exact hgo
  | succ m ih =>
    intro w L S1 σ l3 h1 h2 h3 hP hJ hR hX hQ
    have h77 : S1 2281 77 = z := (hL.so hX).2.2.2.2.1.trans hz.symm
    have hw : 0 ≤ w ∧ w < ((lnW l).length : Int) := by omega
    have eT : jnT l z fst w (m + 1) = (if fst < w then [32] else []) ++ (lnB l w ++ jnT l z fst (w + 1) m) := by
      have e1 : jnT l z fst w (m + 1) = (if fst < w then [32] else []) ++ ecT l z w (m + 1) := if_pos (by omega)
      have e2 : ecT l z w (m + 1) = lnB l w ++ (if w + 1 < z then [32] else []) ++ ecT l z (w + 1) m := rfl
      rw [e1, e2]
      unfold jnT
      by_cases q : w + 1 < z
      · rw [if_pos q, if_pos q, if_pos (by omega : fst < w + 1), List.append_assoc]
      · have hm : m = 0 := by omega
        subst hm
        rw [if_neg q, if_neg q, show ecT l z (w + 1) 0 = [] from rfl]
        simp only [List.append_nil]
    rw [eT] at h3 hQ
    obtain ⟨n, hn⟩ : ∃ n : Int, ((lnB l w).length : Int) = n := ⟨_, rfl⟩
    have key : ∀ (L2 : List Int) (S2 : qR) (σ : hM) (l3 : Option AV), L2 ++ (lnB l w ++ jnT l z fst (w + 1) m) = L ++ ((if fst < w then [32] else []) ++ (lnB l w ++ jnT l z fst (w + 1) m)) → PM σ0 P S2 σ → IV true T U S2 → SRP S2 L2 → SX soR soN S S2 → WP fb (d + 1) 322 41 [some (vR (some 2281)), some (vI fst), some (vI w), l3] [] σ Q := fun L2 S2 σ l3 e a1 a2 a3 a4 => by
      rw [← e] at h3 hQ
      rw [List.length_append, List.length_append] at h3
      have hin := fun (σ : hM) (hP : PM σ0 P S2 σ) => m_join_in (fb := fb) (d := d) (fst := fst) (Q := Q) hL hw hn (lnB l w) 0 L2 S2 σ (by omega) (by decide) (fun i hi => by
        rw [Int.zero_add]
        rfl) (by omega) hP a2 a3 a4 (fun σ S3 b1 b2 b3 b4 => by
        have hgo := ih (w + 1) (L2 ++ lnB l w) S3 σ (some (vI n)) (by omega) (by omega) (by rw [List.length_append, List.length_append]; omega) b1 b2 b3 b4 (fun σ S4 c1 c2 c3 c4 => hQ σ S4 c1 c2 (by rw [← List.append_assoc]; exact c3) c4)
        have hP := b1
        refine x_inc (w := (w + 1)) (ls1 := [some (vR (some 2281)), some (vI fst), some (vI (w + 1)), some (vI n)]) T_322_83 rfl (w32_id (by omega) (by omega)) rfl ?_
        refine x_goto T_322_86 ?_
        exact hgo
        )
      have hgo := hin σ a1
      refine x_ic T_322_41 ?_
      refine x_si (ls1 := [some (vR (some 2281)), some (vI fst), some (vI w), some (vI 0)]) T_322_42 rfl ?_
      exact hgo
    by_cases q : fst < w
    · rw [if_pos q] at key h3
      obtain ⟨y, hy⟩ : ∃ y : Int, (L.length : Int) = y := ⟨_, rfl⟩
      have h105 : S1 2281 105 = y := hR.1.trans hy
      have hy200 : y < 200 := by
        rw [List.length_append, List.length_append] at h3
        have h3 : L.length + (1 + (lnB l w ++ jnT l z fst (w + 1) m).length) ≤ 200 := h3
        omega
      have hJ2 : IV true T U (rU (rU S1 2364 y 32) 2281 105 (y + 1)) := (hJ.uA 2364 rfl (by show (0 : Int) ≤ 32 ∧ (32 : Int) ≤ 255; decide)).uN 105 105 rfl (by show 0 ≤ y + 1 ∧ y + 1 ≤ 200; omega)
      have hgo := fun (σ : hM) (hP : PM σ0 P (rU (rU S1 2364 y 32) 2281 105 (y + 1)) σ) => key (L ++ [32]) _ σ l3 (List.append_assoc _ _ _) hP hJ2 (SRP_one hR hy.symm) (SX_so hX)
      refine x_li (z := w) T_322_7 rfl ?_
      refine x_lr (z := some 2281) T_322_8 rfl ?_
      refine x_gI (z := z) T_322_9 (Or.inl F_17_77) (PM.t hP) (Eq.trans (PM.nS hP 2281 77 77 rfl rfl rfl) h77) ?_
      refine x_ic2 T_322_12 (fun h => absurd (show z ≤ w from h) (by omega)) (fun _ => ?_)
      refine x_li (z := w) T_322_15 rfl ?_
      refine x_li (z := fst) T_322_16 rfl ?_
      refine x_ic2 T_322_17 (fun h => absurd (show w ≤ fst from h) (by omega)) (fun _ => ?_)
      refine x_lr (z := some 2281) T_322_20 rfl ?_
      refine x_gR (z := some 2364) T_322_21 F_17_104 (PM.t hP) (PM.r hP 104 2364 rfl) ?_
      refine x_lr (z := some 2281) T_322_24 rfl ?_
      refine x_gI (z := y) T_322_25 (Or.inl F_17_105) (PM.t hP) (Eq.trans (PM.nS hP 2281 105 105 rfl rfl rfl) h105) ?_
      refine x_ic T_322_28 ?_
      refine y_aIS hP T_322_30 2364 200 rfl rfl rfl (by omega) (by omega) (fun σ hP => ?_)
      refine x_lr (z := some 2281) T_322_31 rfl ?_
      refine x_dupR T_322_32 ?_
      refine x_gI (z := y) T_322_33 (Or.inl F_17_105) (PM.t hP) (Eq.trans (Eq.trans (PM.nS hP 2281 105 105 rfl rfl rfl) (rU_f (Nat.ne_of_beq_eq_false rfl))) h105) ?_
      refine x_ic T_322_36 ?_
      refine x_ib (w := (y + 1)) T_322_37 (fun h => absurd h.1 (by decide)) (w32_id (by omega) (by omega)) ?_
      refine y_pIS hP T_322_38 F_17_105 105 rfl rfl (fun σ hP => ?_)
      exact hgo σ hP
    · rw [if_neg q, List.nil_append] at key
      have hgo := key L S1 σ l3 rfl hP hJ hR hX
      refine x_li (z := w) T_322_7 rfl ?_
      refine x_lr (z := some 2281) T_322_8 rfl ?_
      refine x_gI (z := z) T_322_9 (Or.inl F_17_77) (PM.t hP) (Eq.trans (PM.nS hP 2281 77 77 rfl rfl rfl) h77) ?_
      refine x_ic2 T_322_12 (fun h => absurd (show z ≤ w from h) (by omega)) (fun _ => ?_)
      refine x_li (z := w) T_322_15 rfl ?_
      refine x_li (z := fst) T_322_16 rfl ?_
      refine x_ic2 T_322_17 (fun _ => ?_) (fun h => absurd (show w ≤ fst by omega) h)
      exact hgo
theorem m_join (hP : PM σ0 P S σ) (hJ : IV true T U S) (hL : LN S l) (hf : 0 ≤ fst ∧ fst < ((lnW l).length : Int)) : CL fb (d + 1) 322 [vR (some 2281), vI fst] σ (fun r σ' => ∃ S2 : qR, r = none ∧ PM σ0 P S2 σ' ∧ IV true T U S2 ∧ SRC S2 (jnS l fst) ∧ SX soR soN S S2) := by
  obtain ⟨z, hz⟩ : ∃ z : Int, ((lnW l).length : Int) = z := ⟨_, rfl⟩
  have e1 : jnT l z fst fst (z - fst).toNat = jnS l fst := by
    unfold jnT jnS
    rw [if_pos (by omega), if_neg (by omega), hz, List.nil_append]
  have hlen := ecT_100 (z := z) hL.2.1 (m := (z - fst).toNat) hf.1 (by omega)
  have e2 : jnS l fst = ecT l z fst (z - fst).toNat := by
    unfold jnS
    rw [hz]
  have hJ0 : IV true T U (rU S 2281 105 0) := hJ.uN 105 105 rfl (by show (0 : Int) ≤ 0 ∧ (0 : Int) ≤ 200; decide)
  have hgo := fun (σ : hM) (hP : PM σ0 P (rU S 2281 105 0) σ) => m_join_out (fb := fb) (d := d) (S := S) (fst := fst) hL hz.symm hf.1 (Q := fun r σ' => ∃ S2 : qR, r = none ∧ PM σ0 P S2 σ' ∧ IV true T U S2 ∧ SRC S2 (jnS l fst) ∧ SX soR soN S S2) (z - fst).toNat fst [] (rU S 2281 105 0) σ none (by omega) (Int.le_refl _) (by rw [List.nil_append, e1, e2]; omega) hP hJ0 ⟨rU_s, fun j a b => absurd b (by show ¬ j < ((0 : Nat) : Int); omega)⟩ (SX_un SX_rfl rfl) (fun σ S2 a1 a2 a3 a4 => by
    rw [List.nil_append, e1] at a3
    exact ⟨S2, rfl, a1, a2, ⟨a3.1, by rw [e2]; omega, by rw [e2]; exact ecT_b hL _ _, a3.2⟩, a4⟩)
  refine CL_in mL_322 rfl ?_
  show WP fb _ 322 0 [some (vR (some 2281)), some (vI fst), none, none] [] σ _
  refine x_lr (z := some 2281) T_322_0 rfl ?_
  refine x_ic T_322_1 ?_
  refine y_pIS hP T_322_2 F_17_105 105 rfl rfl (fun σ hP => ?_)
  refine x_li (z := fst) T_322_5 rfl ?_
  refine x_si (ls1 := [some (vR (some 2281)), some (vI fst), some (vI fst), none]) T_322_6 rfl ?_
  exact hgo σ hP
theorem m_alike_loop (hP : PM σ0 P S σ) (hL : LN S l) (ha : 0 ≤ a ∧ a < ((lnW l).length : Int)) (hb : 0 ≤ b ∧ b < ((lnW l).length : Int)) (hn : ((lnB l a).length : Int) = n) (hnb : ((lnB l b).length : Int) = n) : ∀ (m : Nat) (k : Int), k + m = n → 0 ≤ k → (∀ i : Int, 0 ≤ i → i < k → lg (lnB l a) i = lg (lnB l b) i) → WP fb (d + 1) 321 22 [some (vR (some 2281)), some (vI a), some (vI b), some (vI 1), some (vI k)] [] σ (rP (if lnB l a = lnB l b then 1 else 0) σ) := by
  have hsz := CL_val (m_size (fb := fb) (d := d) hP hL ha) hn
  have hl := (lnB_len hL.2.1 ha).2
  intro m
  induction m with
  | zero =>
    intro k h1 h2 h3
    have h1 : k + ((0 : Nat) : Int) = n := h1
    have e : lnB l a = lnB l b := List.ext_getElem (by omega) (fun i i1 i2 => by
      have := h3 (i : Int) (by omega) (by omega)
      unfold lg at this
      rw [Int.toNat_natCast, List.getD_eq_getElem?_getD, List.getD_eq_getElem?_getD, List.getElem?_eq_getElem i1, List.getElem?_eq_getElem i2] at this
      exact this)
    rw [if_pos e]
    refine x_li (z := k) T_321_22 rfl ?_
    refine x_lr (z := some 2281) T_321_24 rfl ?_
    refine x_li (z := a) T_321_25 rfl ?_
    refine x_cv2 T_321_26 mN_318 mL_318 (Nat.le_of_ble_eq_true rfl) mO_318 (PM.t hP) (Nat.le_of_ble_eq_true rfl) (hsz) ?_
    rintro _ σ ⟨rfl, rfl⟩
    refine cI ?_
    refine x_ic2 T_321_29 (fun _ => ?_) (fun h => absurd (show n ≤ k by omega) h)
    refine x_li (z := 1) T_321_65 rfl ?_
    refine x_rz T_321_66 rfl ?_
    exact ⟨rfl, rfl⟩
  | succ m ih =>
    intro k h1 h2 h3
    have s1 := m_sign (fb := fb) (d := d) (k := k) hP hL ha ⟨h2, by omega⟩
    have s2 := m_sign (fb := fb) (d := d) (k := k) hP hL hb ⟨h2, by omega⟩
    by_cases q : lg (lnB l a) k = lg (lnB l b) k
    · have hgo := ih (k + 1) (by omega) (by omega) (fun i a1 a2 => by
        by_cases c : i = k
        · rw [c]; exact q
        · exact h3 i a1 (by omega))
      obtain ⟨y1, hy1⟩ : ∃ y, lg (lnB l a) k = y := ⟨_, rfl⟩
      obtain ⟨y2, hy2⟩ : ∃ y, lg (lnB l b) k = y := ⟨_, rfl⟩
      rw [hy1] at s1 q
      rw [hy2] at s2 q
      refine x_li (z := k) T_321_22 rfl ?_
      refine x_lr (z := some 2281) T_321_24 rfl ?_
      refine x_li (z := a) T_321_25 rfl ?_
      refine x_cv2 T_321_26 mN_318 mL_318 (Nat.le_of_ble_eq_true rfl) mO_318 (PM.t hP) (Nat.le_of_ble_eq_true rfl) (hsz) ?_
      rintro _ σ ⟨rfl, rfl⟩
      refine cI ?_
      refine x_ic2 T_321_29 (fun h => absurd (show n ≤ k from h) (by omega)) (fun _ => ?_)
      refine x_li (z := 1) T_321_32 rfl ?_
      refine x_if T_321_33 (fun h => absurd (show (1 : Int) = 0 from h) (by decide)) (fun _ => ?_)
      refine x_lr (z := some 2281) T_321_36 rfl ?_
      refine x_li (z := a) T_321_37 rfl ?_
      refine x_li (z := k) T_321_38 rfl ?_
      refine x_cv3 T_321_40 mN_319 mL_319 (Nat.le_of_ble_eq_true rfl) mO_319 (PM.t hP) (Nat.le_of_ble_eq_true rfl) (s1) ?_
      rintro _ σ ⟨rfl, rfl⟩
      refine cI ?_
      refine x_lr (z := some 2281) T_321_43 rfl ?_
      refine x_li (z := b) T_321_44 rfl ?_
      refine x_li (z := k) T_321_45 rfl ?_
      refine x_cv3 T_321_47 mN_319 mL_319 (Nat.le_of_ble_eq_true rfl) mO_319 (PM.t hP) (Nat.le_of_ble_eq_true rfl) (s2) ?_
      rintro _ σ ⟨rfl, rfl⟩
      refine cI ?_
      refine x_ic2 T_321_50 (fun h => absurd (show ¬ y1 = y2 from h) (by omega)) (fun _ => ?_)
      refine x_ic T_321_53 ?_
      refine x_goto T_321_54 ?_
      refine x_si (ls1 := [some (vR (some 2281)), some (vI a), some (vI b), some (vI 1), some (vI k)]) T_321_58 rfl ?_
      refine x_inc (w := (k + 1)) (ls1 := [some (vR (some 2281)), some (vI a), some (vI b), some (vI 1), some (vI (k + 1))]) T_321_59 rfl (w32_id (by omega) (by omega)) rfl ?_
      refine x_goto T_321_62 ?_
      exact hgo
    · have e : ¬ lnB l a = lnB l b := fun c => q (by rw [c])
      rw [if_neg e]
      obtain ⟨y1, hy1⟩ : ∃ y, lg (lnB l a) k = y := ⟨_, rfl⟩
      obtain ⟨y2, hy2⟩ : ∃ y, lg (lnB l b) k = y := ⟨_, rfl⟩
      rw [hy1] at s1 q
      rw [hy2] at s2 q
      by_cases c : k + 1 < n
      · skip
        refine x_li (z := k) T_321_22 rfl ?_
        refine x_lr (z := some 2281) T_321_24 rfl ?_
        refine x_li (z := a) T_321_25 rfl ?_
        refine x_cv2 T_321_26 mN_318 mL_318 (Nat.le_of_ble_eq_true rfl) mO_318 (PM.t hP) (Nat.le_of_ble_eq_true rfl) (hsz) ?_
        rintro _ σ ⟨rfl, rfl⟩
        refine cI ?_
        refine x_ic2 T_321_29 (fun h => absurd (show n ≤ k from h) (by omega)) (fun _ => ?_)
        refine x_li (z := 1) T_321_32 rfl ?_
        refine x_if T_321_33 (fun h => absurd (show (1 : Int) = 0 from h) (by decide)) (fun _ => ?_)
        refine x_lr (z := some 2281) T_321_36 rfl ?_
        refine x_li (z := a) T_321_37 rfl ?_
        refine x_li (z := k) T_321_38 rfl ?_
        refine x_cv3 T_321_40 mN_319 mL_319 (Nat.le_of_ble_eq_true rfl) mO_319 (PM.t hP) (Nat.le_of_ble_eq_true rfl) (s1) ?_
        rintro _ σ ⟨rfl, rfl⟩
        refine cI ?_
        refine x_lr (z := some 2281) T_321_43 rfl ?_
        refine x_li (z := b) T_321_44 rfl ?_
        refine x_li (z := k) T_321_45 rfl ?_
        refine x_cv3 T_321_47 mN_319 mL_319 (Nat.le_of_ble_eq_true rfl) mO_319 (PM.t hP) (Nat.le_of_ble_eq_true rfl) (s2) ?_
        rintro _ σ ⟨rfl, rfl⟩
        refine cI ?_
        refine x_ic2 T_321_50 (fun _ => ?_) (fun h => absurd (show ¬ y1 = y2 by omega) h)
        refine x_ic T_321_57 ?_
        refine x_si (ls1 := [some (vR (some 2281)), some (vI a), some (vI b), some (vI 0), some (vI k)]) T_321_58 rfl ?_
        refine x_inc (w := (k + 1)) (ls1 := [some (vR (some 2281)), some (vI a), some (vI b), some (vI 0), some (vI (k + 1))]) T_321_59 rfl (w32_id (by omega) (by omega)) rfl ?_
        refine x_goto T_321_62 ?_
        refine x_li (z := (k + 1)) T_321_22 rfl ?_
        refine x_lr (z := some 2281) T_321_24 rfl ?_
        refine x_li (z := a) T_321_25 rfl ?_
        refine x_cv2 T_321_26 mN_318 mL_318 (Nat.le_of_ble_eq_true rfl) mO_318 (PM.t hP) (Nat.le_of_ble_eq_true rfl) (hsz) ?_
        rintro _ σ ⟨rfl, rfl⟩
        refine cI ?_
        refine x_ic2 T_321_29 (fun h => absurd (show n ≤ (k + 1) from h) (by omega)) (fun _ => ?_)
        refine x_li (z := 0) T_321_32 rfl ?_
        refine x_if T_321_33 (fun _ => ?_) (fun h => absurd (show (0 : Int) = 0 by decide) h)
        refine x_li (z := 0) T_321_65 rfl ?_
        refine x_rz T_321_66 rfl ?_
        exact ⟨rfl, rfl⟩
      · skip
        refine x_li (z := k) T_321_22 rfl ?_
        refine x_lr (z := some 2281) T_321_24 rfl ?_
        refine x_li (z := a) T_321_25 rfl ?_
        refine x_cv2 T_321_26 mN_318 mL_318 (Nat.le_of_ble_eq_true rfl) mO_318 (PM.t hP) (Nat.le_of_ble_eq_true rfl) (hsz) ?_
        rintro _ σ ⟨rfl, rfl⟩
        refine cI ?_
        refine x_ic2 T_321_29 (fun h => absurd (show n ≤ k from h) (by omega)) (fun _ => ?_)
        refine x_li (z := 1) T_321_32 rfl ?_
        refine x_if T_321_33 (fun h => absurd (show (1 : Int) = 0 from h) (by decide)) (fun _ => ?_)
        refine x_lr (z := some 2281) T_321_36 rfl ?_
        refine x_li (z := a) T_321_37 rfl ?_
        refine x_li (z := k) T_321_38 rfl ?_
        refine x_cv3 T_321_40 mN_319 mL_319 (Nat.le_of_ble_eq_true rfl) mO_319 (PM.t hP) (Nat.le_of_ble_eq_true rfl) (s1) ?_
        rintro _ σ ⟨rfl, rfl⟩
        refine cI ?_
        refine x_lr (z := some 2281) T_321_43 rfl ?_
        refine x_li (z := b) T_321_44 rfl ?_
        refine x_li (z := k) T_321_45 rfl ?_
        refine x_cv3 T_321_47 mN_319 mL_319 (Nat.le_of_ble_eq_true rfl) mO_319 (PM.t hP) (Nat.le_of_ble_eq_true rfl) (s2) ?_
        rintro _ σ ⟨rfl, rfl⟩
        refine cI ?_
        refine x_ic2 T_321_50 (fun _ => ?_) (fun h => absurd (show ¬ y1 = y2 by omega) h)
        refine x_ic T_321_57 ?_
        refine x_si (ls1 := [some (vR (some 2281)), some (vI a), some (vI b), some (vI 0), some (vI k)]) T_321_58 rfl ?_
        refine x_inc (w := (k + 1)) (ls1 := [some (vR (some 2281)), some (vI a), some (vI b), some (vI 0), some (vI (k + 1))]) T_321_59 rfl (w32_id (by omega) (by omega)) rfl ?_
        refine x_goto T_321_62 ?_
        refine x_li (z := (k + 1)) T_321_22 rfl ?_
        refine x_lr (z := some 2281) T_321_24 rfl ?_
        refine x_li (z := a) T_321_25 rfl ?_
        refine x_cv2 T_321_26 mN_318 mL_318 (Nat.le_of_ble_eq_true rfl) mO_318 (PM.t hP) (Nat.le_of_ble_eq_true rfl) (hsz) ?_
        rintro _ σ ⟨rfl, rfl⟩
        refine cI ?_
        refine x_ic2 T_321_29 (fun _ => ?_) (fun h => absurd (show n ≤ (k + 1) by omega) h)
        refine x_li (z := 0) T_321_65 rfl ?_
        refine x_rz T_321_66 rfl ?_
        exact ⟨rfl, rfl⟩
theorem m_isAlike (hP : PM σ0 P S σ) (hL : LN S l) (ha : 0 ≤ a ∧ a < ((lnW l).length : Int)) (hb : 0 ≤ b ∧ b < ((lnW l).length : Int)) : CL fb (d + 1) 321 [vR (some 2281), vI a, vI b] σ (rP (if lnB l a = lnB l b then 1 else 0) σ) := by
  obtain ⟨n, hn⟩ : ∃ n : Int, ((lnB l a).length : Int) = n := ⟨_, rfl⟩
  obtain ⟨nb, hnb⟩ : ∃ n : Int, ((lnB l b).length : Int) = n := ⟨_, rfl⟩
  have z1 := CL_val (m_size (fb := fb) (d := d) hP hL ha) hn
  have z2 := CL_val (m_size (fb := fb) (d := d) hP hL hb) hnb
  have hn1 := (lnB_len hL.2.1 ha).1
  by_cases q : n = nb
  · have hgo := m_alike_loop (fb := fb) (d := d) hP hL ha hb hn (hnb.trans q.symm) n.toNat 0 (by omega) (by decide) (fun i a1 a2 => absurd a2 (by omega))
    refine CL_in mL_321 rfl ?_
    show WP fb _ 321 0 [some (vR (some 2281)), some (vI a), some (vI b), none, none] [] σ _
    refine x_lr (z := some 2281) T_321_0 rfl ?_
    refine x_li (z := a) T_321_1 rfl ?_
    refine x_cv2 T_321_2 mN_318 mL_318 (Nat.le_of_ble_eq_true rfl) mO_318 (PM.t hP) (Nat.le_of_ble_eq_true rfl) (z1) ?_
    rintro _ σ ⟨rfl, rfl⟩
    refine cI ?_
    refine x_lr (z := some 2281) T_321_5 rfl ?_
    refine x_li (z := b) T_321_6 rfl ?_
    refine x_cv2 T_321_7 mN_318 mL_318 (Nat.le_of_ble_eq_true rfl) mO_318 (PM.t hP) (Nat.le_of_ble_eq_true rfl) (z2) ?_
    rintro _ σ ⟨rfl, rfl⟩
    refine cI ?_
    refine x_ic2 T_321_10 (fun h => absurd (show ¬ n = nb from h) (by omega)) (fun _ => ?_)
    refine x_ic T_321_13 ?_
    refine x_goto T_321_14 ?_
    refine x_si (ls1 := [some (vR (some 2281)), some (vI a), some (vI b), some (vI 1), none]) T_321_18 rfl ?_
    refine x_ic T_321_19 ?_
    refine x_si (ls1 := [some (vR (some 2281)), some (vI a), some (vI b), some (vI 1), some (vI 0)]) T_321_20 rfl ?_
    exact hgo
  · have e : ¬ lnB l a = lnB l b := fun c => q (by rw [← hn, ← hnb, c])
    rw [if_neg e]
    refine CL_in mL_321 rfl ?_
    show WP fb _ 321 0 [some (vR (some 2281)), some (vI a), some (vI b), none, none] [] σ _
    refine x_lr (z := some 2281) T_321_0 rfl ?_
    refine x_li (z := a) T_321_1 rfl ?_
    refine x_cv2 T_321_2 mN_318 mL_318 (Nat.le_of_ble_eq_true rfl) mO_318 (PM.t hP) (Nat.le_of_ble_eq_true rfl) (z1) ?_
    rintro _ σ ⟨rfl, rfl⟩
    refine cI ?_
    refine x_lr (z := some 2281) T_321_5 rfl ?_
    refine x_li (z := b) T_321_6 rfl ?_
    refine x_cv2 T_321_7 mN_318 mL_318 (Nat.le_of_ble_eq_true rfl) mO_318 (PM.t hP) (Nat.le_of_ble_eq_true rfl) (z2) ?_
    rintro _ σ ⟨rfl, rfl⟩
    refine cI ?_
    refine x_ic2 T_321_10 (fun _ => ?_) (fun h => absurd (show ¬ n = nb by omega) h)
    refine x_ic T_321_17 ?_
    refine x_si (ls1 := [some (vR (some 2281)), some (vI a), some (vI b), some (vI 0), none]) T_321_18 rfl ?_
    refine x_ic T_321_19 ?_
    refine x_si (ls1 := [some (vR (some 2281)), some (vI a), some (vI b), some (vI 0), some (vI 0)]) T_321_20 rfl ?_
    refine x_li (z := 0) T_321_22 rfl ?_
    refine x_lr (z := some 2281) T_321_24 rfl ?_
    refine x_li (z := a) T_321_25 rfl ?_
    refine x_cv2 T_321_26 mN_318 mL_318 (Nat.le_of_ble_eq_true rfl) mO_318 (PM.t hP) (Nat.le_of_ble_eq_true rfl) (z1) ?_
    rintro _ σ ⟨rfl, rfl⟩
    refine cI ?_
    refine x_ic2 T_321_29 (fun h => absurd (show n ≤ 0 from h) (by omega)) (fun _ => ?_)
    refine x_li (z := 0) T_321_32 rfl ?_
    refine x_if T_321_33 (fun _ => ?_) (fun h => absurd (show (0 : Int) = 0 by decide) h)
    refine x_li (z := 0) T_321_65 rfl ?_
    refine x_rz T_321_66 rfl ?_
    exact ⟨rfl, rfl⟩
theorem two_eq (wd : List Int) (a b : Int) : wd = [a, b] ↔ (wd.length : Int) = 2 ∧ lg wd 0 = a ∧ lg wd 1 = b := by
  constructor
  · rintro rfl
    exact ⟨rfl, rfl, rfl⟩
  · rintro ⟨h1, h2, h3⟩
    match wd, h1 with
    | [x, y], _ =>
      have h2 : x = a := h2
      have h3 : y = b := h3
      rw [h2, h3]
theorem one_eq (wd : List Int) (a : Int) : wd = [a] ↔ (wd.length : Int) = 1 ∧ lg wd 0 = a := by
  constructor
  · rintro rfl
    exact ⟨rfl, rfl⟩
  · rintro ⟨h1, h2⟩
    match wd, h1 with
    | [x], _ =>
      have h2 : x = a := h2
      rw [h2]
theorem m_pdo_loop (hP : PM σ0 P S σ) (hL : LN S l) (hz : z = ((lnW l).length : Int)) : ∀ (m : Nat) (w : Int), z ≤ w + m → (m = 0 ∨ w + m = z) → 3 ≤ w → WP fb (d + 1) 324 2 [some (vR (some 2281)), some (vI w)] [] σ (rP (pdR l m w) σ) := by
  have h77 : S 2281 77 = z := hL.2.2.2.2.1.trans hz.symm
  have h50 := (lnW_ok hL.2.1).2
  intro m
  induction m with
  | zero =>
    intro w h1 h2 h3
    have h1 : z ≤ w + ((0 : Nat) : Int) := h1
    refine x_li (z := w) T_324_2 rfl ?_
    refine x_lr (z := some 2281) T_324_3 rfl ?_
    refine x_gI (z := z) T_324_4 (Or.inl F_17_77) (PM.t hP) (Eq.trans (PM.nS hP 2281 77 77 rfl rfl rfl) h77) ?_
    refine x_ic2 T_324_7 (fun _ => ?_) (fun h => absurd (show z ≤ w by omega) h)
    refine x_ic T_324_49 ?_
    refine x_ri T_324_50 ?_
    exact ⟨rfl, rfl⟩
  | succ m ih =>
    intro w h1 h2 h3
    have h2 : w + ((m + 1 : Nat) : Int) = z := h2.resolve_left (by omega)
    have hw : 0 ≤ w ∧ w < ((lnW l).length : Int) := by omega
    obtain ⟨n, hn⟩ : ∃ n : Int, ((lnB l w).length : Int) = n := ⟨_, rfl⟩
    have hsz := CL_val (m_size (fb := fb) (d := d) hP hL hw) hn
    have hgo := ih (w + 1) (by omega) (Or.inr (by omega)) (by omega)
    unfold pdR
    by_cases q : n = 2
    · have s0 := m_sign (fb := fb) (d := d) (k := 0) hP hL hw ⟨by decide, by omega⟩
      have s1 := m_sign (fb := fb) (d := d) (k := 1) hP hL hw ⟨by decide, by omega⟩
      have e2 := two_eq (lnB l w) 100 111
      obtain ⟨y0, hy0⟩ : ∃ y, lg (lnB l w) 0 = y := ⟨_, rfl⟩
      obtain ⟨y1, hy1⟩ : ∃ y, lg (lnB l w) 1 = y := ⟨_, rfl⟩
      rw [hy0] at s0
      rw [hy1] at s1
      rw [hy0, hy1, hn] at e2
      by_cases q0 : y0 = 100
      · by_cases q1 : y1 = 111
        · rw [if_pos (e2.mpr ⟨q, q0, q1⟩)]
          refine x_li (z := w) T_324_2 rfl ?_
          refine x_lr (z := some 2281) T_324_3 rfl ?_
          refine x_gI (z := z) T_324_4 (Or.inl F_17_77) (PM.t hP) (Eq.trans (PM.nS hP 2281 77 77 rfl rfl rfl) h77) ?_
          refine x_ic2 T_324_7 (fun h => absurd (show z ≤ w from h) (by omega)) (fun _ => ?_)
          refine x_lr (z := some 2281) T_324_10 rfl ?_
          refine x_li (z := w) T_324_11 rfl ?_
          refine x_cv2 T_324_12 mN_318 mL_318 (Nat.le_of_ble_eq_true rfl) mO_318 (PM.t hP) (Nat.le_of_ble_eq_true rfl) (hsz) ?_
          rintro _ σ ⟨rfl, rfl⟩
          refine cI ?_
          refine x_ic T_324_15 ?_
          refine x_ic2 T_324_16 (fun h => absurd (show ¬ n = 2 from h) (by omega)) (fun _ => ?_)
          refine x_lr (z := some 2281) T_324_19 rfl ?_
          refine x_li (z := w) T_324_20 rfl ?_
          refine x_ic T_324_21 ?_
          refine x_cv3 T_324_22 mN_319 mL_319 (Nat.le_of_ble_eq_true rfl) mO_319 (PM.t hP) (Nat.le_of_ble_eq_true rfl) (s0) ?_
          rintro _ σ ⟨rfl, rfl⟩
          refine cI ?_
          refine x_ic T_324_25 ?_
          refine x_ic2 T_324_27 (fun h => absurd (show ¬ y0 = 100 from h) (by omega)) (fun _ => ?_)
          refine x_lr (z := some 2281) T_324_30 rfl ?_
          refine x_li (z := w) T_324_31 rfl ?_
          refine x_ic T_324_32 ?_
          refine x_cv3 T_324_33 mN_319 mL_319 (Nat.le_of_ble_eq_true rfl) mO_319 (PM.t hP) (Nat.le_of_ble_eq_true rfl) (s1) ?_
          rintro _ σ ⟨rfl, rfl⟩
          refine cI ?_
          refine x_ic T_324_36 ?_
          refine x_ic2 T_324_38 (fun h => absurd (show ¬ y1 = 111 from h) (by omega)) (fun _ => ?_)
          refine x_li (z := w) T_324_41 rfl ?_
          refine x_ri T_324_42 ?_
          exact ⟨rfl, rfl⟩
        · rw [if_neg (fun c => q1 (e2.mp c).2.2)]
          refine x_li (z := w) T_324_2 rfl ?_
          refine x_lr (z := some 2281) T_324_3 rfl ?_
          refine x_gI (z := z) T_324_4 (Or.inl F_17_77) (PM.t hP) (Eq.trans (PM.nS hP 2281 77 77 rfl rfl rfl) h77) ?_
          refine x_ic2 T_324_7 (fun h => absurd (show z ≤ w from h) (by omega)) (fun _ => ?_)
          refine x_lr (z := some 2281) T_324_10 rfl ?_
          refine x_li (z := w) T_324_11 rfl ?_
          refine x_cv2 T_324_12 mN_318 mL_318 (Nat.le_of_ble_eq_true rfl) mO_318 (PM.t hP) (Nat.le_of_ble_eq_true rfl) (hsz) ?_
          rintro _ σ ⟨rfl, rfl⟩
          refine cI ?_
          refine x_ic T_324_15 ?_
          refine x_ic2 T_324_16 (fun h => absurd (show ¬ n = 2 from h) (by omega)) (fun _ => ?_)
          refine x_lr (z := some 2281) T_324_19 rfl ?_
          refine x_li (z := w) T_324_20 rfl ?_
          refine x_ic T_324_21 ?_
          refine x_cv3 T_324_22 mN_319 mL_319 (Nat.le_of_ble_eq_true rfl) mO_319 (PM.t hP) (Nat.le_of_ble_eq_true rfl) (s0) ?_
          rintro _ σ ⟨rfl, rfl⟩
          refine cI ?_
          refine x_ic T_324_25 ?_
          refine x_ic2 T_324_27 (fun h => absurd (show ¬ y0 = 100 from h) (by omega)) (fun _ => ?_)
          refine x_lr (z := some 2281) T_324_30 rfl ?_
          refine x_li (z := w) T_324_31 rfl ?_
          refine x_ic T_324_32 ?_
          refine x_cv3 T_324_33 mN_319 mL_319 (Nat.le_of_ble_eq_true rfl) mO_319 (PM.t hP) (Nat.le_of_ble_eq_true rfl) (s1) ?_
          rintro _ σ ⟨rfl, rfl⟩
          refine cI ?_
          refine x_ic T_324_36 ?_
          refine x_ic2 T_324_38 (fun _ => ?_) (fun h => absurd (show ¬ y1 = 111 by omega) h)
          refine x_inc (w := (w + 1)) (ls1 := [some (vR (some 2281)), some (vI (w + 1))]) T_324_43 rfl (w32_id (by omega) (by omega)) rfl ?_
          refine x_goto T_324_46 ?_
          exact hgo
      · rw [if_neg (fun c => q0 (e2.mp c).2.1)]
        refine x_li (z := w) T_324_2 rfl ?_
        refine x_lr (z := some 2281) T_324_3 rfl ?_
        refine x_gI (z := z) T_324_4 (Or.inl F_17_77) (PM.t hP) (Eq.trans (PM.nS hP 2281 77 77 rfl rfl rfl) h77) ?_
        refine x_ic2 T_324_7 (fun h => absurd (show z ≤ w from h) (by omega)) (fun _ => ?_)
        refine x_lr (z := some 2281) T_324_10 rfl ?_
        refine x_li (z := w) T_324_11 rfl ?_
        refine x_cv2 T_324_12 mN_318 mL_318 (Nat.le_of_ble_eq_true rfl) mO_318 (PM.t hP) (Nat.le_of_ble_eq_true rfl) (hsz) ?_
        rintro _ σ ⟨rfl, rfl⟩
        refine cI ?_
        refine x_ic T_324_15 ?_
        refine x_ic2 T_324_16 (fun h => absurd (show ¬ n = 2 from h) (by omega)) (fun _ => ?_)
        refine x_lr (z := some 2281) T_324_19 rfl ?_
        refine x_li (z := w) T_324_20 rfl ?_
        refine x_ic T_324_21 ?_
        refine x_cv3 T_324_22 mN_319 mL_319 (Nat.le_of_ble_eq_true rfl) mO_319 (PM.t hP) (Nat.le_of_ble_eq_true rfl) (s0) ?_
        rintro _ σ ⟨rfl, rfl⟩
        refine cI ?_
        refine x_ic T_324_25 ?_
        refine x_ic2 T_324_27 (fun _ => ?_) (fun h => absurd (show ¬ y0 = 100 by omega) h)
        refine x_inc (w := (w + 1)) (ls1 := [some (vR (some 2281)), some (vI (w + 1))]) T_324_43 rfl (w32_id (by omega) (by omega)) rfl ?_
        refine x_goto T_324_46 ?_
        exact hgo
    · rw [if_neg (fun c => q (by rw [← hn, c]; rfl))]
      refine x_li (z := w) T_324_2 rfl ?_
      refine x_lr (z := some 2281) T_324_3 rfl ?_
      refine x_gI (z := z) T_324_4 (Or.inl F_17_77) (PM.t hP) (Eq.trans (PM.nS hP 2281 77 77 rfl rfl rfl) h77) ?_
      refine x_ic2 T_324_7 (fun h => absurd (show z ≤ w from h) (by omega)) (fun _ => ?_)
      refine x_lr (z := some 2281) T_324_10 rfl ?_
      refine x_li (z := w) T_324_11 rfl ?_
      refine x_cv2 T_324_12 mN_318 mL_318 (Nat.le_of_ble_eq_true rfl) mO_318 (PM.t hP) (Nat.le_of_ble_eq_true rfl) (hsz) ?_
      rintro _ σ ⟨rfl, rfl⟩
      refine cI ?_
      refine x_ic T_324_15 ?_
      refine x_ic2 T_324_16 (fun _ => ?_) (fun h => absurd (show ¬ n = 2 by omega) h)
      refine x_inc (w := (w + 1)) (ls1 := [some (vR (some 2281)), some (vI (w + 1))]) T_324_43 rfl (w32_id (by omega) (by omega)) rfl ?_
      refine x_goto T_324_46 ?_
      exact hgo
theorem m_placeOfDo (hP : PM σ0 P S σ) (hL : LN S l) : CL fb (d + 1) 324 [vR (some 2281)] σ (rP (pdO l) σ) := by
  obtain ⟨z, hz⟩ : ∃ z : Int, ((lnW l).length : Int) = z := ⟨_, rfl⟩
  have hgo := m_pdo_loop (fb := fb) (d := d) hP hL hz.symm (z - 3).toNat 3 (by omega) (by omega) (by decide)
  unfold pdO
  rw [hz]
  refine CL_in mL_324 rfl ?_
  show WP fb _ 324 0 [some (vR (some 2281)), none] [] σ _
  refine x_ic T_324_0 ?_
  refine x_si (ls1 := [some (vR (some 2281)), some (vI 3)]) T_324_1 rfl ?_
  exact hgo
theorem pdR_rng : ∀ (m : Nat) (w : Int), pdR l m w = -1 ∨ (w ≤ pdR l m w ∧ pdR l m w < w + m ∧ lnB l (pdR l m w) = [100, 111])
  | 0, _ => Or.inl rfl
  | m + 1, w => by
    unfold pdR
    split
    · rename_i q
      exact Or.inr ⟨Int.le_refl _, by omega, q⟩
    · rcases pdR_rng m (w + 1) with q | q
      · exact Or.inl q
      · exact Or.inr ⟨by omega, by omega, q.2.2⟩
end MJO
