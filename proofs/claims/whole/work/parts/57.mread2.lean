/-! What the reference's servers answer: a read as a whole. -/
theorem T_286_0 : hTab 286 0 = some ((3, 3, 1, []), 1) := rfl
theorem T_286_1 : hTab 286 1 = some ((1, 0, 0, []), 2) := rfl
theorem T_286_2 : hTab 286 2 = some ((17, 0, 0, []), 3) := rfl
theorem T_286_3 : hTab 286 3 = some ((18, 1, Int.ofNat 10, []), 6) := rfl
theorem T_286_6 : hTab 286 6 = some ((0, 0, 0, []), 7) := rfl
theorem T_286_7 : hTab 286 7 = some ((22, 0, Int.ofNat 16, []), 10) := rfl
theorem T_286_10 : hTab 286 10 = some ((3, 0, 2, []), 11) := rfl
theorem T_286_11 : hTab 286 11 = some ((24, 17, Int.ofNat 36, []), 14) := rfl
theorem T_286_14 : hTab 286 14 = some ((3, 2, 0, []), 15) := rfl
theorem T_286_15 : hTab 286 15 = some ((26, 0, 0, []), 16) := rfl
theorem T_286_16 : hTab 286 16 = some ((4, 6, 0, []), 18) := rfl
theorem T_286_18 : hTab 286 18 = some ((3, 5, 0, []), 20) := rfl
theorem T_286_20 : hTab 286 20 = some ((4, 7, 0, []), 22) := rfl
theorem T_286_22 : hTab 286 22 = some ((3, 0, 2, []), 23) := rfl
theorem T_286_23 : hTab 286 23 = some ((3, 1, 0, []), 24) := rfl
theorem T_286_24 : hTab 286 24 = some ((3, 0, 2, []), 25) := rfl
theorem T_286_25 : hTab 286 25 = some ((24, 17, Int.ofNat 30, []), 28) := rfl
theorem T_286_28 : hTab 286 28 = some ((3, 2, 0, []), 29) := rfl
theorem T_286_29 : hTab 286 29 = some ((26, 0, 0, []), 30) := rfl
theorem T_286_30 : hTab 286 30 = some ((3, 6, 0, []), 32) := rfl
theorem T_286_32 : hTab 286 32 = some ((31, 253, 0, []), 35) := rfl
theorem T_286_35 : hTab 286 35 = some ((4, 8, 0, []), 37) := rfl
theorem T_286_37 : hTab 286 37 = some ((3, 8, 0, []), 39) := rfl
theorem T_286_39 : hTab 286 39 = some ((18, 2, Int.ofNat 94, []), 42) := rfl
theorem T_286_42 : hTab 286 42 = some ((3, 0, 2, []), 43) := rfl
theorem T_286_43 : hTab 286 43 = some ((3, 1, 0, []), 44) := rfl
theorem T_286_44 : hTab 286 44 = some ((3, 8, 0, []), 46) := rfl
theorem T_286_46 : hTab 286 46 = some ((31, 287, 0, []), 49) := rfl
theorem T_286_49 : hTab 286 49 = some ((3, 7, 0, []), 51) := rfl
theorem T_286_51 : hTab 286 51 = some ((19, 4, Int.ofNat 94, []), 54) := rfl
theorem T_286_54 : hTab 286 54 = some ((3, 7, 0, []), 56) := rfl
theorem T_286_56 : hTab 286 56 = some ((3, 0, 2, []), 57) := rfl
theorem T_286_57 : hTab 286 57 = some ((3, 1, 0, []), 58) := rfl
theorem T_286_58 : hTab 286 58 = some ((3, 8, 0, []), 60) := rfl
theorem T_286_60 : hTab 286 60 = some ((31, 287, 0, []), 63) := rfl
theorem T_286_63 : hTab 286 63 = some ((10, 1, 0, []), 64) := rfl
theorem T_286_64 : hTab 286 64 = some ((4, 7, 0, []), 66) := rfl
theorem T_286_66 : hTab 286 66 = some ((3, 0, 2, []), 67) := rfl
theorem T_286_67 : hTab 286 67 = some ((3, 1, 0, []), 68) := rfl
theorem T_286_68 : hTab 286 68 = some ((3, 8, 0, []), 70) := rfl
theorem T_286_70 : hTab 286 70 = some ((31, 288, 0, []), 73) := rfl
theorem T_286_73 : hTab 286 73 = some ((5, 6, 1, []), 76) := rfl
theorem T_286_76 : hTab 286 76 = some ((3, 0, 2, []), 77) := rfl
theorem T_286_77 : hTab 286 77 = some ((3, 1, 0, []), 78) := rfl
theorem T_286_78 : hTab 286 78 = some ((3, 0, 2, []), 79) := rfl
theorem T_286_79 : hTab 286 79 = some ((24, 17, Int.ofNat 30, []), 82) := rfl
theorem T_286_82 : hTab 286 82 = some ((3, 2, 0, []), 83) := rfl
theorem T_286_83 : hTab 286 83 = some ((26, 0, 0, []), 84) := rfl
theorem T_286_84 : hTab 286 84 = some ((3, 6, 0, []), 86) := rfl
theorem T_286_86 : hTab 286 86 = some ((31, 253, 0, []), 89) := rfl
theorem T_286_89 : hTab 286 89 = some ((4, 8, 0, []), 91) := rfl
theorem T_286_91 : hTab 286 91 = some ((22, 0, Int.ofNat 37, []), 94) := rfl
theorem T_286_94 : hTab 286 94 = some ((3, 0, 2, []), 95) := rfl
theorem T_286_95 : hTab 286 95 = some ((24, 17, Int.ofNat 36, []), 98) := rfl
theorem T_286_98 : hTab 286 98 = some ((3, 2, 0, []), 99) := rfl
theorem T_286_99 : hTab 286 99 = some ((3, 6, 0, []), 101) := rfl
theorem T_286_101 : hTab 286 101 = some ((27, 0, 0, []), 102) := rfl
theorem T_286_102 : hTab 286 102 = some ((3, 0, 2, []), 103) := rfl
theorem T_286_103 : hTab 286 103 = some ((24, 17, Int.ofNat 35, []), 106) := rfl
theorem T_286_106 : hTab 286 106 = some ((3, 2, 0, []), 107) := rfl
theorem T_286_107 : hTab 286 107 = some ((3, 3, 1, []), 108) := rfl
theorem T_286_108 : hTab 286 108 = some ((3, 5, 0, []), 110) := rfl
theorem T_286_110 : hTab 286 110 = some ((3, 7, 0, []), 112) := rfl
theorem T_286_112 : hTab 286 112 = some ((10, 1, 0, []), 113) := rfl
theorem T_286_113 : hTab 286 113 = some ((14, 0, 0, []), 114) := rfl
theorem T_286_114 : hTab 286 114 = some ((11, 0, 0, []), 115) := rfl
theorem T_286_115 : hTab 286 115 = some ((27, 3, 0, []), 116) := rfl
theorem T_286_116 : hTab 286 116 = some ((33, 0, 0, []), 117) := rfl
theorem T_293_0 : hTab 293 0 = some ((3, 1, 0, []), 1) := rfl
theorem T_293_1 : hTab 293 1 = some ((3, 0, 2, []), 2) := rfl
theorem T_293_2 : hTab 293 2 = some ((24, 17, Int.ofNat 39, []), 5) := rfl
theorem T_293_5 : hTab 293 5 = some ((19, 3, Int.ofNat 12, []), 8) := rfl
theorem T_293_8 : hTab 293 8 = some ((3, 1, 0, []), 9) := rfl
theorem T_293_9 : hTab 293 9 = some ((22, 0, Int.ofNat 16, []), 12) := rfl
theorem T_293_12 : hTab 293 12 = some ((3, 0, 2, []), 13) := rfl
theorem T_293_13 : hTab 293 13 = some ((24, 17, Int.ofNat 39, []), 16) := rfl
theorem T_293_16 : hTab 293 16 = some ((4, 2, 0, []), 17) := rfl
theorem T_293_17 : hTab 293 17 = some ((0, 0, 0, []), 18) := rfl
theorem T_293_18 : hTab 293 18 = some ((4, 3, 0, []), 19) := rfl
theorem T_293_19 : hTab 293 19 = some ((3, 3, 0, []), 20) := rfl
theorem T_293_20 : hTab 293 20 = some ((3, 2, 0, []), 21) := rfl
theorem T_293_21 : hTab 293 21 = some ((19, 3, Int.ofNat 42, []), 24) := rfl
theorem T_293_24 : hTab 293 24 = some ((3, 0, 2, []), 25) := rfl
theorem T_293_25 : hTab 293 25 = some ((0, 0, 1, []), 26) := rfl
theorem T_293_26 : hTab 293 26 = some ((3, 0, 2, []), 27) := rfl
theorem T_293_27 : hTab 293 27 = some ((24, 17, Int.ofNat 38, []), 30) := rfl
theorem T_293_30 : hTab 293 30 = some ((3, 3, 0, []), 31) := rfl
theorem T_293_31 : hTab 293 31 = some ((26, 0, 0, []), 32) := rfl
theorem T_293_32 : hTab 293 32 = some ((14, 0, 0, []), 33) := rfl
theorem T_293_33 : hTab 293 33 = some ((31, 237, 0, []), 36) := rfl
theorem T_293_36 : hTab 293 36 = some ((5, 3, 1, []), 39) := rfl
theorem T_293_39 : hTab 293 39 = some ((22, 0, Int.ofNat 19, []), 42) := rfl
theorem T_293_42 : hTab 293 42 = some ((3, 0, 2, []), 43) := rfl
theorem T_293_43 : hTab 293 43 = some ((6, 0, 0, []), 44) := rfl
theorem T_293_44 : hTab 293 44 = some ((24, 17, Int.ofNat 39, []), 47) := rfl
theorem T_293_47 : hTab 293 47 = some ((3, 2, 0, []), 48) := rfl
theorem T_293_48 : hTab 293 48 = some ((10, 1, 0, []), 49) := rfl
theorem T_293_49 : hTab 293 49 = some ((25, 17, Int.ofNat 39, []), 52) := rfl
theorem T_293_52 : hTab 293 52 = some ((0, 0, 0, []), 53) := rfl
theorem T_293_53 : hTab 293 53 = some ((4, 3, 0, []), 54) := rfl
theorem T_293_54 : hTab 293 54 = some ((3, 3, 0, []), 55) := rfl
theorem T_293_55 : hTab 293 55 = some ((3, 0, 2, []), 56) := rfl
theorem T_293_56 : hTab 293 56 = some ((24, 17, Int.ofNat 39, []), 59) := rfl
theorem T_293_59 : hTab 293 59 = some ((19, 3, Int.ofNat 82, []), 62) := rfl
theorem T_293_62 : hTab 293 62 = some ((3, 0, 2, []), 63) := rfl
theorem T_293_63 : hTab 293 63 = some ((24, 17, Int.ofNat 38, []), 66) := rfl
theorem T_293_66 : hTab 293 66 = some ((3, 3, 0, []), 67) := rfl
theorem T_293_67 : hTab 293 67 = some ((3, 0, 2, []), 68) := rfl
theorem T_293_68 : hTab 293 68 = some ((24, 17, Int.ofNat 38, []), 71) := rfl
theorem T_293_71 : hTab 293 71 = some ((3, 3, 0, []), 72) := rfl
theorem T_293_72 : hTab 293 72 = some ((3, 2, 0, []), 73) := rfl
theorem T_293_73 : hTab 293 73 = some ((10, 0, 0, []), 74) := rfl
theorem T_293_74 : hTab 293 74 = some ((26, 0, 0, []), 75) := rfl
theorem T_293_75 : hTab 293 75 = some ((27, 0, 0, []), 76) := rfl
theorem T_293_76 : hTab 293 76 = some ((5, 3, 1, []), 79) := rfl
theorem T_293_79 : hTab 293 79 = some ((22, 0, Int.ofNat 54, []), 82) := rfl
theorem T_293_82 : hTab 293 82 = some ((33, 0, 0, []), 83) := rfl
theorem mN_286 : hmN 286 = 5 := by decide +kernel
theorem mL_286 : hmL 286 = 9 := by decide +kernel
theorem mK_286 : hmK 286 = 1 := by decide +kernel
theorem mO_286 : hmO 286 = 17 := by decide +kernel
theorem mN_293 : hmN 293 = 2 := by decide +kernel
theorem mL_293 : hmL 293 = 4 := by decide +kernel
theorem mK_293 : hmK 293 = 1 := by decide +kernel
theorem mO_293 : hmO 293 = 17 := by decide +kernel
section MREAD2
variable {fb : Bool} {d : Nat} {σ0 σ : hM} {P S S1 : qR} {T U s n u c t p z : Int} {st : List (Int × Int)}
theorem gSh_f {n j : Int} {g : Nat} {k : Int} (h : g ≠ 2314) : gSh P n j g k = P g k := if_neg (fun e => h e.1)
theorem gSh_o {n j : Int} {g : Nat} {k : Int} (h : j ≤ k) : gSh P n j g k = P g k := if_neg (fun e => by omega)
theorem gSh_z {n j : Int} (h : j ≤ 0) : gSh P n j = P := by
  funext g k
  exact if_neg (fun e => by omega)
theorem gSh_s {n j : Int} (h : 0 ≤ j) : rU (gSh P n j) 2314 j (P 2314 (j + n)) = gSh P n (j + 1) := by
  funext g k
  unfold rU gSh
  by_cases h1 : g = 2314 ∧ k = j
  · rw [if_pos h1, if_pos ⟨h1.1, by omega, by omega⟩, h1.2]
  · rw [if_neg h1]
    by_cases h2 : g = 2314 ∧ 0 ≤ k ∧ k < j
    · rw [if_pos h2, if_pos (show g = 2314 ∧ 0 ≤ k ∧ k < j + 1 from ⟨h2.1, h2.2.1, by omega⟩)]
    · rw [if_neg h2, if_neg (show ¬ (g = 2314 ∧ 0 ≤ k ∧ k < j + 1) from fun e => by have e1 := e.1; have e2 := e.2; by_cases h3 : k = j; exact h1 ⟨e1, h3⟩; exact h2 ⟨e1, e2.1, by omega⟩)]
theorem m_cons_loop1 {cnt e : Int} (hI : IV false T U P) (h0 : 0 ≤ S 2281 6 ∧ S 2281 6 ≤ 20) (he : 0 ≤ e ∧ e ≤ 200) {Q : Option AV → hM → Prop} (hQ : ∀ σ, PM σ0 P (rA S (seg (P 2314) 0 e.toNat)) σ → WP fb (d + 1) 293 42 [some (vR (some 2281)), some (vI cnt), some (vI e), some (vI e)] [] σ Q) : ∀ (m : Nat) (j : Int) (σ : hM), j + m = e → 0 ≤ j → PM σ0 P (rA S (seg (P 2314) 0 j.toNat)) σ → WP fb (d + 1) 293 19 [some (vR (some 2281)), some (vI cnt), some (vI e), some (vI j)] [] σ Q := by
  intro m
  induction m with
  | zero =>
    intro j σ h1 h2 hP
    obtain rfl : j = e := by omega
    refine x_li (z := j) T_293_19 rfl ?_
    refine x_li (z := j) T_293_20 rfl ?_
    refine x_ic2 T_293_21 (fun _ => ?_) (fun h => absurd (show j ≤ j by omega) h)
    exact hQ σ hP
  | succ m ih =>
    intro j σ h1 h2 hP
    have hb : 0 ≤ P 2314 (0 + j) ∧ P 2314 (0 + j) ≤ 255 := IV.a hI 2314 0 200 rfl rfl rfl (by omega) (by omega)
    have e2 : rA S (seg (P 2314) 0 j.toNat) 2281 6 = S 2281 6 + j := rA_zn (by rw [seg_len]; omega) rfl
    refine x_li (z := j) T_293_19 rfl ?_
    refine x_li (z := e) T_293_20 rfl ?_
    refine x_ic2 T_293_21 (fun h => absurd (show e ≤ j from h) (by omega)) (fun _ => ?_)
    refine x_lr (z := some 2281) T_293_24 rfl ?_
    refine x_ic T_293_25 ?_
    refine x_lr (z := some 2281) T_293_26 rfl ?_
    refine x_gR (z := some 2314) T_293_27 F_17_38 (PM.t hP) (PM.r hP 38 2314 rfl) ?_
    refine x_li (z := j) T_293_30 rfl ?_
    have b1 : 0 ≤ P 2314 j ∧ P 2314 j ≤ 255 := IV.a hI 2314 0 200 rfl rfl rfl (by omega) (by omega)
    refine x_alI (z := P 2314 j) T_293_31 (by decide) (PM.ta hP 2314 0 200 rfl rfl) (by omega) (by omega) (PM.aP hP 2314 rfl rfl (by omega)) ?_
    refine x_i2l T_293_32 ?_
    refine x_cv3 T_293_33 mN_237 mL_237 (Nat.le_of_ble_eq_true rfl) mO_237 (PM.t hP) (Nat.le_of_ble_eq_true rfl) (m_put 1 rfl hP (by decide) e2 (by omega) (by omega)) ?_
    rintro _ σ ⟨rfl, hP⟩
    refine cV ?_
    refine x_inc (w := (j + 1)) (ls1 := [some (vR (some 2281)), some (vI cnt), some (vI e), some (vI (j + 1))]) T_293_36 rfl (w32_id (by omega) (by omega)) rfl ?_
    refine x_goto T_293_39 ?_
    have e3 := rA_seg (f := P 2314) (o := 0) (S0 := S) h2 hb
    rw [Int.zero_add] at e3
    rw [e3] at hP
    exact ih (j + 1) σ (by omega) (by omega) hP
theorem m_cons_loop2 {cnt e b : Int} (hI : IV false T U P) (he : 0 ≤ e) (hb : 0 ≤ b ∧ b + e ≤ 200) (hz : P 2281 39 = b) : ∀ (m : Nat) (j : Int) (σ : hM), j + m = b → 0 ≤ j → PM σ0 (gSh P e j) S σ → WP fb (d + 1) 293 54 [some (vR (some 2281)), some (vI cnt), some (vI e), some (vI j)] [] σ (rV σ0 (gSh P e b) S) := by
  intro m
  induction m with
  | zero =>
    intro j σ h1 h2 hP
    obtain rfl : j = b := by omega
    refine x_li (z := j) T_293_54 rfl ?_
    refine x_lr (z := some 2281) T_293_55 rfl ?_
    refine x_gI (z := j) T_293_56 (Or.inl F_17_39) (PM.t hP) (Eq.trans (Eq.trans (PM.nP hP 2281 39 39 rfl rfl rfl) (gSh_f (Nat.ne_of_beq_eq_false rfl))) hz) ?_
    refine x_ic2 T_293_59 (fun _ => ?_) (fun h => absurd (show j ≤ j by omega) h)
    refine x_rv T_293_82 ?_
    exact ⟨rfl, hP⟩
  | succ m ih =>
    intro j σ h1 h2 hP
    have hr : gSh P e j 2314 (j + e) = P 2314 (j + e) := gSh_o (by omega)
    refine x_li (z := j) T_293_54 rfl ?_
    refine x_lr (z := some 2281) T_293_55 rfl ?_
    refine x_gI (z := b) T_293_56 (Or.inl F_17_39) (PM.t hP) (Eq.trans (Eq.trans (PM.nP hP 2281 39 39 rfl rfl rfl) (gSh_f (Nat.ne_of_beq_eq_false rfl))) hz) ?_
    refine x_ic2 T_293_59 (fun h => absurd (show b ≤ j from h) (by omega)) (fun _ => ?_)
    refine x_lr (z := some 2281) T_293_62 rfl ?_
    refine x_gR (z := some 2314) T_293_63 F_17_38 (PM.t hP) (PM.r hP 38 2314 rfl) ?_
    refine x_li (z := j) T_293_66 rfl ?_
    refine x_lr (z := some 2281) T_293_67 rfl ?_
    refine x_gR (z := some 2314) T_293_68 F_17_38 (PM.t hP) (PM.r hP 38 2314 rfl) ?_
    refine x_li (z := j) T_293_71 rfl ?_
    refine x_li (z := e) T_293_72 rfl ?_
    refine x_ib (w := (j + e)) T_293_73 (fun h => absurd h.1 (by decide)) (w32_id (by omega) (by omega)) ?_
    have b1 : 0 ≤ P 2314 (j + e) ∧ P 2314 (j + e) ≤ 255 := IV.a hI 2314 0 200 rfl rfl rfl (by omega) (by omega)
    refine x_alI (z := P 2314 (j + e)) T_293_74 (by decide) (PM.ta hP 2314 0 200 rfl rfl) (by omega) (by omega) (Eq.trans (PM.aP hP 2314 rfl rfl (by omega)) hr) ?_
    refine y_aIP hP T_293_75 2314 200 rfl rfl rfl (by omega) (by omega) (fun σ hP => ?_)
    refine x_inc (w := (j + 1)) (ls1 := [some (vR (some 2281)), some (vI cnt), some (vI e), some (vI (j + 1))]) T_293_76 rfl (w32_id (by omega) (by omega)) rfl ?_
    refine x_goto T_293_79 ?_
    rw [gSh_s h2] at hP
    exact ih (j + 1) σ (by omega) (by omega) hP
theorem m_readConsole {cnt w : Int} (hP : PM σ0 P S σ) (hI : IV false T U P) (hc : 0 ≤ cnt ∧ cnt ≤ 300) (e : S 2281 6 = w) (h0 : 0 ≤ w ∧ w ≤ 20) : CL fb (d + 1) 293 [vR (some 2281), vI cnt] σ (rV σ0 (gIn P (if cnt < P 2281 39 then cnt else P 2281 39)) (rA S (seg (P 2314) 0 (if cnt < P 2281 39 then cnt else P 2281 39).toNat))) := by
  subst e
  have bi : 0 ≤ P 2281 39 ∧ P 2281 39 ≤ 200 := IV.n hI 39 39 rfl rfl (by decide)
  obtain ⟨e, he⟩ : ∃ e, (if cnt < P 2281 39 then cnt else P 2281 39) = e := ⟨_, rfl⟩
  rw [he]
  have hb : 0 ≤ e ∧ e ≤ P 2281 39 := by rw [← he]; split <;> omega
  have tail : ∀ σ, PM σ0 P (rA S (seg (P 2314) 0 e.toNat)) σ → WP fb (d + 1) 293 42 [some (vR (some 2281)), some (vI cnt), some (vI e), some (vI e)] [] σ (rV σ0 (gIn P e) (rA S (seg (P 2314) 0 e.toNat))) := by
    intro σ hP
    refine x_lr (z := some 2281) T_293_42 rfl ?_
    refine x_dupR T_293_43 ?_
    have b1 : 0 ≤ P 2281 39 ∧ P 2281 39 ≤ 200 := IV.n hI 39 39 rfl rfl (by decide)
    refine x_gI (z := P 2281 39) T_293_44 (Or.inl F_17_39) (PM.t hP) (PM.nP hP 2281 39 39 rfl rfl rfl) ?_
    refine x_li (z := e) T_293_47 rfl ?_
    refine x_ib (w := (P 2281 39 - e)) T_293_48 (fun h => absurd h.1 (by decide)) (w32_id (by omega) (by omega)) ?_
    refine y_pIP hP T_293_49 F_17_39 39 rfl rfl (fun σ hP => ?_)
    refine x_ic T_293_52 ?_
    refine x_si (ls1 := [some (vR (some 2281)), some (vI cnt), some (vI e), some (vI 0)]) T_293_53 rfl ?_
    have h2 := m_cons_loop2 (fb := fb) (d := d) (cnt := cnt) (T := T) (U := U) (hI.uN 39 39 rfl (by show 0 ≤ P 2281 39 - e ∧ P 2281 39 - e ≤ 200; omega)) hb.1 (b := P 2281 39 - e) (by omega) rU_s (P 2281 39 - e).toNat 0 σ (by omega) (by decide) (by rw [gSh_z (Int.le_refl 0)]; exact hP)
    exact h2
  refine CL_in mL_293 rfl ?_
  show WP fb _ 293 0 [some (vR (some 2281)), some (vI cnt), none, none] [] σ _
  refine x_li (z := cnt) T_293_0 rfl ?_
  refine x_lr (z := some 2281) T_293_1 rfl ?_
  have b1 : 0 ≤ P 2281 39 ∧ P 2281 39 ≤ 200 := IV.n hI 39 39 rfl rfl (by decide)
  refine x_gI (z := P 2281 39) T_293_2 (Or.inl F_17_39) (PM.t hP) (PM.nP hP 2281 39 39 rfl rfl rfl) ?_
  refine x_ic2 T_293_5 (fun h5 => ?_) (fun h5 => ?_)
  · replace h5 : P 2281 39 ≤ cnt := h5
    refine x_lr (z := some 2281) T_293_12 rfl ?_
    refine x_gI (z := P 2281 39) T_293_13 (Or.inl F_17_39) (PM.t hP) (PM.nP hP 2281 39 39 rfl rfl rfl) ?_
    refine x_si (ls1 := [some (vR (some 2281)), some (vI cnt), some (vI (P 2281 39)), none]) T_293_16 rfl ?_
    refine x_ic T_293_17 ?_
    refine x_si (ls1 := [some (vR (some 2281)), some (vI cnt), some (vI (P 2281 39)), some (vI 0)]) T_293_18 rfl ?_
    have h3 := m_cons_loop1 (fb := fb) (d := d) (cnt := cnt) (e := e) (S := S) hI h0 (by omega) tail e.toNat 0 σ (by omega) (by decide) (by rw [show seg (P 2314) 0 (0 : Int).toNat = [] from rfl, rA_nil]; exact hP)
    first
      | (have he2 : cnt = e := by rw [← he, if_pos (by omega)]
         rw [he2] at h3 ⊢; exact h3)
      | (have he2 : P 2281 39 = e := by rw [← he, if_neg (by omega)]
         rw [he2]; exact h3)
  · replace h5 : ¬ (P 2281 39 ≤ cnt) := h5
    refine x_li (z := cnt) T_293_8 rfl ?_
    refine x_goto T_293_9 ?_
    refine x_si (ls1 := [some (vR (some 2281)), some (vI cnt), some (vI cnt), none]) T_293_16 rfl ?_
    refine x_ic T_293_17 ?_
    refine x_si (ls1 := [some (vR (some 2281)), some (vI cnt), some (vI cnt), some (vI 0)]) T_293_18 rfl ?_
    have h3 := m_cons_loop1 (fb := fb) (d := d) (cnt := cnt) (e := e) (S := S) hI h0 (by omega) tail e.toNat 0 σ (by omega) (by decide) (by rw [show seg (P 2314) 0 (0 : Int).toNat = [] from rfl, rA_nil]; exact hP)
    first
      | (have he2 : cnt = e := by rw [← he, if_pos (by omega)]
         rw [he2] at h3 ⊢; exact h3)
      | (have he2 : P 2281 39 = e := by rw [← he, if_neg (by omega)]
         rw [he2]; exact h3)
theorem rdE_rng (hI : IV false T U P) (h : okN s n) (hd : s = 2 → 0 < n → n % 16 = 0) : ∀ (m : Nat) (x l : Int), 0 ≤ l → 0 ≤ x → x ≤ (rdE P s n m x l).1 ∧ (rdE P s n m x l).1 ≤ x + m ∧ 0 ≤ (rdE P s n m x l).2.1 ∧ (rdE P s n m x l).2.1 ≤ l ∧ ((rdE P s n m x l).2.2.length : Int) = l - (rdE P s n m x l).2.1 ∧ byt (rdE P s n m x l).2.2
  | 0, x, l, h0, hx => ⟨Int.le_refl _, by show x ≤ x + ((0 : Nat) : Int); omega, h0, Int.le_refl _, by show (0 : Int) = l - l; omega, byt_nil⟩
  | m + 1, x, l, h0, hx => by
    have hq := qEnt_ok (P := P) h hd hx
    unfold rdE
    split
    · rename_i q
      have hn := qNs_i hI (hq.2 q.1)
      have h1 := rdE_rng hI h hd m (x + 1) (l - (58 + qNs P s (qEnt P s n x))) (by omega) (by omega)
      have h2 := statL_len (P := P) (s := s) (n := qEnt P s n x) hn.1
      dsimp only
      rw [List.length_append]
      exact ⟨by omega, by omega, h1.2.2.1, by omega, by omega, byt_app (byt_statL _ _ _) h1.2.2.2.2.2⟩
    · exact ⟨Int.le_refl _, by show x ≤ x + ((m + 1 : Nat) : Int); omega, h0, Int.le_refl _, by show (0 : Int) = l - l; omega, byt_nil⟩
theorem m_readEntries_loop {k off cnt : Int} (hI : IV false T U P) (hk : 0 ≤ k ∧ k < 288) (hn : P 2306 k = n) (h : okN s n) (hd : s = 2 → 0 < n → n % 16 = 0) {Q : Option AV → hM → Prop} : ∀ (m : Nat) (x l : Int) (L : List Int) (σ : hM), 0 ≤ x → x + m ≤ 500 → 0 ≤ l → l < 58 * m → PM σ0 P (rA S L) σ → S 2281 6 + L.length + l ≤ 400 → 0 ≤ S 2281 6 → (∀ σ e, PM σ0 P (rA S (L ++ (rdE P s n m x l).2.2)) σ → WP fb (d + 5) 286 94 [some (vR (some 2281)), some (vI s), some (vI k), some (vL off), none, some (vI cnt), some (vI (rdE P s n m x l).1), some (vI (rdE P s n m x l).2.1), some (vI e)] [] σ Q) → WP fb (d + 5) 286 37 [some (vR (some 2281)), some (vI s), some (vI k), some (vL off), none, some (vI cnt), some (vI x), some (vI l), some (vI (qEnt P s n x))] [] σ Q := by
  intro m
  induction m with
  | zero =>
    intro x l L σ h1 h2 h3 h4
    omega
  | succ m ih =>
    intro x l L σ h1 h2 h3 h4 hP h5 h6 hQ
    have hq := qEnt_ok (P := P) h hd h1
    by_cases c : 0 ≤ qEnt P s n x
    · have hok := hq.2 c
      have hns := qNs_i hI hok
      by_cases c2 : 58 + qNs P s (qEnt P s n x) ≤ l
      · have e1 : rdE P s n (m + 1) x l = ((rdE P s n m (x + 1) (l - (58 + qNs P s (qEnt P s n x)))).1, (rdE P s n m (x + 1) (l - (58 + qNs P s (qEnt P s n x)))).2.1, statL P s (qEnt P s n x) ++ (rdE P s n m (x + 1) (l - (58 + qNs P s (qEnt P s n x)))).2.2) := if_pos ⟨c, c2⟩
        rw [e1] at hQ
        have e2 : rA S L 2281 6 = S 2281 6 + L.length := rA_z
        have h7 := statL_len (P := P) (s := s) (n := qEnt P s n x) hns.1
        refine x_li (z := qEnt P s n x) T_286_37 rfl ?_
        refine x_if T_286_39 (fun h => absurd (show qEnt P s n x < 0 from h) (by omega)) (fun _ => ?_)
        refine x_lr (z := some 2281) T_286_42 rfl ?_
        refine x_li (z := s) T_286_43 rfl ?_
        refine x_li (z := qEnt P s n x) T_286_44 rfl ?_
        refine x_cv3 T_286_46 mN_287 mL_287 (Nat.le_of_ble_eq_true rfl) mO_287 (PM.t hP) (Nat.le_of_ble_eq_true rfl) (m_statSize hP hI (by omega)) ?_
        rintro _ σ ⟨rfl, rfl⟩
        refine cI ?_
        refine x_li (z := l) T_286_49 rfl ?_
        refine x_ic2 T_286_51 (fun h => absurd (show l < (58 + qNs P s (qEnt P s n x)) from h) (by omega)) (fun _ => ?_)
        refine x_li (z := l) T_286_54 rfl ?_
        refine x_lr (z := some 2281) T_286_56 rfl ?_
        refine x_li (z := s) T_286_57 rfl ?_
        refine x_li (z := qEnt P s n x) T_286_58 rfl ?_
        refine x_cv3 T_286_60 mN_287 mL_287 (Nat.le_of_ble_eq_true rfl) mO_287 (PM.t hP) (Nat.le_of_ble_eq_true rfl) (m_statSize hP hI (by omega)) ?_
        rintro _ σ ⟨rfl, rfl⟩
        refine cI ?_
        refine x_ib (w := (l - (58 + qNs P s (qEnt P s n x)))) T_286_63 (fun h => absurd h.1 (by decide)) (w32_id (by omega) (by omega)) ?_
        refine x_si (ls1 := [some (vR (some 2281)), some (vI s), some (vI k), some (vL off), none, some (vI cnt), some (vI x), some (vI (l - (58 + qNs P s (qEnt P s n x)))), some (vI (qEnt P s n x))]) T_286_64 rfl ?_
        refine x_lr (z := some 2281) T_286_66 rfl ?_
        refine x_li (z := s) T_286_67 rfl ?_
        refine x_li (z := qEnt P s n x) T_286_68 rfl ?_
        refine x_cv3 T_286_70 mN_288 mL_288 (Nat.le_of_ble_eq_true rfl) mO_288 (PM.t hP) (Nat.le_of_ble_eq_true rfl) (m_putStat hP hI hok e2 (by omega)) ?_
        rintro _ σ ⟨rfl, hP⟩
        refine cV ?_
        refine x_inc (w := (x + 1)) (ls1 := [some (vR (some 2281)), some (vI s), some (vI k), some (vL off), none, some (vI cnt), some (vI (x + 1)), some (vI (l - (58 + qNs P s (qEnt P s n x)))), some (vI (qEnt P s n x))]) T_286_73 rfl (w32_id (by omega) (by omega)) rfl ?_
        refine x_lr (z := some 2281) T_286_76 rfl ?_
        refine x_li (z := s) T_286_77 rfl ?_
        refine x_lr (z := some 2281) T_286_78 rfl ?_
        refine x_gR (z := some 2306) T_286_79 F_17_30 (PM.t hP) (PM.r hP 30 2306 rfl) ?_
        refine x_li (z := k) T_286_82 rfl ?_
        refine x_alI (z := n) T_286_83 (by decide) (PM.ta hP 2306 0 288 rfl rfl) (by omega) (by omega) ((PM.aP hP 2306 rfl rfl (by omega)).trans hn) ?_
        refine x_li (z := (x + 1)) T_286_84 rfl ?_
        refine x_cv4 T_286_86 mN_253 mL_253 (Nat.le_of_ble_eq_true rfl) mO_253 (PM.t hP) (Nat.le_of_ble_eq_true rfl) (m_entry hP hI (by omega) (by omega)) ?_
        rintro _ σ ⟨rfl, rfl⟩
        refine cI ?_
        refine x_si (ls1 := [some (vR (some 2281)), some (vI s), some (vI k), some (vL off), none, some (vI cnt), some (vI (x + 1)), some (vI (l - (58 + qNs P s (qEnt P s n x)))), some (vI (qEnt P s n (x + 1)))]) T_286_89 rfl ?_
        refine x_goto T_286_91 ?_
        rw [rA_rA] at hP
        exact ih (x + 1) (l - (58 + qNs P s (qEnt P s n x))) (L ++ statL P s (qEnt P s n x)) σ (by omega) (by omega) (by omega) (by omega) hP (by rw [List.length_append]; omega) h6 (fun σ e q => hQ σ e (by rw [← List.append_assoc]; exact q))
      · have e1 : rdE P s n (m + 1) x l = (x, l, []) := if_neg (fun q => c2 q.2)
        rw [e1] at hQ
        refine x_li (z := qEnt P s n x) T_286_37 rfl ?_
        refine x_if T_286_39 (fun h => absurd (show qEnt P s n x < 0 from h) (by omega)) (fun _ => ?_)
        refine x_lr (z := some 2281) T_286_42 rfl ?_
        refine x_li (z := s) T_286_43 rfl ?_
        refine x_li (z := qEnt P s n x) T_286_44 rfl ?_
        refine x_cv3 T_286_46 mN_287 mL_287 (Nat.le_of_ble_eq_true rfl) mO_287 (PM.t hP) (Nat.le_of_ble_eq_true rfl) (m_statSize hP hI (by omega)) ?_
        rintro _ σ ⟨rfl, rfl⟩
        refine cI ?_
        refine x_li (z := l) T_286_49 rfl ?_
        refine x_ic2 T_286_51 (fun _ => ?_) (fun h => absurd (show l < (58 + qNs P s (qEnt P s n x)) by omega) h)
        exact hQ σ _ (by rw [List.append_nil]; exact hP)
    · have e1 : rdE P s n (m + 1) x l = (x, l, []) := if_neg (fun q => c q.1)
      rw [e1] at hQ
      refine x_li (z := qEnt P s n x) T_286_37 rfl ?_
      refine x_if T_286_39 (fun _ => ?_) (fun h => absurd (show qEnt P s n x < 0 by omega) h)
      exact hQ σ _ (by rw [List.append_nil]; exact hP)
/-- entries read: where the reading stands then -/
def gEnt (P : qR) (k off cnt : Int) (r : Int × Int × List Int) : qR := rU (rU P 2312 k r.1) 2311 k (w64 (off + (cnt - r.2.1)))
def rdR (P : qR) (s k off cnt : Int) : Int × Int × List Int := rdE P s (P 2306 k) 6 (if off = 0 then 0 else P 2312 k) cnt
theorem m_readEntries {k off cnt w : Int} (hP : PM σ0 P S σ) (hI : IV false T U P) (hk : 0 ≤ k ∧ k < 288) (h : okN s (P 2306 k)) (hd : s = 2 → 0 < P 2306 k → P 2306 k % 16 = 0) (hc : 0 ≤ cnt ∧ cnt ≤ 300) (e : S 2281 6 = w) (h0 : 0 ≤ w ∧ w ≤ 20) : CL fb (d + 5) 286 [vR (some 2281), vI s, vI k, vL off, vI cnt] σ (rV σ0 (gEnt P k off cnt (rdR P s k off cnt)) (rA S (rdR P s k off cnt).2.2)) := by
  subst e
  have br : 0 ≤ P 2312 k ∧ P 2312 k ≤ 64 := IV.a hI 2312 0 288 rfl rfl rfl (by omega) (by omega)
  obtain ⟨x, hx⟩ : ∃ x, (if off = 0 then 0 else P 2312 k) = x := ⟨_, rfl⟩
  have hxb : 0 ≤ x ∧ x ≤ 64 := by rw [← hx]; split <;> omega
  unfold rdR
  rw [hx]
  have hr := rdE_rng hI h hd 6 x cnt hc.1 hxb.1
  have tail : ∀ σ e, PM σ0 P (rA S ([] ++ (rdE P s (P 2306 k) 6 x cnt).2.2)) σ → WP fb (d + 5) 286 94 [some (vR (some 2281)), some (vI s), some (vI k), some (vL off), none, some (vI cnt), some (vI (rdE P s (P 2306 k) 6 x cnt).1), some (vI (rdE P s (P 2306 k) 6 x cnt).2.1), some (vI e)] [] σ (rV σ0 (gEnt P k off cnt (rdE P s (P 2306 k) 6 x cnt)) (rA S (rdE P s (P 2306 k) 6 x cnt).2.2)) := by
    intro σ e hP
    refine x_lr (z := some 2281) T_286_94 rfl ?_
    refine x_gR (z := some 2312) T_286_95 F_17_36 (PM.t hP) (PM.r hP 36 2312 rfl) ?_
    refine x_li (z := k) T_286_98 rfl ?_
    refine x_li (z := (rdE P s (P 2306 k) 6 x cnt).1) T_286_99 rfl ?_
    refine y_aIP hP T_286_101 2312 288 rfl rfl rfl (by omega) (by omega) (fun σ hP => ?_)
    refine x_lr (z := some 2281) T_286_102 rfl ?_
    refine x_gR (z := some 2311) T_286_103 F_17_35 (PM.t hP) (PM.r hP 35 2311 rfl) ?_
    refine x_li (z := k) T_286_106 rfl ?_
    refine x_ll (z := off) T_286_107 rfl ?_
    refine x_li (z := cnt) T_286_108 rfl ?_
    refine x_li (z := (rdE P s (P 2306 k) 6 x cnt).2.1) T_286_110 rfl ?_
    refine x_ib (w := (cnt - (rdE P s (P 2306 k) 6 x cnt).2.1)) T_286_112 (fun h => absurd h.1 (by decide)) (w32_id (by omega) (by omega)) ?_
    refine x_i2l T_286_113 ?_
    refine x_lb (w := w64 (off + (cnt - (rdE P s (P 2306 k) 6 x cnt).2.1))) T_286_114 (fun h => absurd h.1 (by decide)) rfl ?_
    refine y_aLP hP T_286_115 2311 288 rfl rfl rfl (by omega) (by omega) (fun σ hP => ?_)
    refine x_rv T_286_116 ?_
    exact ⟨rfl, hP⟩
  have loop := fun σ hP => m_readEntries_loop (fb := fb) (d := d) (off := off) (cnt := cnt) (S := S) (σ0 := σ0) hI hk rfl h hd 6 x cnt [] σ hxb.1 (by omega) hc.1 (by omega) hP (by show S 2281 6 + ((0 : Nat) : Int) + cnt ≤ 400; omega) h0.1 tail
  refine CL_in mL_286 rfl ?_
  show WP fb _ 286 0 [some (vR (some 2281)), some (vI s), some (vI k), some (vL off), none, some (vI cnt), none, none, none] [] σ _
  by_cases ho : off = 0
  · rw [if_pos ho] at hx
    subst hx
    refine x_ll (z := off) T_286_0 rfl ?_
    refine x_lc T_286_1 ?_
    refine x_lif T_286_2 T_286_3 (fun h => absurd (show ¬ off = 0 from h) (by omega)) (fun _ => ?_)
    refine x_ic T_286_6 ?_
    refine x_goto T_286_7 ?_
    refine x_si (ls1 := [some (vR (some 2281)), some (vI s), some (vI k), some (vL off), none, some (vI cnt), some (vI 0), none, none]) T_286_16 rfl ?_
    refine x_li (z := cnt) T_286_18 rfl ?_
    refine x_si (ls1 := [some (vR (some 2281)), some (vI s), some (vI k), some (vL off), none, some (vI cnt), some (vI 0), some (vI cnt), none]) T_286_20 rfl ?_
    refine x_lr (z := some 2281) T_286_22 rfl ?_
    refine x_li (z := s) T_286_23 rfl ?_
    refine x_lr (z := some 2281) T_286_24 rfl ?_
    refine x_gR (z := some 2306) T_286_25 F_17_30 (PM.t hP) (PM.r hP 30 2306 rfl) ?_
    refine x_li (z := k) T_286_28 rfl ?_
    have b1 : 0 ≤ P 2306 k ∧ P 2306 k ≤ (if k < 192 then 63 else 143) := IV.a hI 2306 0 288 rfl rfl rfl (by omega) (by omega)
    refine x_alI (z := P 2306 k) T_286_29 (by decide) (PM.ta hP 2306 0 288 rfl rfl) (by omega) (by omega) (PM.aP hP 2306 rfl rfl (by omega)) ?_
    refine x_li (z := 0) T_286_30 rfl ?_
    refine x_cv4 T_286_32 mN_253 mL_253 (Nat.le_of_ble_eq_true rfl) mO_253 (PM.t hP) (Nat.le_of_ble_eq_true rfl) (m_entry hP hI (by omega) (by omega)) ?_
    rintro _ σ ⟨rfl, rfl⟩
    refine cI ?_
    refine x_si (ls1 := [some (vR (some 2281)), some (vI s), some (vI k), some (vL off), none, some (vI cnt), some (vI 0), some (vI cnt), some (vI (qEnt P s (P 2306 k) 0))]) T_286_35 rfl ?_
    exact loop σ (by rw [rA_nil]; exact hP)
  · rw [if_neg ho] at hx
    subst hx
    refine x_ll (z := off) T_286_0 rfl ?_
    refine x_lc T_286_1 ?_
    refine x_lif T_286_2 T_286_3 (fun _ => ?_) (fun h => absurd (show ¬ off = 0 by omega) h)
    refine x_lr (z := some 2281) T_286_10 rfl ?_
    refine x_gR (z := some 2312) T_286_11 F_17_36 (PM.t hP) (PM.r hP 36 2312 rfl) ?_
    refine x_li (z := k) T_286_14 rfl ?_
    have b1 : 0 ≤ P 2312 k ∧ P 2312 k ≤ 64 := IV.a hI 2312 0 288 rfl rfl rfl (by omega) (by omega)
    refine x_alI (z := P 2312 k) T_286_15 (by decide) (PM.ta hP 2312 0 288 rfl rfl) (by omega) (by omega) (PM.aP hP 2312 rfl rfl (by omega)) ?_
    refine x_si (ls1 := [some (vR (some 2281)), some (vI s), some (vI k), some (vL off), none, some (vI cnt), some (vI (P 2312 k)), none, none]) T_286_16 rfl ?_
    refine x_li (z := cnt) T_286_18 rfl ?_
    refine x_si (ls1 := [some (vR (some 2281)), some (vI s), some (vI k), some (vL off), none, some (vI cnt), some (vI (P 2312 k)), some (vI cnt), none]) T_286_20 rfl ?_
    refine x_lr (z := some 2281) T_286_22 rfl ?_
    refine x_li (z := s) T_286_23 rfl ?_
    refine x_lr (z := some 2281) T_286_24 rfl ?_
    refine x_gR (z := some 2306) T_286_25 F_17_30 (PM.t hP) (PM.r hP 30 2306 rfl) ?_
    refine x_li (z := k) T_286_28 rfl ?_
    have b2 : 0 ≤ P 2306 k ∧ P 2306 k ≤ (if k < 192 then 63 else 143) := IV.a hI 2306 0 288 rfl rfl rfl (by omega) (by omega)
    refine x_alI (z := P 2306 k) T_286_29 (by decide) (PM.ta hP 2306 0 288 rfl rfl) (by omega) (by omega) (PM.aP hP 2306 rfl rfl (by omega)) ?_
    refine x_li (z := P 2312 k) T_286_30 rfl ?_
    refine x_cv4 T_286_32 mN_253 mL_253 (Nat.le_of_ble_eq_true rfl) mO_253 (PM.t hP) (Nat.le_of_ble_eq_true rfl) (m_entry hP hI (by omega) (by omega)) ?_
    rintro _ σ ⟨rfl, rfl⟩
    refine cI ?_
    refine x_si (ls1 := [some (vR (some 2281)), some (vI s), some (vI k), some (vL off), none, some (vI cnt), some (vI (P 2312 k)), some (vI cnt), some (vI (qEnt P s (P 2306 k) (P 2312 k)))]) T_286_35 rfl ?_
    exact loop σ (by rw [rA_nil]; exact hP)
end MREAD2
