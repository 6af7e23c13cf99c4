/-! What the reference's servers answer: fids come, files opened. -/
theorem T_258_0 : hTab 258 0 = some ((3, 0, 2, []), 1) := rfl
theorem T_258_1 : hTab 258 1 = some ((0, 0, 4, []), 2) := rfl
theorem T_258_2 : hTab 258 2 = some ((31, 234, 0, []), 5) := rfl
theorem T_258_5 : hTab 258 5 = some ((4, 3, 1, []), 6) := rfl
theorem T_258_6 : hTab 258 6 = some ((3, 0, 2, []), 7) := rfl
theorem T_258_7 : hTab 258 7 = some ((0, 0, 4, []), 8) := rfl
theorem T_258_8 : hTab 258 8 = some ((31, 234, 0, []), 11) := rfl
theorem T_258_11 : hTab 258 11 = some ((4, 5, 1, []), 13) := rfl
theorem T_258_13 : hTab 258 13 = some ((3, 0, 2, []), 14) := rfl
theorem T_258_14 : hTab 258 14 = some ((31, 240, 0, []), 17) := rfl
theorem T_258_17 : hTab 258 17 = some ((3, 0, 2, []), 18) := rfl
theorem T_258_18 : hTab 258 18 = some ((31, 240, 0, []), 21) := rfl
theorem T_258_21 : hTab 258 21 = some ((3, 0, 2, []), 22) := rfl
theorem T_258_22 : hTab 258 22 = some ((31, 241, 0, []), 25) := rfl
theorem T_258_25 : hTab 258 25 = some ((18, 1, Int.ofNat 29, []), 28) := rfl
theorem T_258_28 : hTab 258 28 = some ((33, 0, 0, []), 29) := rfl
theorem T_258_29 : hTab 258 29 = some ((3, 0, 2, []), 30) := rfl
theorem T_258_30 : hTab 258 30 = some ((3, 0, 2, []), 31) := rfl
theorem T_258_31 : hTab 258 31 = some ((24, 17, Int.ofNat 10, []), 34) := rfl
theorem T_258_34 : hTab 258 34 = some ((0, 0, 0, []), 35) := rfl
theorem T_258_35 : hTab 258 35 = some ((26, 0, 0, []), 36) := rfl
theorem T_258_36 : hTab 258 36 = some ((3, 0, 2, []), 37) := rfl
theorem T_258_37 : hTab 258 37 = some ((24, 17, Int.ofNat 11, []), 40) := rfl
theorem T_258_40 : hTab 258 40 = some ((0, 0, 0, []), 41) := rfl
theorem T_258_41 : hTab 258 41 = some ((26, 0, 0, []), 42) := rfl
theorem T_258_42 : hTab 258 42 = some ((31, 259, 0, []), 45) := rfl
theorem T_258_45 : hTab 258 45 = some ((4, 7, 0, []), 47) := rfl
theorem T_258_47 : hTab 258 47 = some ((3, 0, 2, []), 48) := rfl
theorem T_258_48 : hTab 258 48 = some ((3, 1, 0, []), 49) := rfl
theorem T_258_49 : hTab 258 49 = some ((3, 2, 0, []), 50) := rfl
theorem T_258_50 : hTab 258 50 = some ((31, 260, 0, []), 53) := rfl
theorem T_258_53 : hTab 258 53 = some ((4, 8, 0, []), 55) := rfl
theorem T_258_55 : hTab 258 55 = some ((3, 0, 2, []), 56) := rfl
theorem T_258_56 : hTab 258 56 = some ((3, 1, 0, []), 57) := rfl
theorem T_258_57 : hTab 258 57 = some ((3, 2, 0, []), 58) := rfl
theorem T_258_58 : hTab 258 58 = some ((3, 3, 1, []), 59) := rfl
theorem T_258_59 : hTab 258 59 = some ((31, 261, 0, []), 62) := rfl
theorem T_258_62 : hTab 258 62 = some ((18, 2, Int.ofNat 70, []), 65) := rfl
theorem T_258_65 : hTab 258 65 = some ((0, 0, 7, []), 67) := rfl
theorem T_258_67 : hTab 258 67 = some ((22, 0, Int.ofNat 118, []), 70) := rfl
theorem T_258_70 : hTab 258 70 = some ((3, 5, 1, []), 72) := rfl
theorem T_258_72 : hTab 258 72 = some ((1, 0, 4294967295, []), 75) := rfl
theorem T_258_75 : hTab 258 75 = some ((17, 0, 0, []), 76) := rfl
theorem T_258_76 : hTab 258 76 = some ((18, 0, Int.ofNat 84, []), 79) := rfl
theorem T_258_79 : hTab 258 79 = some ((0, 0, 14, []), 81) := rfl
theorem T_258_81 : hTab 258 81 = some ((22, 0, Int.ofNat 118, []), 84) := rfl
theorem T_258_84 : hTab 258 84 = some ((3, 7, 0, []), 86) := rfl
theorem T_258_86 : hTab 258 86 = some ((18, 3, Int.ofNat 94, []), 89) := rfl
theorem T_258_89 : hTab 258 89 = some ((0, 0, 15, []), 91) := rfl
theorem T_258_91 : hTab 258 91 = some ((22, 0, Int.ofNat 118, []), 94) := rfl
theorem T_258_94 : hTab 258 94 = some ((3, 0, 2, []), 95) := rfl
theorem T_258_95 : hTab 258 95 = some ((24, 17, Int.ofNat 11, []), 98) := rfl
theorem T_258_98 : hTab 258 98 = some ((0, 0, 1, []), 99) := rfl
theorem T_258_99 : hTab 258 99 = some ((26, 0, 0, []), 100) := rfl
theorem T_258_100 : hTab 258 100 = some ((18, 5, Int.ofNat 107, []), 103) := rfl
theorem T_258_103 : hTab 258 103 = some ((0, 0, 1, []), 104) := rfl
theorem T_258_104 : hTab 258 104 = some ((22, 0, Int.ofNat 118, []), 107) := rfl
theorem T_258_107 : hTab 258 107 = some ((3, 8, 0, []), 109) := rfl
theorem T_258_109 : hTab 258 109 = some ((18, 3, Int.ofNat 117, []), 112) := rfl
theorem T_258_112 : hTab 258 112 = some ((0, 0, 12, []), 114) := rfl
theorem T_258_114 : hTab 258 114 = some ((22, 0, Int.ofNat 118, []), 117) := rfl
theorem T_258_117 : hTab 258 117 = some ((0, 0, 0, []), 118) := rfl
theorem T_258_118 : hTab 258 118 = some ((4, 9, 0, []), 120) := rfl
theorem T_258_120 : hTab 258 120 = some ((3, 9, 0, []), 122) := rfl
theorem T_258_122 : hTab 258 122 = some ((18, 5, Int.ofNat 132, []), 125) := rfl
theorem T_258_125 : hTab 258 125 = some ((3, 0, 2, []), 126) := rfl
theorem T_258_126 : hTab 258 126 = some ((3, 9, 0, []), 128) := rfl
theorem T_258_128 : hTab 258 128 = some ((31, 235, 0, []), 131) := rfl
theorem T_258_131 : hTab 258 131 = some ((33, 0, 0, []), 132) := rfl
theorem T_258_132 : hTab 258 132 = some ((3, 0, 2, []), 133) := rfl
theorem T_258_133 : hTab 258 133 = some ((3, 8, 0, []), 135) := rfl
theorem T_258_135 : hTab 258 135 = some ((3, 3, 1, []), 136) := rfl
theorem T_258_136 : hTab 258 136 = some ((0, 0, 0, []), 137) := rfl
theorem T_258_137 : hTab 258 137 = some ((3, 7, 0, []), 139) := rfl
theorem T_258_139 : hTab 258 139 = some ((31, 262, 0, []), 142) := rfl
theorem T_258_142 : hTab 258 142 = some ((3, 0, 2, []), 143) := rfl
theorem T_258_143 : hTab 258 143 = some ((0, 0, 105, []), 145) := rfl
theorem T_258_145 : hTab 258 145 = some ((31, 236, 0, []), 148) := rfl
theorem T_258_148 : hTab 258 148 = some ((3, 0, 2, []), 149) := rfl
theorem T_258_149 : hTab 258 149 = some ((3, 1, 0, []), 150) := rfl
theorem T_258_150 : hTab 258 150 = some ((0, 0, 0, []), 151) := rfl
theorem T_258_151 : hTab 258 151 = some ((31, 264, 0, []), 154) := rfl
theorem T_258_154 : hTab 258 154 = some ((33, 0, 0, []), 155) := rfl
theorem mN_258 : hmN 258 = 3 := by decide +kernel
theorem mL_258 : hmL 258 = 10 := by decide +kernel
theorem mK_258 : hmK 258 = 1 := by decide +kernel
theorem mO_258 : hmO 258 = 17 := by decide +kernel
section MSERVE3
variable {fb : Bool} {d : Nat} {σ0 σ : hM} {P S S1 : qR} {T U s n u c t p : Int} {x y : Int × Int} {st : List (Int × Int)}
theorem SV_not {Q : qR} {e e1 : Int} {l : List Int} (hP : PM σ0 P (rfs S1 e1) σ) (hR : RS T U S S1 p st) (he : 1 ≤ e1 ∧ e1 ≤ 16) (h1 : Q = P) (h2 : e = e1) : SV T U σ0 S Q e t l none σ := by
  rw [h1, h2]
  exact SV_no hP hR he
theorem SV_yes {Q : qR} {e : Int} {l : List Int} (hP : PM σ0 P (rA (rpl S1 t) l) σ) (hR : RS T U S S1 p st) (h0 : S 2281 7 = 0) (hl : byt l) (hz : (l.length : Int) ≤ 400) (h1 : Q = P) (h2 : e = 0) : SV T U σ0 S Q e t l none σ := by
  rw [h1, h2]
  exact SV_ok hP hR h0 hl hz
theorem RS.st0 (h : RS T U S S1 p (x :: st)) : S1 2287 0 = x.1 ∧ S1 2288 0 = x.2 := h.2.2.2.2.2.2.2 0 (by show 0 < st.length + 1; omega) (by decide)
theorem RS.st1 (h : RS T U S S1 p (x :: y :: st)) : S1 2287 1 = y.1 ∧ S1 2288 1 = y.2 := h.2.2.2.2.2.2.2 1 (by show 1 < st.length + 1 + 1; omega) (by decide)
theorem RS.askf (h : RS T U S S1 p st) : S1 2285 = S 2285 := funext (fun _ => h.ask)
theorem RS.iv (h : RS T U S S1 p st) : IV true T U S1 := h.2.2.2.2.2.1
def atE (P : qR) (s c : Int) (a : Int → Int) (z : Int) : Int := if ¬ sE a z (sE a z 15) = z then 14 else if 0 ≤ qFid P s c (nu a 7 4) then 7 else if ¬ nu a 11 4 = 4294967295 then 14 else if qUser a 17 (nu a 15 2) < 0 then 15 else if 0 < nu a (sE a z 15) 2 then 1 else if qFree P s c < 0 then 12 else 0
def atP (P : qR) (s c : Int) (a : Int → Int) : qR := gMake P (qFree P s c) (nu a 7 4) 0 (qUser a 17 (nu a 15 2))
theorem usF_rng (a : Int → Int) (o : Int) : ∀ (m : Nat) (k : Int), k + m = 4 → 0 ≤ k → -1 ≤ usF a o m k ∧ usF a o m k ≤ 3
  | 0, k, _, _ => ⟨Int.le_refl _, by show (-1 : Int) ≤ 3; decide⟩
  | m + 1, k, h1, h2 => by
    unfold usF
    split
    · omega
    · exact usF_rng a o m (k + 1) (by omega) (by omega)
theorem qUser_rng (a : Int → Int) (o z : Int) : -1 ≤ qUser a o z ∧ qUser a o z ≤ 3 := by
  unfold qUser
  split
  · exact usF_rng a o 4 0 (by decide) (by decide)
  · decide
theorem m_serveAttach (hP : PM σ0 P S1 σ) (hR : RS T U S S1 7 []) (hI : IV false T U P) (hs : 0 ≤ s ∧ s < 3) (hc : 0 ≤ c ∧ c < 2) (h0 : S 2281 7 = 0) : CL fb (d + 5) 258 [vR (some 2281), vI s, vI c] σ (SV T U σ0 S (if atE P s c (S 2285) (S 2281 4) = 0 then atP P s c (S 2285) else P) (atE P s c (S 2285) (S 2281 4)) 105 (qidL (atP P s c (S 2285)) s 0)) := by
  obtain ⟨hz0, hz1, hb⟩ := hR.pb
  have hz7 : 7 ≤ S 2281 4 := hR.2.2.2.2.1
  have e1 : sE (S 2285) (S 2281 4) (av (S 2281 4) (av (S 2281 4) 7 4) 4) = sE (S 2285) (S 2281 4) 15 := by
    by_cases q : S 2281 4 < 11
    · rw [show av (S 2281 4) 7 4 = -1 from if_pos (by omega), sE_neg (show av (S 2281 4) (-1) 4 < 0 by unfold av; rw [if_pos (Or.inl (by decide))]; decide)]
      exact (if_pos (by omega)).symm
    · rw [show av (S 2281 4) 7 4 = 11 from if_neg (by omega)]
      exact sE_av (by decide) (by decide)
  by_cases hw : sE (S 2285) (S 2281 4) (sE (S 2285) (S 2281 4) 15) = S 2281 4
  · rw [show atE P s c (S 2285) (S 2281 4) = (if 0 ≤ qFid P s c (nu (S 2285) 7 4) then 7 else if ¬ nu (S 2285) 11 4 = 4294967295 then 14 else if qUser (S 2285) 17 (nu (S 2285) 15 2) < 0 then 15 else if 0 < nu (S 2285) (sE (S 2285) (S 2281 4) 15) 2 then 1 else if qFree P s c < 0 then 12 else 0) by unfold atE; exact if_neg (fun q => q hw)]
    have hc2 := (sE_cases (p := sE (S 2285) (S 2281 4) 15) hb).resolve_left (by omega)
    have hc1 := (sE_cases (p := 15) hb).resolve_left (by omega)
    obtain ⟨v, hv0⟩ : ∃ v, nu (S 2285) 7 4 = v := ⟨_, rfl⟩
    obtain ⟨w, hw0⟩ : ∃ w, nu (S 2285) 11 4 = w := ⟨_, rfl⟩
    have hv1 : nv (S 2285) (S 2281 4) 7 4 = v := (nv_ok (n := 4) (by decide) (by omega) hb).1.trans hv0
    have a1 : av (S 2281 4) 7 4 = 11 := if_neg (by omega)
    have a2 : av (S 2281 4) 11 4 = 15 := if_neg (by omega)
    have hw1 : nv (S 2285) (S 2281 4) 11 4 = w := (nv_ok (n := 4) (by decide) (by omega) hb).1.trans hw0
    obtain ⟨e, he⟩ : ∃ e, sE (S 2285) (S 2281 4) 15 = e := ⟨_, rfl⟩
    rw [he] at hw hc1 hc2 ⊢
    obtain ⟨y, hy⟩ : ∃ y, nu (S 2285) 15 2 = y := ⟨_, rfl⟩
    obtain ⟨x, hx⟩ : ∃ x, nu (S 2285) e 2 = x := ⟨_, rfl⟩
    rw [hy] at hc1
    rw [hx] at hc2
    have hus := qUser_rng (S 2285) 17 y
    obtain ⟨us, hus0⟩ : ∃ us, qUser (S 2285) 17 y = us := ⟨_, rfl⟩
    have hfr := frFid_rng (P := P) 48 (48 * (2 * s + c)) (by omega)
    obtain ⟨f, hf⟩ : ∃ f, qFree P s c = f := ⟨_, rfl⟩
    rw [show frFid P 48 (48 * (2 * s + c)) = f from hf] at hfr
    obtain ⟨k, hk0⟩ : ∃ k, qFid P s c v = k := ⟨_, rfl⟩
    unfold atP
    rw [hx, hv0, hw0, hy, hus0, hf, hk0]
    rw [hus0] at hus
    have hh : S 2281 4 = S 2281 4 ∧ 0 ≤ S 2281 4 := ⟨rfl, hz0⟩
    refine CL_in mL_258 rfl ?_
    show WP fb _ 258 0 [some (vR (some 2281)), some (vI s), some (vI c), none, none, none, none, none, none, none] [] σ _
    refine x_lr (z := some 2281) T_258_0 rfl ?_
    refine x_ic T_258_1 ?_
    refine x_cv2 T_258_2 mN_234 mL_234 (Nat.le_of_ble_eq_true rfl) mO_234 (PM.t hP) (Nat.le_of_ble_eq_true rfl) (r_num 4 rfl hP hR (by decide) hv1) ?_
    rintro _ σ ⟨rfl, S1, hP, hR⟩
    rw [a1] at hR
    refine cL ?_
    refine x_sl (ls1 := [some (vR (some 2281)), some (vI s), some (vI c), some (vL v), none, none, none, none, none, none]) T_258_5 rfl ?_
    refine x_lr (z := some 2281) T_258_6 rfl ?_
    refine x_ic T_258_7 ?_
    refine x_cv2 T_258_8 mN_234 mL_234 (Nat.le_of_ble_eq_true rfl) mO_234 (PM.t hP) (Nat.le_of_ble_eq_true rfl) (r_num 4 rfl hP hR (by decide) hw1) ?_
    rintro _ σ ⟨rfl, S1, hP, hR⟩
    rw [a2] at hR
    refine cL ?_
    refine x_sl (ls1 := [some (vR (some 2281)), some (vI s), some (vI c), some (vL v), none, some (vL w), none, none, none, none]) T_258_11 rfl ?_
    refine x_lr (z := some 2281) T_258_13 rfl ?_
    refine x_cv1 T_258_14 mN_240 mL_240 (Nat.le_of_ble_eq_true rfl) mO_240 (PM.t hP) (Nat.le_of_ble_eq_true rfl) (r_string hP hR (by decide)) ?_
    rintro _ σ ⟨rfl, S1, hP, hR⟩
    rw [he, if_neg (by omega), hy] at hR
    refine cV ?_
    refine x_lr (z := some 2281) T_258_17 rfl ?_
    refine x_cv1 T_258_18 mN_240 mL_240 (Nat.le_of_ble_eq_true rfl) mO_240 (PM.t hP) (Nat.le_of_ble_eq_true rfl) (r_string hP hR (by show (1 : Nat) ≤ 500; decide)) ?_
    rintro _ σ ⟨rfl, S1, hP, hR⟩
    rw [hw, if_neg (by omega), hx] at hR
    refine cV ?_
    refine x_lr (z := some 2281) T_258_21 rfl ?_
    have hw := r_isWhole (fb := fb) (d := d + 1) hP hR
    rw [if_pos hh, if_pos hh] at hw
    refine x_cv1 T_258_22 mN_241 mL_241 (Nat.le_of_ble_eq_true rfl) mO_241 (PM.t hP) (Nat.le_of_ble_eq_true rfl) (hw) ?_
    rintro _ σ ⟨rfl, hP⟩
    refine cI ?_
    refine x_if T_258_25 (fun _ => ?_) (fun h => absurd (show ¬ (1 : Int) = 0 by decide) h)
    have q0 := hR.st0
    have q1 := hR.st1
    have qJ := hR.iv
    refine x_lr (z := some 2281) T_258_29 rfl ?_
    refine x_lr (z := some 2281) T_258_30 rfl ?_
    refine x_gR (z := some 2287) T_258_31 F_17_10 (PM.t hP) (PM.r hP 10 2287 rfl) ?_
    refine x_ic T_258_34 ?_
    refine x_alI (z := 17) T_258_35 (by decide) (PM.ta hP 2287 0 8 rfl rfl) (by omega) (by omega) (Eq.trans (PM.aS hP 2287 rfl rfl (by omega)) q0.1) ?_
    refine x_lr (z := some 2281) T_258_36 rfl ?_
    refine x_gR (z := some 2288) T_258_37 F_17_11 (PM.t hP) (PM.r hP 11 2288 rfl) ?_
    refine x_ic T_258_40 ?_
    refine x_alI (z := y) T_258_41 (by decide) (PM.ta hP 2288 0 8 rfl rfl) (by omega) (by omega) (Eq.trans (PM.aS hP 2288 rfl rfl (by omega)) q0.2) ?_
    refine x_cv3 T_258_42 mN_259 mL_259 (Nat.le_of_ble_eq_true rfl) mO_259 (PM.t hP) (Nat.le_of_ble_eq_true rfl) (CL_val (k := us) (m_userNamed hP qJ (by omega) (by omega) (by omega)) (by rw [hR.askf]; exact hus0)) ?_
    rintro _ σ ⟨rfl, rfl⟩
    refine cI ?_
    refine x_si (ls1 := [some (vR (some 2281)), some (vI s), some (vI c), some (vL v), none, some (vL w), none, some (vI us), none, none]) T_258_45 rfl ?_
    refine x_lr (z := some 2281) T_258_47 rfl ?_
    refine x_li (z := s) T_258_48 rfl ?_
    refine x_li (z := c) T_258_49 rfl ?_
    refine x_cv3 T_258_50 mN_260 mL_260 (Nat.le_of_ble_eq_true rfl) mO_260 (PM.t hP) (Nat.le_of_ble_eq_true rfl) (CL_val (m_freeFid hP (by omega) (by omega)) hf) ?_
    rintro _ σ ⟨rfl, rfl⟩
    refine cI ?_
    refine x_si (ls1 := [some (vR (some 2281)), some (vI s), some (vI c), some (vL v), none, some (vL w), none, some (vI us), some (vI f), none]) T_258_53 rfl ?_
    refine x_lr (z := some 2281) T_258_55 rfl ?_
    refine x_li (z := s) T_258_56 rfl ?_
    refine x_li (z := c) T_258_57 rfl ?_
    refine x_ll (z := v) T_258_58 rfl ?_
    refine x_cv4 T_258_59 mN_261 mL_261 (Nat.le_of_ble_eq_true rfl) mO_261 (PM.t hP) (Nat.le_of_ble_eq_true rfl) (CL_val (m_findFid hP (by omega) (by omega)) hk0) ?_
    rintro _ σ ⟨rfl, rfl⟩
    refine cI ?_
    refine x_if T_258_62 (fun h62 => ?_) (fun h62 => ?_)
    · replace h62 : k < 0 := h62
      refine x_ll (z := w) T_258_70 rfl ?_
      refine x_lc T_258_72 ?_
      refine x_lif T_258_75 T_258_76 (fun h76 => ?_) (fun h76 => ?_)
      · replace h76 : w = 4294967295 := h76
        refine x_li (z := us) T_258_84 rfl ?_
        refine x_if T_258_86 (fun h86 => ?_) (fun h86 => ?_)
        · replace h86 : 0 ≤ us := h86
          refine x_lr (z := some 2281) T_258_94 rfl ?_
          refine x_gR (z := some 2288) T_258_95 F_17_11 (PM.t hP) (PM.r hP 11 2288 rfl) ?_
          refine x_ic T_258_98 ?_
          refine x_alI (z := x) T_258_99 (by decide) (PM.ta hP 2288 0 8 rfl rfl) (by omega) (by omega) (Eq.trans (PM.aS hP 2288 rfl rfl (by omega)) q1.2) ?_
          refine x_if T_258_100 (fun h100 => ?_) (fun h100 => ?_)
          · replace h100 : x ≤ 0 := h100
            refine x_li (z := f) T_258_107 rfl ?_
            refine x_if T_258_109 (fun h109 => ?_) (fun h109 => ?_)
            · replace h109 : 0 ≤ f := h109
              refine x_ic T_258_117 ?_
              refine x_si (ls1 := [some (vR (some 2281)), some (vI s), some (vI c), some (vL v), none, some (vL w), none, some (vI us), some (vI f), some (vI 0)]) T_258_118 rfl ?_
              refine x_li (z := 0) T_258_120 rfl ?_
              refine x_if T_258_122 (fun _ => ?_) (fun h => absurd (show (0 : Int) ≤ 0 by decide) h)
              refine x_lr (z := some 2281) T_258_132 rfl ?_
              refine x_li (z := f) T_258_133 rfl ?_
              refine x_ll (z := v) T_258_135 rfl ?_
              refine x_ic T_258_136 ?_
              refine x_li (z := us) T_258_137 rfl ?_
              refine x_cv5 T_258_139 mN_262 mL_262 (Nat.le_of_ble_eq_true rfl) mO_262 (PM.t hP) (Nat.le_of_ble_eq_true rfl) (m_makeFid hP (by omega) (by omega)) ?_
              rintro _ σ ⟨rfl, hP⟩
              refine cV ?_
              refine x_lr (z := some 2281) T_258_142 rfl ?_
              refine x_ic T_258_143 ?_
              refine x_cv2 T_258_145 mN_236 mL_236 (Nat.le_of_ble_eq_true rfl) mO_236 (PM.t hP) (Nat.le_of_ble_eq_true rfl) (m_reply hP) ?_
              rintro _ σ ⟨rfl, hP⟩
              refine cV ?_
              refine x_lr (z := some 2281) T_258_148 rfl ?_
              refine x_li (z := s) T_258_149 rfl ?_
              refine x_ic T_258_150 ?_
              refine x_cv3 T_258_151 mN_264 mL_264 (Nat.le_of_ble_eq_true rfl) mO_264 (PM.t hP) (Nat.le_of_ble_eq_true rfl) (m_putQid hP (by omega) rpl_z (by decide)) ?_
              rintro _ σ ⟨rfl, hP⟩
              refine cV ?_
              refine x_rv T_258_154 ?_
              exact SV_yes hP hR h0 (byt_qidL _ _ _) (by rw [qidL_len]; decide) (if_pos (by (repeat' split) <;> omega)) (by (repeat' split) <;> omega)
            · replace h109 : ¬ (0 ≤ f) := h109
              refine x_ic T_258_112 ?_
              refine x_goto T_258_114 ?_
              refine x_si (ls1 := [some (vR (some 2281)), some (vI s), some (vI c), some (vL v), none, some (vL w), none, some (vI us), some (vI f), some (vI 12)]) T_258_118 rfl ?_
              refine x_li (z := 12) T_258_120 rfl ?_
              refine x_if T_258_122 (fun h => absurd (show (12 : Int) ≤ 0 from h) (by decide)) (fun _ => ?_)
              refine x_lr (z := some 2281) T_258_125 rfl ?_
              refine x_li (z := 12) T_258_126 rfl ?_
              refine x_cv2 T_258_128 mN_235 mL_235 (Nat.le_of_ble_eq_true rfl) mO_235 (PM.t hP) (Nat.le_of_ble_eq_true rfl) (m_refuse hP (by omega)) ?_
              rintro _ σ ⟨rfl, hP⟩
              refine cV ?_
              refine x_rv T_258_131 ?_
              exact SV_not hP hR (by decide) (if_neg (by (repeat' split) <;> omega)) (by (repeat' split) <;> omega)
          · replace h100 : ¬ (x ≤ 0) := h100
            refine x_ic T_258_103 ?_
            refine x_goto T_258_104 ?_
            refine x_si (ls1 := [some (vR (some 2281)), some (vI s), some (vI c), some (vL v), none, some (vL w), none, some (vI us), some (vI f), some (vI 1)]) T_258_118 rfl ?_
            refine x_li (z := 1) T_258_120 rfl ?_
            refine x_if T_258_122 (fun h => absurd (show (1 : Int) ≤ 0 from h) (by decide)) (fun _ => ?_)
            refine x_lr (z := some 2281) T_258_125 rfl ?_
            refine x_li (z := 1) T_258_126 rfl ?_
            refine x_cv2 T_258_128 mN_235 mL_235 (Nat.le_of_ble_eq_true rfl) mO_235 (PM.t hP) (Nat.le_of_ble_eq_true rfl) (m_refuse hP (by omega)) ?_
            rintro _ σ ⟨rfl, hP⟩
            refine cV ?_
            refine x_rv T_258_131 ?_
            exact SV_not hP hR (by decide) (if_neg (by (repeat' split) <;> omega)) (by (repeat' split) <;> omega)
        · replace h86 : ¬ (0 ≤ us) := h86
          refine x_ic T_258_89 ?_
          refine x_goto T_258_91 ?_
          refine x_si (ls1 := [some (vR (some 2281)), some (vI s), some (vI c), some (vL v), none, some (vL w), none, some (vI us), some (vI f), some (vI 15)]) T_258_118 rfl ?_
          refine x_li (z := 15) T_258_120 rfl ?_
          refine x_if T_258_122 (fun h => absurd (show (15 : Int) ≤ 0 from h) (by decide)) (fun _ => ?_)
          refine x_lr (z := some 2281) T_258_125 rfl ?_
          refine x_li (z := 15) T_258_126 rfl ?_
          refine x_cv2 T_258_128 mN_235 mL_235 (Nat.le_of_ble_eq_true rfl) mO_235 (PM.t hP) (Nat.le_of_ble_eq_true rfl) (m_refuse hP (by omega)) ?_
          rintro _ σ ⟨rfl, hP⟩
          refine cV ?_
          refine x_rv T_258_131 ?_
          exact SV_not hP hR (by decide) (if_neg (by (repeat' split) <;> omega)) (by (repeat' split) <;> omega)
      · replace h76 : ¬ (w = 4294967295) := h76
        refine x_ic T_258_79 ?_
        refine x_goto T_258_81 ?_
        refine x_si (ls1 := [some (vR (some 2281)), some (vI s), some (vI c), some (vL v), none, some (vL w), none, some (vI us), some (vI f), some (vI 14)]) T_258_118 rfl ?_
        refine x_li (z := 14) T_258_120 rfl ?_
        refine x_if T_258_122 (fun h => absurd (show (14 : Int) ≤ 0 from h) (by decide)) (fun _ => ?_)
        refine x_lr (z := some 2281) T_258_125 rfl ?_
        refine x_li (z := 14) T_258_126 rfl ?_
        refine x_cv2 T_258_128 mN_235 mL_235 (Nat.le_of_ble_eq_true rfl) mO_235 (PM.t hP) (Nat.le_of_ble_eq_true rfl) (m_refuse hP (by omega)) ?_
        rintro _ σ ⟨rfl, hP⟩
        refine cV ?_
        refine x_rv T_258_131 ?_
        exact SV_not hP hR (by decide) (if_neg (by (repeat' split) <;> omega)) (by (repeat' split) <;> omega)
    · replace h62 : ¬ (k < 0) := h62
      refine x_ic T_258_65 ?_
      refine x_goto T_258_67 ?_
      refine x_si (ls1 := [some (vR (some 2281)), some (vI s), some (vI c), some (vL v), none, some (vL w), none, some (vI us), some (vI f), some (vI 7)]) T_258_118 rfl ?_
      refine x_li (z := 7) T_258_120 rfl ?_
      refine x_if T_258_122 (fun h => absurd (show (7 : Int) ≤ 0 from h) (by decide)) (fun _ => ?_)
      refine x_lr (z := some 2281) T_258_125 rfl ?_
      refine x_li (z := 7) T_258_126 rfl ?_
      refine x_cv2 T_258_128 mN_235 mL_235 (Nat.le_of_ble_eq_true rfl) mO_235 (PM.t hP) (Nat.le_of_ble_eq_true rfl) (m_refuse hP (by omega)) ?_
      rintro _ σ ⟨rfl, hP⟩
      refine cV ?_
      refine x_rv T_258_131 ?_
      exact SV_not hP hR (by decide) (if_neg (by (repeat' split) <;> omega)) (by (repeat' split) <;> omega)
  · rw [show atE P s c (S 2285) (S 2281 4) = 14 by unfold atE; exact if_pos hw, if_neg (show ¬ (14 : Int) = 0 by decide)]
    have hh : ¬ (sE (S 2285) (S 2281 4) (sE (S 2285) (S 2281 4) (av (S 2281 4) (av (S 2281 4) 7 4) 4)) = S 2281 4 ∧ 0 ≤ sE (S 2285) (S 2281 4) (sE (S 2285) (S 2281 4) (av (S 2281 4) (av (S 2281 4) 7 4) 4))) := by
      rw [e1]
      exact fun q => hw q.1
    refine CL_in mL_258 rfl ?_
    show WP fb _ 258 0 [some (vR (some 2281)), some (vI s), some (vI c), none, none, none, none, none, none, none] [] σ _
    refine x_lr (z := some 2281) T_258_0 rfl ?_
    refine x_ic T_258_1 ?_
    refine x_cv2 T_258_2 mN_234 mL_234 (Nat.le_of_ble_eq_true rfl) mO_234 (PM.t hP) (Nat.le_of_ble_eq_true rfl) (r_num 4 rfl hP hR (by decide) rfl) ?_
    rintro _ σ ⟨rfl, S1, hP, hR⟩
    refine cL ?_
    refine x_sl (ls1 := [some (vR (some 2281)), some (vI s), some (vI c), some (vL (nv (S 2285) (S 2281 4) 7 4)), none, none, none, none, none, none]) T_258_5 rfl ?_
    refine x_lr (z := some 2281) T_258_6 rfl ?_
    refine x_ic T_258_7 ?_
    refine x_cv2 T_258_8 mN_234 mL_234 (Nat.le_of_ble_eq_true rfl) mO_234 (PM.t hP) (Nat.le_of_ble_eq_true rfl) (r_num 4 rfl hP hR (by decide) rfl) ?_
    rintro _ σ ⟨rfl, S1, hP, hR⟩
    refine cL ?_
    refine x_sl (ls1 := [some (vR (some 2281)), some (vI s), some (vI c), some (vL (nv (S 2285) (S 2281 4) 7 4)), none, some (vL (nv (S 2285) (S 2281 4) (av (S 2281 4) 7 4) 4)), none, none, none, none]) T_258_11 rfl ?_
    refine x_lr (z := some 2281) T_258_13 rfl ?_
    refine x_cv1 T_258_14 mN_240 mL_240 (Nat.le_of_ble_eq_true rfl) mO_240 (PM.t hP) (Nat.le_of_ble_eq_true rfl) (r_string hP hR (by decide)) ?_
    rintro _ σ ⟨rfl, S1, hP, hR⟩
    refine cV ?_
    refine x_lr (z := some 2281) T_258_17 rfl ?_
    refine x_cv1 T_258_18 mN_240 mL_240 (Nat.le_of_ble_eq_true rfl) mO_240 (PM.t hP) (Nat.le_of_ble_eq_true rfl) (r_string hP hR (by split <;> exact Nat.le_of_ble_eq_true rfl)) ?_
    rintro _ σ ⟨rfl, S1, hP, hR⟩
    refine cV ?_
    refine x_lr (z := some 2281) T_258_21 rfl ?_
    have hw := r_isWhole (fb := fb) (d := d + 1) hP hR
    rw [if_neg hh, if_neg hh] at hw
    refine x_cv1 T_258_22 mN_241 mL_241 (Nat.le_of_ble_eq_true rfl) mO_241 (PM.t hP) (Nat.le_of_ble_eq_true rfl) (hw) ?_
    rintro _ σ ⟨rfl, hP⟩
    refine cI ?_
    refine x_if T_258_25 (fun h => absurd (show ¬ (0 : Int) = 0 from h) (by decide)) (fun _ => ?_)
    refine x_rv T_258_28 ?_
    exact SV_no hP hR (by decide)
end MSERVE3
