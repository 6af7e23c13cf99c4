/-! echo: the command. -/
theorem T_354_0 : hTab 354 0 = some ((3, 0, 2, []), 1) := rfl
theorem T_354_1 : hTab 354 1 = some ((24, 17, Int.ofNat 77, []), 4) := rfl
theorem T_354_4 : hTab 354 4 = some ((0, 0, 2, []), 5) := rfl
theorem T_354_5 : hTab 354 5 = some ((19, 5, Int.ofNat 58, []), 8) := rfl
theorem T_354_8 : hTab 354 8 = some ((3, 0, 2, []), 9) := rfl
theorem T_354_9 : hTab 354 9 = some ((3, 0, 2, []), 10) := rfl
theorem T_354_10 : hTab 354 10 = some ((24, 17, Int.ofNat 77, []), 13) := rfl
theorem T_354_13 : hTab 354 13 = some ((0, 0, 2, []), 14) := rfl
theorem T_354_14 : hTab 354 14 = some ((10, 1, 0, []), 15) := rfl
theorem T_354_15 : hTab 354 15 = some ((31, 318, 0, []), 18) := rfl
theorem T_354_18 : hTab 354 18 = some ((0, 0, 2, []), 19) := rfl
theorem T_354_19 : hTab 354 19 = some ((19, 1, Int.ofNat 58, []), 22) := rfl
theorem T_354_22 : hTab 354 22 = some ((3, 0, 2, []), 23) := rfl
theorem T_354_23 : hTab 354 23 = some ((3, 0, 2, []), 24) := rfl
theorem T_354_24 : hTab 354 24 = some ((24, 17, Int.ofNat 77, []), 27) := rfl
theorem T_354_27 : hTab 354 27 = some ((0, 0, 2, []), 28) := rfl
theorem T_354_28 : hTab 354 28 = some ((10, 1, 0, []), 29) := rfl
theorem T_354_29 : hTab 354 29 = some ((0, 0, 0, []), 30) := rfl
theorem T_354_30 : hTab 354 30 = some ((31, 319, 0, []), 33) := rfl
theorem T_354_33 : hTab 354 33 = some ((0, 0, 62, []), 35) := rfl
theorem T_354_35 : hTab 354 35 = some ((19, 1, Int.ofNat 58, []), 38) := rfl
theorem T_354_38 : hTab 354 38 = some ((3, 0, 2, []), 39) := rfl
theorem T_354_39 : hTab 354 39 = some ((3, 0, 2, []), 40) := rfl
theorem T_354_40 : hTab 354 40 = some ((24, 17, Int.ofNat 77, []), 43) := rfl
theorem T_354_43 : hTab 354 43 = some ((0, 0, 2, []), 44) := rfl
theorem T_354_44 : hTab 354 44 = some ((10, 1, 0, []), 45) := rfl
theorem T_354_45 : hTab 354 45 = some ((0, 0, 1, []), 46) := rfl
theorem T_354_46 : hTab 354 46 = some ((31, 319, 0, []), 49) := rfl
theorem T_354_49 : hTab 354 49 = some ((0, 0, 62, []), 51) := rfl
theorem T_354_51 : hTab 354 51 = some ((19, 1, Int.ofNat 58, []), 54) := rfl
theorem T_354_54 : hTab 354 54 = some ((0, 0, 1, []), 55) := rfl
theorem T_354_55 : hTab 354 55 = some ((22, 0, Int.ofNat 59, []), 58) := rfl
theorem T_354_58 : hTab 354 58 = some ((0, 0, 0, []), 59) := rfl
theorem T_354_59 : hTab 354 59 = some ((4, 2, 0, []), 60) := rfl
theorem T_354_60 : hTab 354 60 = some ((3, 0, 2, []), 61) := rfl
theorem T_354_61 : hTab 354 61 = some ((24, 17, Int.ofNat 77, []), 64) := rfl
theorem T_354_64 : hTab 354 64 = some ((0, 0, 2, []), 65) := rfl
theorem T_354_65 : hTab 354 65 = some ((19, 5, Int.ofNat 102, []), 68) := rfl
theorem T_354_68 : hTab 354 68 = some ((3, 0, 2, []), 69) := rfl
theorem T_354_69 : hTab 354 69 = some ((3, 0, 2, []), 70) := rfl
theorem T_354_70 : hTab 354 70 = some ((24, 17, Int.ofNat 77, []), 73) := rfl
theorem T_354_73 : hTab 354 73 = some ((0, 0, 2, []), 74) := rfl
theorem T_354_74 : hTab 354 74 = some ((10, 1, 0, []), 75) := rfl
theorem T_354_75 : hTab 354 75 = some ((31, 318, 0, []), 78) := rfl
theorem T_354_78 : hTab 354 78 = some ((0, 0, 1, []), 79) := rfl
theorem T_354_79 : hTab 354 79 = some ((19, 1, Int.ofNat 102, []), 82) := rfl
theorem T_354_82 : hTab 354 82 = some ((3, 0, 2, []), 83) := rfl
theorem T_354_83 : hTab 354 83 = some ((3, 0, 2, []), 84) := rfl
theorem T_354_84 : hTab 354 84 = some ((24, 17, Int.ofNat 77, []), 87) := rfl
theorem T_354_87 : hTab 354 87 = some ((0, 0, 2, []), 88) := rfl
theorem T_354_88 : hTab 354 88 = some ((10, 1, 0, []), 89) := rfl
theorem T_354_89 : hTab 354 89 = some ((0, 0, 0, []), 90) := rfl
theorem T_354_90 : hTab 354 90 = some ((31, 319, 0, []), 93) := rfl
theorem T_354_93 : hTab 354 93 = some ((0, 0, 62, []), 95) := rfl
theorem T_354_95 : hTab 354 95 = some ((19, 1, Int.ofNat 102, []), 98) := rfl
theorem T_354_98 : hTab 354 98 = some ((0, 0, 1, []), 99) := rfl
theorem T_354_99 : hTab 354 99 = some ((22, 0, Int.ofNat 103, []), 102) := rfl
theorem T_354_102 : hTab 354 102 = some ((0, 0, 0, []), 103) := rfl
theorem T_354_103 : hTab 354 103 = some ((4, 3, 0, []), 104) := rfl
theorem T_354_104 : hTab 354 104 = some ((3, 2, 0, []), 105) := rfl
theorem T_354_105 : hTab 354 105 = some ((18, 1, Int.ofNat 112, []), 108) := rfl
theorem T_354_108 : hTab 354 108 = some ((3, 3, 0, []), 109) := rfl
theorem T_354_109 : hTab 354 109 = some ((18, 0, Int.ofNat 121, []), 112) := rfl
theorem T_354_121 : hTab 354 121 = some ((3, 0, 2, []), 122) := rfl
theorem T_354_122 : hTab 354 122 = some ((24, 17, Int.ofNat 77, []), 125) := rfl
theorem T_354_125 : hTab 354 125 = some ((4, 4, 0, []), 127) := rfl
theorem T_354_127 : hTab 354 127 = some ((3, 2, 0, []), 128) := rfl
theorem T_354_128 : hTab 354 128 = some ((18, 1, Int.ofNat 209, []), 131) := rfl
theorem T_354_131 : hTab 354 131 = some ((3, 3, 0, []), 132) := rfl
theorem T_354_132 : hTab 354 132 = some ((18, 1, Int.ofNat 209, []), 135) := rfl
theorem T_354_135 : hTab 354 135 = some ((0, 0, 1, []), 136) := rfl
theorem T_354_136 : hTab 354 136 = some ((4, 5, 0, []), 138) := rfl
theorem T_354_200 : hTab 354 200 = some ((3, 0, 2, []), 201) := rfl
theorem T_354_201 : hTab 354 201 = some ((3, 1, 0, []), 202) := rfl
theorem T_354_202 : hTab 354 202 = some ((0, 0, 10, []), 204) := rfl
theorem T_354_204 : hTab 354 204 = some ((31, 351, 0, []), 207) := rfl
theorem T_354_207 : hTab 354 207 = some ((0, 0, 0, []), 208) := rfl
theorem T_354_208 : hTab 354 208 = some ((33, 1, 0, []), 209) := rfl
def ecM (l : List Int) : Int := if ((lnW l).length : Int) ≤ 2 then 0 else if ((lnB l (((lnW l).length : Int) - 2)).length : Int) = 2 ∧ lg (lnB l (((lnW l).length : Int) - 2)) 0 = 62 ∧ lg (lnB l (((lnW l).length : Int) - 2)) 1 = 62 then 2 else if ((lnB l (((lnW l).length : Int) - 2)).length : Int) = 1 ∧ lg (lnB l (((lnW l).length : Int) - 2)) 0 = 62 then 1 else 0
def ecW (P : qR) (c : Ch) (off : Int) (l : List Int) (z : Int) : Int × qR × List Ch := (tE P c.1 (mWr c.2.1 off (ecX l z)), tP P c.1 (mWr c.2.1 off (ecX l z)), [c])
def ecS (P : qR) (c : Ch) (l : List Int) (z : Int) : Int × qR × List Ch := if 0 < tE P c.1 (mOne 124 c.2.1) then (tE P c.1 (mOne 124 c.2.1), tP P c.1 (mOne 124 c.2.1), [c]) else ecW (tP P c.1 (mOne 124 c.2.1)) c (nu (lg (tA P c.1 (mOne 124 c.2.1))) 42 8) l z
def ecO (P : qR) (c : Ch) (two : Int) (l : List Int) (z : Int) : Int × qR × List Ch := if 0 < tE P c.1 (mOpen c.2.1 (if two = 0 then 17 else 1)) then (tE P c.1 (mOpen c.2.1 (if two = 0 then 17 else 1)), tP P c.1 (mOpen c.2.1 (if two = 0 then 17 else 1)), [c]) else if two = 0 then ecW (tP P c.1 (mOpen c.2.1 (if two = 0 then 17 else 1))) c 0 l z else ecS (tP P c.1 (mOpen c.2.1 (if two = 0 then 17 else 1))) c l z
def ecC (r : Int × qR × List Ch) (l : List Int) (z : Int) : Int × qR × List Ch := if 0 < r.1 then r else ecW r.2.1 (r.2.2.headD c0) 0 l z
def cEcho1 (P : qR) (p two : Int) (l : List Int) (z : Int) (wd : List Int) : Int × qR × List Ch := if (kWW P p 1 wd).1 = 1 then ecC (kCreate (kWW P p 1 wd).2.1 p wd 438 1) l z else if 0 < (kWW P p 1 wd).1 then ((kWW P p 1 wd).1, (kWW P p 1 wd).2.1, []) else ecO (kWW P p 1 wd).2.1 (kWW P p 1 wd).2.2 two l z
def cEcho (P : qR) (p : Int) (l : List Int) : Int × qR × List Ch := if ecM l = 0 then (0, gOut P p (ecT l ((lnW l).length : Int) 1 (((lnW l).length : Int) - 1).toNat ++ [10]), []) else cEcho1 P p (if ecM l = 2 then 1 else 0) l (((lnW l).length : Int) - 2) (lnB l (((lnW l).length : Int) - 1))
section MECHO3
variable {fb : Bool} {d : Nat} {σ0 σ : hM} {P Q R S S1 S2 : qR} {T U s w g u p k e t z o thr pt off n N : Int} {l l1 l2 nm wd A : List Int} {h : List Ch} {a f : Int → Int} {x : Int × Int} {c : Ch} {fr fd md n0 : Int}
theorem m_echo_hd (hP : PM σ0 P S σ) (hL : LN S l) {Q : Option AV → hM → Prop} (hQ : WP fb (d + 1) 354 104 [some (vR (some 2281)), some (vI p), some (vI (if ecM l = 2 then 1 else 0)), some (vI (if ecM l = 1 then 1 else 0)), none, none, none, none, none, none] [] σ Q) : WP fb (d + 1) 354 0 [some (vR (some 2281)), some (vI p), none, none, none, none, none, none, none, none] [] σ Q := by
  have h77 := hL.2.2.2.2.1
  have h50 := (lnW_ok hL.2.1).2
  have hb := lnB_len hL.2.1 (w := ((lnW l).length : Int) - 2)
  have hsz := fun h => m_size (fb := fb) (d := d) (w := ((lnW l).length : Int) - 2) hP hL h
  have hs0 := fun h k => m_sign (fb := fb) (d := d) (k := k) (w := ((lnW l).length : Int) - 2) hP hL h
  unfold ecM at hQ
  obtain ⟨N, hN⟩ : ∃ N : Int, ((lnW l).length : Int) = N := ⟨_, rfl⟩
  rw [hN] at h77 hQ hb hsz hs0
  obtain ⟨wd, hwd⟩ : ∃ wd, lnB l (N - 2) = wd := ⟨_, rfl⟩
  rw [hwd] at hQ hb hsz hs0
  obtain ⟨n, hn⟩ : ∃ n : Int, (wd.length : Int) = n := ⟨_, rfl⟩
  rw [hn] at hQ hsz hs0
  by_cases q0 : N ≤ 2
  · rw [if_pos q0] at hQ
    refine x_lr (z := some 2281) T_354_0 rfl ?_
    refine x_gI (z := N) T_354_1 (Or.inl F_17_77) (PM.t hP) (Eq.trans (PM.nS hP 2281 77 77 rfl rfl rfl) h77) ?_
    refine x_ic T_354_4 ?_
    refine x_ic2 T_354_5 (fun _ => ?_) (fun h => absurd (show N ≤ 2 by omega) h)
    refine x_ic T_354_58 ?_
    refine x_si (ls1 := [some (vR (some 2281)), some (vI p), some (vI 0), none, none, none, none, none, none, none]) T_354_59 rfl ?_
    refine x_lr (z := some 2281) T_354_60 rfl ?_
    refine x_gI (z := N) T_354_61 (Or.inl F_17_77) (PM.t hP) (Eq.trans (PM.nS hP 2281 77 77 rfl rfl rfl) h77) ?_
    refine x_ic T_354_64 ?_
    refine x_ic2 T_354_65 (fun _ => ?_) (fun h => absurd (show N ≤ 2 by omega) h)
    refine x_ic T_354_102 ?_
    refine x_si (ls1 := [some (vR (some 2281)), some (vI p), some (vI 0), some (vI 0), none, none, none, none, none, none]) T_354_103 rfl ?_
    exact hQ
  rw [if_neg q0] at hQ
  have hsz := hsz (by omega)
  have hs0 := hs0 (by omega)
  have hb := hb (by omega)
  obtain ⟨x0, hx0⟩ : ∃ x0, lg wd 0 = x0 := ⟨_, rfl⟩
  obtain ⟨x1, hx1⟩ : ∃ x1, lg wd 1 = x1 := ⟨_, rfl⟩
  have g0 := CL_val (hs0 0 ⟨by decide, by omega⟩) hx0
  rw [hx0, hx1] at hQ
  by_cases q1 : n = 2
  · have g1 := CL_val (hs0 1 ⟨by decide, by omega⟩) hx1
    by_cases q2 : x0 = 62
    · by_cases q3 : x1 = 62
      · rw [show (if n = 2 ∧ x0 = 62 ∧ x1 = 62 then (2 : Int) else if n = 1 ∧ x0 = 62 then 1 else 0) = 2 from if_pos ⟨q1, q2, q3⟩] at hQ
        refine x_lr (z := some 2281) T_354_0 rfl ?_
        refine x_gI (z := N) T_354_1 (Or.inl F_17_77) (PM.t hP) (Eq.trans (PM.nS hP 2281 77 77 rfl rfl rfl) h77) ?_
        refine x_ic T_354_4 ?_
        refine x_ic2 T_354_5 (fun h => absurd (show N ≤ 2 from h) (by omega)) (fun _ => ?_)
        refine x_lr (z := some 2281) T_354_8 rfl ?_
        refine x_lr (z := some 2281) T_354_9 rfl ?_
        refine x_gI (z := N) T_354_10 (Or.inl F_17_77) (PM.t hP) (Eq.trans (PM.nS hP 2281 77 77 rfl rfl rfl) h77) ?_
        refine x_ic T_354_13 ?_
        refine x_ib (w := (N - 2)) T_354_14 (fun h => absurd h.1 (by decide)) (w32_id (by omega) (by omega)) ?_
        refine x_cv2 T_354_15 mN_318 mL_318 (Nat.le_of_ble_eq_true rfl) mO_318 (PM.t hP) (Nat.le_of_ble_eq_true rfl) (hsz) ?_
        rintro _ σ ⟨rfl, rfl⟩
        refine cI ?_
        refine x_ic T_354_18 ?_
        refine x_ic2 T_354_19 (fun h => absurd (show ¬ n = 2 from h) (by omega)) (fun _ => ?_)
        refine x_lr (z := some 2281) T_354_22 rfl ?_
        refine x_lr (z := some 2281) T_354_23 rfl ?_
        refine x_gI (z := N) T_354_24 (Or.inl F_17_77) (PM.t hP) (Eq.trans (PM.nS hP 2281 77 77 rfl rfl rfl) h77) ?_
        refine x_ic T_354_27 ?_
        refine x_ib (w := (N - 2)) T_354_28 (fun h => absurd h.1 (by decide)) (w32_id (by omega) (by omega)) ?_
        refine x_ic T_354_29 ?_
        refine x_cv3 T_354_30 mN_319 mL_319 (Nat.le_of_ble_eq_true rfl) mO_319 (PM.t hP) (Nat.le_of_ble_eq_true rfl) (g0) ?_
        rintro _ σ ⟨rfl, rfl⟩
        refine cI ?_
        refine x_ic T_354_33 ?_
        refine x_ic2 T_354_35 (fun h => absurd (show ¬ x0 = 62 from h) (by omega)) (fun _ => ?_)
        refine x_lr (z := some 2281) T_354_38 rfl ?_
        refine x_lr (z := some 2281) T_354_39 rfl ?_
        refine x_gI (z := N) T_354_40 (Or.inl F_17_77) (PM.t hP) (Eq.trans (PM.nS hP 2281 77 77 rfl rfl rfl) h77) ?_
        refine x_ic T_354_43 ?_
        refine x_ib (w := (N - 2)) T_354_44 (fun h => absurd h.1 (by decide)) (w32_id (by omega) (by omega)) ?_
        refine x_ic T_354_45 ?_
        refine x_cv3 T_354_46 mN_319 mL_319 (Nat.le_of_ble_eq_true rfl) mO_319 (PM.t hP) (Nat.le_of_ble_eq_true rfl) (g1) ?_
        rintro _ σ ⟨rfl, rfl⟩
        refine cI ?_
        refine x_ic T_354_49 ?_
        refine x_ic2 T_354_51 (fun h => absurd (show ¬ x1 = 62 from h) (by omega)) (fun _ => ?_)
        refine x_ic T_354_54 ?_
        refine x_goto T_354_55 ?_
        refine x_si (ls1 := [some (vR (some 2281)), some (vI p), some (vI 1), none, none, none, none, none, none, none]) T_354_59 rfl ?_
        refine x_lr (z := some 2281) T_354_60 rfl ?_
        refine x_gI (z := N) T_354_61 (Or.inl F_17_77) (PM.t hP) (Eq.trans (PM.nS hP 2281 77 77 rfl rfl rfl) h77) ?_
        refine x_ic T_354_64 ?_
        refine x_ic2 T_354_65 (fun h => absurd (show N ≤ 2 from h) (by omega)) (fun _ => ?_)
        refine x_lr (z := some 2281) T_354_68 rfl ?_
        refine x_lr (z := some 2281) T_354_69 rfl ?_
        refine x_gI (z := N) T_354_70 (Or.inl F_17_77) (PM.t hP) (Eq.trans (PM.nS hP 2281 77 77 rfl rfl rfl) h77) ?_
        refine x_ic T_354_73 ?_
        refine x_ib (w := (N - 2)) T_354_74 (fun h => absurd h.1 (by decide)) (w32_id (by omega) (by omega)) ?_
        refine x_cv2 T_354_75 mN_318 mL_318 (Nat.le_of_ble_eq_true rfl) mO_318 (PM.t hP) (Nat.le_of_ble_eq_true rfl) (hsz) ?_
        rintro _ σ ⟨rfl, rfl⟩
        refine cI ?_
        refine x_ic T_354_78 ?_
        refine x_ic2 T_354_79 (fun _ => ?_) (fun h => absurd (show ¬ n = 1 by omega) h)
        refine x_ic T_354_102 ?_
        refine x_si (ls1 := [some (vR (some 2281)), some (vI p), some (vI 1), some (vI 0), none, none, none, none, none, none]) T_354_103 rfl ?_
        exact hQ
      · rw [show (if n = 2 ∧ x0 = 62 ∧ x1 = 62 then (2 : Int) else if n = 1 ∧ x0 = 62 then 1 else 0) = 0 from (if_neg (fun q => q3 q.2.2)).trans (if_neg (fun q => by omega))] at hQ
        refine x_lr (z := some 2281) T_354_0 rfl ?_
        refine x_gI (z := N) T_354_1 (Or.inl F_17_77) (PM.t hP) (Eq.trans (PM.nS hP 2281 77 77 rfl rfl rfl) h77) ?_
        refine x_ic T_354_4 ?_
        refine x_ic2 T_354_5 (fun h => absurd (show N ≤ 2 from h) (by omega)) (fun _ => ?_)
        refine x_lr (z := some 2281) T_354_8 rfl ?_
        refine x_lr (z := some 2281) T_354_9 rfl ?_
        refine x_gI (z := N) T_354_10 (Or.inl F_17_77) (PM.t hP) (Eq.trans (PM.nS hP 2281 77 77 rfl rfl rfl) h77) ?_
        refine x_ic T_354_13 ?_
        refine x_ib (w := (N - 2)) T_354_14 (fun h => absurd h.1 (by decide)) (w32_id (by omega) (by omega)) ?_
        refine x_cv2 T_354_15 mN_318 mL_318 (Nat.le_of_ble_eq_true rfl) mO_318 (PM.t hP) (Nat.le_of_ble_eq_true rfl) (hsz) ?_
        rintro _ σ ⟨rfl, rfl⟩
        refine cI ?_
        refine x_ic T_354_18 ?_
        refine x_ic2 T_354_19 (fun h => absurd (show ¬ n = 2 from h) (by omega)) (fun _ => ?_)
        refine x_lr (z := some 2281) T_354_22 rfl ?_
        refine x_lr (z := some 2281) T_354_23 rfl ?_
        refine x_gI (z := N) T_354_24 (Or.inl F_17_77) (PM.t hP) (Eq.trans (PM.nS hP 2281 77 77 rfl rfl rfl) h77) ?_
        refine x_ic T_354_27 ?_
        refine x_ib (w := (N - 2)) T_354_28 (fun h => absurd h.1 (by decide)) (w32_id (by omega) (by omega)) ?_
        refine x_ic T_354_29 ?_
        refine x_cv3 T_354_30 mN_319 mL_319 (Nat.le_of_ble_eq_true rfl) mO_319 (PM.t hP) (Nat.le_of_ble_eq_true rfl) (g0) ?_
        rintro _ σ ⟨rfl, rfl⟩
        refine cI ?_
        refine x_ic T_354_33 ?_
        refine x_ic2 T_354_35 (fun h => absurd (show ¬ x0 = 62 from h) (by omega)) (fun _ => ?_)
        refine x_lr (z := some 2281) T_354_38 rfl ?_
        refine x_lr (z := some 2281) T_354_39 rfl ?_
        refine x_gI (z := N) T_354_40 (Or.inl F_17_77) (PM.t hP) (Eq.trans (PM.nS hP 2281 77 77 rfl rfl rfl) h77) ?_
        refine x_ic T_354_43 ?_
        refine x_ib (w := (N - 2)) T_354_44 (fun h => absurd h.1 (by decide)) (w32_id (by omega) (by omega)) ?_
        refine x_ic T_354_45 ?_
        refine x_cv3 T_354_46 mN_319 mL_319 (Nat.le_of_ble_eq_true rfl) mO_319 (PM.t hP) (Nat.le_of_ble_eq_true rfl) (g1) ?_
        rintro _ σ ⟨rfl, rfl⟩
        refine cI ?_
        refine x_ic T_354_49 ?_
        refine x_ic2 T_354_51 (fun _ => ?_) (fun h => absurd (show ¬ x1 = 62 by omega) h)
        refine x_ic T_354_58 ?_
        refine x_si (ls1 := [some (vR (some 2281)), some (vI p), some (vI 0), none, none, none, none, none, none, none]) T_354_59 rfl ?_
        refine x_lr (z := some 2281) T_354_60 rfl ?_
        refine x_gI (z := N) T_354_61 (Or.inl F_17_77) (PM.t hP) (Eq.trans (PM.nS hP 2281 77 77 rfl rfl rfl) h77) ?_
        refine x_ic T_354_64 ?_
        refine x_ic2 T_354_65 (fun h => absurd (show N ≤ 2 from h) (by omega)) (fun _ => ?_)
        refine x_lr (z := some 2281) T_354_68 rfl ?_
        refine x_lr (z := some 2281) T_354_69 rfl ?_
        refine x_gI (z := N) T_354_70 (Or.inl F_17_77) (PM.t hP) (Eq.trans (PM.nS hP 2281 77 77 rfl rfl rfl) h77) ?_
        refine x_ic T_354_73 ?_
        refine x_ib (w := (N - 2)) T_354_74 (fun h => absurd h.1 (by decide)) (w32_id (by omega) (by omega)) ?_
        refine x_cv2 T_354_75 mN_318 mL_318 (Nat.le_of_ble_eq_true rfl) mO_318 (PM.t hP) (Nat.le_of_ble_eq_true rfl) (hsz) ?_
        rintro _ σ ⟨rfl, rfl⟩
        refine cI ?_
        refine x_ic T_354_78 ?_
        refine x_ic2 T_354_79 (fun _ => ?_) (fun h => absurd (show ¬ n = 1 by omega) h)
        refine x_ic T_354_102 ?_
        refine x_si (ls1 := [some (vR (some 2281)), some (vI p), some (vI 0), some (vI 0), none, none, none, none, none, none]) T_354_103 rfl ?_
        exact hQ
    · rw [show (if n = 2 ∧ x0 = 62 ∧ x1 = 62 then (2 : Int) else if n = 1 ∧ x0 = 62 then 1 else 0) = 0 from (if_neg (fun q => q2 q.2.1)).trans (if_neg (fun q => by omega))] at hQ
      refine x_lr (z := some 2281) T_354_0 rfl ?_
      refine x_gI (z := N) T_354_1 (Or.inl F_17_77) (PM.t hP) (Eq.trans (PM.nS hP 2281 77 77 rfl rfl rfl) h77) ?_
      refine x_ic T_354_4 ?_
      refine x_ic2 T_354_5 (fun h => absurd (show N ≤ 2 from h) (by omega)) (fun _ => ?_)
      refine x_lr (z := some 2281) T_354_8 rfl ?_
      refine x_lr (z := some 2281) T_354_9 rfl ?_
      refine x_gI (z := N) T_354_10 (Or.inl F_17_77) (PM.t hP) (Eq.trans (PM.nS hP 2281 77 77 rfl rfl rfl) h77) ?_
      refine x_ic T_354_13 ?_
      refine x_ib (w := (N - 2)) T_354_14 (fun h => absurd h.1 (by decide)) (w32_id (by omega) (by omega)) ?_
      refine x_cv2 T_354_15 mN_318 mL_318 (Nat.le_of_ble_eq_true rfl) mO_318 (PM.t hP) (Nat.le_of_ble_eq_true rfl) (hsz) ?_
      rintro _ σ ⟨rfl, rfl⟩
      refine cI ?_
      refine x_ic T_354_18 ?_
      refine x_ic2 T_354_19 (fun h => absurd (show ¬ n = 2 from h) (by omega)) (fun _ => ?_)
      refine x_lr (z := some 2281) T_354_22 rfl ?_
      refine x_lr (z := some 2281) T_354_23 rfl ?_
      refine x_gI (z := N) T_354_24 (Or.inl F_17_77) (PM.t hP) (Eq.trans (PM.nS hP 2281 77 77 rfl rfl rfl) h77) ?_
      refine x_ic T_354_27 ?_
      refine x_ib (w := (N - 2)) T_354_28 (fun h => absurd h.1 (by decide)) (w32_id (by omega) (by omega)) ?_
      refine x_ic T_354_29 ?_
      refine x_cv3 T_354_30 mN_319 mL_319 (Nat.le_of_ble_eq_true rfl) mO_319 (PM.t hP) (Nat.le_of_ble_eq_true rfl) (g0) ?_
      rintro _ σ ⟨rfl, rfl⟩
      refine cI ?_
      refine x_ic T_354_33 ?_
      refine x_ic2 T_354_35 (fun _ => ?_) (fun h => absurd (show ¬ x0 = 62 by omega) h)
      refine x_ic T_354_58 ?_
      refine x_si (ls1 := [some (vR (some 2281)), some (vI p), some (vI 0), none, none, none, none, none, none, none]) T_354_59 rfl ?_
      refine x_lr (z := some 2281) T_354_60 rfl ?_
      refine x_gI (z := N) T_354_61 (Or.inl F_17_77) (PM.t hP) (Eq.trans (PM.nS hP 2281 77 77 rfl rfl rfl) h77) ?_
      refine x_ic T_354_64 ?_
      refine x_ic2 T_354_65 (fun h => absurd (show N ≤ 2 from h) (by omega)) (fun _ => ?_)
      refine x_lr (z := some 2281) T_354_68 rfl ?_
      refine x_lr (z := some 2281) T_354_69 rfl ?_
      refine x_gI (z := N) T_354_70 (Or.inl F_17_77) (PM.t hP) (Eq.trans (PM.nS hP 2281 77 77 rfl rfl rfl) h77) ?_
      refine x_ic T_354_73 ?_
      refine x_ib (w := (N - 2)) T_354_74 (fun h => absurd h.1 (by decide)) (w32_id (by omega) (by omega)) ?_
      refine x_cv2 T_354_75 mN_318 mL_318 (Nat.le_of_ble_eq_true rfl) mO_318 (PM.t hP) (Nat.le_of_ble_eq_true rfl) (hsz) ?_
      rintro _ σ ⟨rfl, rfl⟩
      refine cI ?_
      refine x_ic T_354_78 ?_
      refine x_ic2 T_354_79 (fun _ => ?_) (fun h => absurd (show ¬ n = 1 by omega) h)
      refine x_ic T_354_102 ?_
      refine x_si (ls1 := [some (vR (some 2281)), some (vI p), some (vI 0), some (vI 0), none, none, none, none, none, none]) T_354_103 rfl ?_
      exact hQ
  · by_cases q2 : n = 1
    · by_cases q3 : x0 = 62
      · rw [show (if n = 2 ∧ x0 = 62 ∧ x1 = 62 then (2 : Int) else if n = 1 ∧ x0 = 62 then 1 else 0) = 1 from (if_neg (fun q => q1 q.1)).trans (if_pos ⟨q2, q3⟩)] at hQ
        refine x_lr (z := some 2281) T_354_0 rfl ?_
        refine x_gI (z := N) T_354_1 (Or.inl F_17_77) (PM.t hP) (Eq.trans (PM.nS hP 2281 77 77 rfl rfl rfl) h77) ?_
        refine x_ic T_354_4 ?_
        refine x_ic2 T_354_5 (fun h => absurd (show N ≤ 2 from h) (by omega)) (fun _ => ?_)
        refine x_lr (z := some 2281) T_354_8 rfl ?_
        refine x_lr (z := some 2281) T_354_9 rfl ?_
        refine x_gI (z := N) T_354_10 (Or.inl F_17_77) (PM.t hP) (Eq.trans (PM.nS hP 2281 77 77 rfl rfl rfl) h77) ?_
        refine x_ic T_354_13 ?_
        refine x_ib (w := (N - 2)) T_354_14 (fun h => absurd h.1 (by decide)) (w32_id (by omega) (by omega)) ?_
        refine x_cv2 T_354_15 mN_318 mL_318 (Nat.le_of_ble_eq_true rfl) mO_318 (PM.t hP) (Nat.le_of_ble_eq_true rfl) (hsz) ?_
        rintro _ σ ⟨rfl, rfl⟩
        refine cI ?_
        refine x_ic T_354_18 ?_
        refine x_ic2 T_354_19 (fun _ => ?_) (fun h => absurd (show ¬ n = 2 by omega) h)
        refine x_ic T_354_58 ?_
        refine x_si (ls1 := [some (vR (some 2281)), some (vI p), some (vI 0), none, none, none, none, none, none, none]) T_354_59 rfl ?_
        refine x_lr (z := some 2281) T_354_60 rfl ?_
        refine x_gI (z := N) T_354_61 (Or.inl F_17_77) (PM.t hP) (Eq.trans (PM.nS hP 2281 77 77 rfl rfl rfl) h77) ?_
        refine x_ic T_354_64 ?_
        refine x_ic2 T_354_65 (fun h => absurd (show N ≤ 2 from h) (by omega)) (fun _ => ?_)
        refine x_lr (z := some 2281) T_354_68 rfl ?_
        refine x_lr (z := some 2281) T_354_69 rfl ?_
        refine x_gI (z := N) T_354_70 (Or.inl F_17_77) (PM.t hP) (Eq.trans (PM.nS hP 2281 77 77 rfl rfl rfl) h77) ?_
        refine x_ic T_354_73 ?_
        refine x_ib (w := (N - 2)) T_354_74 (fun h => absurd h.1 (by decide)) (w32_id (by omega) (by omega)) ?_
        refine x_cv2 T_354_75 mN_318 mL_318 (Nat.le_of_ble_eq_true rfl) mO_318 (PM.t hP) (Nat.le_of_ble_eq_true rfl) (hsz) ?_
        rintro _ σ ⟨rfl, rfl⟩
        refine cI ?_
        refine x_ic T_354_78 ?_
        refine x_ic2 T_354_79 (fun h => absurd (show ¬ n = 1 from h) (by omega)) (fun _ => ?_)
        refine x_lr (z := some 2281) T_354_82 rfl ?_
        refine x_lr (z := some 2281) T_354_83 rfl ?_
        refine x_gI (z := N) T_354_84 (Or.inl F_17_77) (PM.t hP) (Eq.trans (PM.nS hP 2281 77 77 rfl rfl rfl) h77) ?_
        refine x_ic T_354_87 ?_
        refine x_ib (w := (N - 2)) T_354_88 (fun h => absurd h.1 (by decide)) (w32_id (by omega) (by omega)) ?_
        refine x_ic T_354_89 ?_
        refine x_cv3 T_354_90 mN_319 mL_319 (Nat.le_of_ble_eq_true rfl) mO_319 (PM.t hP) (Nat.le_of_ble_eq_true rfl) (g0) ?_
        rintro _ σ ⟨rfl, rfl⟩
        refine cI ?_
        refine x_ic T_354_93 ?_
        refine x_ic2 T_354_95 (fun h => absurd (show ¬ x0 = 62 from h) (by omega)) (fun _ => ?_)
        refine x_ic T_354_98 ?_
        refine x_goto T_354_99 ?_
        refine x_si (ls1 := [some (vR (some 2281)), some (vI p), some (vI 0), some (vI 1), none, none, none, none, none, none]) T_354_103 rfl ?_
        exact hQ
      · rw [show (if n = 2 ∧ x0 = 62 ∧ x1 = 62 then (2 : Int) else if n = 1 ∧ x0 = 62 then 1 else 0) = 0 from (if_neg (fun q => q1 q.1)).trans (if_neg (fun q => q3 q.2))] at hQ
        refine x_lr (z := some 2281) T_354_0 rfl ?_
        refine x_gI (z := N) T_354_1 (Or.inl F_17_77) (PM.t hP) (Eq.trans (PM.nS hP 2281 77 77 rfl rfl rfl) h77) ?_
        refine x_ic T_354_4 ?_
        refine x_ic2 T_354_5 (fun h => absurd (show N ≤ 2 from h) (by omega)) (fun _ => ?_)
        refine x_lr (z := some 2281) T_354_8 rfl ?_
        refine x_lr (z := some 2281) T_354_9 rfl ?_
        refine x_gI (z := N) T_354_10 (Or.inl F_17_77) (PM.t hP) (Eq.trans (PM.nS hP 2281 77 77 rfl rfl rfl) h77) ?_
        refine x_ic T_354_13 ?_
        refine x_ib (w := (N - 2)) T_354_14 (fun h => absurd h.1 (by decide)) (w32_id (by omega) (by omega)) ?_
        refine x_cv2 T_354_15 mN_318 mL_318 (Nat.le_of_ble_eq_true rfl) mO_318 (PM.t hP) (Nat.le_of_ble_eq_true rfl) (hsz) ?_
        rintro _ σ ⟨rfl, rfl⟩
        refine cI ?_
        refine x_ic T_354_18 ?_
        refine x_ic2 T_354_19 (fun _ => ?_) (fun h => absurd (show ¬ n = 2 by omega) h)
        refine x_ic T_354_58 ?_
        refine x_si (ls1 := [some (vR (some 2281)), some (vI p), some (vI 0), none, none, none, none, none, none, none]) T_354_59 rfl ?_
        refine x_lr (z := some 2281) T_354_60 rfl ?_
        refine x_gI (z := N) T_354_61 (Or.inl F_17_77) (PM.t hP) (Eq.trans (PM.nS hP 2281 77 77 rfl rfl rfl) h77) ?_
        refine x_ic T_354_64 ?_
        refine x_ic2 T_354_65 (fun h => absurd (show N ≤ 2 from h) (by omega)) (fun _ => ?_)
        refine x_lr (z := some 2281) T_354_68 rfl ?_
        refine x_lr (z := some 2281) T_354_69 rfl ?_
        refine x_gI (z := N) T_354_70 (Or.inl F_17_77) (PM.t hP) (Eq.trans (PM.nS hP 2281 77 77 rfl rfl rfl) h77) ?_
        refine x_ic T_354_73 ?_
        refine x_ib (w := (N - 2)) T_354_74 (fun h => absurd h.1 (by decide)) (w32_id (by omega) (by omega)) ?_
        refine x_cv2 T_354_75 mN_318 mL_318 (Nat.le_of_ble_eq_true rfl) mO_318 (PM.t hP) (Nat.le_of_ble_eq_true rfl) (hsz) ?_
        rintro _ σ ⟨rfl, rfl⟩
        refine cI ?_
        refine x_ic T_354_78 ?_
        refine x_ic2 T_354_79 (fun h => absurd (show ¬ n = 1 from h) (by omega)) (fun _ => ?_)
        refine x_lr (z := some 2281) T_354_82 rfl ?_
        refine x_lr (z := some 2281) T_354_83 rfl ?_
        refine x_gI (z := N) T_354_84 (Or.inl F_17_77) (PM.t hP) (Eq.trans (PM.nS hP 2281 77 77 rfl rfl rfl) h77) ?_
        refine x_ic T_354_87 ?_
        refine x_ib (w := (N - 2)) T_354_88 (fun h => absurd h.1 (by decide)) (w32_id (by omega) (by omega)) ?_
        refine x_ic T_354_89 ?_
        refine x_cv3 T_354_90 mN_319 mL_319 (Nat.le_of_ble_eq_true rfl) mO_319 (PM.t hP) (Nat.le_of_ble_eq_true rfl) (g0) ?_
        rintro _ σ ⟨rfl, rfl⟩
        refine cI ?_
        refine x_ic T_354_93 ?_
        refine x_ic2 T_354_95 (fun _ => ?_) (fun h => absurd (show ¬ x0 = 62 by omega) h)
        refine x_ic T_354_102 ?_
        refine x_si (ls1 := [some (vR (some 2281)), some (vI p), some (vI 0), some (vI 0), none, none, none, none, none, none]) T_354_103 rfl ?_
        exact hQ
    · rw [show (if n = 2 ∧ x0 = 62 ∧ x1 = 62 then (2 : Int) else if n = 1 ∧ x0 = 62 then 1 else 0) = 0 from (if_neg (fun q => q1 q.1)).trans (if_neg (fun q => q2 q.1))] at hQ
      refine x_lr (z := some 2281) T_354_0 rfl ?_
      refine x_gI (z := N) T_354_1 (Or.inl F_17_77) (PM.t hP) (Eq.trans (PM.nS hP 2281 77 77 rfl rfl rfl) h77) ?_
      refine x_ic T_354_4 ?_
      refine x_ic2 T_354_5 (fun h => absurd (show N ≤ 2 from h) (by omega)) (fun _ => ?_)
      refine x_lr (z := some 2281) T_354_8 rfl ?_
      refine x_lr (z := some 2281) T_354_9 rfl ?_
      refine x_gI (z := N) T_354_10 (Or.inl F_17_77) (PM.t hP) (Eq.trans (PM.nS hP 2281 77 77 rfl rfl rfl) h77) ?_
      refine x_ic T_354_13 ?_
      refine x_ib (w := (N - 2)) T_354_14 (fun h => absurd h.1 (by decide)) (w32_id (by omega) (by omega)) ?_
      refine x_cv2 T_354_15 mN_318 mL_318 (Nat.le_of_ble_eq_true rfl) mO_318 (PM.t hP) (Nat.le_of_ble_eq_true rfl) (hsz) ?_
      rintro _ σ ⟨rfl, rfl⟩
      refine cI ?_
      refine x_ic T_354_18 ?_
      refine x_ic2 T_354_19 (fun _ => ?_) (fun h => absurd (show ¬ n = 2 by omega) h)
      refine x_ic T_354_58 ?_
      refine x_si (ls1 := [some (vR (some 2281)), some (vI p), some (vI 0), none, none, none, none, none, none, none]) T_354_59 rfl ?_
      refine x_lr (z := some 2281) T_354_60 rfl ?_
      refine x_gI (z := N) T_354_61 (Or.inl F_17_77) (PM.t hP) (Eq.trans (PM.nS hP 2281 77 77 rfl rfl rfl) h77) ?_
      refine x_ic T_354_64 ?_
      refine x_ic2 T_354_65 (fun h => absurd (show N ≤ 2 from h) (by omega)) (fun _ => ?_)
      refine x_lr (z := some 2281) T_354_68 rfl ?_
      refine x_lr (z := some 2281) T_354_69 rfl ?_
      refine x_gI (z := N) T_354_70 (Or.inl F_17_77) (PM.t hP) (Eq.trans (PM.nS hP 2281 77 77 rfl rfl rfl) h77) ?_
      refine x_ic T_354_73 ?_
      refine x_ib (w := (N - 2)) T_354_74 (fun h => absurd h.1 (by decide)) (w32_id (by omega) (by omega)) ?_
      refine x_cv2 T_354_75 mN_318 mL_318 (Nat.le_of_ble_eq_true rfl) mO_318 (PM.t hP) (Nat.le_of_ble_eq_true rfl) (hsz) ?_
      rintro _ σ ⟨rfl, rfl⟩
      refine cI ?_
      refine x_ic T_354_78 ?_
      refine x_ic2 T_354_79 (fun _ => ?_) (fun h => absurd (show ¬ n = 1 by omega) h)
      refine x_ic T_354_102 ?_
      refine x_si (ls1 := [some (vR (some 2281)), some (vI p), some (vI 0), some (vI 0), none, none, none, none, none, none]) T_354_103 rfl ?_
      exact hQ
theorem ecM_rng : ecM l = 0 ∨ (2 < ((lnW l).length : Int) ∧ (ecM l = 1 ∨ ecM l = 2)) := by
  unfold ecM
  split
  · exact Or.inl rfl
  · rename_i q
    split
    · exact Or.inr ⟨by omega, Or.inr rfl⟩
    · split
      · exact Or.inr ⟨by omega, Or.inl rfl⟩
      · exact Or.inl rfl
theorem m_echo_no (hP : PM σ0 P S σ) (hK : KS T U P S l []) (hp : 0 ≤ p ∧ p < 8) (hw : 0 < ((lnW l).length : Int)) : WP fb (d + 1) 354 104 [some (vR (some 2281)), some (vI p), some (vI 0), some (vI 0), none, none, none, none, none, none] [] σ (KC T U σ0 S l 0 (gOut P p (ecT l ((lnW l).length : Int) 1 (((lnW l).length : Int) - 1).toNat ++ [10])) []) := by
  have hL := hK.2.2.2.2
  have h77 := hL.2.2.2.2.1
  obtain ⟨N, hN⟩ : ∃ N : Int, ((lnW l).length : Int) = N := ⟨_, rfl⟩
  have h50 := (lnW_ok hL.2.1).2
  rw [hN] at h77 hw ⊢
  refine x_li (z := 0) T_354_104 rfl ?_
  refine x_if T_354_105 (fun h => absurd (show ¬ (0 : Int) = 0 from h) (by decide)) (fun _ => ?_)
  refine x_li (z := 0) T_354_108 rfl ?_
  refine x_if T_354_109 (fun _ => ?_) (fun h => absurd (show (0 : Int) = 0 by decide) h)
  refine x_lr (z := some 2281) T_354_121 rfl ?_
  refine x_gI (z := N) T_354_122 (Or.inl F_17_77) (PM.t hP) (Eq.trans (PM.nS hP 2281 77 77 rfl rfl rfl) h77) ?_
  refine x_si (ls1 := [some (vR (some 2281)), some (vI p), some (vI 0), some (vI 0), some (vI N), none, none, none, none, none]) T_354_125 rfl ?_
  refine x_li (z := 0) T_354_127 rfl ?_
  refine x_if T_354_128 (fun h => absurd (show ¬ (0 : Int) = 0 from h) (by decide)) (fun _ => ?_)
  refine x_li (z := 0) T_354_131 rfl ?_
  refine x_if T_354_132 (fun h => absurd (show ¬ (0 : Int) = 0 from h) (by decide)) (fun _ => ?_)
  refine x_ic T_354_135 ?_
  refine x_si (ls1 := [some (vR (some 2281)), some (vI p), some (vI 0), some (vI 0), some (vI N), some (vI 1), none, none, none, none]) T_354_136 rfl ?_
  refine m_echo_out (d := d) hL hp hN.symm (N - 1).toNat 1 [] none σ (by omega) (by decide) hP hK.1 ?_
  clear hP
  intro l6 σ hP hG
  rw [List.nil_append] at hP hG
  have hG2 := GO_snoc hG hp (b := 10) (by decide)
  have ht := m_tell (fb := fb) (d := d) (b := 10) hP hG.iv hp
  refine x_lr (z := some 2281) T_354_200 rfl ?_
  refine x_li (z := p) T_354_201 rfl ?_
  refine x_ic T_354_202 ?_
  refine x_cv3 T_354_204 mN_351 mL_351 (Nat.le_of_ble_eq_true rfl) mO_351 (PM.t hP) (Nat.le_of_ble_eq_true rfl) (ht) ?_
  clear hP ht
  rintro _ σ ⟨rfl, hP⟩
  refine cV ?_
  refine x_ic T_354_207 ?_
  refine x_ri T_354_208 ?_
  rw [← gOut_snoc] at hP
  exact ⟨S, rfl, hP, hK.gout hG2, SX_rfl⟩
end MECHO3
