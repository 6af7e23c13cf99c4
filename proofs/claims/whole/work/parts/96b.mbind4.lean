/-! bindWords: from its words on. -/
theorem T_358_0 : hTab 358 0 = some ((3, 0, 2, []), 1) := rfl
theorem T_358_1 : hTab 358 1 = some ((24, 17, Int.ofNat 77, []), 4) := rfl
theorem T_358_4 : hTab 358 4 = some ((0, 0, 2, []), 5) := rfl
theorem T_358_5 : hTab 358 5 = some ((10, 1, 0, []), 6) := rfl
theorem T_358_6 : hTab 358 6 = some ((4, 3, 0, []), 7) := rfl
theorem T_358_7 : hTab 358 7 = some ((3, 2, 0, []), 8) := rfl
theorem T_358_8 : hTab 358 8 = some ((18, 0, Int.ofNat 20, []), 11) := rfl
theorem T_358_11 : hTab 358 11 = some ((3, 0, 2, []), 12) := rfl
theorem T_358_12 : hTab 358 12 = some ((3, 3, 0, []), 13) := rfl
theorem T_358_13 : hTab 358 13 = some ((0, 0, 2, []), 14) := rfl
theorem T_358_14 : hTab 358 14 = some ((31, 359, 0, []), 17) := rfl
theorem T_358_17 : hTab 358 17 = some ((22, 0, Int.ofNat 21, []), 20) := rfl
theorem T_358_20 : hTab 358 20 = some ((0, 0, 0, []), 21) := rfl
theorem T_358_21 : hTab 358 21 = some ((4, 4, 0, []), 23) := rfl
theorem T_358_23 : hTab 358 23 = some ((3, 0, 2, []), 24) := rfl
theorem T_358_24 : hTab 358 24 = some ((24, 17, Int.ofNat 77, []), 27) := rfl
theorem T_358_27 : hTab 358 27 = some ((0, 0, 4, []), 28) := rfl
theorem T_358_28 : hTab 358 28 = some ((19, 1, Int.ofNat 38, []), 31) := rfl
theorem T_358_31 : hTab 358 31 = some ((3, 0, 2, []), 32) := rfl
theorem T_358_32 : hTab 358 32 = some ((31, 360, 0, []), 35) := rfl
theorem T_358_35 : hTab 358 35 = some ((18, 0, Int.ofNat 43, []), 38) := rfl
theorem T_358_38 : hTab 358 38 = some ((3, 4, 0, []), 40) := rfl
theorem T_358_40 : hTab 358 40 = some ((18, 3, Int.ofNat 46, []), 43) := rfl
theorem T_358_43 : hTab 358 43 = some ((0, 0, 18, []), 45) := rfl
theorem T_358_45 : hTab 358 45 = some ((33, 1, 0, []), 46) := rfl
theorem T_358_46 : hTab 358 46 = some ((3, 0, 2, []), 47) := rfl
theorem T_358_47 : hTab 358 47 = some ((0, 0, 98, []), 49) := rfl
theorem T_358_49 : hTab 358 49 = some ((31, 362, 0, []), 52) := rfl
theorem T_358_52 : hTab 358 52 = some ((4, 5, 0, []), 54) := rfl
theorem T_358_54 : hTab 358 54 = some ((3, 0, 2, []), 55) := rfl
theorem T_358_55 : hTab 358 55 = some ((0, 0, 97, []), 57) := rfl
theorem T_358_57 : hTab 358 57 = some ((31, 362, 0, []), 60) := rfl
theorem T_358_60 : hTab 358 60 = some ((18, 0, Int.ofNat 72, []), 63) := rfl
theorem T_358_63 : hTab 358 63 = some ((3, 5, 0, []), 65) := rfl
theorem T_358_65 : hTab 358 65 = some ((18, 1, Int.ofNat 72, []), 68) := rfl
theorem T_358_68 : hTab 358 68 = some ((0, 0, 1, []), 69) := rfl
theorem T_358_69 : hTab 358 69 = some ((22, 0, Int.ofNat 73, []), 72) := rfl
theorem T_358_72 : hTab 358 72 = some ((0, 0, 0, []), 73) := rfl
theorem T_358_73 : hTab 358 73 = some ((4, 6, 0, []), 75) := rfl
theorem T_358_75 : hTab 358 75 = some ((3, 0, 2, []), 76) := rfl
theorem T_358_76 : hTab 358 76 = some ((0, 0, 99, []), 78) := rfl
theorem T_358_78 : hTab 358 78 = some ((31, 362, 0, []), 81) := rfl
theorem T_358_81 : hTab 358 81 = some ((4, 7, 0, []), 83) := rfl
theorem T_358_83 : hTab 358 83 = some ((3, 2, 0, []), 84) := rfl
theorem T_358_84 : hTab 358 84 = some ((18, 0, Int.ofNat 102, []), 87) := rfl
theorem T_358_87 : hTab 358 87 = some ((3, 0, 2, []), 88) := rfl
theorem T_358_88 : hTab 358 88 = some ((3, 4, 0, []), 90) := rfl
theorem T_358_90 : hTab 358 90 = some ((3, 0, 2, []), 91) := rfl
theorem T_358_91 : hTab 358 91 = some ((24, 17, Int.ofNat 52, []), 94) := rfl
theorem T_358_94 : hTab 358 94 = some ((3, 1, 0, []), 95) := rfl
theorem T_358_95 : hTab 358 95 = some ((26, 0, 0, []), 96) := rfl
theorem T_358_96 : hTab 358 96 = some ((31, 337, 0, []), 99) := rfl
theorem T_358_99 : hTab 358 99 = some ((22, 0, Int.ofNat 109, []), 102) := rfl
theorem T_358_102 : hTab 358 102 = some ((3, 0, 2, []), 103) := rfl
theorem T_358_103 : hTab 358 103 = some ((3, 1, 0, []), 104) := rfl
theorem T_358_104 : hTab 358 104 = some ((3, 3, 0, []), 105) := rfl
theorem T_358_105 : hTab 358 105 = some ((0, 0, 1, []), 106) := rfl
theorem T_358_106 : hTab 358 106 = some ((31, 327, 0, []), 109) := rfl
theorem T_358_109 : hTab 358 109 = some ((4, 8, 0, []), 111) := rfl
theorem T_358_111 : hTab 358 111 = some ((3, 8, 0, []), 113) := rfl
theorem T_358_113 : hTab 358 113 = some ((18, 5, Int.ofNat 121, []), 116) := rfl
theorem T_358_116 : hTab 358 116 = some ((3, 8, 0, []), 118) := rfl
theorem T_358_118 : hTab 358 118 = some ((22, 0, Int.ofNat 130, []), 121) := rfl
theorem T_358_121 : hTab 358 121 = some ((3, 0, 2, []), 122) := rfl
theorem T_358_122 : hTab 358 122 = some ((3, 1, 0, []), 123) := rfl
theorem T_358_123 : hTab 358 123 = some ((3, 3, 0, []), 124) := rfl
theorem T_358_124 : hTab 358 124 = some ((0, 0, 1, []), 125) := rfl
theorem T_358_125 : hTab 358 125 = some ((10, 0, 0, []), 126) := rfl
theorem T_358_126 : hTab 358 126 = some ((0, 0, 0, []), 127) := rfl
theorem T_358_127 : hTab 358 127 = some ((31, 327, 0, []), 130) := rfl
theorem T_358_130 : hTab 358 130 = some ((4, 8, 0, []), 132) := rfl
theorem T_358_132 : hTab 358 132 = some ((3, 8, 0, []), 134) := rfl
theorem T_358_134 : hTab 358 134 = some ((18, 5, Int.ofNat 140, []), 137) := rfl
theorem T_358_137 : hTab 358 137 = some ((3, 8, 0, []), 139) := rfl
theorem T_358_139 : hTab 358 139 = some ((33, 1, 0, []), 140) := rfl
theorem T_358_140 : hTab 358 140 = some ((3, 0, 2, []), 141) := rfl
theorem T_358_141 : hTab 358 141 = some ((0, 0, 0, []), 142) := rfl
theorem T_358_142 : hTab 358 142 = some ((31, 348, 0, []), 145) := rfl
theorem T_358_145 : hTab 358 145 = some ((18, 0, Int.ofNat 160, []), 148) := rfl
theorem T_358_148 : hTab 358 148 = some ((3, 0, 2, []), 149) := rfl
theorem T_358_149 : hTab 358 149 = some ((0, 0, 1, []), 150) := rfl
theorem T_358_150 : hTab 358 150 = some ((31, 348, 0, []), 153) := rfl
theorem T_358_153 : hTab 358 153 = some ((18, 0, Int.ofNat 160, []), 156) := rfl
theorem T_358_156 : hTab 358 156 = some ((0, 0, 1, []), 157) := rfl
theorem T_358_157 : hTab 358 157 = some ((22, 0, Int.ofNat 161, []), 160) := rfl
theorem T_358_160 : hTab 358 160 = some ((0, 0, 0, []), 161) := rfl
theorem T_358_161 : hTab 358 161 = some ((4, 9, 0, []), 163) := rfl
theorem T_358_163 : hTab 358 163 = some ((3, 9, 0, []), 165) := rfl
theorem T_358_165 : hTab 358 165 = some ((18, 1, Int.ofNat 195, []), 168) := rfl
theorem T_358_168 : hTab 358 168 = some ((3, 0, 2, []), 169) := rfl
theorem T_358_169 : hTab 358 169 = some ((0, 0, 0, []), 170) := rfl
theorem T_358_170 : hTab 358 170 = some ((31, 348, 0, []), 173) := rfl
theorem T_358_173 : hTab 358 173 = some ((18, 1, Int.ofNat 192, []), 176) := rfl
theorem T_358_176 : hTab 358 176 = some ((3, 0, 2, []), 177) := rfl
theorem T_358_177 : hTab 358 177 = some ((0, 0, 1, []), 178) := rfl
theorem T_358_178 : hTab 358 178 = some ((31, 348, 0, []), 181) := rfl
theorem T_358_181 : hTab 358 181 = some ((18, 1, Int.ofNat 192, []), 184) := rfl
theorem T_358_184 : hTab 358 184 = some ((3, 0, 2, []), 185) := rfl
theorem T_358_185 : hTab 358 185 = some ((24, 17, Int.ofNat 77, []), 188) := rfl
theorem T_358_188 : hTab 358 188 = some ((0, 0, 4, []), 189) := rfl
theorem T_358_189 : hTab 358 189 = some ((19, 1, Int.ofNat 195, []), 192) := rfl
theorem T_358_192 : hTab 358 192 = some ((0, 0, 16, []), 194) := rfl
theorem T_358_194 : hTab 358 194 = some ((33, 1, 0, []), 195) := rfl
def cBn2 (P : qR) (p N bf bh mk : Int) (c1 c2 : Ch) : Int × qR × List Ch := if ¬ (¬ and32 c1.2.2.2.1 128 = 0 ∧ ¬ and32 c2.2.2.2.1 128 = 0) ∧ (¬ and32 c1.2.2.2.1 128 = 0 ∨ ¬ and32 c2.2.2.2.1 128 = 0 ∨ N = 4) then (16, P, [c1, c2]) else cBn3 P p bf bh mk (qPoint P p c2.1 c2.2.2.1) c1 c2
def cBnW (P : qR) (p N bf bh mk e : Int) (c1 : Ch) (l : List Int) : Int × qR × List Ch := if 0 < e then (e, P, []) else if 0 < (kWW P p 0 (lnB l (N - 1))).1 then ((kWW P p 0 (lnB l (N - 1))).1, (kWW P p 0 (lnB l (N - 1))).2.1, [c1]) else cBn2 (kWW P p 0 (lnB l (N - 1))).2.1 p N bf bh mk c1 (kWW P p 0 (lnB l (N - 1))).2.2
/-- the first file of a bind (0) or a mount (1) -/
def cBnA (P : qR) (p mo : Int) (wd : List Int) : Int × qR × Ch := if mo = 0 then kWW P p 1 wd else (kAtE P (dgV wd 2) (P 2322 p), kAtP P (dgV wd 2) (P 2322 p), (dgV wd 2, qNewF P (dgV wd 2), 0, 128, -1))
def bnF (l : List Int) (y : Int) : Int := if ((lnW l).length : Int) = 4 ∧ y ∈ (lnB l 1).drop 1 then 1 else 0
def bnH (l : List Int) : Int := if bnF l 97 = 1 ∧ bnF l 98 = 0 then 1 else 0
def cBnd (P : qR) (p mo : Int) (l : List Int) : Int × qR × List Ch := if (((lnW l).length : Int) = 4 ∧ ¬ fgs (lnB l 1)) ∨ (mo = 1 ∧ dgV (lnB l (((lnW l).length : Int) - 2)) 2 < 0) then (18, P, []) else cBnW (cBnA P p mo (lnB l (((lnW l).length : Int) - 2))).2.1 p ((lnW l).length : Int) (bnF l 98) (bnH l) (bnF l 99) (cBnA P p mo (lnB l (((lnW l).length : Int) - 2))).1 (cBnA P p mo (lnB l (((lnW l).length : Int) - 2))).2.2 l
section MBIND4
variable {fb : Bool} {d : Nat} {σ0 σ : hM} {P Q R S S1 S2 : qR} {T U s w g u p k e t z o thr pt off n N v mk fr bf bh old mo fi sv e8 bo : Int} {l l1 l2 nm wd A : List Int} {h : List Ch} {f : Int → Int} {x : Nw} {c c1 c2 : Ch} {ns : List Nw}
theorem bnF_01 {y : Int} : bnF l y = 0 ∨ bnF l y = 1 := by
  unfold bnF
  split
  · exact Or.inr rfl
  · exact Or.inl rfl
theorem bnH_01 : (bnH l = 0 ∨ bnH l = 1) ∧ ¬ (bnF l 98 = 1 ∧ bnH l = 1) := by
  unfold bnH
  split
  · rename_i q
    exact ⟨Or.inr rfl, fun c => by omega⟩
  · exact ⟨Or.inl rfl, fun c => absurd c.2 (by decide)⟩
theorem m_bind_b (hP : PM σ0 P S σ) (hK : KS T U P S l [c1, c2]) (hp : 0 ≤ p ∧ p < 8) (hfr : ptV P p c1.2.2.2.2) (hbf : bf = 0 ∨ bf = 1) (hbh : bh = 0 ∨ bh = 1) (hnb : ¬ (bf = 1 ∧ bh = 1)) (hmk : mk = 0 ∨ mk = 1) (hT : T + 400 ≤ 2147483000) (hN : N = ((lnW l).length : Int)) : WP fb (d + 16) 358 140 [some (vR (some 2281)), some (vI p), some (vI mo), some (vI fi), some (vI sv), some (vI bf), some (vI bh), some (vI mk), some (vI 0), none, none, none, none, none, none, none, none] [] σ (KC (T + 56) U σ0 S l (cBn2 P p N bf bh mk c1 c2).1 (cBn2 P p N bf bh mk c1 c2).2.1 (cBn2 P p N bf bh mk c1 c2).2.2) := by
  have hc := fun (bo : Int) => m_bind_c (fb := fb) (d := d) (mo := mo) (fi := fi) (sv := sv) (bo := bo) hP hK hp hfr hbf hbh hnb hmk hT
  obtain ⟨a1, a2, a3, a4, a5⟩ := hK.2.2.2.1.get (z := 0) (i := 0) rfl (show [c1, c2][0]? = some c1 from rfl)
  obtain ⟨e1, e2, e3, e4, e5⟩ := hK.2.2.2.1.get (z := 1) (i := 1) rfl (show [c1, c2][1]? = some c2 from rfl)
  have d0 := m_isDirH (fb := fb) (d := d + 15) (i := 0) hP (by decide) a4
  have d1 := m_isDirH (fb := fb) (d := d + 15) (i := 1) hP (by decide) e4
  have h77 : S 2281 77 = N := hK.2.2.2.2.2.2.2.2.1.trans hN.symm
  unfold cBn2
  by_cases q1 : and32 c1.2.2.2.1 128 = 0
  · rw [if_pos q1] at d0
    by_cases q2 : and32 c2.2.2.2.1 128 = 0
    · rw [if_pos q2] at d1
      by_cases q3 : N = 4
      · rw [if_pos ⟨fun c => c.1 q1, Or.inr (Or.inr q3)⟩]
        refine x_lr (z := some 2281) T_358_140 rfl ?_
        refine x_ic T_358_141 ?_
        refine x_cv2 T_358_142 mN_348 mL_348 (Nat.le_of_ble_eq_true rfl) mO_348 (PM.t hP) (Nat.le_of_ble_eq_true rfl) (d0) ?_
        rintro _ σ ⟨rfl, rfl⟩
        refine cI ?_
        refine x_if T_358_145 (fun _ => ?_) (fun h => absurd (show (0 : Int) = 0 by decide) h)
        refine x_ic T_358_160 ?_
        refine x_si (ls1 := [some (vR (some 2281)), some (vI p), some (vI mo), some (vI fi), some (vI sv), some (vI bf), some (vI bh), some (vI mk), some (vI 0), some (vI 0), none, none, none, none, none, none, none]) T_358_161 rfl ?_
        refine x_li (z := 0) T_358_163 rfl ?_
        refine x_if T_358_165 (fun h => absurd (show ¬ (0 : Int) = 0 from h) (by decide)) (fun _ => ?_)
        refine x_lr (z := some 2281) T_358_168 rfl ?_
        refine x_ic T_358_169 ?_
        refine x_cv2 T_358_170 mN_348 mL_348 (Nat.le_of_ble_eq_true rfl) mO_348 (PM.t hP) (Nat.le_of_ble_eq_true rfl) (d0) ?_
        rintro _ σ ⟨rfl, rfl⟩
        refine cI ?_
        refine x_if T_358_173 (fun h => absurd (show ¬ (0 : Int) = 0 from h) (by decide)) (fun _ => ?_)
        refine x_lr (z := some 2281) T_358_176 rfl ?_
        refine x_ic T_358_177 ?_
        refine x_cv2 T_358_178 mN_348 mL_348 (Nat.le_of_ble_eq_true rfl) mO_348 (PM.t hP) (Nat.le_of_ble_eq_true rfl) (d1) ?_
        rintro _ σ ⟨rfl, rfl⟩
        refine cI ?_
        refine x_if T_358_181 (fun h => absurd (show ¬ (0 : Int) = 0 from h) (by decide)) (fun _ => ?_)
        refine x_lr (z := some 2281) T_358_184 rfl ?_
        refine x_gI (z := N) T_358_185 (Or.inl F_17_77) (PM.t hP) (Eq.trans (PM.nS hP 2281 77 77 rfl rfl rfl) h77) ?_
        refine x_ic T_358_188 ?_
        refine x_ic2 T_358_189 (fun h => absurd (show ¬ N = 4 from h) (by omega)) (fun _ => ?_)
        refine x_ic T_358_192 ?_
        refine x_ri T_358_194 ?_
        exact ⟨S, rfl, hP, hK.mono (by omega), SX_rfl⟩
      · rw [if_neg (fun c => c.2.elim (fun c => c q1) (fun c => c.elim (fun c => c q2) q3))]
        have hgo := hc 0
        refine x_lr (z := some 2281) T_358_140 rfl ?_
        refine x_ic T_358_141 ?_
        refine x_cv2 T_358_142 mN_348 mL_348 (Nat.le_of_ble_eq_true rfl) mO_348 (PM.t hP) (Nat.le_of_ble_eq_true rfl) (d0) ?_
        rintro _ σ ⟨rfl, rfl⟩
        refine cI ?_
        refine x_if T_358_145 (fun _ => ?_) (fun h => absurd (show (0 : Int) = 0 by decide) h)
        refine x_ic T_358_160 ?_
        refine x_si (ls1 := [some (vR (some 2281)), some (vI p), some (vI mo), some (vI fi), some (vI sv), some (vI bf), some (vI bh), some (vI mk), some (vI 0), some (vI 0), none, none, none, none, none, none, none]) T_358_161 rfl ?_
        refine x_li (z := 0) T_358_163 rfl ?_
        refine x_if T_358_165 (fun h => absurd (show ¬ (0 : Int) = 0 from h) (by decide)) (fun _ => ?_)
        refine x_lr (z := some 2281) T_358_168 rfl ?_
        refine x_ic T_358_169 ?_
        refine x_cv2 T_358_170 mN_348 mL_348 (Nat.le_of_ble_eq_true rfl) mO_348 (PM.t hP) (Nat.le_of_ble_eq_true rfl) (d0) ?_
        rintro _ σ ⟨rfl, rfl⟩
        refine cI ?_
        refine x_if T_358_173 (fun h => absurd (show ¬ (0 : Int) = 0 from h) (by decide)) (fun _ => ?_)
        refine x_lr (z := some 2281) T_358_176 rfl ?_
        refine x_ic T_358_177 ?_
        refine x_cv2 T_358_178 mN_348 mL_348 (Nat.le_of_ble_eq_true rfl) mO_348 (PM.t hP) (Nat.le_of_ble_eq_true rfl) (d1) ?_
        rintro _ σ ⟨rfl, rfl⟩
        refine cI ?_
        refine x_if T_358_181 (fun h => absurd (show ¬ (0 : Int) = 0 from h) (by decide)) (fun _ => ?_)
        refine x_lr (z := some 2281) T_358_184 rfl ?_
        refine x_gI (z := N) T_358_185 (Or.inl F_17_77) (PM.t hP) (Eq.trans (PM.nS hP 2281 77 77 rfl rfl rfl) h77) ?_
        refine x_ic T_358_188 ?_
        refine x_ic2 T_358_189 (fun _ => ?_) (fun h => absurd (show ¬ N = 4 by omega) h)
        exact hgo
    · rw [if_neg q2] at d1
      rw [if_pos ⟨fun c => c.1 q1, Or.inr (Or.inl q2)⟩]
      refine x_lr (z := some 2281) T_358_140 rfl ?_
      refine x_ic T_358_141 ?_
      refine x_cv2 T_358_142 mN_348 mL_348 (Nat.le_of_ble_eq_true rfl) mO_348 (PM.t hP) (Nat.le_of_ble_eq_true rfl) (d0) ?_
      rintro _ σ ⟨rfl, rfl⟩
      refine cI ?_
      refine x_if T_358_145 (fun _ => ?_) (fun h => absurd (show (0 : Int) = 0 by decide) h)
      refine x_ic T_358_160 ?_
      refine x_si (ls1 := [some (vR (some 2281)), some (vI p), some (vI mo), some (vI fi), some (vI sv), some (vI bf), some (vI bh), some (vI mk), some (vI 0), some (vI 0), none, none, none, none, none, none, none]) T_358_161 rfl ?_
      refine x_li (z := 0) T_358_163 rfl ?_
      refine x_if T_358_165 (fun h => absurd (show ¬ (0 : Int) = 0 from h) (by decide)) (fun _ => ?_)
      refine x_lr (z := some 2281) T_358_168 rfl ?_
      refine x_ic T_358_169 ?_
      refine x_cv2 T_358_170 mN_348 mL_348 (Nat.le_of_ble_eq_true rfl) mO_348 (PM.t hP) (Nat.le_of_ble_eq_true rfl) (d0) ?_
      rintro _ σ ⟨rfl, rfl⟩
      refine cI ?_
      refine x_if T_358_173 (fun h => absurd (show ¬ (0 : Int) = 0 from h) (by decide)) (fun _ => ?_)
      refine x_lr (z := some 2281) T_358_176 rfl ?_
      refine x_ic T_358_177 ?_
      refine x_cv2 T_358_178 mN_348 mL_348 (Nat.le_of_ble_eq_true rfl) mO_348 (PM.t hP) (Nat.le_of_ble_eq_true rfl) (d1) ?_
      rintro _ σ ⟨rfl, rfl⟩
      refine cI ?_
      refine x_if T_358_181 (fun _ => ?_) (fun h => absurd (show ¬ (1 : Int) = 0 by decide) h)
      refine x_ic T_358_192 ?_
      refine x_ri T_358_194 ?_
      exact ⟨S, rfl, hP, hK.mono (by omega), SX_rfl⟩
  · rw [if_neg q1] at d0
    by_cases q2 : and32 c2.2.2.2.1 128 = 0
    · rw [if_pos q2] at d1
      rw [if_pos ⟨fun c => c.2 q2, Or.inl q1⟩]
      refine x_lr (z := some 2281) T_358_140 rfl ?_
      refine x_ic T_358_141 ?_
      refine x_cv2 T_358_142 mN_348 mL_348 (Nat.le_of_ble_eq_true rfl) mO_348 (PM.t hP) (Nat.le_of_ble_eq_true rfl) (d0) ?_
      rintro _ σ ⟨rfl, rfl⟩
      refine cI ?_
      refine x_if T_358_145 (fun h => absurd (show (1 : Int) = 0 from h) (by decide)) (fun _ => ?_)
      refine x_lr (z := some 2281) T_358_148 rfl ?_
      refine x_ic T_358_149 ?_
      refine x_cv2 T_358_150 mN_348 mL_348 (Nat.le_of_ble_eq_true rfl) mO_348 (PM.t hP) (Nat.le_of_ble_eq_true rfl) (d1) ?_
      rintro _ σ ⟨rfl, rfl⟩
      refine cI ?_
      refine x_if T_358_153 (fun _ => ?_) (fun h => absurd (show (0 : Int) = 0 by decide) h)
      refine x_ic T_358_160 ?_
      refine x_si (ls1 := [some (vR (some 2281)), some (vI p), some (vI mo), some (vI fi), some (vI sv), some (vI bf), some (vI bh), some (vI mk), some (vI 0), some (vI 0), none, none, none, none, none, none, none]) T_358_161 rfl ?_
      refine x_li (z := 0) T_358_163 rfl ?_
      refine x_if T_358_165 (fun h => absurd (show ¬ (0 : Int) = 0 from h) (by decide)) (fun _ => ?_)
      refine x_lr (z := some 2281) T_358_168 rfl ?_
      refine x_ic T_358_169 ?_
      refine x_cv2 T_358_170 mN_348 mL_348 (Nat.le_of_ble_eq_true rfl) mO_348 (PM.t hP) (Nat.le_of_ble_eq_true rfl) (d0) ?_
      rintro _ σ ⟨rfl, rfl⟩
      refine cI ?_
      refine x_if T_358_173 (fun _ => ?_) (fun h => absurd (show ¬ (1 : Int) = 0 by decide) h)
      refine x_ic T_358_192 ?_
      refine x_ri T_358_194 ?_
      exact ⟨S, rfl, hP, hK.mono (by omega), SX_rfl⟩
    · rw [if_neg q2] at d1
      rw [if_neg (fun c => c.1 ⟨q1, q2⟩)]
      have hgo := hc 1
      refine x_lr (z := some 2281) T_358_140 rfl ?_
      refine x_ic T_358_141 ?_
      refine x_cv2 T_358_142 mN_348 mL_348 (Nat.le_of_ble_eq_true rfl) mO_348 (PM.t hP) (Nat.le_of_ble_eq_true rfl) (d0) ?_
      rintro _ σ ⟨rfl, rfl⟩
      refine cI ?_
      refine x_if T_358_145 (fun h => absurd (show (1 : Int) = 0 from h) (by decide)) (fun _ => ?_)
      refine x_lr (z := some 2281) T_358_148 rfl ?_
      refine x_ic T_358_149 ?_
      refine x_cv2 T_358_150 mN_348 mL_348 (Nat.le_of_ble_eq_true rfl) mO_348 (PM.t hP) (Nat.le_of_ble_eq_true rfl) (d1) ?_
      rintro _ σ ⟨rfl, rfl⟩
      refine cI ?_
      refine x_if T_358_153 (fun h => absurd (show (1 : Int) = 0 from h) (by decide)) (fun _ => ?_)
      refine x_ic T_358_156 ?_
      refine x_goto T_358_157 ?_
      refine x_si (ls1 := [some (vR (some 2281)), some (vI p), some (vI mo), some (vI fi), some (vI sv), some (vI bf), some (vI bh), some (vI mk), some (vI 0), some (vI 1), none, none, none, none, none, none, none]) T_358_161 rfl ?_
      refine x_li (z := 1) T_358_163 rfl ?_
      refine x_if T_358_165 (fun _ => ?_) (fun h => absurd (show ¬ (1 : Int) = 0 by decide) h)
      exact hgo
theorem m_bind_w (hP : PM σ0 P S σ) (hK : KS T U P S l (kHold e [] c1)) (he : 0 ≤ e) (hp : 0 ≤ p ∧ p < 8) (hfr : e = 0 → ptV P p c1.2.2.2.2) (hbf : bf = 0 ∨ bf = 1) (hbh : bh = 0 ∨ bh = 1) (hnb : ¬ (bf = 1 ∧ bh = 1)) (hmk : mk = 0 ∨ mk = 1) (hT : T + 800 ≤ 2147483000) (hN : N = ((lnW l).length : Int)) (hN2 : N = 3 ∨ N = 4) : WP fb (d + 16) 358 109 [some (vR (some 2281)), some (vI p), some (vI mo), some (vI (N - 2)), some (vI sv), some (vI bf), some (vI bh), some (vI mk), none, none, none, none, none, none, none, none, none] [vI e] σ (KC (T + 356) U σ0 S l (cBnW P p N bf bh mk e c1 l).1 (cBnW P p N bf bh mk e c1 l).2.1 (cBnW P p N bf bh mk e c1 l).2.2) := by
  unfold cBnW
  by_cases q1 : 0 < e
  · rw [if_pos q1]
    rw [kHoldn (by omega)] at hK
    refine x_si (ls1 := [some (vR (some 2281)), some (vI p), some (vI mo), some (vI (N - 2)), some (vI sv), some (vI bf), some (vI bh), some (vI mk), some (vI e), none, none, none, none, none, none, none, none]) T_358_109 rfl ?_
    refine x_li (z := e) T_358_111 rfl ?_
    refine x_if T_358_113 (fun h => absurd (show e ≤ 0 from h) (by omega)) (fun _ => ?_)
    refine x_li (z := e) T_358_116 rfl ?_
    refine x_goto T_358_118 ?_
    refine x_si (ls1 := [some (vR (some 2281)), some (vI p), some (vI mo), some (vI (N - 2)), some (vI sv), some (vI bf), some (vI bh), some (vI mk), some (vI e), none, none, none, none, none, none, none, none]) T_358_130 rfl ?_
    refine x_li (z := e) T_358_132 rfl ?_
    refine x_if T_358_134 (fun h => absurd (show e ≤ 0 from h) (by omega)) (fun _ => ?_)
    refine x_li (z := e) T_358_137 rfl ?_
    refine x_ri T_358_139 ?_
    exact ⟨S, rfl, hP, hK.mono (by omega), SX_rfl⟩
  · rw [if_neg q1]
    have q2 : e = 0 := by omega
    subst q2
    rw [kHold0] at hK
    have hww := k_ww (fb := fb) (d := d) (thr := 0) hP hK hp (Or.inl rfl) hT (show 1 + 2 < 60 by decide) (w := N - 1) ⟨by omega, by omega⟩
    have hkf := KF_kWW (thr := 0) (wd := lnB l (N - 1)) hK.1.iv hK.2.1 hp
    obtain ⟨e2, he2⟩ : ∃ e, (kWW P p 0 (lnB l (N - 1))).1 = e := ⟨_, rfl⟩
    obtain ⟨P2, hP2⟩ : ∃ P2, (kWW P p 0 (lnB l (N - 1))).2.1 = P2 := ⟨_, rfl⟩
    obtain ⟨c2, hc2⟩ : ∃ c, (kWW P p 0 (lnB l (N - 1))).2.2 = c := ⟨_, rfl⟩
    rw [he2, hP2] at hkf
    rw [he2, hP2, hc2] at hww
    rw [he2, hP2, hc2]
    by_cases q3 : 0 < e2
    · rw [if_pos q3]
      rw [kHoldn (by omega)] at hww
      refine x_si (ls1 := [some (vR (some 2281)), some (vI p), some (vI mo), some (vI (N - 2)), some (vI sv), some (vI bf), some (vI bh), some (vI mk), some (vI 0), none, none, none, none, none, none, none, none]) T_358_109 rfl ?_
      refine x_li (z := 0) T_358_111 rfl ?_
      refine x_if T_358_113 (fun _ => ?_) (fun h => absurd (show (0 : Int) ≤ 0 by decide) h)
      refine x_lr (z := some 2281) T_358_121 rfl ?_
      refine x_li (z := p) T_358_122 rfl ?_
      refine x_li (z := (N - 2)) T_358_123 rfl ?_
      refine x_ic T_358_124 ?_
      refine x_ib (w := (N - 1)) T_358_125 (fun h => absurd h.1 (by decide)) (w32_e (by omega) (by omega) (by omega)) ?_
      refine x_ic T_358_126 ?_
      refine x_cv4 T_358_127 mN_327 mL_327 (Nat.le_of_ble_eq_true rfl) mO_327 (PM.t hP) (Nat.le_of_ble_eq_true rfl) (hww) ?_
      clear hP hww
      rintro _ σ ⟨S2, rfl, hP, hK2, hX2, -⟩
      refine cI ?_
      refine x_si (ls1 := [some (vR (some 2281)), some (vI p), some (vI mo), some (vI (N - 2)), some (vI sv), some (vI bf), some (vI bh), some (vI mk), some (vI e2), none, none, none, none, none, none, none, none]) T_358_130 rfl ?_
      refine x_li (z := e2) T_358_132 rfl ?_
      refine x_if T_358_134 (fun h => absurd (show e2 ≤ 0 from h) (by omega)) (fun _ => ?_)
      refine x_li (z := e2) T_358_137 rfl ?_
      refine x_ri T_358_139 ?_
      exact ⟨S2, rfl, hP, hK2.mono (by omega), hX2⟩
    · rw [if_neg q3]
      have q4 : e2 = 0 := by omega
      subst q4
      rw [kHold0] at hww
      have hgo := fun (σ : hM) (S2 : qR) (hP : PM σ0 P2 S2 σ) (hK2 : KS (T + 300) U P2 S2 l [c1, c2]) (hX2 : SX scR scN S S2) => WP.mono (m_bind_b (fb := fb) (d := d) (mo := mo) (fi := N - 2) (sv := sv) hP hK2 hp ((hfr rfl).fk hkf.1) hbf hbh hnb hmk (by omega) hN) (Q := KC (T + 356) U σ0 S l (cBn2 P2 p N bf bh mk c1 c2).1 (cBn2 P2 p N bf bh mk c1 c2).2.1 (cBn2 P2 p N bf bh mk c1 c2).2.2) (fun r σ1 hr => by
        obtain ⟨S3, r1, r2, r3, r4⟩ := hr
        exact ⟨S3, r1, r2, r3.mono (by omega), SX_tr hX2 r4⟩)
      refine x_si (ls1 := [some (vR (some 2281)), some (vI p), some (vI mo), some (vI (N - 2)), some (vI sv), some (vI bf), some (vI bh), some (vI mk), some (vI 0), none, none, none, none, none, none, none, none]) T_358_109 rfl ?_
      refine x_li (z := 0) T_358_111 rfl ?_
      refine x_if T_358_113 (fun _ => ?_) (fun h => absurd (show (0 : Int) ≤ 0 by decide) h)
      refine x_lr (z := some 2281) T_358_121 rfl ?_
      refine x_li (z := p) T_358_122 rfl ?_
      refine x_li (z := (N - 2)) T_358_123 rfl ?_
      refine x_ic T_358_124 ?_
      refine x_ib (w := (N - 1)) T_358_125 (fun h => absurd h.1 (by decide)) (w32_e (by omega) (by omega) (by omega)) ?_
      refine x_ic T_358_126 ?_
      refine x_cv4 T_358_127 mN_327 mL_327 (Nat.le_of_ble_eq_true rfl) mO_327 (PM.t hP) (Nat.le_of_ble_eq_true rfl) (hww) ?_
      clear hP hww
      rintro _ σ ⟨S2, rfl, hP, hK2, hX2, -⟩
      refine cI ?_
      refine x_si (ls1 := [some (vR (some 2281)), some (vI p), some (vI mo), some (vI (N - 2)), some (vI sv), some (vI bf), some (vI bh), some (vI mk), some (vI 0), none, none, none, none, none, none, none, none]) T_358_130 rfl ?_
      refine x_li (z := 0) T_358_132 rfl ?_
      refine x_if T_358_134 (fun _ => ?_) (fun h => absurd (show (0 : Int) ≤ 0 by decide) h)
      exact hgo σ S2 hP hK2 hX2
/-- the letters behind the - -/
theorem m_bind_f (hP : PM σ0 P S σ) (hL : LN S l) (hw : 1 < ((lnW l).length : Int)) {Q : Option AV → hM → Prop} (hQ : WP fb (d + 3) 358 83 [some (vR (some 2281)), some (vI p), some (vI mo), some (vI fi), some (vI sv), some (vI (bnF l 98)), some (vI (bnH l)), some (vI (bnF l 99)), none, none, none, none, none, none, none, none, none] [] σ Q) : WP fb (d + 3) 358 46 [some (vR (some 2281)), some (vI p), some (vI mo), some (vI fi), some (vI sv), none, none, none, none, none, none, none, none, none, none, none, none] [] σ Q := by
  have f1 := fun (y : Int) => m_isFlagged (fb := fb) (d := d) (y := y) hP hL hw
  have ha := CL_val (f1 97) (show _ = bnF l 97 from rfl)
  have hb := CL_val (f1 98) (show _ = bnF l 98 from rfl)
  have hc := CL_val (f1 99) (show _ = bnF l 99 from rfl)
  have a1 := bnF_01 (l := l) (y := 97)
  have a2 := bnF_01 (l := l) (y := 98)
  unfold bnH at hQ
  obtain ⟨mk, hmk⟩ : ∃ mk, bnF l 99 = mk := ⟨_, rfl⟩
  obtain ⟨bf, hbf⟩ : ∃ bf, bnF l 98 = bf := ⟨_, rfl⟩
  obtain ⟨ba, hba⟩ : ∃ ba, bnF l 97 = ba := ⟨_, rfl⟩
  rw [hmk, hbf, hba] at hQ
  rw [hmk] at hc
  rw [hbf] at hb a2
  rw [hba] at ha a1
  rcases a1 with rfl | rfl
  · rw [if_neg (fun c => absurd c.1 (by decide))] at hQ
    refine x_lr (z := some 2281) T_358_46 rfl ?_
    refine x_ic T_358_47 ?_
    refine x_cv2 T_358_49 mN_362 mL_362 (Nat.le_of_ble_eq_true rfl) mO_362 (PM.t hP) (Nat.le_of_ble_eq_true rfl) (hb) ?_
    rintro _ σ ⟨rfl, rfl⟩
    refine cI ?_
    refine x_si (ls1 := [some (vR (some 2281)), some (vI p), some (vI mo), some (vI fi), some (vI sv), some (vI bf), none, none, none, none, none, none, none, none, none, none, none]) T_358_52 rfl ?_
    refine x_lr (z := some 2281) T_358_54 rfl ?_
    refine x_ic T_358_55 ?_
    refine x_cv2 T_358_57 mN_362 mL_362 (Nat.le_of_ble_eq_true rfl) mO_362 (PM.t hP) (Nat.le_of_ble_eq_true rfl) (ha) ?_
    rintro _ σ ⟨rfl, rfl⟩
    refine cI ?_
    refine x_if T_358_60 (fun _ => ?_) (fun h => absurd (show (0 : Int) = 0 by decide) h)
    refine x_ic T_358_72 ?_
    refine x_si (ls1 := [some (vR (some 2281)), some (vI p), some (vI mo), some (vI fi), some (vI sv), some (vI bf), some (vI 0), none, none, none, none, none, none, none, none, none, none]) T_358_73 rfl ?_
    refine x_lr (z := some 2281) T_358_75 rfl ?_
    refine x_ic T_358_76 ?_
    refine x_cv2 T_358_78 mN_362 mL_362 (Nat.le_of_ble_eq_true rfl) mO_362 (PM.t hP) (Nat.le_of_ble_eq_true rfl) (hc) ?_
    rintro _ σ ⟨rfl, rfl⟩
    refine cI ?_
    refine x_si (ls1 := [some (vR (some 2281)), some (vI p), some (vI mo), some (vI fi), some (vI sv), some (vI bf), some (vI 0), some (vI mk), none, none, none, none, none, none, none, none, none]) T_358_81 rfl ?_
    exact hQ
  · rcases a2 with rfl | rfl
    · rw [if_pos ⟨rfl, rfl⟩] at hQ
      refine x_lr (z := some 2281) T_358_46 rfl ?_
      refine x_ic T_358_47 ?_
      refine x_cv2 T_358_49 mN_362 mL_362 (Nat.le_of_ble_eq_true rfl) mO_362 (PM.t hP) (Nat.le_of_ble_eq_true rfl) (hb) ?_
      rintro _ σ ⟨rfl, rfl⟩
      refine cI ?_
      refine x_si (ls1 := [some (vR (some 2281)), some (vI p), some (vI mo), some (vI fi), some (vI sv), some (vI 0), none, none, none, none, none, none, none, none, none, none, none]) T_358_52 rfl ?_
      refine x_lr (z := some 2281) T_358_54 rfl ?_
      refine x_ic T_358_55 ?_
      refine x_cv2 T_358_57 mN_362 mL_362 (Nat.le_of_ble_eq_true rfl) mO_362 (PM.t hP) (Nat.le_of_ble_eq_true rfl) (ha) ?_
      rintro _ σ ⟨rfl, rfl⟩
      refine cI ?_
      refine x_if T_358_60 (fun h => absurd (show (1 : Int) = 0 from h) (by decide)) (fun _ => ?_)
      refine x_li (z := 0) T_358_63 rfl ?_
      refine x_if T_358_65 (fun h => absurd (show ¬ (0 : Int) = 0 from h) (by decide)) (fun _ => ?_)
      refine x_ic T_358_68 ?_
      refine x_goto T_358_69 ?_
      refine x_si (ls1 := [some (vR (some 2281)), some (vI p), some (vI mo), some (vI fi), some (vI sv), some (vI 0), some (vI 1), none, none, none, none, none, none, none, none, none, none]) T_358_73 rfl ?_
      refine x_lr (z := some 2281) T_358_75 rfl ?_
      refine x_ic T_358_76 ?_
      refine x_cv2 T_358_78 mN_362 mL_362 (Nat.le_of_ble_eq_true rfl) mO_362 (PM.t hP) (Nat.le_of_ble_eq_true rfl) (hc) ?_
      rintro _ σ ⟨rfl, rfl⟩
      refine cI ?_
      refine x_si (ls1 := [some (vR (some 2281)), some (vI p), some (vI mo), some (vI fi), some (vI sv), some (vI 0), some (vI 1), some (vI mk), none, none, none, none, none, none, none, none, none]) T_358_81 rfl ?_
      exact hQ
    · rw [if_neg (fun c => absurd c.2 (by decide))] at hQ
      refine x_lr (z := some 2281) T_358_46 rfl ?_
      refine x_ic T_358_47 ?_
      refine x_cv2 T_358_49 mN_362 mL_362 (Nat.le_of_ble_eq_true rfl) mO_362 (PM.t hP) (Nat.le_of_ble_eq_true rfl) (hb) ?_
      rintro _ σ ⟨rfl, rfl⟩
      refine cI ?_
      refine x_si (ls1 := [some (vR (some 2281)), some (vI p), some (vI mo), some (vI fi), some (vI sv), some (vI 1), none, none, none, none, none, none, none, none, none, none, none]) T_358_52 rfl ?_
      refine x_lr (z := some 2281) T_358_54 rfl ?_
      refine x_ic T_358_55 ?_
      refine x_cv2 T_358_57 mN_362 mL_362 (Nat.le_of_ble_eq_true rfl) mO_362 (PM.t hP) (Nat.le_of_ble_eq_true rfl) (ha) ?_
      rintro _ σ ⟨rfl, rfl⟩
      refine cI ?_
      refine x_if T_358_60 (fun h => absurd (show (1 : Int) = 0 from h) (by decide)) (fun _ => ?_)
      refine x_li (z := 1) T_358_63 rfl ?_
      refine x_if T_358_65 (fun _ => ?_) (fun h => absurd (show ¬ (1 : Int) = 0 by decide) h)
      refine x_ic T_358_72 ?_
      refine x_si (ls1 := [some (vR (some 2281)), some (vI p), some (vI mo), some (vI fi), some (vI sv), some (vI 1), some (vI 0), none, none, none, none, none, none, none, none, none, none]) T_358_73 rfl ?_
      refine x_lr (z := some 2281) T_358_75 rfl ?_
      refine x_ic T_358_76 ?_
      refine x_cv2 T_358_78 mN_362 mL_362 (Nat.le_of_ble_eq_true rfl) mO_362 (PM.t hP) (Nat.le_of_ble_eq_true rfl) (hc) ?_
      rintro _ σ ⟨rfl, rfl⟩
      refine cI ?_
      refine x_si (ls1 := [some (vR (some 2281)), some (vI p), some (vI mo), some (vI fi), some (vI sv), some (vI 1), some (vI 0), some (vI mk), none, none, none, none, none, none, none, none, none]) T_358_81 rfl ?_
      exact hQ
theorem m_bindWords (hP : PM σ0 P S σ) (hK : KS T U P S l []) (hp : 0 ≤ p ∧ p < 8) (hmo : mo = 0 ∨ mo = 1) (hT : T + 1200 ≤ 2147483000) (hN : N = ((lnW l).length : Int)) (hN2 : N = 3 ∨ N = 4) : CL fb (d + 16) 358 [vR (some 2281), vI p, vI mo] σ (KC (T + 656) U σ0 S l (cBnd P p mo l).1 (cBnd P p mo l).2.1 (cBnd P p mo l).2.2) := by
  have h77 : S 2281 77 = N := hK.2.2.2.2.2.2.2.2.1.trans hN.symm
  have hL := hK.2.2.2.2
  have hdg := m_digit (fb := fb) (d := d + 14) (w := N - 2) (most := 2) hP hL ⟨by omega, by omega⟩ (by decide)
  have har := m_areFlags (fb := fb) (d := d + 13) hP hL (by omega)
  have hfl := fun (sv : Int) {Q : Option AV → hM → Prop} => m_bind_f (fb := fb) (d := d + 13) (p := p) (mo := mo) (fi := N - 2) (sv := sv) (Q := Q) hP hL (by omega)
  have b1 := bnF_01 (l := l) (y := 98)
  have b2 := bnH_01 (l := l)
  have b3 := bnF_01 (l := l) (y := 99)
  have bu : 0 ≤ P 2322 p ∧ P 2322 p ≤ 3 := IV.a hK.1.iv 2322 0 8 rfl rfl rfl (by omega) (by omega)
  have hdr : dgV (lnB l (N - 2)) 2 = -1 ∨ (0 ≤ dgV (lnB l (N - 2)) 2 ∧ dgV (lnB l (N - 2)) 2 ≤ 2) := by
    unfold dgV
    split
    · omega
    · exact Or.inl rfl
  unfold cBnd
  rw [← hN]
  obtain ⟨bf, hbf⟩ : ∃ bf, bnF l 98 = bf := ⟨_, rfl⟩
  obtain ⟨bh, hbh⟩ : ∃ bh, bnH l = bh := ⟨_, rfl⟩
  obtain ⟨mk, hmk⟩ : ∃ mk, bnF l 99 = mk := ⟨_, rfl⟩
  rw [hbf, hbh, hmk] at hfl ⊢
  rw [hbf] at b1
  rw [hbf, hbh] at b2
  rw [hmk] at b3
  have key : ∀ sv : Int, (mo = 0 → sv = 0) → (mo = 1 → sv = dgV (lnB l (N - 2)) 2 ∧ 0 ≤ sv) → ¬ (N = 4 ∧ ¬ fgs (lnB l 1)) → WP fb (d + 16) 358 23 [some (vR (some 2281)), some (vI p), some (vI mo), some (vI (N - 2)), some (vI sv), none, none, none, none, none, none, none, none, none, none, none, none] [] σ (KC (T + 656) U σ0 S l (cBnW (cBnA P p mo (lnB l (N - 2))).2.1 p N bf bh mk (cBnA P p mo (lnB l (N - 2))).1 (cBnA P p mo (lnB l (N - 2))).2.2 l).1 (cBnW (cBnA P p mo (lnB l (N - 2))).2.1 p N bf bh mk (cBnA P p mo (lnB l (N - 2))).1 (cBnA P p mo (lnB l (N - 2))).2.2 l).2.1 (cBnW (cBnA P p mo (lnB l (N - 2))).2.1 p N bf bh mk (cBnA P p mo (lnB l (N - 2))).1 (cBnA P p mo (lnB l (N - 2))).2.2 l).2.2) := fun sv hs0 hs1 hnf => by
    have h83 : WP fb (d + 16) 358 46 [some (vR (some 2281)), some (vI p), some (vI mo), some (vI (N - 2)), some (vI sv), none, none, none, none, none, none, none, none, none, none, none, none] [] σ (KC (T + 656) U σ0 S l (cBnW (cBnA P p mo (lnB l (N - 2))).2.1 p N bf bh mk (cBnA P p mo (lnB l (N - 2))).1 (cBnA P p mo (lnB l (N - 2))).2.2 l).1 (cBnW (cBnA P p mo (lnB l (N - 2))).2.1 p N bf bh mk (cBnA P p mo (lnB l (N - 2))).1 (cBnA P p mo (lnB l (N - 2))).2.2 l).2.1 (cBnW (cBnA P p mo (lnB l (N - 2))).2.1 p N bf bh mk (cBnA P p mo (lnB l (N - 2))).1 (cBnA P p mo (lnB l (N - 2))).2.2 l).2.2) := by
      refine hfl sv ?_
      unfold cBnA
      rcases hmo with rfl | rfl
      · rw [if_pos rfl]
        have hww := k_ww (fb := fb) (d := d) (thr := 1) hP hK hp (Or.inr rfl) (by omega) (show 0 + 2 < 60 by decide) (w := N - 2) ⟨by omega, by omega⟩
        have hkf := KF_kWW (thr := 1) (wd := lnB l (N - 2)) hK.1.iv hK.2.1 hp
        have hpt := kWW_pt (thr := 1) (wd := lnB l (N - 2)) hK.1.iv hp
        obtain ⟨e2, he2⟩ : ∃ e, (kWW P p 1 (lnB l (N - 2))).1 = e := ⟨_, rfl⟩
        obtain ⟨P2, hP2⟩ : ∃ P2, (kWW P p 1 (lnB l (N - 2))).2.1 = P2 := ⟨_, rfl⟩
        obtain ⟨c2, hc2⟩ : ∃ c, (kWW P p 1 (lnB l (N - 2))).2.2 = c := ⟨_, rfl⟩
        rw [he2, hP2] at hkf
        rw [hc2] at hpt
        rw [he2, hP2, hc2] at hww
        rw [he2, hP2, hc2]
        have hgo := fun (σ : hM) (S2 : qR) (hP : PM σ0 P2 S2 σ) (hK2 : KS (T + 300) U P2 S2 l (kHold e2 [] c2)) (hX2 : SX scR scN S S2) => WP.mono (m_bind_w (fb := fb) (d := d) (mo := 0) (sv := sv) hP hK2 hkf.2 hp (fun _ => hpt.fk hkf.1) b1 b2.1 b2.2 b3 (by omega) hN hN2) (Q := KC (T + 656) U σ0 S l (cBnW P2 p N bf bh mk e2 c2 l).1 (cBnW P2 p N bf bh mk e2 c2 l).2.1 (cBnW P2 p N bf bh mk e2 c2 l).2.2) (fun r σ1 hr => by
          obtain ⟨S3, r1, r2, r3, r4⟩ := hr
          exact ⟨S3, r1, r2, r3.mono (by omega), SX_tr hX2 r4⟩)
        refine x_li (z := 0) T_358_83 rfl ?_
        refine x_if T_358_84 (fun _ => ?_) (fun h => absurd (show (0 : Int) = 0 by decide) h)
        refine x_lr (z := some 2281) T_358_102 rfl ?_
        refine x_li (z := p) T_358_103 rfl ?_
        refine x_li (z := (N - 2)) T_358_104 rfl ?_
        refine x_ic T_358_105 ?_
        refine x_cv4 T_358_106 mN_327 mL_327 (Nat.le_of_ble_eq_true rfl) mO_327 (PM.t hP) (Nat.le_of_ble_eq_true rfl) (hww) ?_
        clear hP hww
        rintro _ σ ⟨S2, rfl, hP, hK2, hX2, -⟩
        refine cI ?_
        exact hgo σ S2 hP hK2 hX2
      · rw [if_neg (by decide)]
        obtain ⟨hsv, hsv0⟩ := hs1 rfl
        rw [← hsv]
        have hat := m_attach (fb := fb) (d := d + 3) (s := sv) (u := P 2322 p) hP hK.2.2.1 hK.1 (by omega) ⟨hsv0, by omega⟩ hK.2.2.2.1 (show 0 < 60 by decide) bu
        have hkf : KF (kAtP P sv (P 2322 p)) P := KF_at
        have her := kAtE_rng (P := P) (s := sv) (u := P 2322 p)
        obtain ⟨us, hus⟩ : ∃ us, P 2322 p = us := ⟨_, rfl⟩
        rw [hus] at hat hkf her ⊢
        obtain ⟨e2, he2⟩ : ∃ e, kAtE P sv us = e := ⟨_, rfl⟩
        obtain ⟨P2, hP2⟩ : ∃ P2, kAtP P sv us = P2 := ⟨_, rfl⟩
        obtain ⟨c2, hc2⟩ : ∃ c : Ch, (sv, qNewF P sv, (0 : Int), (128 : Int), (-1 : Int)) = c := ⟨_, rfl⟩
        have hc2p : c2.2.2.2.2 = -1 := by rw [← hc2]
        rw [hP2] at hkf
        rw [he2] at her
        rw [he2, hP2, hc2] at hat
        rw [he2, hP2, hc2]
        have hgo := fun (σ : hM) (S2 : qR) (hP : PM σ0 P2 S2 σ) (hK2 : KS (T + 4) U P2 S2 l (kHold e2 [] c2)) (hX2 : SX scR scN S S2) => WP.mono (m_bind_w (fb := fb) (d := d) (mo := 1) (sv := sv) hP hK2 her.1 hp (fun _ => Or.inl hc2p) b1 b2.1 b2.2 b3 (by omega) hN hN2) (Q := KC (T + 656) U σ0 S l (cBnW P2 p N bf bh mk e2 c2 l).1 (cBnW P2 p N bf bh mk e2 c2 l).2.1 (cBnW P2 p N bf bh mk e2 c2 l).2.2) (fun r σ1 hr => by
          obtain ⟨S3, r1, r2, r3, r4⟩ := hr
          exact ⟨S3, r1, r2, r3.mono (by omega), SX_tr hX2 r4⟩)
        refine x_li (z := 1) T_358_83 rfl ?_
        refine x_if T_358_84 (fun h => absurd (show (1 : Int) = 0 from h) (by decide)) (fun _ => ?_)
        refine x_lr (z := some 2281) T_358_87 rfl ?_
        refine x_li (z := sv) T_358_88 rfl ?_
        refine x_lr (z := some 2281) T_358_90 rfl ?_
        refine x_gR (z := some 2322) T_358_91 F_17_52 (PM.t hP) (PM.r hP 52 2322 rfl) ?_
        refine x_li (z := p) T_358_94 rfl ?_
        refine x_alI (z := us) T_358_95 (by decide) (PM.ta hP 2322 0 8 rfl rfl) (by omega) (by omega) (Eq.trans (PM.aP hP 2322 rfl rfl (by omega)) hus) ?_
        refine x_cv3 T_358_96 mN_337 mL_337 (Nat.le_of_ble_eq_true rfl) mO_337 (PM.t hP) (Nat.le_of_ble_eq_true rfl) (hat) ?_
        clear hP hat
        intro r σ hr
        obtain ⟨S2, rfl, hP, hK2, hX2⟩ := hK.copy hkf hr
        refine cI ?_
        refine x_goto T_358_99 ?_
        exact hgo σ S2 hP hK2 hX2
    by_cases q4 : N = 4
    · have q5 : fgs (lnB l 1) := by
        by_cases q5 : fgs (lnB l 1)
        · exact q5
        · exact absurd ⟨q4, q5⟩ hnf
      rw [if_pos q5] at har
      have sv0 : 0 ≤ sv := by
        rcases hmo with a | a
        · rw [hs0 a]
          decide
        · exact (hs1 a).2
      refine x_lr (z := some 2281) T_358_23 rfl ?_
      refine x_gI (z := N) T_358_24 (Or.inl F_17_77) (PM.t hP) (Eq.trans (PM.nS hP 2281 77 77 rfl rfl rfl) h77) ?_
      refine x_ic T_358_27 ?_
      refine x_ic2 T_358_28 (fun h => absurd (show ¬ N = 4 from h) (by omega)) (fun _ => ?_)
      refine x_lr (z := some 2281) T_358_31 rfl ?_
      refine x_cv1 T_358_32 mN_360 mL_360 (Nat.le_of_ble_eq_true rfl) mO_360 (PM.t hP) (Nat.le_of_ble_eq_true rfl) (har) ?_
      rintro _ σ ⟨rfl, rfl⟩
      refine cI ?_
      refine x_if T_358_35 (fun h => absurd (show (1 : Int) = 0 from h) (by decide)) (fun _ => ?_)
      refine x_li (z := sv) T_358_38 rfl ?_
      refine x_if T_358_40 (fun _ => ?_) (fun h => absurd (show 0 ≤ sv by omega) h)
      exact h83
    · have sv0 : 0 ≤ sv := by
        rcases hmo with a | a
        · rw [hs0 a]
          decide
        · exact (hs1 a).2
      refine x_lr (z := some 2281) T_358_23 rfl ?_
      refine x_gI (z := N) T_358_24 (Or.inl F_17_77) (PM.t hP) (Eq.trans (PM.nS hP 2281 77 77 rfl rfl rfl) h77) ?_
      refine x_ic T_358_27 ?_
      refine x_ic2 T_358_28 (fun _ => ?_) (fun h => absurd (show ¬ N = 4 by omega) h)
      refine x_li (z := sv) T_358_38 rfl ?_
      refine x_if T_358_40 (fun _ => ?_) (fun h => absurd (show 0 ≤ sv by omega) h)
      exact h83
  have bad : ∀ sv : Int, (N = 4 ∧ ¬ fgs (lnB l 1)) ∨ sv < 0 → WP fb (d + 16) 358 23 [some (vR (some 2281)), some (vI p), some (vI mo), some (vI (N - 2)), some (vI sv), none, none, none, none, none, none, none, none, none, none, none, none] [] σ (KC (T + 656) U σ0 S l 18 P []) := fun sv hbad => by
    by_cases q4 : N = 4
    · by_cases q5 : fgs (lnB l 1)
      · rw [if_pos q5] at har
        have sv0 : sv < 0 := hbad.resolve_left (fun c => c.2 q5)
        refine x_lr (z := some 2281) T_358_23 rfl ?_
        refine x_gI (z := N) T_358_24 (Or.inl F_17_77) (PM.t hP) (Eq.trans (PM.nS hP 2281 77 77 rfl rfl rfl) h77) ?_
        refine x_ic T_358_27 ?_
        refine x_ic2 T_358_28 (fun h => absurd (show ¬ N = 4 from h) (by omega)) (fun _ => ?_)
        refine x_lr (z := some 2281) T_358_31 rfl ?_
        refine x_cv1 T_358_32 mN_360 mL_360 (Nat.le_of_ble_eq_true rfl) mO_360 (PM.t hP) (Nat.le_of_ble_eq_true rfl) (har) ?_
        rintro _ σ ⟨rfl, rfl⟩
        refine cI ?_
        refine x_if T_358_35 (fun h => absurd (show (1 : Int) = 0 from h) (by decide)) (fun _ => ?_)
        refine x_li (z := sv) T_358_38 rfl ?_
        refine x_if T_358_40 (fun h => absurd (show 0 ≤ sv from h) (by omega)) (fun _ => ?_)
        refine x_ic T_358_43 ?_
        refine x_ri T_358_45 ?_
        exact ⟨S, rfl, hP, hK.mono (by omega), SX_rfl⟩
      · rw [if_neg q5] at har
        refine x_lr (z := some 2281) T_358_23 rfl ?_
        refine x_gI (z := N) T_358_24 (Or.inl F_17_77) (PM.t hP) (Eq.trans (PM.nS hP 2281 77 77 rfl rfl rfl) h77) ?_
        refine x_ic T_358_27 ?_
        refine x_ic2 T_358_28 (fun h => absurd (show ¬ N = 4 from h) (by omega)) (fun _ => ?_)
        refine x_lr (z := some 2281) T_358_31 rfl ?_
        refine x_cv1 T_358_32 mN_360 mL_360 (Nat.le_of_ble_eq_true rfl) mO_360 (PM.t hP) (Nat.le_of_ble_eq_true rfl) (har) ?_
        rintro _ σ ⟨rfl, rfl⟩
        refine cI ?_
        refine x_if T_358_35 (fun _ => ?_) (fun h => absurd (show (0 : Int) = 0 by decide) h)
        refine x_ic T_358_43 ?_
        refine x_ri T_358_45 ?_
        exact ⟨S, rfl, hP, hK.mono (by omega), SX_rfl⟩
    · have sv0 : sv < 0 := hbad.resolve_left (fun c => q4 c.1)
      refine x_lr (z := some 2281) T_358_23 rfl ?_
      refine x_gI (z := N) T_358_24 (Or.inl F_17_77) (PM.t hP) (Eq.trans (PM.nS hP 2281 77 77 rfl rfl rfl) h77) ?_
      refine x_ic T_358_27 ?_
      refine x_ic2 T_358_28 (fun _ => ?_) (fun h => absurd (show ¬ N = 4 by omega) h)
      refine x_li (z := sv) T_358_38 rfl ?_
      refine x_if T_358_40 (fun h => absurd (show 0 ≤ sv from h) (by omega)) (fun _ => ?_)
      refine x_ic T_358_43 ?_
      refine x_ri T_358_45 ?_
      exact ⟨S, rfl, hP, hK.mono (by omega), SX_rfl⟩
  obtain ⟨sv, hsv⟩ : ∃ sv, dgV (lnB l (N - 2)) 2 = sv := ⟨_, rfl⟩
  rw [hsv] at hdg key hdr ⊢
  rcases hmo with rfl | rfl
  · by_cases q : N = 4 ∧ ¬ fgs (lnB l 1)
    · have hb := bad 0 (Or.inl q)
      rw [if_pos (Or.inl q)]
      refine CL_in mL_358 rfl ?_
      show WP fb _ 358 0 [some (vR (some 2281)), some (vI p), some (vI 0), none, none, none, none, none, none, none, none, none, none, none, none, none, none] [] σ _
      refine x_lr (z := some 2281) T_358_0 rfl ?_
      refine x_gI (z := N) T_358_1 (Or.inl F_17_77) (PM.t hP) (Eq.trans (PM.nS hP 2281 77 77 rfl rfl rfl) h77) ?_
      refine x_ic T_358_4 ?_
      refine x_ib (w := (N - 2)) T_358_5 (fun h => absurd h.1 (by decide)) (w32_id (by omega) (by omega)) ?_
      refine x_si (ls1 := [some (vR (some 2281)), some (vI p), some (vI 0), some (vI (N - 2)), none, none, none, none, none, none, none, none, none, none, none, none, none]) T_358_6 rfl ?_
      refine x_li (z := 0) T_358_7 rfl ?_
      refine x_if T_358_8 (fun _ => ?_) (fun h => absurd (show (0 : Int) = 0 by decide) h)
      refine x_ic T_358_20 ?_
      refine x_si (ls1 := [some (vR (some 2281)), some (vI p), some (vI 0), some (vI (N - 2)), some (vI 0), none, none, none, none, none, none, none, none, none, none, none, none]) T_358_21 rfl ?_
      exact hb
    · have hk := key 0 (fun _ => rfl) (fun c => absurd c (by decide)) q
      rw [if_neg (fun c => c.elim q (fun c => absurd c.1 (by decide)))]
      refine CL_in mL_358 rfl ?_
      show WP fb _ 358 0 [some (vR (some 2281)), some (vI p), some (vI 0), none, none, none, none, none, none, none, none, none, none, none, none, none, none] [] σ _
      refine x_lr (z := some 2281) T_358_0 rfl ?_
      refine x_gI (z := N) T_358_1 (Or.inl F_17_77) (PM.t hP) (Eq.trans (PM.nS hP 2281 77 77 rfl rfl rfl) h77) ?_
      refine x_ic T_358_4 ?_
      refine x_ib (w := (N - 2)) T_358_5 (fun h => absurd h.1 (by decide)) (w32_id (by omega) (by omega)) ?_
      refine x_si (ls1 := [some (vR (some 2281)), some (vI p), some (vI 0), some (vI (N - 2)), none, none, none, none, none, none, none, none, none, none, none, none, none]) T_358_6 rfl ?_
      refine x_li (z := 0) T_358_7 rfl ?_
      refine x_if T_358_8 (fun _ => ?_) (fun h => absurd (show (0 : Int) = 0 by decide) h)
      refine x_ic T_358_20 ?_
      refine x_si (ls1 := [some (vR (some 2281)), some (vI p), some (vI 0), some (vI (N - 2)), some (vI 0), none, none, none, none, none, none, none, none, none, none, none, none]) T_358_21 rfl ?_
      exact hk
  · by_cases q : (N = 4 ∧ ¬ fgs (lnB l 1)) ∨ sv < 0
    · have e : (N = 4 ∧ ¬ fgs (lnB l 1)) ∨ ((1 : Int) = 1 ∧ sv < 0) := q.imp id (fun a => ⟨rfl, a⟩)
      have hb := bad sv q
      rw [if_pos e]
      refine CL_in mL_358 rfl ?_
      show WP fb _ 358 0 [some (vR (some 2281)), some (vI p), some (vI 1), none, none, none, none, none, none, none, none, none, none, none, none, none, none] [] σ _
      refine x_lr (z := some 2281) T_358_0 rfl ?_
      refine x_gI (z := N) T_358_1 (Or.inl F_17_77) (PM.t hP) (Eq.trans (PM.nS hP 2281 77 77 rfl rfl rfl) h77) ?_
      refine x_ic T_358_4 ?_
      refine x_ib (w := (N - 2)) T_358_5 (fun h => absurd h.1 (by decide)) (w32_id (by omega) (by omega)) ?_
      refine x_si (ls1 := [some (vR (some 2281)), some (vI p), some (vI 1), some (vI (N - 2)), none, none, none, none, none, none, none, none, none, none, none, none, none]) T_358_6 rfl ?_
      refine x_li (z := 1) T_358_7 rfl ?_
      refine x_if T_358_8 (fun h => absurd (show (1 : Int) = 0 from h) (by decide)) (fun _ => ?_)
      refine x_lr (z := some 2281) T_358_11 rfl ?_
      refine x_li (z := (N - 2)) T_358_12 rfl ?_
      refine x_ic T_358_13 ?_
      refine x_cv3 T_358_14 mN_359 mL_359 (Nat.le_of_ble_eq_true rfl) mO_359 (PM.t hP) (Nat.le_of_ble_eq_true rfl) (hdg) ?_
      rintro _ σ ⟨rfl, rfl⟩
      refine cI ?_
      refine x_goto T_358_17 ?_
      refine x_si (ls1 := [some (vR (some 2281)), some (vI p), some (vI 1), some (vI (N - 2)), some (vI sv), none, none, none, none, none, none, none, none, none, none, none, none]) T_358_21 rfl ?_
      exact hb
    · have hk := key sv (fun c => absurd c (by decide)) (fun _ => ⟨rfl, by omega⟩) (fun c => q (Or.inl c))
      rw [if_neg (fun c => q (c.imp id (fun a => a.2)))]
      refine CL_in mL_358 rfl ?_
      show WP fb _ 358 0 [some (vR (some 2281)), some (vI p), some (vI 1), none, none, none, none, none, none, none, none, none, none, none, none, none, none] [] σ _
      refine x_lr (z := some 2281) T_358_0 rfl ?_
      refine x_gI (z := N) T_358_1 (Or.inl F_17_77) (PM.t hP) (Eq.trans (PM.nS hP 2281 77 77 rfl rfl rfl) h77) ?_
      refine x_ic T_358_4 ?_
      refine x_ib (w := (N - 2)) T_358_5 (fun h => absurd h.1 (by decide)) (w32_id (by omega) (by omega)) ?_
      refine x_si (ls1 := [some (vR (some 2281)), some (vI p), some (vI 1), some (vI (N - 2)), none, none, none, none, none, none, none, none, none, none, none, none, none]) T_358_6 rfl ?_
      refine x_li (z := 1) T_358_7 rfl ?_
      refine x_if T_358_8 (fun h => absurd (show (1 : Int) = 0 from h) (by decide)) (fun _ => ?_)
      refine x_lr (z := some 2281) T_358_11 rfl ?_
      refine x_li (z := (N - 2)) T_358_12 rfl ?_
      refine x_ic T_358_13 ?_
      refine x_cv3 T_358_14 mN_359 mL_359 (Nat.le_of_ble_eq_true rfl) mO_359 (PM.t hP) (Nat.le_of_ble_eq_true rfl) (hdg) ?_
      rintro _ σ ⟨rfl, rfl⟩
      refine cI ?_
      refine x_goto T_358_17 ?_
      refine x_si (ls1 := [some (vR (some 2281)), some (vI p), some (vI 1), some (vI (N - 2)), some (vI sv), none, none, none, none, none, none, none, none, none, none, none, none]) T_358_21 rfl ?_
      exact hk
end MBIND4
