/-! Commands: mv, size, chmod. -/
theorem T_388_8 : hTab 388 8 = some ((3, 0, 2, []), 9) := rfl
theorem T_388_9 : hTab 388 9 = some ((3, 1, 0, []), 10) := rfl
theorem T_388_10 : hTab 388 10 = some ((0, 0, 1, []), 11) := rfl
theorem T_388_11 : hTab 388 11 = some ((0, 0, 0, []), 12) := rfl
theorem T_388_12 : hTab 388 12 = some ((31, 327, 0, []), 15) := rfl
theorem T_388_15 : hTab 388 15 = some ((4, 4, 0, []), 17) := rfl
theorem T_388_17 : hTab 388 17 = some ((3, 4, 0, []), 19) := rfl
theorem T_388_19 : hTab 388 19 = some ((18, 5, Int.ofNat 27, []), 22) := rfl
theorem T_388_22 : hTab 388 22 = some ((3, 4, 0, []), 24) := rfl
theorem T_388_24 : hTab 388 24 = some ((22, 0, Int.ofNat 71, []), 27) := rfl
theorem T_388_27 : hTab 388 27 = some ((3, 0, 2, []), 28) := rfl
theorem T_388_28 : hTab 388 28 = some ((3, 0, 2, []), 29) := rfl
theorem T_388_29 : hTab 388 29 = some ((24, 17, Int.ofNat 86, []), 32) := rfl
theorem T_388_32 : hTab 388 32 = some ((3, 0, 2, []), 33) := rfl
theorem T_388_33 : hTab 388 33 = some ((24, 17, Int.ofNat 91, []), 36) := rfl
theorem T_388_36 : hTab 388 36 = some ((0, 0, 1, []), 37) := rfl
theorem T_388_37 : hTab 388 37 = some ((10, 1, 0, []), 38) := rfl
theorem T_388_38 : hTab 388 38 = some ((26, 0, 0, []), 39) := rfl
theorem T_388_39 : hTab 388 39 = some ((3, 0, 2, []), 40) := rfl
theorem T_388_40 : hTab 388 40 = some ((24, 17, Int.ofNat 87, []), 43) := rfl
theorem T_388_43 : hTab 388 43 = some ((3, 0, 2, []), 44) := rfl
theorem T_388_44 : hTab 388 44 = some ((24, 17, Int.ofNat 91, []), 47) := rfl
theorem T_388_47 : hTab 388 47 = some ((0, 0, 1, []), 48) := rfl
theorem T_388_48 : hTab 388 48 = some ((10, 1, 0, []), 49) := rfl
theorem T_388_49 : hTab 388 49 = some ((26, 0, 0, []), 50) := rfl
theorem T_388_50 : hTab 388 50 = some ((3, 0, 2, []), 51) := rfl
theorem T_388_51 : hTab 388 51 = some ((24, 17, Int.ofNat 75, []), 54) := rfl
theorem T_388_54 : hTab 388 54 = some ((0, 0, 2, []), 55) := rfl
theorem T_388_55 : hTab 388 55 = some ((26, 0, 0, []), 56) := rfl
theorem T_388_56 : hTab 388 56 = some ((3, 0, 2, []), 57) := rfl
theorem T_388_57 : hTab 388 57 = some ((24, 17, Int.ofNat 76, []), 60) := rfl
theorem T_388_60 : hTab 388 60 = some ((0, 0, 2, []), 61) := rfl
theorem T_388_61 : hTab 388 61 = some ((26, 0, 0, []), 62) := rfl
theorem T_388_62 : hTab 388 62 = some ((1, 0, 4294967295, []), 65) := rfl
theorem T_388_65 : hTab 388 65 = some ((1, 0, (-1), []), 68) := rfl
theorem T_388_68 : hTab 388 68 = some ((31, 389, 0, []), 71) := rfl
theorem T_388_71 : hTab 388 71 = some ((33, 1, 0, []), 72) := rfl
theorem T_388_80 : hTab 388 80 = some ((3, 0, 2, []), 81) := rfl
theorem T_388_81 : hTab 388 81 = some ((0, 0, 1, []), 82) := rfl
theorem T_388_82 : hTab 388 82 = some ((0, 0, 10, []), 84) := rfl
theorem T_388_84 : hTab 388 84 = some ((0, 0, 4, []), 85) := rfl
theorem T_388_85 : hTab 388 85 = some ((31, 390, 0, []), 88) := rfl
theorem T_388_88 : hTab 388 88 = some ((4, 4, 0, []), 90) := rfl
theorem T_388_90 : hTab 388 90 = some ((3, 4, 0, []), 92) := rfl
theorem T_388_92 : hTab 388 92 = some ((18, 3, Int.ofNat 100, []), 95) := rfl
theorem T_388_95 : hTab 388 95 = some ((0, 0, 18, []), 97) := rfl
theorem T_388_97 : hTab 388 97 = some ((22, 0, Int.ofNat 107, []), 100) := rfl
theorem T_388_100 : hTab 388 100 = some ((3, 0, 2, []), 101) := rfl
theorem T_388_101 : hTab 388 101 = some ((3, 1, 0, []), 102) := rfl
theorem T_388_102 : hTab 388 102 = some ((0, 0, 2, []), 103) := rfl
theorem T_388_103 : hTab 388 103 = some ((0, 0, 0, []), 104) := rfl
theorem T_388_104 : hTab 388 104 = some ((31, 327, 0, []), 107) := rfl
theorem T_388_107 : hTab 388 107 = some ((4, 5, 0, []), 109) := rfl
theorem T_388_109 : hTab 388 109 = some ((3, 5, 0, []), 111) := rfl
theorem T_388_111 : hTab 388 111 = some ((18, 5, Int.ofNat 119, []), 114) := rfl
theorem T_388_114 : hTab 388 114 = some ((3, 5, 0, []), 116) := rfl
theorem T_388_116 : hTab 388 116 = some ((22, 0, Int.ofNat 153, []), 119) := rfl
theorem T_388_119 : hTab 388 119 = some ((3, 0, 2, []), 120) := rfl
theorem T_388_120 : hTab 388 120 = some ((3, 0, 2, []), 121) := rfl
theorem T_388_121 : hTab 388 121 = some ((24, 17, Int.ofNat 86, []), 124) := rfl
theorem T_388_124 : hTab 388 124 = some ((3, 0, 2, []), 125) := rfl
theorem T_388_125 : hTab 388 125 = some ((24, 17, Int.ofNat 91, []), 128) := rfl
theorem T_388_128 : hTab 388 128 = some ((0, 0, 1, []), 129) := rfl
theorem T_388_129 : hTab 388 129 = some ((10, 1, 0, []), 130) := rfl
theorem T_388_130 : hTab 388 130 = some ((26, 0, 0, []), 131) := rfl
theorem T_388_131 : hTab 388 131 = some ((3, 0, 2, []), 132) := rfl
theorem T_388_132 : hTab 388 132 = some ((24, 17, Int.ofNat 87, []), 135) := rfl
theorem T_388_135 : hTab 388 135 = some ((3, 0, 2, []), 136) := rfl
theorem T_388_136 : hTab 388 136 = some ((24, 17, Int.ofNat 91, []), 139) := rfl
theorem T_388_139 : hTab 388 139 = some ((0, 0, 1, []), 140) := rfl
theorem T_388_140 : hTab 388 140 = some ((10, 1, 0, []), 141) := rfl
theorem T_388_141 : hTab 388 141 = some ((26, 0, 0, []), 142) := rfl
theorem T_388_142 : hTab 388 142 = some ((0, 0, 0, []), 143) := rfl
theorem T_388_143 : hTab 388 143 = some ((0, 0, 0, []), 144) := rfl
theorem T_388_144 : hTab 388 144 = some ((1, 0, 4294967295, []), 147) := rfl
theorem T_388_147 : hTab 388 147 = some ((3, 4, 0, []), 149) := rfl
theorem T_388_149 : hTab 388 149 = some ((14, 0, 0, []), 150) := rfl
theorem T_388_150 : hTab 388 150 = some ((31, 389, 0, []), 153) := rfl
theorem T_388_153 : hTab 388 153 = some ((33, 1, 0, []), 154) := rfl
theorem T_389_0 : hTab 389 0 = some ((3, 4, 0, []), 2) := rfl
theorem T_389_2 : hTab 389 2 = some ((3, 3, 0, []), 3) := rfl
theorem T_389_3 : hTab 389 3 = some ((10, 1, 0, []), 4) := rfl
theorem T_389_4 : hTab 389 4 = some ((4, 9, 0, []), 6) := rfl
theorem T_389_6 : hTab 389 6 = some ((3, 0, 2, []), 7) := rfl
theorem T_389_7 : hTab 389 7 = some ((0, 0, 126, []), 9) := rfl
theorem T_389_9 : hTab 389 9 = some ((0, 0, 1, []), 10) := rfl
theorem T_389_10 : hTab 389 10 = some ((31, 228, 0, []), 13) := rfl
theorem T_389_13 : hTab 389 13 = some ((3, 0, 2, []), 14) := rfl
theorem T_389_14 : hTab 389 14 = some ((0, 0, 4, []), 15) := rfl
theorem T_389_15 : hTab 389 15 = some ((3, 2, 0, []), 16) := rfl
theorem T_389_16 : hTab 389 16 = some ((14, 0, 0, []), 17) := rfl
theorem T_389_17 : hTab 389 17 = some ((31, 229, 0, []), 20) := rfl
theorem T_389_20 : hTab 389 20 = some ((3, 0, 2, []), 21) := rfl
theorem T_389_21 : hTab 389 21 = some ((0, 0, 2, []), 22) := rfl
theorem T_389_22 : hTab 389 22 = some ((0, 0, 49, []), 24) := rfl
theorem T_389_24 : hTab 389 24 = some ((3, 9, 0, []), 26) := rfl
theorem T_389_26 : hTab 389 26 = some ((10, 0, 0, []), 27) := rfl
theorem T_389_27 : hTab 389 27 = some ((14, 0, 0, []), 28) := rfl
theorem T_389_28 : hTab 389 28 = some ((31, 229, 0, []), 31) := rfl
theorem T_389_31 : hTab 389 31 = some ((3, 0, 2, []), 32) := rfl
theorem T_389_32 : hTab 389 32 = some ((0, 0, 2, []), 33) := rfl
theorem T_389_33 : hTab 389 33 = some ((0, 0, 47, []), 35) := rfl
theorem T_389_35 : hTab 389 35 = some ((3, 9, 0, []), 37) := rfl
theorem T_389_37 : hTab 389 37 = some ((10, 0, 0, []), 38) := rfl
theorem T_389_38 : hTab 389 38 = some ((14, 0, 0, []), 39) := rfl
theorem T_389_39 : hTab 389 39 = some ((31, 229, 0, []), 42) := rfl
theorem T_389_42 : hTab 389 42 = some ((3, 0, 2, []), 43) := rfl
theorem T_389_43 : hTab 389 43 = some ((0, 0, 2, []), 44) := rfl
theorem T_389_44 : hTab 389 44 = some ((1, 0, 65535, []), 47) := rfl
theorem T_389_47 : hTab 389 47 = some ((31, 229, 0, []), 50) := rfl
theorem T_389_50 : hTab 389 50 = some ((3, 0, 2, []), 51) := rfl
theorem T_389_51 : hTab 389 51 = some ((0, 0, 4, []), 52) := rfl
theorem T_389_52 : hTab 389 52 = some ((1, 0, 4294967295, []), 55) := rfl
theorem T_389_55 : hTab 389 55 = some ((31, 229, 0, []), 58) := rfl
theorem T_389_58 : hTab 389 58 = some ((3, 0, 2, []), 59) := rfl
theorem T_389_59 : hTab 389 59 = some ((0, 0, 1, []), 60) := rfl
theorem T_389_60 : hTab 389 60 = some ((1, 0, 255, []), 63) := rfl
theorem T_389_63 : hTab 389 63 = some ((31, 229, 0, []), 66) := rfl
theorem T_389_66 : hTab 389 66 = some ((3, 0, 2, []), 67) := rfl
theorem T_389_67 : hTab 389 67 = some ((0, 0, 4, []), 68) := rfl
theorem T_389_68 : hTab 389 68 = some ((1, 0, 4294967295, []), 71) := rfl
theorem T_389_71 : hTab 389 71 = some ((31, 229, 0, []), 74) := rfl
theorem T_389_74 : hTab 389 74 = some ((3, 0, 2, []), 75) := rfl
theorem T_389_75 : hTab 389 75 = some ((0, 0, 8, []), 77) := rfl
theorem T_389_77 : hTab 389 77 = some ((1, 0, (-1), []), 80) := rfl
theorem T_389_80 : hTab 389 80 = some ((31, 229, 0, []), 83) := rfl
theorem T_389_83 : hTab 389 83 = some ((3, 0, 2, []), 84) := rfl
theorem T_389_84 : hTab 389 84 = some ((0, 0, 4, []), 85) := rfl
theorem T_389_85 : hTab 389 85 = some ((3, 5, 1, []), 87) := rfl
theorem T_389_87 : hTab 389 87 = some ((31, 229, 0, []), 90) := rfl
theorem T_389_90 : hTab 389 90 = some ((3, 0, 2, []), 91) := rfl
theorem T_389_91 : hTab 389 91 = some ((0, 0, 4, []), 92) := rfl
theorem T_389_92 : hTab 389 92 = some ((1, 0, 4294967295, []), 95) := rfl
theorem T_389_95 : hTab 389 95 = some ((31, 229, 0, []), 98) := rfl
theorem T_389_98 : hTab 389 98 = some ((3, 0, 2, []), 99) := rfl
theorem T_389_99 : hTab 389 99 = some ((0, 0, 4, []), 100) := rfl
theorem T_389_100 : hTab 389 100 = some ((1, 0, 4294967295, []), 103) := rfl
theorem T_389_103 : hTab 389 103 = some ((31, 229, 0, []), 106) := rfl
theorem T_389_106 : hTab 389 106 = some ((3, 0, 2, []), 107) := rfl
theorem T_389_107 : hTab 389 107 = some ((0, 0, 8, []), 109) := rfl
theorem T_389_109 : hTab 389 109 = some ((3, 7, 1, []), 111) := rfl
theorem T_389_111 : hTab 389 111 = some ((31, 229, 0, []), 114) := rfl
theorem T_389_114 : hTab 389 114 = some ((3, 0, 2, []), 115) := rfl
theorem T_389_115 : hTab 389 115 = some ((0, 0, 2, []), 116) := rfl
theorem T_389_116 : hTab 389 116 = some ((3, 9, 0, []), 118) := rfl
theorem T_389_118 : hTab 389 118 = some ((14, 0, 0, []), 119) := rfl
theorem T_389_119 : hTab 389 119 = some ((31, 229, 0, []), 122) := rfl
theorem T_389_122 : hTab 389 122 = some ((3, 3, 0, []), 123) := rfl
theorem T_389_123 : hTab 389 123 = some ((4, 10, 0, []), 125) := rfl
theorem T_389_151 : hTab 389 151 = some ((3, 0, 2, []), 152) := rfl
theorem T_389_152 : hTab 389 152 = some ((0, 0, 2, []), 153) := rfl
theorem T_389_153 : hTab 389 153 = some ((1, 0, 0, []), 154) := rfl
theorem T_389_154 : hTab 389 154 = some ((31, 229, 0, []), 157) := rfl
theorem T_389_157 : hTab 389 157 = some ((3, 0, 2, []), 158) := rfl
theorem T_389_158 : hTab 389 158 = some ((0, 0, 2, []), 159) := rfl
theorem T_389_159 : hTab 389 159 = some ((1, 0, 0, []), 160) := rfl
theorem T_389_160 : hTab 389 160 = some ((31, 229, 0, []), 163) := rfl
theorem T_389_163 : hTab 389 163 = some ((3, 0, 2, []), 164) := rfl
theorem T_389_164 : hTab 389 164 = some ((0, 0, 2, []), 165) := rfl
theorem T_389_165 : hTab 389 165 = some ((1, 0, 0, []), 166) := rfl
theorem T_389_166 : hTab 389 166 = some ((31, 229, 0, []), 169) := rfl
theorem T_389_169 : hTab 389 169 = some ((3, 0, 2, []), 170) := rfl
theorem T_389_170 : hTab 389 170 = some ((3, 1, 0, []), 171) := rfl
theorem T_389_171 : hTab 389 171 = some ((31, 231, 0, []), 174) := rfl
theorem T_389_174 : hTab 389 174 = some ((33, 1, 0, []), 175) := rfl
theorem mN_388 : hmN 388 = 3 := by decide +kernel
theorem mL_388 : hmL 388 = 7 := by decide +kernel
theorem mK_388 : hmK 388 = 1 := by decide +kernel
theorem mO_388 : hmO 388 = 17 := by decide +kernel
def wBytes (S : qR) (l : List Int) (w : Int) : List Int := lnB l w
def cMv (P : qR) (p : Int) (wd nm : List Int) : Int × qR × List Ch := if 0 < (kWW P p 0 wd).1 then ((kWW P p 0 wd).1, (kWW P p 0 wd).2.1, []) else (tE (kWW P p 0 wd).2.1 (kWW P p 0 wd).2.2.1 (mWst (kWW P p 0 wd).2.2.2.1 nm 4294967295 (-1)), tP (kWW P p 0 wd).2.1 (kWW P p 0 wd).2.2.1 (mWst (kWW P p 0 wd).2.2.2.1 nm 4294967295 (-1)), [(kWW P p 0 wd).2.2])
def cSize (P : qR) (p : Int) (wn wd : List Int) : Int × qR × List Ch := if nmN wn 10 4 < 0 then (18, P, []) else if 0 < (kWW P p 0 wd).1 then ((kWW P p 0 wd).1, (kWW P p 0 wd).2.1, []) else (tE (kWW P p 0 wd).2.1 (kWW P p 0 wd).2.2.1 (mWst (kWW P p 0 wd).2.2.2.1 [] 4294967295 (nmN wn 10 4)), tP (kWW P p 0 wd).2.1 (kWW P p 0 wd).2.2.1 (mWst (kWW P p 0 wd).2.2.2.1 [] 4294967295 (nmN wn 10 4)), [(kWW P p 0 wd).2.2])
/-- chmod, behind its walk -/
def cChm2 (P : qR) (c : Ch) (nine : Int) : Int × qR × List Ch := if 0 < tE P c.1 (mOne 124 c.2.1) then (tE P c.1 (mOne 124 c.2.1), tP P c.1 (mOne 124 c.2.1), [c]) else (tE (tP P c.1 (mOne 124 c.2.1)) c.1 (mWst c.2.1 [] (or64 (and64 (nu (lg (tA P c.1 (mOne 124 c.2.1))) 30 4) (-512)) nine) (-1)), tP (tP P c.1 (mOne 124 c.2.1)) c.1 (mWst c.2.1 [] (or64 (and64 (nu (lg (tA P c.1 (mOne 124 c.2.1))) 30 4) (-512)) nine) (-1)), [c])
def cChm (P : qR) (p : Int) (wn wd : List Int) : Int × qR × List Ch := if nmN wn 8 3 < 0 then (18, P, []) else if 0 < (kWW P p 0 wd).1 then ((kWW P p 0 wd).1, (kWW P p 0 wd).2.1, []) else cChm2 (kWW P p 0 wd).2.1 (kWW P p 0 wd).2.2 (nmN wn 8 3)
section MCMD2
variable {fb : Bool} {d : Nat} {σ0 σ : hM} {P Q R S S1 S2 : qR} {T U s w g u p k e t z o thr pt : Int} {l nm wd : List Int} {h : List Ch} {a f : Int → Int} {x : Int × Int} {c : Ch}
theorem mWst_0 {fd mode len : Int} : lg (mWst fd nm mode len) 0 = 126 := rfl
theorem mWst_len {fd mode len : Int} : ((mWst fd nm mode len).length : Int) = 58 + nm.length := by
  unfold mWst
  rw [List.length_append, List.length_append, List.length_append, List.length_append, leb_len]
  show ((52 + nm.length + 2 + 2 + 2 : Nat) : Int) = _
  omega
theorem g_askWstat {f0 a0 b0 mode len : Int} (hP : PM σ0 P S σ) (hJ : IV true T U S) (hG : GI T U P) (hT : T + 49 ≤ 2147483000) (hs : 0 ≤ s ∧ s < 3) (hab : 0 ≤ a0 ∧ a0 ≤ b0 ∧ b0 ≤ 100) (hnm : seg (S 2343) a0 (b0 - a0).toNat = nm) : CL fb (d + 11) 389 [vR (some 2281), vI s, vI f0, vI a0, vI b0, vL mode, vL len] σ (rG T U σ0 P S s (mWst f0 nm mode len)) := by
  obtain ⟨n, hn⟩ : ∃ n, b0 - a0 = n := ⟨_, rfl⟩
  have hnl : (nm.length : Int) = n := by rw [← hnm, seg_len]; omega
  obtain ⟨lq, hlq⟩ : ∃ lq, leb 1 126 ++ leb 2 1 ++ leb 4 f0 ++ leb 2 (49 + n) ++ leb 2 (47 + n) ++ leb 2 65535 ++ leb 4 4294967295 ++ leb 1 255 ++ leb 4 4294967295 ++ leb 8 (-1) ++ leb 4 mode ++ leb 4 4294967295 ++ leb 4 4294967295 ++ leb 8 len ++ leb 2 n = lq := ⟨_, rfl⟩
  have e : lq ++ nm ++ leb 2 0 ++ leb 2 0 ++ leb 2 0 = mWst f0 nm mode len := by
    unfold mWst
    rw [← hlq, hnl]
  refine CL_in mL_389 rfl ?_
  show WP fb _ 389 0 [some (vR (some 2281)), some (vI s), some (vI f0), some (vI a0), some (vI b0), some (vL mode), none, some (vL len), none, none, none] [] σ _
  refine x_li (z := b0) T_389_0 rfl ?_
  refine x_li (z := a0) T_389_2 rfl ?_
  refine x_ib (w := n) T_389_3 (fun h => absurd h.1 (by decide)) (w32_e hn (by omega) (by omega)) ?_
  refine x_si (ls1 := [some (vR (some 2281)), some (vI s), some (vI f0), some (vI a0), some (vI b0), some (vL mode), none, some (vL len), none, some (vI n), none]) T_389_4 rfl ?_
  refine x_lr (z := some 2281) T_389_6 rfl ?_
  refine x_ic T_389_7 ?_
  refine x_ic T_389_9 ?_
  refine x_cv3 T_389_10 mN_228 mL_228 (Nat.le_of_ble_eq_true rfl) mO_228 (PM.t hP) (Nat.le_of_ble_eq_true rfl) (r_begin hP hJ) ?_
  rintro _ σ ⟨rfl, S1, hP, hQ⟩
  refine cV ?_
  refine x_lr (z := some 2281) T_389_13 rfl ?_
  refine x_ic T_389_14 ?_
  refine x_li (z := f0) T_389_15 rfl ?_
  refine x_i2l T_389_16 ?_
  refine x_cv3 T_389_17 mN_229 mL_229 (Nat.le_of_ble_eq_true rfl) mO_229 (PM.t hP) (Nat.le_of_ble_eq_true rfl) (r_askPut 4 rfl hP hQ (by decide) (by omega)) ?_
  rintro _ σ ⟨rfl, S1, hP, hQ⟩
  refine cV ?_
  refine x_lr (z := some 2281) T_389_20 rfl ?_
  refine x_ic T_389_21 ?_
  refine x_ic T_389_22 ?_
  refine x_li (z := n) T_389_24 rfl ?_
  refine x_ib (w := (49 + n)) T_389_26 (fun h => absurd h.1 (by decide)) (w32_id (by omega) (by omega)) ?_
  refine x_i2l T_389_27 ?_
  refine x_cv3 T_389_28 mN_229 mL_229 (Nat.le_of_ble_eq_true rfl) mO_229 (PM.t hP) (Nat.le_of_ble_eq_true rfl) (r_askPut 2 rfl hP hQ (by decide) (by omega)) ?_
  rintro _ σ ⟨rfl, S1, hP, hQ⟩
  refine cV ?_
  refine x_lr (z := some 2281) T_389_31 rfl ?_
  refine x_ic T_389_32 ?_
  refine x_ic T_389_33 ?_
  refine x_li (z := n) T_389_35 rfl ?_
  refine x_ib (w := (47 + n)) T_389_37 (fun h => absurd h.1 (by decide)) (w32_id (by omega) (by omega)) ?_
  refine x_i2l T_389_38 ?_
  refine x_cv3 T_389_39 mN_229 mL_229 (Nat.le_of_ble_eq_true rfl) mO_229 (PM.t hP) (Nat.le_of_ble_eq_true rfl) (r_askPut 2 rfl hP hQ (by decide) (by omega)) ?_
  rintro _ σ ⟨rfl, S1, hP, hQ⟩
  refine cV ?_
  refine x_lr (z := some 2281) T_389_42 rfl ?_
  refine x_ic T_389_43 ?_
  refine x_lc T_389_44 ?_
  refine x_cv3 T_389_47 mN_229 mL_229 (Nat.le_of_ble_eq_true rfl) mO_229 (PM.t hP) (Nat.le_of_ble_eq_true rfl) (r_askPut 2 rfl hP hQ (by decide) (by omega)) ?_
  rintro _ σ ⟨rfl, S1, hP, hQ⟩
  refine cV ?_
  refine x_lr (z := some 2281) T_389_50 rfl ?_
  refine x_ic T_389_51 ?_
  refine x_lc T_389_52 ?_
  refine x_cv3 T_389_55 mN_229 mL_229 (Nat.le_of_ble_eq_true rfl) mO_229 (PM.t hP) (Nat.le_of_ble_eq_true rfl) (r_askPut 4 rfl hP hQ (by decide) (by omega)) ?_
  rintro _ σ ⟨rfl, S1, hP, hQ⟩
  refine cV ?_
  refine x_lr (z := some 2281) T_389_58 rfl ?_
  refine x_ic T_389_59 ?_
  refine x_lc T_389_60 ?_
  refine x_cv3 T_389_63 mN_229 mL_229 (Nat.le_of_ble_eq_true rfl) mO_229 (PM.t hP) (Nat.le_of_ble_eq_true rfl) (r_askPut 1 rfl hP hQ (by decide) (by omega)) ?_
  rintro _ σ ⟨rfl, S1, hP, hQ⟩
  refine cV ?_
  refine x_lr (z := some 2281) T_389_66 rfl ?_
  refine x_ic T_389_67 ?_
  refine x_lc T_389_68 ?_
  refine x_cv3 T_389_71 mN_229 mL_229 (Nat.le_of_ble_eq_true rfl) mO_229 (PM.t hP) (Nat.le_of_ble_eq_true rfl) (r_askPut 4 rfl hP hQ (by decide) (by omega)) ?_
  rintro _ σ ⟨rfl, S1, hP, hQ⟩
  refine cV ?_
  refine x_lr (z := some 2281) T_389_74 rfl ?_
  refine x_ic T_389_75 ?_
  refine x_lc T_389_77 ?_
  refine x_cv3 T_389_80 mN_229 mL_229 (Nat.le_of_ble_eq_true rfl) mO_229 (PM.t hP) (Nat.le_of_ble_eq_true rfl) (r_askPut 8 rfl hP hQ (by decide) (by omega)) ?_
  rintro _ σ ⟨rfl, S1, hP, hQ⟩
  refine cV ?_
  refine x_lr (z := some 2281) T_389_83 rfl ?_
  refine x_ic T_389_84 ?_
  refine x_ll (z := mode) T_389_85 rfl ?_
  refine x_cv3 T_389_87 mN_229 mL_229 (Nat.le_of_ble_eq_true rfl) mO_229 (PM.t hP) (Nat.le_of_ble_eq_true rfl) (r_askPut 4 rfl hP hQ (by decide) (by omega)) ?_
  rintro _ σ ⟨rfl, S1, hP, hQ⟩
  refine cV ?_
  refine x_lr (z := some 2281) T_389_90 rfl ?_
  refine x_ic T_389_91 ?_
  refine x_lc T_389_92 ?_
  refine x_cv3 T_389_95 mN_229 mL_229 (Nat.le_of_ble_eq_true rfl) mO_229 (PM.t hP) (Nat.le_of_ble_eq_true rfl) (r_askPut 4 rfl hP hQ (by decide) (by omega)) ?_
  rintro _ σ ⟨rfl, S1, hP, hQ⟩
  refine cV ?_
  refine x_lr (z := some 2281) T_389_98 rfl ?_
  refine x_ic T_389_99 ?_
  refine x_lc T_389_100 ?_
  refine x_cv3 T_389_103 mN_229 mL_229 (Nat.le_of_ble_eq_true rfl) mO_229 (PM.t hP) (Nat.le_of_ble_eq_true rfl) (r_askPut 4 rfl hP hQ (by decide) (by omega)) ?_
  rintro _ σ ⟨rfl, S1, hP, hQ⟩
  refine cV ?_
  refine x_lr (z := some 2281) T_389_106 rfl ?_
  refine x_ic T_389_107 ?_
  refine x_ll (z := len) T_389_109 rfl ?_
  refine x_cv3 T_389_111 mN_229 mL_229 (Nat.le_of_ble_eq_true rfl) mO_229 (PM.t hP) (Nat.le_of_ble_eq_true rfl) (r_askPut 8 rfl hP hQ (by decide) (by omega)) ?_
  rintro _ σ ⟨rfl, S1, hP, hQ⟩
  refine cV ?_
  refine x_lr (z := some 2281) T_389_114 rfl ?_
  refine x_ic T_389_115 ?_
  refine x_li (z := n) T_389_116 rfl ?_
  refine x_i2l T_389_118 ?_
  refine x_cv3 T_389_119 mN_229 mL_229 (Nat.le_of_ble_eq_true rfl) mO_229 (PM.t hP) (Nat.le_of_ble_eq_true rfl) (r_askPut 2 rfl hP hQ (by decide) (by omega)) ?_
  rintro _ σ ⟨rfl, S1, hP, hQ⟩
  refine cV ?_
  refine x_li (z := a0) T_389_122 rfl ?_
  refine x_si (ls1 := [some (vR (some 2281)), some (vI s), some (vI f0), some (vI a0), some (vI b0), some (vL mode), none, some (vL len), none, some (vI n), some (vI a0)]) T_389_123 rfl ?_
  rw [hlq] at hQ
  have hQw := hQ.2.1
  refine r_wst_name (d := d + 10) (S := S) (T := T) (U := U) (a0 := a0) (b0 := b0) (lq := lq) (w0 := 4 + (lq.length : Int)) hab.1 hab.2.2 hJ ?_ ?_ (b0 - a0).toNat a0 σ _ (by omega) (Int.le_refl a0) hP ?_
  · rw [← hQw]
    omega
  · clear hP
    intro σ S3 hP hQ
    rw [hnm] at hQ
    have hQw2 : 4 + (lq.length : Int) = 60 ∨ 4 + (lq.length : Int) < 300 := by omega
    refine x_lr (z := some 2281) T_389_151 rfl ?_
    refine x_ic T_389_152 ?_
    refine x_lc T_389_153 ?_
    refine x_cv3 T_389_154 mN_229 mL_229 (Nat.le_of_ble_eq_true rfl) mO_229 (PM.t hP) (Nat.le_of_ble_eq_true rfl) (r_askPut 2 rfl hP hQ (by decide) (by omega)) ?_
    rintro _ σ ⟨rfl, S1, hP, hQ⟩
    refine cV ?_
    refine x_lr (z := some 2281) T_389_157 rfl ?_
    refine x_ic T_389_158 ?_
    refine x_lc T_389_159 ?_
    refine x_cv3 T_389_160 mN_229 mL_229 (Nat.le_of_ble_eq_true rfl) mO_229 (PM.t hP) (Nat.le_of_ble_eq_true rfl) (r_askPut 2 rfl hP hQ (by decide) (by omega)) ?_
    rintro _ σ ⟨rfl, S1, hP, hQ⟩
    refine cV ?_
    refine x_lr (z := some 2281) T_389_163 rfl ?_
    refine x_ic T_389_164 ?_
    refine x_lc T_389_165 ?_
    refine x_cv3 T_389_166 mN_229 mL_229 (Nat.le_of_ble_eq_true rfl) mO_229 (PM.t hP) (Nat.le_of_ble_eq_true rfl) (r_askPut 2 rfl hP hQ (by decide) (by omega)) ?_
    rintro _ σ ⟨rfl, S1, hP, hQ⟩
    refine cV ?_
    refine x_lr (z := some 2281) T_389_169 rfl ?_
    refine x_li (z := s) T_389_170 rfl ?_
    refine x_cv2 T_389_171 mN_231 mL_231 (Nat.le_of_ble_eq_true rfl) mO_231 (PM.t hP) (Nat.le_of_ble_eq_true rfl) ((e ▸ m_trG (d := d) hP hQ hG hT hs (by rw [e]; have := mWst_len (fd := f0) (nm := nm) (mode := mode) (len := len); omega) (by rw [e, mWst_0]; decide) (fun q => absurd q (by rw [e, mWst_0]; decide)) (fun q => absurd q (by rw [e, mWst_0]; decide)) : CL fb (d + 10) 231 [vR (some 2281), vI s] σ (rG T U σ0 P S s (mWst f0 nm mode len)))) ?_
    rintro _ σ ⟨S4, rfl, hz⟩
    refine cI ?_
    refine x_ri T_389_174 ?_
    exact ⟨S4, rfl, hz⟩
  · rw [show a0 - a0 = 0 by omega]
    show RQ T U S _ (4 + (lq.length : Int) + 0) (lq ++ [])
    rw [List.append_nil, show 4 + (lq.length : Int) + 0 = 4 + (lq.length : Int) by omega, ← hQw]
    exact hQ
theorem KS.mono {T1 : Int} (hK : KS T U P S l h) (h1 : T ≤ T1) : KS T1 U P S l h := ⟨hK.1.mono h1, hK.2.1, hK.2.2.1.mono h1 (Int.le_refl U), hK.2.2.2⟩
theorem KS.ask {r : Option AV} {σ1 : hM} {ms : List Int} {T1 : Int} (hK : KS T U P S l h) (hT : T + 4 ≤ T1) (hr : rG T U σ0 P S s ms r σ1) : ∃ S2 : qR, r = some (vI (tE P s ms)) ∧ PM σ0 (tP P s ms) S2 σ1 ∧ KS T1 U (tP P s ms) S2 l h ∧ SX scR scN S S2 ∧ AN S2 (tA P s ms) := by
  obtain ⟨S2, a1, a2, a3, a4, a5, a6⟩ := hr
  exact ⟨S2, a1, a2, ⟨a3.mono hT, hK.2.1.of KF_tP, a4.mono hT (Int.le_refl U), a6.hs hK.2.2.2.1, hK.2.2.2.2.sw a6.sk.sw⟩, SX_sc a6.sk.sw, a5⟩
theorem m_mv {cc : Int} (hP : PM σ0 P S σ) (hK : KS T U P S l []) (hp : 0 ≤ p ∧ p < 8) (hT : T + 800 ≤ 2147483000) (hw : 2 < ((lnW l).length : Int)) {Q : Option AV → hM → Prop} (hQ : ∀ r σ', KC (T + 304) U σ0 S l (cMv P p (lnB l 1) (lnB l 2)).1 (cMv P p (lnB l 1) (lnB l 2)).2.1 (cMv P p (lnB l 1) (lnB l 2)).2.2 r σ' → Q r σ') : WP fb (d + 16) 388 8 [some (vR (some 2281)), some (vI p), some (vL cc), none, none, none, none] [] σ Q := by
  have hww := k_ww (fb := fb) (d := d) (thr := 0) hP hK hp (Or.inl rfl) hT (by decide) (w := 1) ⟨by decide, by omega⟩
  have hkf := KF_kWW (thr := 0) (wd := lnB l 1) hK.1.iv hK.2.1 hp
  have hm42 : 0 ≤ P 2281 42 ∧ P 2281 42 ≤ T := IV.n hK.1.iv 42 42 rfl rfl (by decide)
  refine WP.mono ?_ hQ
  unfold cMv
  obtain ⟨e, he⟩ : ∃ e, (kWW P p 0 (lnB l 1)).1 = e := ⟨_, rfl⟩
  obtain ⟨P1, hP1⟩ : ∃ P1, (kWW P p 0 (lnB l 1)).2.1 = P1 := ⟨_, rfl⟩
  obtain ⟨c, hc⟩ : ∃ c, (kWW P p 0 (lnB l 1)).2.2 = c := ⟨_, rfl⟩
  rw [he, hP1] at hkf
  rw [he, hP1, hc] at hww
  rw [he, hP1, hc]
  by_cases q1 : 0 < e
  · rw [if_pos q1]
    rw [kHoldn (by omega)] at hww
    refine x_lr (z := some 2281) T_388_8 rfl ?_
    refine x_li (z := p) T_388_9 rfl ?_
    refine x_ic T_388_10 ?_
    refine x_ic T_388_11 ?_
    refine x_cv4 T_388_12 mN_327 mL_327 (Nat.le_of_ble_eq_true rfl) mO_327 (PM.t hP) (Nat.le_of_ble_eq_true rfl) (hww) ?_
    clear hP hww
    rintro _ σ ⟨S2, rfl, hP, hK2, hX2, -⟩
    refine cI ?_
    refine x_si (ls1 := [some (vR (some 2281)), some (vI p), some (vL cc), none, some (vI e), none, none]) T_388_15 rfl ?_
    refine x_li (z := e) T_388_17 rfl ?_
    refine x_if T_388_19 (fun h => absurd (show e ≤ 0 from h) (by omega)) (fun _ => ?_)
    refine x_li (z := e) T_388_22 rfl ?_
    refine x_goto T_388_24 ?_
    refine x_ri T_388_71 ?_
    exact ⟨S2, rfl, hP, hK2.mono (by omega), hX2⟩
  · have q2 : e = 0 := by omega
    subst q2
    rw [kHold0] at hww
    rw [if_neg q1]
    dsimp only
    refine x_lr (z := some 2281) T_388_8 rfl ?_
    refine x_li (z := p) T_388_9 rfl ?_
    refine x_ic T_388_10 ?_
    refine x_ic T_388_11 ?_
    refine x_cv4 T_388_12 mN_327 mL_327 (Nat.le_of_ble_eq_true rfl) mO_327 (PM.t hP) (Nat.le_of_ble_eq_true rfl) (hww) ?_
    clear hP hww
    rintro _ σ ⟨S2, rfl, hP, hK2, hX2, -⟩
    obtain ⟨g1, g2, g3, g4, g5, g6, g7⟩ := hK2.2.2.2.1.last
    obtain ⟨c1, c2, -⟩ := hK2.2.2.2.1.ch hK2.2.2.1
    obtain ⟨b, b2, w1, w2, w3, w4, w5, w6, w7, w8⟩ := hK2.2.2.2.2.word (w := 2) ⟨by decide, hw⟩
    refine cI ?_
    refine x_si (ls1 := [some (vR (some 2281)), some (vI p), some (vL cc), none, some (vI 0), none, none]) T_388_15 rfl ?_
    refine x_li (z := 0) T_388_17 rfl ?_
    refine x_if T_388_19 (fun _ => ?_) (fun h => absurd (show (0 : Int) ≤ 0 by decide) h)
    refine x_lr (z := some 2281) T_388_27 rfl ?_
    refine x_lr (z := some 2281) T_388_28 rfl ?_
    refine x_gR (z := some 2350) T_388_29 F_17_86 (PM.t hP) (PM.r hP 86 2350 rfl) ?_
    refine x_lr (z := some 2281) T_388_32 rfl ?_
    refine x_gI (z := 1) T_388_33 (Or.inl F_17_91) (PM.t hP) (Eq.trans (PM.nS hP 2281 91 91 rfl rfl rfl) g1) ?_
    refine x_ic T_388_36 ?_
    refine x_ib (w := 0) T_388_37 (fun h => absurd h.1 (by decide)) (by decide) ?_
    refine x_alI (z := c.1) T_388_38 (by decide) (PM.ta hP 2350 0 64 rfl rfl) (by omega) (by omega) (Eq.trans (PM.aS hP 2350 rfl rfl (by omega)) g3) ?_
    refine x_lr (z := some 2281) T_388_39 rfl ?_
    refine x_gR (z := some 2351) T_388_40 F_17_87 (PM.t hP) (PM.r hP 87 2351 rfl) ?_
    refine x_lr (z := some 2281) T_388_43 rfl ?_
    refine x_gI (z := 1) T_388_44 (Or.inl F_17_91) (PM.t hP) (Eq.trans (PM.nS hP 2281 91 91 rfl rfl rfl) g1) ?_
    refine x_ic T_388_47 ?_
    refine x_ib (w := 0) T_388_48 (fun h => absurd h.1 (by decide)) (by decide) ?_
    refine x_alI (z := c.2.1) T_388_49 (by decide) (PM.ta hP 2351 0 64 rfl rfl) (by omega) (by omega) (Eq.trans (PM.aS hP 2351 rfl rfl (by omega)) g4) ?_
    refine x_lr (z := some 2281) T_388_50 rfl ?_
    refine x_gR (z := some 2344) T_388_51 F_17_75 (PM.t hP) (PM.r hP 75 2344 rfl) ?_
    refine x_ic T_388_54 ?_
    refine x_alI (z := b) T_388_55 (by decide) (PM.ta hP 2344 0 60 rfl rfl) (by omega) (by omega) (Eq.trans (PM.aS hP 2344 rfl rfl (by omega)) w1) ?_
    refine x_lr (z := some 2281) T_388_56 rfl ?_
    refine x_gR (z := some 2345) T_388_57 F_17_76 (PM.t hP) (PM.r hP 76 2345 rfl) ?_
    refine x_ic T_388_60 ?_
    refine x_alI (z := b2) T_388_61 (by decide) (PM.ta hP 2345 0 60 rfl rfl) (by omega) (by omega) (Eq.trans (PM.aS hP 2345 rfl rfl (by omega)) w2) ?_
    refine x_lc T_388_62 ?_
    refine x_lc T_388_65 ?_
    refine x_cv7 T_388_68 mN_389 mL_389 (Nat.le_of_ble_eq_true rfl) mO_389 (PM.t hP) (Nat.le_of_ble_eq_true rfl) (g_askWstat hP hK2.2.2.1 hK2.1 (by omega) (by omega) ⟨w3, by omega, w6⟩ w8) ?_
    clear hP
    intro r σ hr
    obtain ⟨S3, rfl, hP, hK3, hX3, -⟩ := hK2.ask (T1 := T + 304) (by omega) hr
    refine cI ?_
    refine x_ri T_388_71 ?_
    exact ⟨S3, rfl, hP, hK3, SX_tr hX2 hX3⟩
theorem m_csize {cc : Int} (hP : PM σ0 P S σ) (hK : KS T U P S l []) (hp : 0 ≤ p ∧ p < 8) (hT : T + 800 ≤ 2147483000) (hw : 2 < ((lnW l).length : Int)) {Q : Option AV → hM → Prop} (hQ : ∀ r σ', KC (T + 304) U σ0 S l (cSize P p (lnB l 1) (lnB l 2)).1 (cSize P p (lnB l 1) (lnB l 2)).2.1 (cSize P p (lnB l 1) (lnB l 2)).2.2 r σ' → Q r σ') : WP fb (d + 16) 388 80 [some (vR (some 2281)), some (vI p), some (vL cc), none, none, none, none] [] σ Q := by
  have hnb := m_numberOf (fb := fb) (d := d + 14) (base := 10) (most := 4) hP hK.2.2.2.2 (w := 1) ⟨by decide, by omega⟩ (by decide) (by decide)
  have hww := k_ww (fb := fb) (d := d) (thr := 0) hP hK hp (Or.inl rfl) hT (by decide) ⟨by decide, hw⟩
  have hkf := KF_kWW (thr := 0) (wd := lnB l 2) hK.1.iv hK.2.1 hp
  have hm42 : 0 ≤ P 2281 42 ∧ P 2281 42 ≤ T := IV.n hK.1.iv 42 42 rfl rfl (by decide)
  refine WP.mono ?_ hQ
  unfold cSize
  obtain ⟨n, hn⟩ : ∃ n, nmN (lnB l 1) 10 4 = n := ⟨_, rfl⟩
  rw [hn] at hnb ⊢
  by_cases q0 : n < 0
  · rw [if_pos q0]
    refine x_lr (z := some 2281) T_388_80 rfl ?_
    refine x_ic T_388_81 ?_
    refine x_ic T_388_82 ?_
    refine x_ic T_388_84 ?_
    refine x_cv4 T_388_85 mN_390 mL_390 (Nat.le_of_ble_eq_true rfl) mO_390 (PM.t hP) (Nat.le_of_ble_eq_true rfl) (hnb) ?_
    rintro _ σ ⟨rfl, rfl⟩
    refine cI ?_
    refine x_si (ls1 := [some (vR (some 2281)), some (vI p), some (vL cc), none, some (vI n), none, none]) T_388_88 rfl ?_
    refine x_li (z := n) T_388_90 rfl ?_
    refine x_if T_388_92 (fun h => absurd (show 0 ≤ n from h) (by omega)) (fun _ => ?_)
    refine x_ic T_388_95 ?_
    refine x_goto T_388_97 ?_
    refine x_si (ls1 := [some (vR (some 2281)), some (vI p), some (vL cc), none, some (vI n), some (vI 18), none]) T_388_107 rfl ?_
    refine x_li (z := 18) T_388_109 rfl ?_
    refine x_if T_388_111 (fun h => absurd (show (18 : Int) ≤ 0 from h) (by decide)) (fun _ => ?_)
    refine x_li (z := 18) T_388_114 rfl ?_
    refine x_goto T_388_116 ?_
    refine x_ri T_388_153 ?_
    exact ⟨S, rfl, hP, hK.mono (by omega), SX_rfl⟩
  rw [if_neg q0]
  obtain ⟨e, he⟩ : ∃ e, (kWW P p 0 (lnB l 2)).1 = e := ⟨_, rfl⟩
  obtain ⟨P1, hP1⟩ : ∃ P1, (kWW P p 0 (lnB l 2)).2.1 = P1 := ⟨_, rfl⟩
  obtain ⟨c, hc⟩ : ∃ c, (kWW P p 0 (lnB l 2)).2.2 = c := ⟨_, rfl⟩
  rw [he, hP1] at hkf
  rw [he, hP1, hc] at hww
  rw [he, hP1, hc]
  by_cases q1 : 0 < e
  · rw [if_pos q1]
    rw [kHoldn (by omega)] at hww
    refine x_lr (z := some 2281) T_388_80 rfl ?_
    refine x_ic T_388_81 ?_
    refine x_ic T_388_82 ?_
    refine x_ic T_388_84 ?_
    refine x_cv4 T_388_85 mN_390 mL_390 (Nat.le_of_ble_eq_true rfl) mO_390 (PM.t hP) (Nat.le_of_ble_eq_true rfl) (hnb) ?_
    rintro _ σ ⟨rfl, rfl⟩
    refine cI ?_
    refine x_si (ls1 := [some (vR (some 2281)), some (vI p), some (vL cc), none, some (vI n), none, none]) T_388_88 rfl ?_
    refine x_li (z := n) T_388_90 rfl ?_
    refine x_if T_388_92 (fun _ => ?_) (fun h => absurd (show 0 ≤ n by omega) h)
    refine x_lr (z := some 2281) T_388_100 rfl ?_
    refine x_li (z := p) T_388_101 rfl ?_
    refine x_ic T_388_102 ?_
    refine x_ic T_388_103 ?_
    refine x_cv4 T_388_104 mN_327 mL_327 (Nat.le_of_ble_eq_true rfl) mO_327 (PM.t hP) (Nat.le_of_ble_eq_true rfl) (hww) ?_
    clear hP hww hnb
    rintro _ σ ⟨S2, rfl, hP, hK2, hX2, -⟩
    refine cI ?_
    refine x_si (ls1 := [some (vR (some 2281)), some (vI p), some (vL cc), none, some (vI n), some (vI e), none]) T_388_107 rfl ?_
    refine x_li (z := e) T_388_109 rfl ?_
    refine x_if T_388_111 (fun h => absurd (show e ≤ 0 from h) (by omega)) (fun _ => ?_)
    refine x_li (z := e) T_388_114 rfl ?_
    refine x_goto T_388_116 ?_
    refine x_ri T_388_153 ?_
    exact ⟨S2, rfl, hP, hK2.mono (by omega), hX2⟩
  · have q2 : e = 0 := by omega
    subst q2
    rw [kHold0] at hww
    rw [if_neg q1]
    dsimp only
    refine x_lr (z := some 2281) T_388_80 rfl ?_
    refine x_ic T_388_81 ?_
    refine x_ic T_388_82 ?_
    refine x_ic T_388_84 ?_
    refine x_cv4 T_388_85 mN_390 mL_390 (Nat.le_of_ble_eq_true rfl) mO_390 (PM.t hP) (Nat.le_of_ble_eq_true rfl) (hnb) ?_
    rintro _ σ ⟨rfl, rfl⟩
    refine cI ?_
    refine x_si (ls1 := [some (vR (some 2281)), some (vI p), some (vL cc), none, some (vI n), none, none]) T_388_88 rfl ?_
    refine x_li (z := n) T_388_90 rfl ?_
    refine x_if T_388_92 (fun _ => ?_) (fun h => absurd (show 0 ≤ n by omega) h)
    refine x_lr (z := some 2281) T_388_100 rfl ?_
    refine x_li (z := p) T_388_101 rfl ?_
    refine x_ic T_388_102 ?_
    refine x_ic T_388_103 ?_
    refine x_cv4 T_388_104 mN_327 mL_327 (Nat.le_of_ble_eq_true rfl) mO_327 (PM.t hP) (Nat.le_of_ble_eq_true rfl) (hww) ?_
    clear hP hww hnb
    rintro _ σ ⟨S2, rfl, hP, hK2, hX2, -⟩
    obtain ⟨g1, g2, g3, g4, g5, g6, g7⟩ := hK2.2.2.2.1.last
    obtain ⟨c1, c2, -⟩ := hK2.2.2.2.1.ch hK2.2.2.1
    refine cI ?_
    refine x_si (ls1 := [some (vR (some 2281)), some (vI p), some (vL cc), none, some (vI n), some (vI 0), none]) T_388_107 rfl ?_
    refine x_li (z := 0) T_388_109 rfl ?_
    refine x_if T_388_111 (fun _ => ?_) (fun h => absurd (show (0 : Int) ≤ 0 by decide) h)
    refine x_lr (z := some 2281) T_388_119 rfl ?_
    refine x_lr (z := some 2281) T_388_120 rfl ?_
    refine x_gR (z := some 2350) T_388_121 F_17_86 (PM.t hP) (PM.r hP 86 2350 rfl) ?_
    refine x_lr (z := some 2281) T_388_124 rfl ?_
    refine x_gI (z := 1) T_388_125 (Or.inl F_17_91) (PM.t hP) (Eq.trans (PM.nS hP 2281 91 91 rfl rfl rfl) g1) ?_
    refine x_ic T_388_128 ?_
    refine x_ib (w := 0) T_388_129 (fun h => absurd h.1 (by decide)) (by decide) ?_
    refine x_alI (z := c.1) T_388_130 (by decide) (PM.ta hP 2350 0 64 rfl rfl) (by omega) (by omega) (Eq.trans (PM.aS hP 2350 rfl rfl (by omega)) g3) ?_
    refine x_lr (z := some 2281) T_388_131 rfl ?_
    refine x_gR (z := some 2351) T_388_132 F_17_87 (PM.t hP) (PM.r hP 87 2351 rfl) ?_
    refine x_lr (z := some 2281) T_388_135 rfl ?_
    refine x_gI (z := 1) T_388_136 (Or.inl F_17_91) (PM.t hP) (Eq.trans (PM.nS hP 2281 91 91 rfl rfl rfl) g1) ?_
    refine x_ic T_388_139 ?_
    refine x_ib (w := 0) T_388_140 (fun h => absurd h.1 (by decide)) (by decide) ?_
    refine x_alI (z := c.2.1) T_388_141 (by decide) (PM.ta hP 2351 0 64 rfl rfl) (by omega) (by omega) (Eq.trans (PM.aS hP 2351 rfl rfl (by omega)) g4) ?_
    refine x_ic T_388_142 ?_
    refine x_ic T_388_143 ?_
    refine x_lc T_388_144 ?_
    refine x_li (z := n) T_388_147 rfl ?_
    refine x_i2l T_388_149 ?_
    refine x_cv7 T_388_150 mN_389 mL_389 (Nat.le_of_ble_eq_true rfl) mO_389 (PM.t hP) (Nat.le_of_ble_eq_true rfl) (g_askWstat hP hK2.2.2.1 hK2.1 (by omega) (by omega) ⟨by decide, by decide, by decide⟩ (nm := []) rfl) ?_
    clear hP
    intro r σ hr
    obtain ⟨S3, rfl, hP, hK3, hX3, -⟩ := hK2.ask (T1 := T + 304) (by omega) hr
    refine cI ?_
    refine x_ri T_388_153 ?_
    exact ⟨S3, rfl, hP, hK3, SX_tr hX2 hX3⟩
/-- what a stat tells: how long it is -/
theorem stat_ok {f0 : Int} (hs : 0 ≤ s ∧ s < 3) (h : tE P s (mOne 124 f0) = 0) : ∃ n : Int, tA P s (mOne 124 f0) = ansL (msgA (mOne 124 f0)) 125 (leb 2 (58 + qNs (gM1 P (seg (msgA (mOne 124 f0)) 0 (4 + ((mOne 124 f0).length : Int)).toNat)) s n) ++ statL (gM1 P (seg (msgA (mOne 124 f0)) 0 (4 + ((mOne 124 f0).length : Int)).toNat)) s n) ∧ 0 ≤ qFid (gM1 P (seg (msgA (mOne 124 f0)) 0 (4 + ((mOne 124 f0).length : Int)).toNat)) s 0 (nu (msgA (mOne 124 f0)) 7 4) ∧ gM1 P (seg (msgA (mOne 124 f0)) 0 (4 + ((mOne 124 f0).length : Int)).toNat) 2310 (qFid (gM1 P (seg (msgA (mOne 124 f0)) 0 (4 + ((mOne 124 f0).length : Int)).toNat)) s 0 (nu (msgA (mOne 124 f0)) 7 4)) = 0 ∧ n = gM1 P (seg (msgA (mOne 124 f0)) 0 (4 + ((mOne 124 f0).length : Int)).toNat) 2306 (qFid (gM1 P (seg (msgA (mOne 124 f0)) 0 (4 + ((mOne 124 f0).length : Int)).toNat)) s 0 (nu (msgA (mOne 124 f0)) 7 4)) := by
  obtain ⟨h1, h2⟩ := tE_0 h ⟨by show 3 ≤ 7; decide, by show 7 ≤ 416; decide⟩
  have e0 : lg (mOne 124 f0) 0 = 124 := rfl
  rw [e0] at h1 h2
  obtain ⟨P1, hP1⟩ : ∃ P1, gM1 P (seg (msgA (mOne 124 f0)) 0 (4 + ((mOne 124 f0).length : Int)).toNat) = P1 := ⟨_, rfl⟩
  rw [hP1] at h1 h2 ⊢
  have h3 : (if (4 + ((mOne 124 f0).length : Int)) = 11 then onE P1 s (qFid P1 s 0 (nu (msgA (mOne 124 f0)) 7 4)) 124 else 14) = 0 := h1
  rw [if_pos (by show 4 + ((7 : Nat) : Int) = 11; decide)] at h3
  have h4 : tA P s (mOne 124 f0) = ansL (msgA (mOne 124 f0)) (124 + 1) (onL P1 s (qFid P1 s 0 (nu (msgA (mOne 124 f0)) 7 4)) 124) := h2
  refine ⟨P1 2306 (qFid P1 s 0 (nu (msgA (mOne 124 f0)) 7 4)), h4, ?_⟩
  unfold onE at h3
  (repeat' split at h3) <;> first | (exfalso; omega) | exact ⟨by omega, by omega, rfl⟩
end MCMD2
