/-! What the reference's servers answer: files opened; versions. -/
theorem T_239_0 : hTab 239 0 = some ((3, 0, 2, []), 1) := rfl
theorem T_239_1 : hTab 239 1 = some ((0, 0, 4, []), 2) := rfl
theorem T_239_2 : hTab 239 2 = some ((31, 234, 0, []), 5) := rfl
theorem T_239_5 : hTab 239 5 = some ((4, 3, 1, []), 6) := rfl
theorem T_239_6 : hTab 239 6 = some ((3, 0, 2, []), 7) := rfl
theorem T_239_7 : hTab 239 7 = some ((31, 240, 0, []), 10) := rfl
theorem T_239_10 : hTab 239 10 = some ((3, 0, 2, []), 11) := rfl
theorem T_239_11 : hTab 239 11 = some ((31, 241, 0, []), 14) := rfl
theorem T_239_14 : hTab 239 14 = some ((18, 1, Int.ofNat 18, []), 17) := rfl
theorem T_239_17 : hTab 239 17 = some ((33, 0, 0, []), 18) := rfl
theorem T_239_18 : hTab 239 18 = some ((3, 3, 1, []), 19) := rfl
theorem T_239_19 : hTab 239 19 = some ((1, 0, 64, []), 22) := rfl
theorem T_239_22 : hTab 239 22 = some ((17, 0, 0, []), 23) := rfl
theorem T_239_23 : hTab 239 23 = some ((18, 3, Int.ofNat 33, []), 26) := rfl
theorem T_239_26 : hTab 239 26 = some ((3, 0, 2, []), 27) := rfl
theorem T_239_27 : hTab 239 27 = some ((0, 0, 14, []), 29) := rfl
theorem T_239_29 : hTab 239 29 = some ((31, 235, 0, []), 32) := rfl
theorem T_239_32 : hTab 239 32 = some ((33, 0, 0, []), 33) := rfl
theorem T_239_33 : hTab 239 33 = some ((3, 0, 2, []), 34) := rfl
theorem T_239_34 : hTab 239 34 = some ((3, 1, 0, []), 35) := rfl
theorem T_239_35 : hTab 239 35 = some ((3, 2, 0, []), 36) := rfl
theorem T_239_36 : hTab 239 36 = some ((31, 242, 0, []), 39) := rfl
theorem T_239_39 : hTab 239 39 = some ((4, 5, 0, []), 41) := rfl
theorem T_239_41 : hTab 239 41 = some ((3, 5, 0, []), 43) := rfl
theorem T_239_43 : hTab 239 43 = some ((18, 2, Int.ofNat 64, []), 46) := rfl
theorem T_239_46 : hTab 239 46 = some ((3, 0, 2, []), 47) := rfl
theorem T_239_47 : hTab 239 47 = some ((3, 1, 0, []), 48) := rfl
theorem T_239_48 : hTab 239 48 = some ((3, 5, 0, []), 50) := rfl
theorem T_239_50 : hTab 239 50 = some ((31, 244, 0, []), 53) := rfl
theorem T_239_53 : hTab 239 53 = some ((3, 0, 2, []), 54) := rfl
theorem T_239_54 : hTab 239 54 = some ((3, 1, 0, []), 55) := rfl
theorem T_239_55 : hTab 239 55 = some ((3, 2, 0, []), 56) := rfl
theorem T_239_56 : hTab 239 56 = some ((31, 242, 0, []), 59) := rfl
theorem T_239_59 : hTab 239 59 = some ((4, 5, 0, []), 61) := rfl
theorem T_239_61 : hTab 239 61 = some ((22, 0, Int.ofNat 41, []), 64) := rfl
theorem T_239_64 : hTab 239 64 = some ((3, 0, 2, []), 65) := rfl
theorem T_239_65 : hTab 239 65 = some ((24, 17, Int.ofNat 37, []), 68) := rfl
theorem T_239_68 : hTab 239 68 = some ((0, 0, 2, []), 69) := rfl
theorem T_239_69 : hTab 239 69 = some ((3, 1, 0, []), 70) := rfl
theorem T_239_70 : hTab 239 70 = some ((10, 2, 0, []), 71) := rfl
theorem T_239_71 : hTab 239 71 = some ((3, 2, 0, []), 72) := rfl
theorem T_239_72 : hTab 239 72 = some ((10, 0, 0, []), 73) := rfl
theorem T_239_73 : hTab 239 73 = some ((3, 3, 1, []), 74) := rfl
theorem T_239_74 : hTab 239 74 = some ((1, 0, 300, []), 77) := rfl
theorem T_239_77 : hTab 239 77 = some ((17, 0, 0, []), 78) := rfl
theorem T_239_78 : hTab 239 78 = some ((18, 3, Int.ofNat 86, []), 81) := rfl
theorem T_239_81 : hTab 239 81 = some ((3, 3, 1, []), 82) := rfl
theorem T_239_82 : hTab 239 82 = some ((15, 0, 0, []), 83) := rfl
theorem T_239_83 : hTab 239 83 = some ((22, 0, Int.ofNat 89, []), 86) := rfl
theorem T_239_86 : hTab 239 86 = some ((0, 0, 300, []), 89) := rfl
theorem T_239_89 : hTab 239 89 = some ((27, 0, 0, []), 90) := rfl
theorem T_239_90 : hTab 239 90 = some ((3, 0, 2, []), 91) := rfl
theorem T_239_91 : hTab 239 91 = some ((0, 0, 101, []), 93) := rfl
theorem T_239_93 : hTab 239 93 = some ((31, 236, 0, []), 96) := rfl
theorem T_239_96 : hTab 239 96 = some ((3, 0, 2, []), 97) := rfl
theorem T_239_97 : hTab 239 97 = some ((0, 0, 4, []), 98) := rfl
theorem T_239_98 : hTab 239 98 = some ((3, 0, 2, []), 99) := rfl
theorem T_239_99 : hTab 239 99 = some ((24, 17, Int.ofNat 37, []), 102) := rfl
theorem T_239_102 : hTab 239 102 = some ((0, 0, 2, []), 103) := rfl
theorem T_239_103 : hTab 239 103 = some ((3, 1, 0, []), 104) := rfl
theorem T_239_104 : hTab 239 104 = some ((10, 2, 0, []), 105) := rfl
theorem T_239_105 : hTab 239 105 = some ((3, 2, 0, []), 106) := rfl
theorem T_239_106 : hTab 239 106 = some ((10, 0, 0, []), 107) := rfl
theorem T_239_107 : hTab 239 107 = some ((26, 0, 0, []), 108) := rfl
theorem T_239_108 : hTab 239 108 = some ((14, 0, 0, []), 109) := rfl
theorem T_239_109 : hTab 239 109 = some ((31, 237, 0, []), 112) := rfl
theorem T_239_112 : hTab 239 112 = some ((3, 0, 2, []), 113) := rfl
theorem T_239_113 : hTab 239 113 = some ((24, 17, Int.ofNat 11, []), 116) := rfl
theorem T_239_116 : hTab 239 116 = some ((0, 0, 0, []), 117) := rfl
theorem T_239_117 : hTab 239 117 = some ((26, 0, 0, []), 118) := rfl
theorem T_239_118 : hTab 239 118 = some ((0, 0, 6, []), 120) := rfl
theorem T_239_120 : hTab 239 120 = some ((19, 2, Int.ofNat 145, []), 123) := rfl
theorem T_239_123 : hTab 239 123 = some ((3, 0, 2, []), 124) := rfl
theorem T_239_124 : hTab 239 124 = some ((3, 0, 2, []), 125) := rfl
theorem T_239_125 : hTab 239 125 = some ((24, 17, Int.ofNat 10, []), 128) := rfl
theorem T_239_128 : hTab 239 128 = some ((0, 0, 0, []), 129) := rfl
theorem T_239_129 : hTab 239 129 = some ((26, 0, 0, []), 130) := rfl
theorem T_239_130 : hTab 239 130 = some ((1, 0, 63016602185776, []), 133) := rfl
theorem T_239_133 : hTab 239 133 = some ((0, 0, 6, []), 135) := rfl
theorem T_239_135 : hTab 239 135 = some ((31, 256, 0, []), 138) := rfl
theorem T_239_138 : hTab 239 138 = some ((18, 0, Int.ofNat 145, []), 141) := rfl
theorem T_239_141 : hTab 239 141 = some ((0, 0, 1, []), 142) := rfl
theorem T_239_142 : hTab 239 142 = some ((22, 0, Int.ofNat 146, []), 145) := rfl
theorem T_239_145 : hTab 239 145 = some ((0, 0, 0, []), 146) := rfl
theorem T_239_146 : hTab 239 146 = some ((4, 6, 0, []), 148) := rfl
theorem T_239_148 : hTab 239 148 = some ((3, 0, 2, []), 149) := rfl
theorem T_239_149 : hTab 239 149 = some ((3, 6, 0, []), 151) := rfl
theorem T_239_151 : hTab 239 151 = some ((18, 0, Int.ofNat 160, []), 154) := rfl
theorem T_239_154 : hTab 239 154 = some ((1, 0, 63016602185776, []), 157) := rfl
theorem T_239_157 : hTab 239 157 = some ((22, 0, Int.ofNat 163, []), 160) := rfl
theorem T_239_160 : hTab 239 160 = some ((1, 0, 33053979968501614, []), 163) := rfl
theorem T_239_163 : hTab 239 163 = some ((3, 6, 0, []), 165) := rfl
theorem T_239_165 : hTab 239 165 = some ((18, 0, Int.ofNat 173, []), 168) := rfl
theorem T_239_168 : hTab 239 168 = some ((0, 0, 6, []), 170) := rfl
theorem T_239_170 : hTab 239 170 = some ((22, 0, Int.ofNat 175, []), 173) := rfl
theorem T_239_173 : hTab 239 173 = some ((0, 0, 7, []), 175) := rfl
theorem T_239_175 : hTab 239 175 = some ((31, 257, 0, []), 178) := rfl
theorem T_239_178 : hTab 239 178 = some ((33, 0, 0, []), 179) := rfl
theorem T_274_0 : hTab 274 0 = some ((3, 0, 2, []), 1) := rfl
theorem T_274_1 : hTab 274 1 = some ((0, 0, 4, []), 2) := rfl
theorem T_274_2 : hTab 274 2 = some ((31, 234, 0, []), 5) := rfl
theorem T_274_5 : hTab 274 5 = some ((4, 3, 1, []), 6) := rfl
theorem T_274_6 : hTab 274 6 = some ((3, 0, 2, []), 7) := rfl
theorem T_274_7 : hTab 274 7 = some ((0, 0, 1, []), 8) := rfl
theorem T_274_8 : hTab 274 8 = some ((31, 234, 0, []), 11) := rfl
theorem T_274_11 : hTab 274 11 = some ((15, 0, 0, []), 12) := rfl
theorem T_274_12 : hTab 274 12 = some ((4, 5, 0, []), 14) := rfl
theorem T_274_14 : hTab 274 14 = some ((3, 0, 2, []), 15) := rfl
theorem T_274_15 : hTab 274 15 = some ((31, 241, 0, []), 18) := rfl
theorem T_274_18 : hTab 274 18 = some ((18, 1, Int.ofNat 22, []), 21) := rfl
theorem T_274_21 : hTab 274 21 = some ((33, 0, 0, []), 22) := rfl
theorem T_274_22 : hTab 274 22 = some ((3, 0, 2, []), 23) := rfl
theorem T_274_23 : hTab 274 23 = some ((3, 1, 0, []), 24) := rfl
theorem T_274_24 : hTab 274 24 = some ((3, 2, 0, []), 25) := rfl
theorem T_274_25 : hTab 274 25 = some ((3, 3, 1, []), 26) := rfl
theorem T_274_26 : hTab 274 26 = some ((31, 261, 0, []), 29) := rfl
theorem T_274_29 : hTab 274 29 = some ((4, 6, 0, []), 31) := rfl
theorem T_274_31 : hTab 274 31 = some ((3, 6, 0, []), 33) := rfl
theorem T_274_33 : hTab 274 33 = some ((18, 3, Int.ofNat 41, []), 36) := rfl
theorem T_274_36 : hTab 274 36 = some ((0, 0, 6, []), 38) := rfl
theorem T_274_38 : hTab 274 38 = some ((22, 0, Int.ofNat 91, []), 41) := rfl
theorem T_274_41 : hTab 274 41 = some ((3, 0, 2, []), 42) := rfl
theorem T_274_42 : hTab 274 42 = some ((24, 17, Int.ofNat 33, []), 45) := rfl
theorem T_274_45 : hTab 274 45 = some ((3, 6, 0, []), 47) := rfl
theorem T_274_47 : hTab 274 47 = some ((26, 0, 0, []), 48) := rfl
theorem T_274_48 : hTab 274 48 = some ((18, 2, Int.ofNat 56, []), 51) := rfl
theorem T_274_51 : hTab 274 51 = some ((0, 0, 8, []), 53) := rfl
theorem T_274_53 : hTab 274 53 = some ((22, 0, Int.ofNat 91, []), 56) := rfl
theorem T_274_56 : hTab 274 56 = some ((3, 0, 2, []), 57) := rfl
theorem T_274_57 : hTab 274 57 = some ((24, 17, Int.ofNat 34, []), 60) := rfl
theorem T_274_60 : hTab 274 60 = some ((3, 6, 0, []), 62) := rfl
theorem T_274_62 : hTab 274 62 = some ((26, 2, 0, []), 63) := rfl
theorem T_274_63 : hTab 274 63 = some ((18, 0, Int.ofNat 70, []), 66) := rfl
theorem T_274_66 : hTab 274 66 = some ((0, 0, 1, []), 67) := rfl
theorem T_274_67 : hTab 274 67 = some ((22, 0, Int.ofNat 91, []), 70) := rfl
theorem T_274_70 : hTab 274 70 = some ((3, 0, 2, []), 71) := rfl
theorem T_274_71 : hTab 274 71 = some ((3, 1, 0, []), 72) := rfl
theorem T_274_72 : hTab 274 72 = some ((3, 0, 2, []), 73) := rfl
theorem T_274_73 : hTab 274 73 = some ((24, 17, Int.ofNat 30, []), 76) := rfl
theorem T_274_76 : hTab 274 76 = some ((3, 6, 0, []), 78) := rfl
theorem T_274_78 : hTab 274 78 = some ((26, 0, 0, []), 79) := rfl
theorem T_274_79 : hTab 274 79 = some ((3, 0, 2, []), 80) := rfl
theorem T_274_80 : hTab 274 80 = some ((24, 17, Int.ofNat 32, []), 83) := rfl
theorem T_274_83 : hTab 274 83 = some ((3, 6, 0, []), 85) := rfl
theorem T_274_85 : hTab 274 85 = some ((26, 0, 0, []), 86) := rfl
theorem T_274_86 : hTab 274 86 = some ((3, 5, 0, []), 88) := rfl
theorem T_274_88 : hTab 274 88 = some ((31, 275, 0, []), 91) := rfl
theorem T_274_91 : hTab 274 91 = some ((4, 7, 0, []), 93) := rfl
theorem T_274_93 : hTab 274 93 = some ((3, 7, 0, []), 95) := rfl
theorem T_274_95 : hTab 274 95 = some ((18, 5, Int.ofNat 105, []), 98) := rfl
theorem T_274_98 : hTab 274 98 = some ((3, 0, 2, []), 99) := rfl
theorem T_274_99 : hTab 274 99 = some ((3, 7, 0, []), 101) := rfl
theorem T_274_101 : hTab 274 101 = some ((31, 235, 0, []), 104) := rfl
theorem T_274_104 : hTab 274 104 = some ((33, 0, 0, []), 105) := rfl
theorem T_274_105 : hTab 274 105 = some ((3, 0, 2, []), 106) := rfl
theorem T_274_106 : hTab 274 106 = some ((24, 17, Int.ofNat 30, []), 109) := rfl
theorem T_274_109 : hTab 274 109 = some ((3, 6, 0, []), 111) := rfl
theorem T_274_111 : hTab 274 111 = some ((26, 0, 0, []), 112) := rfl
theorem T_274_112 : hTab 274 112 = some ((4, 8, 0, []), 114) := rfl
theorem T_274_114 : hTab 274 114 = some ((3, 5, 0, []), 116) := rfl
theorem T_274_116 : hTab 274 116 = some ((0, 0, 16, []), 118) := rfl
theorem T_274_118 : hTab 274 118 = some ((10, 5, 0, []), 119) := rfl
theorem T_274_119 : hTab 274 119 = some ((18, 0, Int.ofNat 163, []), 122) := rfl
theorem T_274_122 : hTab 274 122 = some ((3, 1, 0, []), 123) := rfl
theorem T_274_123 : hTab 274 123 = some ((0, 0, 2, []), 124) := rfl
theorem T_274_124 : hTab 274 124 = some ((19, 3, Int.ofNat 163, []), 127) := rfl
theorem T_274_127 : hTab 274 127 = some ((3, 0, 2, []), 128) := rfl
theorem T_274_128 : hTab 274 128 = some ((3, 1, 0, []), 129) := rfl
theorem T_274_129 : hTab 274 129 = some ((3, 8, 0, []), 131) := rfl
theorem T_274_131 : hTab 274 131 = some ((31, 249, 0, []), 134) := rfl
theorem T_274_134 : hTab 274 134 = some ((0, 0, 1073741824, []), 137) := rfl
theorem T_274_137 : hTab 274 137 = some ((10, 5, 0, []), 138) := rfl
theorem T_274_138 : hTab 274 138 = some ((18, 1, Int.ofNat 163, []), 141) := rfl
theorem T_274_141 : hTab 274 141 = some ((3, 0, 2, []), 142) := rfl
theorem T_274_142 : hTab 274 142 = some ((3, 1, 0, []), 143) := rfl
theorem T_274_143 : hTab 274 143 = some ((3, 8, 0, []), 145) := rfl
theorem T_274_145 : hTab 274 145 = some ((0, 0, 0, []), 146) := rfl
theorem T_274_146 : hTab 274 146 = some ((31, 276, 0, []), 149) := rfl
theorem T_274_149 : hTab 274 149 = some ((3, 0, 2, []), 150) := rfl
theorem T_274_150 : hTab 274 150 = some ((3, 1, 0, []), 151) := rfl
theorem T_274_151 : hTab 274 151 = some ((3, 8, 0, []), 153) := rfl
theorem T_274_153 : hTab 274 153 = some ((3, 0, 2, []), 154) := rfl
theorem T_274_154 : hTab 274 154 = some ((24, 17, Int.ofNat 32, []), 157) := rfl
theorem T_274_157 : hTab 274 157 = some ((3, 6, 0, []), 159) := rfl
theorem T_274_159 : hTab 274 159 = some ((26, 0, 0, []), 160) := rfl
theorem T_274_160 : hTab 274 160 = some ((31, 255, 0, []), 163) := rfl
theorem T_274_163 : hTab 274 163 = some ((3, 0, 2, []), 164) := rfl
theorem T_274_164 : hTab 274 164 = some ((3, 6, 0, []), 166) := rfl
theorem T_274_166 : hTab 274 166 = some ((3, 5, 0, []), 168) := rfl
theorem T_274_168 : hTab 274 168 = some ((31, 277, 0, []), 171) := rfl
theorem T_274_171 : hTab 274 171 = some ((3, 0, 2, []), 172) := rfl
theorem T_274_172 : hTab 274 172 = some ((0, 0, 113, []), 174) := rfl
theorem T_274_174 : hTab 274 174 = some ((31, 236, 0, []), 177) := rfl
theorem T_274_177 : hTab 274 177 = some ((3, 0, 2, []), 178) := rfl
theorem T_274_178 : hTab 274 178 = some ((3, 1, 0, []), 179) := rfl
theorem T_274_179 : hTab 274 179 = some ((3, 8, 0, []), 181) := rfl
theorem T_274_181 : hTab 274 181 = some ((31, 264, 0, []), 184) := rfl
theorem T_274_184 : hTab 274 184 = some ((3, 0, 2, []), 185) := rfl
theorem T_274_185 : hTab 274 185 = some ((0, 0, 4, []), 186) := rfl
theorem T_274_186 : hTab 274 186 = some ((1, 0, 0, []), 187) := rfl
theorem T_274_187 : hTab 274 187 = some ((31, 237, 0, []), 190) := rfl
theorem T_274_190 : hTab 274 190 = some ((33, 0, 0, []), 191) := rfl
theorem F_17_37 : (hFd 17 37).2.2.1 = 4 := rfl
theorem mN_239 : hmN 239 = 3 := by decide +kernel
theorem mL_239 : hmL 239 = 7 := by decide +kernel
theorem mK_239 : hmK 239 = 1 := by decide +kernel
theorem mO_239 : hmO 239 = 17 := by decide +kernel
theorem mN_274 : hmN 274 = 3 := by decide +kernel
theorem mL_274 : hmL 274 = 9 := by decide +kernel
theorem mK_274 : hmK 274 = 1 := by decide +kernel
theorem mO_274 : hmO 274 = 17 := by decide +kernel
section MSERVE4
variable {fb : Bool} {d : Nat} {σ0 σ : hM} {P S S1 : qR} {T U s n u c t p : Int} {st : List (Int × Int)}
theorem gOpen_f {g : Nat} {k m j : Int} (h1 : g ≠ 2309) (h2 : g ≠ 2311) (h3 : g ≠ 2312) : gOpen P k m g j = P g j := by
  unfold gOpen
  rw [rU_f h3, rU_f h2, rU_f h1]
theorem qOpn_v (P : qR) (s n u m : Int) : qOpn P s n u m = 0 ∨ qOpn P s n u m = 3 ∨ qOpn P s n u m = 10 ∨ qOpn P s n u m = 16 := by
  unfold qOpn
  (repeat' split) <;> omega
def opE (P : qR) (s c : Int) (a : Int → Int) (z : Int) : Int := if ¬ z = 12 then 14 else if qFid P s c (nu a 7 4) < 0 then 6 else if 0 ≤ P 2309 (qFid P s c (nu a 7 4)) then 8 else if ¬ P 2310 (qFid P s c (nu a 7 4)) = 0 then 1 else qOpn P s (P 2306 (qFid P s c (nu a 7 4))) (P 2308 (qFid P s c (nu a 7 4))) (nu a 11 1)
def opG (P : qR) (s k m : Int) : qR := gOpen (if ¬ and32 m 16 = 0 ∧ s < 2 ∧ and32 (qMode P s (P 2306 k)) 1073741824 = 0 then gGrow (gSize P s (P 2306 k) 0) s (P 2306 k) (P 2308 k) else P) k m
def opP (P : qR) (s c : Int) (a : Int → Int) : qR := opG P s (qFid P s c (nu a 7 4)) (nu a 11 1)
theorem nv_one {a : Int → Int} {z p q : Int} (hb : ∀ j, 0 ≤ j → j < z → 0 ≤ a j ∧ a j ≤ 255) (h : nv a z p 1 = q) : 0 ≤ q ∧ q ≤ 255 := by
  rw [← h]
  by_cases c : p < 0 ∨ z < p + ((1 : Nat) : Int)
  · rw [show nv a z p 1 = 0 from if_pos c]
    decide
  · have h1 := nv_ok (a := a) (z := z) (p := p) (n := 1) (by decide) (by omega) hb
    rw [h1.1]
    have h2 : nu a p 1 < 256 := h1.2.2
    omega
theorem m_serveOpen (hP : PM σ0 P S1 σ) (hR : RS T U S S1 7 []) (hI : IV false T U P) (hT : T ≤ 2147483000) (hs : 0 ≤ s ∧ s < 3) (hc : 0 ≤ c ∧ c < 2) (h0 : S 2281 7 = 0) : CL fb (d + 6) 274 [vR (some 2281), vI s, vI c] σ (SV T U σ0 S (if opE P s c (S 2285) (S 2281 4) = 0 then opP P s c (S 2285) else P) (opE P s c (S 2285) (S 2281 4)) 113 (qidL (opP P s c (S 2285)) s (P 2306 (qFid P s c (nu (S 2285) 7 4))) ++ leb 4 0)) := by
  obtain ⟨hz0, hz1, hb⟩ := hR.pb
  have hz7 : 7 ≤ S 2281 4 := hR.2.2.2.2.1
  by_cases h12 : S 2281 4 = 12
  · obtain ⟨v, hv0⟩ : ∃ v, nu (S 2285) 7 4 = v := ⟨_, rfl⟩
    obtain ⟨m, hm0⟩ : ∃ m, nu (S 2285) 11 1 = m := ⟨_, rfl⟩
    have hv1 : nv (S 2285) (S 2281 4) 7 4 = v := (nv_ok (n := 4) (by decide) (by omega) hb).1.trans hv0
    have hm2 := nv_ok (a := S 2285) (z := S 2281 4) (p := 11) (n := 1) (by decide) (by omega) hb
    rw [hm0] at hm2
    have hm3 : 0 ≤ m ∧ m < 256 := hm2.2
    have a1 : av (S 2281 4) 7 4 = 11 := if_neg (by omega)
    have a2 : av (S 2281 4) 11 1 = 12 := if_neg (by omega)
    have hk := qFid_rng (P := P) (s := s) (c := c) v hs hc
    obtain ⟨k, hk0⟩ : ∃ k, qFid P s c v = k := ⟨_, rfl⟩
    rw [hk0] at hk
    obtain ⟨r, hr⟩ : ∃ r, qOpn P s (P 2306 k) (P 2308 k) m = r := ⟨_, rfl⟩
    have hrv := qOpn_v P s (P 2306 k) (P 2308 k) m
    rw [hr] at hrv
    rw [show opE P s c (S 2285) (S 2281 4) = (if k < 0 then 6 else if 0 ≤ P 2309 k then 8 else if ¬ P 2310 k = 0 then 1 else r) by unfold opE; rw [hv0, hm0, hk0, hr]; exact if_neg (fun q => q h12)]
    unfold opP
    rw [hv0, hm0, hk0]
    have hh : (12 : Int) = S 2281 4 ∧ 0 ≤ (12 : Int) := ⟨h12.symm, by decide⟩
    refine CL_in mL_274 rfl ?_
    show WP fb _ 274 0 [some (vR (some 2281)), some (vI s), some (vI c), none, none, none, none, none, none] [] σ _
    refine x_lr (z := some 2281) T_274_0 rfl ?_
    refine x_ic T_274_1 ?_
    refine x_cv2 T_274_2 mN_234 mL_234 (Nat.le_of_ble_eq_true rfl) mO_234 (PM.t hP) (Nat.le_of_ble_eq_true rfl) (r_num 4 rfl hP hR (by decide) hv1) ?_
    rintro _ σ ⟨rfl, S1, hP, hR⟩
    rw [a1] at hR
    refine cL ?_
    refine x_sl (ls1 := [some (vR (some 2281)), some (vI s), some (vI c), some (vL v), none, none, none, none, none]) T_274_5 rfl ?_
    refine x_lr (z := some 2281) T_274_6 rfl ?_
    refine x_ic T_274_7 ?_
    refine x_cv2 T_274_8 mN_234 mL_234 (Nat.le_of_ble_eq_true rfl) mO_234 (PM.t hP) (Nat.le_of_ble_eq_true rfl) (r_num 1 rfl hP hR (by decide) hm2.1) ?_
    rintro _ σ ⟨rfl, S1, hP, hR⟩
    rw [a2] at hR
    refine cL ?_
    refine x_l2i (w := m) T_274_11 (w32_id (by omega) (by omega)) ?_
    refine x_si (ls1 := [some (vR (some 2281)), some (vI s), some (vI c), some (vL v), none, some (vI m), none, none, none]) T_274_12 rfl ?_
    refine x_lr (z := some 2281) T_274_14 rfl ?_
    have hw := r_isWhole (fb := fb) (d := d + 2) hP hR
    rw [if_pos hh, if_pos hh] at hw
    refine x_cv1 T_274_15 mN_241 mL_241 (Nat.le_of_ble_eq_true rfl) mO_241 (PM.t hP) (Nat.le_of_ble_eq_true rfl) (hw) ?_
    rintro _ σ ⟨rfl, hP⟩
    refine cI ?_
    refine x_if T_274_18 (fun _ => ?_) (fun h => absurd (show ¬ (1 : Int) = 0 by decide) h)
    refine x_lr (z := some 2281) T_274_22 rfl ?_
    refine x_li (z := s) T_274_23 rfl ?_
    refine x_li (z := c) T_274_24 rfl ?_
    refine x_ll (z := v) T_274_25 rfl ?_
    refine x_cv4 T_274_26 mN_261 mL_261 (Nat.le_of_ble_eq_true rfl) mO_261 (PM.t hP) (Nat.le_of_ble_eq_true rfl) (CL_val (m_findFid hP (by omega) (by omega)) hk0) ?_
    rintro _ σ ⟨rfl, rfl⟩
    refine cI ?_
    refine x_si (ls1 := [some (vR (some 2281)), some (vI s), some (vI c), some (vL v), none, some (vI m), some (vI k), none, none]) T_274_29 rfl ?_
    refine x_li (z := k) T_274_31 rfl ?_
    refine x_if T_274_33 (fun h33 => ?_) (fun h33 => ?_)
    · replace h33 : 0 ≤ k := h33
      refine x_lr (z := some 2281) T_274_41 rfl ?_
      refine x_gR (z := some 2309) T_274_42 F_17_33 (PM.t hP) (PM.r hP 33 2309 rfl) ?_
      refine x_li (z := k) T_274_45 rfl ?_
      have b1 : -1 ≤ P 2309 k ∧ P 2309 k ≤ 255 := IV.a hI 2309 0 288 rfl rfl rfl (by omega) (by omega)
      refine x_alI (z := P 2309 k) T_274_47 (by decide) (PM.ta hP 2309 0 288 rfl rfl) (by omega) (by omega) (PM.aP hP 2309 rfl rfl (by omega)) ?_
      refine x_if T_274_48 (fun h48 => ?_) (fun h48 => ?_)
      · replace h48 : P 2309 k < 0 := h48
        refine x_lr (z := some 2281) T_274_56 rfl ?_
        refine x_gR (z := some 2310) T_274_57 F_17_34 (PM.t hP) (PM.r hP 34 2310 rfl) ?_
        refine x_li (z := k) T_274_60 rfl ?_
        have b2 : 0 ≤ P 2310 k ∧ P 2310 k ≤ 1 := IV.a hI 2310 2 288 rfl rfl rfl (by omega) (by omega)
        refine x_alI (z := P 2310 k) T_274_62 (by decide) (PM.ta hP 2310 2 288 rfl rfl) (by omega) (by omega) (PM.aP hP 2310 rfl rfl (by omega)) ?_
        refine x_if T_274_63 (fun h63 => ?_) (fun h63 => ?_)
        · replace h63 : P 2310 k = 0 := h63
          refine x_lr (z := some 2281) T_274_70 rfl ?_
          refine x_li (z := s) T_274_71 rfl ?_
          refine x_lr (z := some 2281) T_274_72 rfl ?_
          refine x_gR (z := some 2306) T_274_73 F_17_30 (PM.t hP) (PM.r hP 30 2306 rfl) ?_
          refine x_li (z := k) T_274_76 rfl ?_
          have b3 : 0 ≤ P 2306 k ∧ P 2306 k ≤ (if k < 192 then 63 else 143) := IV.a hI 2306 0 288 rfl rfl rfl (by omega) (by omega)
          refine x_alI (z := P 2306 k) T_274_78 (by decide) (PM.ta hP 2306 0 288 rfl rfl) (by omega) (by omega) (PM.aP hP 2306 rfl rfl (by omega)) ?_
          refine x_lr (z := some 2281) T_274_79 rfl ?_
          refine x_gR (z := some 2308) T_274_80 F_17_32 (PM.t hP) (PM.r hP 32 2308 rfl) ?_
          refine x_li (z := k) T_274_83 rfl ?_
          have b4 : 0 ≤ P 2308 k ∧ P 2308 k ≤ 3 := IV.a hI 2308 0 288 rfl rfl rfl (by omega) (by omega)
          refine x_alI (z := P 2308 k) T_274_85 (by decide) (PM.ta hP 2308 0 288 rfl rfl) (by omega) (by omega) (PM.aP hP 2308 rfl rfl (by omega)) ?_
          refine x_li (z := m) T_274_86 rfl ?_
          refine x_cv5 T_274_88 mN_275 mL_275 (Nat.le_of_ble_eq_true rfl) mO_275 (PM.t hP) (Nat.le_of_ble_eq_true rfl) (CL_val (m_opening hP hI (by omega)) hr) ?_
          rintro _ σ ⟨rfl, rfl⟩
          refine cI ?_
          refine x_si (ls1 := [some (vR (some 2281)), some (vI s), some (vI c), some (vL v), none, some (vI m), some (vI k), some (vI r), none]) T_274_91 rfl ?_
          refine x_li (z := r) T_274_93 rfl ?_
          refine x_if T_274_95 (fun h95 => ?_) (fun h95 => ?_)
          · replace h95 : r ≤ 0 := h95
            refine x_lr (z := some 2281) T_274_105 rfl ?_
            refine x_gR (z := some 2306) T_274_106 F_17_30 (PM.t hP) (PM.r hP 30 2306 rfl) ?_
            refine x_li (z := k) T_274_109 rfl ?_
            refine x_alI (z := P 2306 k) T_274_111 (by decide) (PM.ta hP 2306 0 288 rfl rfl) (by omega) (by omega) (PM.aP hP 2306 rfl rfl (by omega)) ?_
            refine x_si (ls1 := [some (vR (some 2281)), some (vI s), some (vI c), some (vL v), none, some (vI m), some (vI k), some (vI r), some (vI (P 2306 k))]) T_274_112 rfl ?_
            refine x_li (z := m) T_274_114 rfl ?_
            refine x_ic T_274_116 ?_
            refine x_ib (w := (and32 m 16)) T_274_118 (fun h => absurd h.1 (by decide)) rfl ?_
            refine x_if T_274_119 (fun h119 => ?_) (fun h119 => ?_)
            · replace h119 : (and32 m 16) = 0 := h119
              refine x_lr (z := some 2281) T_274_163 rfl ?_
              refine x_li (z := k) T_274_164 rfl ?_
              refine x_li (z := m) T_274_166 rfl ?_
              refine x_cv3 T_274_168 mN_277 mL_277 (Nat.le_of_ble_eq_true rfl) mO_277 (PM.t hP) (Nat.le_of_ble_eq_true rfl) (m_open hP (by omega)) ?_
              rintro _ σ ⟨rfl, hP⟩
              refine cV ?_
              refine x_lr (z := some 2281) T_274_171 rfl ?_
              refine x_ic T_274_172 ?_
              refine x_cv2 T_274_174 mN_236 mL_236 (Nat.le_of_ble_eq_true rfl) mO_236 (PM.t hP) (Nat.le_of_ble_eq_true rfl) (m_reply hP) ?_
              rintro _ σ ⟨rfl, hP⟩
              refine cV ?_
              refine x_lr (z := some 2281) T_274_177 rfl ?_
              refine x_li (z := s) T_274_178 rfl ?_
              refine x_li (z := P 2306 k) T_274_179 rfl ?_
              refine x_cv3 T_274_181 mN_264 mL_264 (Nat.le_of_ble_eq_true rfl) mO_264 (PM.t hP) (Nat.le_of_ble_eq_true rfl) (m_putQid hP (by omega) rpl_z (by decide)) ?_
              rintro _ σ ⟨rfl, hP⟩
              refine cV ?_
              refine x_lr (z := some 2281) T_274_184 rfl ?_
              refine x_ic T_274_185 ?_
              refine x_lc T_274_186 ?_
              refine x_cv3 T_274_187 mN_237 mL_237 (Nat.le_of_ble_eq_true rfl) mO_237 (PM.t hP) (Nat.le_of_ble_eq_true rfl) (m_put 4 rfl hP (by decide) (rA_zn (qidL_len _ _ _) rpl_z) (by omega) (by omega)) ?_
              rintro _ σ ⟨rfl, hP⟩
              refine cV ?_
              refine x_rv T_274_190 ?_
              rw [rA_rA] at hP
              refine SV_yes (P := opG P s k m) ?_ hR h0 (byt_app (byt_qidL _ _ _) (byt_leb 4 _)) (by rw [List.length_append, leb_len]; have := qidL_len (opG P s k m) s (P 2306 k); omega) (if_pos (by (repeat' split) <;> omega)) (by (repeat' split) <;> omega)
              unfold opG
              first
                | (rw [if_pos ⟨by omega, by omega, by omega⟩]; exact hP)
                | (rw [if_neg (by omega)]; exact hP)
            · replace h119 : ¬ ((and32 m 16) = 0) := h119
              refine x_li (z := s) T_274_122 rfl ?_
              refine x_ic T_274_123 ?_
              refine x_ic2 T_274_124 (fun h124 => ?_) (fun h124 => ?_)
              · replace h124 : 2 ≤ s := h124
                refine x_lr (z := some 2281) T_274_163 rfl ?_
                refine x_li (z := k) T_274_164 rfl ?_
                refine x_li (z := m) T_274_166 rfl ?_
                refine x_cv3 T_274_168 mN_277 mL_277 (Nat.le_of_ble_eq_true rfl) mO_277 (PM.t hP) (Nat.le_of_ble_eq_true rfl) (m_open hP (by omega)) ?_
                rintro _ σ ⟨rfl, hP⟩
                refine cV ?_
                refine x_lr (z := some 2281) T_274_171 rfl ?_
                refine x_ic T_274_172 ?_
                refine x_cv2 T_274_174 mN_236 mL_236 (Nat.le_of_ble_eq_true rfl) mO_236 (PM.t hP) (Nat.le_of_ble_eq_true rfl) (m_reply hP) ?_
                rintro _ σ ⟨rfl, hP⟩
                refine cV ?_
                refine x_lr (z := some 2281) T_274_177 rfl ?_
                refine x_li (z := s) T_274_178 rfl ?_
                refine x_li (z := P 2306 k) T_274_179 rfl ?_
                refine x_cv3 T_274_181 mN_264 mL_264 (Nat.le_of_ble_eq_true rfl) mO_264 (PM.t hP) (Nat.le_of_ble_eq_true rfl) (m_putQid hP (by omega) rpl_z (by decide)) ?_
                rintro _ σ ⟨rfl, hP⟩
                refine cV ?_
                refine x_lr (z := some 2281) T_274_184 rfl ?_
                refine x_ic T_274_185 ?_
                refine x_lc T_274_186 ?_
                refine x_cv3 T_274_187 mN_237 mL_237 (Nat.le_of_ble_eq_true rfl) mO_237 (PM.t hP) (Nat.le_of_ble_eq_true rfl) (m_put 4 rfl hP (by decide) (rA_zn (qidL_len _ _ _) rpl_z) (by omega) (by omega)) ?_
                rintro _ σ ⟨rfl, hP⟩
                refine cV ?_
                refine x_rv T_274_190 ?_
                rw [rA_rA] at hP
                refine SV_yes (P := opG P s k m) ?_ hR h0 (byt_app (byt_qidL _ _ _) (byt_leb 4 _)) (by rw [List.length_append, leb_len]; have := qidL_len (opG P s k m) s (P 2306 k); omega) (if_pos (by (repeat' split) <;> omega)) (by (repeat' split) <;> omega)
                unfold opG
                first
                  | (rw [if_pos ⟨by omega, by omega, by omega⟩]; exact hP)
                  | (rw [if_neg (by omega)]; exact hP)
              · replace h124 : ¬ (2 ≤ s) := h124
                refine x_lr (z := some 2281) T_274_127 rfl ?_
                refine x_li (z := s) T_274_128 rfl ?_
                refine x_li (z := P 2306 k) T_274_129 rfl ?_
                refine x_cv3 T_274_131 mN_249 mL_249 (Nat.le_of_ble_eq_true rfl) mO_249 (PM.t hP) (Nat.le_of_ble_eq_true rfl) (m_modeOf hP (by omega)) ?_
                rintro _ σ ⟨rfl, rfl⟩
                refine cI ?_
                refine x_ic T_274_134 ?_
                refine x_ib (w := (and32 (qMode P s (P 2306 k)) 1073741824)) T_274_137 (fun h => absurd h.1 (by decide)) rfl ?_
                refine x_if T_274_138 (fun h138 => ?_) (fun h138 => ?_)
                · replace h138 : ¬ (and32 (qMode P s (P 2306 k)) 1073741824) = 0 := h138
                  refine x_lr (z := some 2281) T_274_163 rfl ?_
                  refine x_li (z := k) T_274_164 rfl ?_
                  refine x_li (z := m) T_274_166 rfl ?_
                  refine x_cv3 T_274_168 mN_277 mL_277 (Nat.le_of_ble_eq_true rfl) mO_277 (PM.t hP) (Nat.le_of_ble_eq_true rfl) (m_open hP (by omega)) ?_
                  rintro _ σ ⟨rfl, hP⟩
                  refine cV ?_
                  refine x_lr (z := some 2281) T_274_171 rfl ?_
                  refine x_ic T_274_172 ?_
                  refine x_cv2 T_274_174 mN_236 mL_236 (Nat.le_of_ble_eq_true rfl) mO_236 (PM.t hP) (Nat.le_of_ble_eq_true rfl) (m_reply hP) ?_
                  rintro _ σ ⟨rfl, hP⟩
                  refine cV ?_
                  refine x_lr (z := some 2281) T_274_177 rfl ?_
                  refine x_li (z := s) T_274_178 rfl ?_
                  refine x_li (z := P 2306 k) T_274_179 rfl ?_
                  refine x_cv3 T_274_181 mN_264 mL_264 (Nat.le_of_ble_eq_true rfl) mO_264 (PM.t hP) (Nat.le_of_ble_eq_true rfl) (m_putQid hP (by omega) rpl_z (by decide)) ?_
                  rintro _ σ ⟨rfl, hP⟩
                  refine cV ?_
                  refine x_lr (z := some 2281) T_274_184 rfl ?_
                  refine x_ic T_274_185 ?_
                  refine x_lc T_274_186 ?_
                  refine x_cv3 T_274_187 mN_237 mL_237 (Nat.le_of_ble_eq_true rfl) mO_237 (PM.t hP) (Nat.le_of_ble_eq_true rfl) (m_put 4 rfl hP (by decide) (rA_zn (qidL_len _ _ _) rpl_z) (by omega) (by omega)) ?_
                  rintro _ σ ⟨rfl, hP⟩
                  refine cV ?_
                  refine x_rv T_274_190 ?_
                  rw [rA_rA] at hP
                  refine SV_yes (P := opG P s k m) ?_ hR h0 (byt_app (byt_qidL _ _ _) (byt_leb 4 _)) (by rw [List.length_append, leb_len]; have := qidL_len (opG P s k m) s (P 2306 k); omega) (if_pos (by (repeat' split) <;> omega)) (by (repeat' split) <;> omega)
                  unfold opG
                  first
                    | (rw [if_pos ⟨by omega, by omega, by omega⟩]; exact hP)
                    | (rw [if_neg (by omega)]; exact hP)
                · replace h138 : ¬ (¬ (and32 (qMode P s (P 2306 k)) 1073741824) = 0) := h138
                  refine x_lr (z := some 2281) T_274_141 rfl ?_
                  refine x_li (z := s) T_274_142 rfl ?_
                  refine x_li (z := P 2306 k) T_274_143 rfl ?_
                  refine x_ic T_274_145 ?_
                  refine x_cv4 T_274_146 mN_276 mL_276 (Nat.le_of_ble_eq_true rfl) mO_276 (PM.t hP) (Nat.le_of_ble_eq_true rfl) (m_resize hP hI (by omega) (by omega)) ?_
                  rintro _ σ ⟨rfl, hP⟩
                  refine cV ?_
                  refine x_lr (z := some 2281) T_274_149 rfl ?_
                  refine x_li (z := s) T_274_150 rfl ?_
                  refine x_li (z := P 2306 k) T_274_151 rfl ?_
                  refine x_lr (z := some 2281) T_274_153 rfl ?_
                  refine x_gR (z := some 2308) T_274_154 F_17_32 (PM.t hP) (PM.r hP 32 2308 rfl) ?_
                  refine x_li (z := k) T_274_157 rfl ?_
                  refine x_alI (z := P 2308 k) T_274_159 (by decide) (PM.ta hP 2308 0 288 rfl rfl) (by omega) (by omega) (Eq.trans (PM.aP hP 2308 rfl rfl (by omega)) (gSize_f (Nat.ne_of_beq_eq_false rfl) (Nat.ne_of_beq_eq_false rfl) (Nat.ne_of_beq_eq_false rfl))) ?_
                  refine x_cv4 T_274_160 mN_255 mL_255 (Nat.le_of_ble_eq_true rfl) mO_255 (PM.t hP) (Nat.le_of_ble_eq_true rfl) (m_grow hP (gSize_f (Nat.ne_of_beq_eq_false rfl) (Nat.ne_of_beq_eq_false rfl) (Nat.ne_of_beq_eq_false rfl)) (by have b : 0 ≤ (P 2292 (64 * s + (P 2306 k))) ∧ (P 2292 (64 * s + (P 2306 k))) ≤ T := IV.a hI 2292 0 128 rfl rfl rfl (by omega) (by omega); omega) (by omega)) ?_
                  rintro _ σ ⟨rfl, hP⟩
                  refine cV ?_
                  refine x_lr (z := some 2281) T_274_163 rfl ?_
                  refine x_li (z := k) T_274_164 rfl ?_
                  refine x_li (z := m) T_274_166 rfl ?_
                  refine x_cv3 T_274_168 mN_277 mL_277 (Nat.le_of_ble_eq_true rfl) mO_277 (PM.t hP) (Nat.le_of_ble_eq_true rfl) (m_open hP (by omega)) ?_
                  rintro _ σ ⟨rfl, hP⟩
                  refine cV ?_
                  refine x_lr (z := some 2281) T_274_171 rfl ?_
                  refine x_ic T_274_172 ?_
                  refine x_cv2 T_274_174 mN_236 mL_236 (Nat.le_of_ble_eq_true rfl) mO_236 (PM.t hP) (Nat.le_of_ble_eq_true rfl) (m_reply hP) ?_
                  rintro _ σ ⟨rfl, hP⟩
                  refine cV ?_
                  refine x_lr (z := some 2281) T_274_177 rfl ?_
                  refine x_li (z := s) T_274_178 rfl ?_
                  refine x_li (z := P 2306 k) T_274_179 rfl ?_
                  refine x_cv3 T_274_181 mN_264 mL_264 (Nat.le_of_ble_eq_true rfl) mO_264 (PM.t hP) (Nat.le_of_ble_eq_true rfl) (m_putQid hP (by omega) rpl_z (by decide)) ?_
                  rintro _ σ ⟨rfl, hP⟩
                  refine cV ?_
                  refine x_lr (z := some 2281) T_274_184 rfl ?_
                  refine x_ic T_274_185 ?_
                  refine x_lc T_274_186 ?_
                  refine x_cv3 T_274_187 mN_237 mL_237 (Nat.le_of_ble_eq_true rfl) mO_237 (PM.t hP) (Nat.le_of_ble_eq_true rfl) (m_put 4 rfl hP (by decide) (rA_zn (qidL_len _ _ _) rpl_z) (by omega) (by omega)) ?_
                  rintro _ σ ⟨rfl, hP⟩
                  refine cV ?_
                  refine x_rv T_274_190 ?_
                  rw [rA_rA] at hP
                  refine SV_yes (P := opG P s k m) ?_ hR h0 (byt_app (byt_qidL _ _ _) (byt_leb 4 _)) (by rw [List.length_append, leb_len]; have := qidL_len (opG P s k m) s (P 2306 k); omega) (if_pos (by (repeat' split) <;> omega)) (by (repeat' split) <;> omega)
                  unfold opG
                  first
                    | (rw [if_pos ⟨by omega, by omega, by omega⟩]; exact hP)
                    | (rw [if_neg (by omega)]; exact hP)
          · replace h95 : ¬ (r ≤ 0) := h95
            refine x_lr (z := some 2281) T_274_98 rfl ?_
            refine x_li (z := r) T_274_99 rfl ?_
            refine x_cv2 T_274_101 mN_235 mL_235 (Nat.le_of_ble_eq_true rfl) mO_235 (PM.t hP) (Nat.le_of_ble_eq_true rfl) (m_refuse hP (by omega)) ?_
            rintro _ σ ⟨rfl, hP⟩
            refine cV ?_
            refine x_rv T_274_104 ?_
            exact SV_not hP hR (by omega) (if_neg (by (repeat' split) <;> omega)) (by (repeat' split) <;> omega)
        · replace h63 : ¬ (P 2310 k = 0) := h63
          refine x_ic T_274_66 ?_
          refine x_goto T_274_67 ?_
          refine x_si (ls1 := [some (vR (some 2281)), some (vI s), some (vI c), some (vL v), none, some (vI m), some (vI k), some (vI 1), none]) T_274_91 rfl ?_
          refine x_li (z := 1) T_274_93 rfl ?_
          refine x_if T_274_95 (fun h => absurd (show (1 : Int) ≤ 0 from h) (by decide)) (fun _ => ?_)
          refine x_lr (z := some 2281) T_274_98 rfl ?_
          refine x_li (z := 1) T_274_99 rfl ?_
          refine x_cv2 T_274_101 mN_235 mL_235 (Nat.le_of_ble_eq_true rfl) mO_235 (PM.t hP) (Nat.le_of_ble_eq_true rfl) (m_refuse hP (by omega)) ?_
          rintro _ σ ⟨rfl, hP⟩
          refine cV ?_
          refine x_rv T_274_104 ?_
          exact SV_not hP hR (by omega) (if_neg (by (repeat' split) <;> omega)) (by (repeat' split) <;> omega)
      · replace h48 : ¬ (P 2309 k < 0) := h48
        refine x_ic T_274_51 ?_
        refine x_goto T_274_53 ?_
        refine x_si (ls1 := [some (vR (some 2281)), some (vI s), some (vI c), some (vL v), none, some (vI m), some (vI k), some (vI 8), none]) T_274_91 rfl ?_
        refine x_li (z := 8) T_274_93 rfl ?_
        refine x_if T_274_95 (fun h => absurd (show (8 : Int) ≤ 0 from h) (by decide)) (fun _ => ?_)
        refine x_lr (z := some 2281) T_274_98 rfl ?_
        refine x_li (z := 8) T_274_99 rfl ?_
        refine x_cv2 T_274_101 mN_235 mL_235 (Nat.le_of_ble_eq_true rfl) mO_235 (PM.t hP) (Nat.le_of_ble_eq_true rfl) (m_refuse hP (by omega)) ?_
        rintro _ σ ⟨rfl, hP⟩
        refine cV ?_
        refine x_rv T_274_104 ?_
        exact SV_not hP hR (by omega) (if_neg (by (repeat' split) <;> omega)) (by (repeat' split) <;> omega)
    · replace h33 : ¬ (0 ≤ k) := h33
      refine x_ic T_274_36 ?_
      refine x_goto T_274_38 ?_
      refine x_si (ls1 := [some (vR (some 2281)), some (vI s), some (vI c), some (vL v), none, some (vI m), some (vI k), some (vI 6), none]) T_274_91 rfl ?_
      refine x_li (z := 6) T_274_93 rfl ?_
      refine x_if T_274_95 (fun h => absurd (show (6 : Int) ≤ 0 from h) (by decide)) (fun _ => ?_)
      refine x_lr (z := some 2281) T_274_98 rfl ?_
      refine x_li (z := 6) T_274_99 rfl ?_
      refine x_cv2 T_274_101 mN_235 mL_235 (Nat.le_of_ble_eq_true rfl) mO_235 (PM.t hP) (Nat.le_of_ble_eq_true rfl) (m_refuse hP (by omega)) ?_
      rintro _ σ ⟨rfl, hP⟩
      refine cV ?_
      refine x_rv T_274_104 ?_
      exact SV_not hP hR (by omega) (if_neg (by (repeat' split) <;> omega)) (by (repeat' split) <;> omega)
  · rw [show opE P s c (S 2285) (S 2281 4) = 14 by unfold opE; exact if_pos h12, if_neg (show ¬ (14 : Int) = 0 by decide)]
    have hh : ¬ (av (S 2281 4) (av (S 2281 4) 7 4) 1 = S 2281 4 ∧ 0 ≤ av (S 2281 4) (av (S 2281 4) 7 4) 1) := by
      unfold av
      (repeat' split) <;> omega
    refine CL_in mL_274 rfl ?_
    show WP fb _ 274 0 [some (vR (some 2281)), some (vI s), some (vI c), none, none, none, none, none, none] [] σ _
    obtain ⟨q1, hq⟩ : ∃ q1, nv (S 2285) (S 2281 4) (av (S 2281 4) 7 4) 1 = q1 := ⟨_, rfl⟩
    have hq1 : 0 ≤ q1 ∧ q1 ≤ 255 := nv_one hb hq
    refine x_lr (z := some 2281) T_274_0 rfl ?_
    refine x_ic T_274_1 ?_
    refine x_cv2 T_274_2 mN_234 mL_234 (Nat.le_of_ble_eq_true rfl) mO_234 (PM.t hP) (Nat.le_of_ble_eq_true rfl) (r_num 4 rfl hP hR (by decide) rfl) ?_
    rintro _ σ ⟨rfl, S1, hP, hR⟩
    refine cL ?_
    refine x_sl (ls1 := [some (vR (some 2281)), some (vI s), some (vI c), some (vL (nv (S 2285) (S 2281 4) 7 4)), none, none, none, none, none]) T_274_5 rfl ?_
    refine x_lr (z := some 2281) T_274_6 rfl ?_
    refine x_ic T_274_7 ?_
    refine x_cv2 T_274_8 mN_234 mL_234 (Nat.le_of_ble_eq_true rfl) mO_234 (PM.t hP) (Nat.le_of_ble_eq_true rfl) (r_num 1 rfl hP hR (by decide) hq) ?_
    rintro _ σ ⟨rfl, S1, hP, hR⟩
    refine cL ?_
    refine x_l2i (w := q1) T_274_11 (w32_id (by omega) (by omega)) ?_
    refine x_si (ls1 := [some (vR (some 2281)), some (vI s), some (vI c), some (vL (nv (S 2285) (S 2281 4) 7 4)), none, some (vI q1), none, none, none]) T_274_12 rfl ?_
    refine x_lr (z := some 2281) T_274_14 rfl ?_
    have hw := r_isWhole (fb := fb) (d := d + 2) hP hR
    rw [if_neg hh, if_neg hh] at hw
    refine x_cv1 T_274_15 mN_241 mL_241 (Nat.le_of_ble_eq_true rfl) mO_241 (PM.t hP) (Nat.le_of_ble_eq_true rfl) (hw) ?_
    rintro _ σ ⟨rfl, hP⟩
    refine cI ?_
    refine x_if T_274_18 (fun h => absurd (show ¬ (0 : Int) = 0 from h) (by decide)) (fun _ => ?_)
    refine x_rv T_274_21 ?_
    exact SV_no hP hR (by decide)
/-- all fids of a connection let go, the least number first -/
def clA (P : qR) (s c : Int) : Nat → qR
  | 0 => P
  | m + 1 => if qLeast P s c < 0 then P else clA (gClunk P s (qLeast P s c)) s c m
theorem gClunk_isFid {k j : Int} : gClunk P s k 2304 j = if j = k then 0 else P 2304 j := by
  unfold gClunk
  by_cases e : j = k
  · rw [if_pos e, e, rU_s]
  · rw [if_neg e, rU_k e]
    split
    · show gGone (gRem0 P s _ _) _ _ _ 2304 j = _
      rw [gGone_f (by decide)]
      unfold gRem0
      rw [gGrow_f (by decide) (by decide), rU_f (by decide), rU_f (by decide), rU_f (by decide), rU_f (by decide)]
    · rfl
theorem MJ.mono {T1 : Int} (h : MJ T U P) (h1 : T ≤ T1) : MJ T1 U P := ⟨h.1.mono h1 (Int.le_refl U), h.2⟩
theorem gRem_o {g : Nat} {k : Int} (h1 : g ≠ 2289) (h2 : g ≠ 2302) (h3 : g ≠ 2301) (h4 : g ≠ 2297) (h5 : g ≠ 2292) (h6 : g ≠ 2296) (h7 : g ≠ 2310) : gRem P s n u g k = P g k := by
  show gGone (gRem0 P s n u) _ _ _ g k = _
  rw [gGone_f h7]
  unfold gRem0
  rw [gGrow_f h5 h6, rU_f h4, rU_f h3, rU_f h2, rU_f h1]
theorem gRem_isFile {k : Int} : gRem P s n u 2289 k = if k = 64 * s + n then 0 else P 2289 k := by
  show gGone (gRem0 P s n u) _ _ _ 2289 k = _
  rw [gGone_f (by decide)]
  unfold gRem0
  rw [gGrow_f (by decide) (by decide), rU_f (by decide), rU_f (by decide), rU_f (by decide)]
  split
  · rename_i e; rw [e, rU_s]
  · rename_i e; rw [rU_k e]
theorem gRem_gone {k : Int} (hk : 96 * s ≤ k ∧ k < 96 * s + 96) : gRem P s n u 2310 k = if ¬ P 2310 k = 0 ∨ (¬ P 2304 k = 0 ∧ P 2306 k = n) then 1 else 0 := by
  have e : ∀ g, g = 2310 ∨ g = 2304 ∨ g = 2306 → gRem0 P s n u g k = P g k := by
    intro g hg
    unfold gRem0
    rcases hg with rfl | rfl | rfl <;> rw [gGrow_f (by decide) (by decide), rU_f (by decide), rU_f (by decide), rU_f (by decide), rU_f (by decide)]
  show (if _ then (if ¬ gRem0 P s n u 2310 k = 0 ∨ (¬ gRem0 P s n u 2304 k = 0 ∧ gRem0 P s n u 2306 k = n) then (1 : Int) else 0) else _) = _
  rw [if_pos ⟨rfl, hk⟩, e _ (Or.inl rfl), e _ (Or.inr (Or.inl rfl)), e _ (Or.inr (Or.inr rfl))]
theorem gRem_gone2 {k : Int} (hk : ¬ (96 * s ≤ k ∧ k < 96 * s + 96)) : gRem P s n u 2310 k = P 2310 k := by
  show gGone (gRem0 P s n u) _ _ _ 2310 k = _
  rw [gGone_o (by omega)]
  unfold gRem0
  rw [gGrow_f (by decide) (by decide), rU_f (by decide), rU_f (by decide), rU_f (by decide), rU_f (by decide)]
theorem FI_gRem (h : FI P) (hI : IV false T U P) (hs : 0 ≤ s ∧ s < 2) (hn : 0 ≤ n ∧ n < 64) : FI (gRem P s n u) := fun k h0 h1 h2 h3 => by
  have b : 0 ≤ P 2306 k ∧ P 2306 k ≤ (if k < 192 then 63 else 143) := IV.a hI 2306 0 288 rfl rfl rfl (by omega) (by omega)
  rw [if_pos h1] at b
  rw [gRem_o (by decide) (by decide) (by decide) (by decide) (by decide) (by decide) (by decide)] at h2
  rw [gRem_isFile, gRem_o (by decide) (by decide) (by decide) (by decide) (by decide) (by decide) (by decide)]
  by_cases q : 96 * s ≤ k ∧ k < 96 * s + 96
  · rw [gRem_gone q] at h3
    split at h3
    · omega
    · rename_i c
      rw [if_neg (fun e => c (Or.inr ⟨h2, by omega⟩))]
      exact h k h0 h1 h2 (by omega)
  · rw [gRem_gone2 q] at h3
    rw [if_neg (by omega)]
    exact h k h0 h1 h2 h3
theorem MJ_gClunk {k : Int} (h : MJ T U P) (hs : 0 ≤ s ∧ s < 3) (hk : 96 * s ≤ k ∧ k < 96 * s + 96) (hf : ¬ P 2304 k = 0) : MJ (T + 1) U (gClunk P s k) := by
  have b : 0 ≤ P 2306 k ∧ P 2306 k ≤ (if k < 192 then 63 else 143) := IV.a h.1.1 2306 0 288 rfl rfl rfl (by omega) (by omega)
  refine ⟨MI_gClunk h.1 hs hk (fun q1 q2 => ?_), ?_⟩
  · have := h.2 k (by omega) (by omega) hf q2
    rw [show k / 96 = s by omega] at this
    exact this
  · have key : ∀ Q, FI Q → FI (rU Q 2304 k 0) := fun Q hQ j h0 h1 h2 h3 => by
      by_cases e : j = k
      · rw [e, rU_s] at h2
        exact absurd rfl h2
      · rw [rU_k e] at h2
        rw [rU_f (by decide)] at h3
        rw [rU_f (by decide), rU_f (by decide)]
        exact hQ j h0 h1 h2 h3
    unfold gClunk
    split
    · rename_i c
      have hr := qRem_0 c.2
      rw [if_pos (by omega)] at b
      exact key _ (FI_gRem h.2 h.1.1 ⟨hs.1, by omega⟩ (by omega))
    · exact key _ h.2
theorem sm_isFid_clunk {k : Int} (hI : IV false T U P) (hs : 0 ≤ s ∧ s < 3) (hc : 0 ≤ c ∧ c < 2) (hk : 48 * (2 * s + c) ≤ k ∧ k < 48 * (2 * s + c) + 48) (hf : ¬ P 2304 k = 0) : sm (gClunk P s k 2304) (48 * (2 * s + c)) 48 + 1 = sm (P 2304) (48 * (2 * s + c)) 48 := by
  have b : 0 ≤ P 2304 k ∧ P 2304 k ≤ 1 := IV.a hI 2304 2 288 rfl rfl rfl (by omega) (by omega)
  have e := sm_one (f := gClunk P s k 2304) (g := P 2304) (k := k) 48 (48 * (2 * s + c)) hk.1 (by omega) (fun i hi => by rw [gClunk_isFid, if_neg hi])
  rw [gClunk_isFid, if_pos rfl] at e
  omega
theorem MJ_clA (hs : 0 ≤ s ∧ s < 3) (hc : 0 ≤ c ∧ c < 2) : ∀ (m : Nat) (T : Int) (P : qR), MJ T U P → MJ (T + m) U (clA P s c m)
  | 0, T, P, h => h.mono (by omega)
  | m + 1, T, P, h => by
    unfold clA
    have hr := lsF_rng (P := P) (lo := 48 * (2 * s + c)) 48 (48 * (2 * s + c)) (-1) (by omega) (by omega) (Or.inl rfl)
    split
    · exact h.mono (by omega)
    · rename_i q
      have q : ¬ lsF P 48 (48 * (2 * s + c)) (-1) < 0 := q
      have h2 := MJ_clA hs hc m (T + 1) _ (MJ_gClunk (k := qLeast P s c) h hs (by unfold qLeast; omega) (by unfold qLeast; omega))
      rw [show T + ((m + 1 : Nat) : Int) = T + 1 + (m : Int) by omega]
      exact h2
theorem clA_none (h : qLeast P s c < 0) : ∀ m, clA P s c m = P
  | 0 => rfl
  | m + 1 => if_pos h
theorem m_version_loop {v : Int} (hs : 0 ≤ s ∧ s < 3) (hc : 0 ≤ c ∧ c < 2) {Q : Option AV → hM → Prop} : ∀ (m : Nat) (T : Int) (P : qR) (σ : hM), sm (P 2304) (48 * (2 * s + c)) 48 ≤ m → MJ T U P → T + m ≤ 2147483000 → PM σ0 P S σ → (∀ σ k, PM σ0 (clA P s c m) S σ → WP fb (d + 6) 239 64 [some (vR (some 2281)), some (vI s), some (vI c), some (vL v), none, some (vI k), none] [] σ Q) → WP fb (d + 6) 239 41 [some (vR (some 2281)), some (vI s), some (vI c), some (vL v), none, some (vI (qLeast P s c)), none] [] σ Q := by
  intro m
  induction m with
  | zero =>
    intro T P σ hm hI hT hP hQ
    have hr := lsF_rng (P := P) (lo := 48 * (2 * s + c)) 48 (48 * (2 * s + c)) (-1) (by omega) (by omega) (Or.inl rfl)
    have hr : qLeast P s c = -1 ∨ (48 * (2 * s + c) ≤ qLeast P s c ∧ qLeast P s c < 48 * (2 * s + c) + 48 ∧ ¬ P 2304 (qLeast P s c) = 0) := hr
    have hn : qLeast P s c < 0 := by
      rcases hr with hr | hr
      · omega
      · have := sm_ge (f := P 2304) (k := qLeast P s c) 48 (48 * (2 * s + c)) hr.1 hr.2.1 (fun i h1 h2 => by
          have b : 0 ≤ P 2304 i ∧ P 2304 i ≤ 1 := IV.a hI.1.1 2304 2 288 rfl rfl rfl (by omega) (by omega)
          exact b.1)
        have b : 0 ≤ P 2304 (qLeast P s c) ∧ P 2304 (qLeast P s c) ≤ 1 := IV.a hI.1.1 2304 2 288 rfl rfl rfl (by omega) (by omega)
        omega
    refine x_li (z := qLeast P s c) T_239_41 rfl ?_
    refine x_if T_239_43 (fun _ => ?_) (fun h => absurd (show qLeast P s c < 0 by omega) h)
    exact hQ σ _ hP
  | succ m ih =>
    intro T P σ hm hI hT hP hQ
    have hr := lsF_rng (P := P) (lo := 48 * (2 * s + c)) 48 (48 * (2 * s + c)) (-1) (by omega) (by omega) (Or.inl rfl)
    have hr : qLeast P s c = -1 ∨ (48 * (2 * s + c) ≤ qLeast P s c ∧ qLeast P s c < 48 * (2 * s + c) + 48 ∧ ¬ P 2304 (qLeast P s c) = 0) := hr
    by_cases hn : qLeast P s c < 0
    · rw [clA_none hn] at hQ
      refine x_li (z := qLeast P s c) T_239_41 rfl ?_
      refine x_if T_239_43 (fun _ => ?_) (fun h => absurd (show qLeast P s c < 0 by omega) h)
      exact hQ σ _ hP
    · have hr := hr.resolve_left (by omega)
      have hsm := sm_isFid_clunk (c := c) hI.1.1 hs hc ⟨hr.1, hr.2.1⟩ hr.2.2
      rw [show clA P s c (m + 1) = clA (gClunk P s (qLeast P s c)) s c m from if_neg hn] at hQ
      refine x_li (z := qLeast P s c) T_239_41 rfl ?_
      refine x_if T_239_43 (fun h => absurd (show qLeast P s c < 0 from h) (by omega)) (fun _ => ?_)
      refine x_lr (z := some 2281) T_239_46 rfl ?_
      refine x_li (z := s) T_239_47 rfl ?_
      refine x_li (z := qLeast P s c) T_239_48 rfl ?_
      refine x_cv3 T_239_50 mN_244 mL_244 (Nat.le_of_ble_eq_true rfl) mO_244 (PM.t hP) (Nat.le_of_ble_eq_true rfl) (m_clunk hP hI.1.1 (by omega) (by omega) (by omega)) ?_
      rintro _ σ ⟨rfl, hP⟩
      refine cV ?_
      refine x_lr (z := some 2281) T_239_53 rfl ?_
      refine x_li (z := s) T_239_54 rfl ?_
      refine x_li (z := c) T_239_55 rfl ?_
      refine x_cv3 T_239_56 mN_242 mL_242 (Nat.le_of_ble_eq_true rfl) mO_242 (PM.t hP) (Nat.le_of_ble_eq_true rfl) (m_leastFid hP (by omega) (by omega)) ?_
      rintro _ σ ⟨rfl, rfl⟩
      refine cI ?_
      refine x_si (ls1 := [some (vR (some 2281)), some (vI s), some (vI c), some (vL v), none, some (vI (qLeast (gClunk P s (qLeast P s c)) s c)), none]) T_239_59 rfl ?_
      refine x_goto T_239_61 ?_
      exact ih (T + 1) _ σ (by omega) (MJ_gClunk hI hs (by omega) hr.2.2) (by omega) hP hQ
theorem ask_ans {l : List Int} (h : RS T U S S1 p st) : rA (rpl S1 t) l 2285 = S 2285 := funext (fun k => (rA_o (by decide) (fun e => absurd e.1 (by decide))).trans ((rpl_o (by decide) (fun e => absurd e.1 (by decide))).trans h.ask))
theorem IV_ans {l : List Int} (h : IV true T U S1) (hl : byt l) (hz : (l.length : Int) ≤ 400) : IV true T U (rA (rpl S1 t) l) := IV_rA (IV_rpl h) hl (by rw [rpl_z]; omega)
def vsE (a : Int → Int) (z : Int) : Int := if ¬ sE a z 11 = z then 14 else if nu a 7 4 < 64 then 14 else 0
def vsP (P : qR) (s c : Int) (a : Int → Int) : qR := rU (clA P s c 48) 2313 (2 * s + c) (if nu a 7 4 < 300 then nu a 7 4 else 300)
def vsK (a : Int → Int) : Prop := 6 ≤ nu a 11 2 ∧ seg a 13 6 = seg (pkB 63016602185776 6) 0 6
def vsL (a : Int → Int) (w : Int) : List Int := leb 4 w ++ (if 6 ≤ nu a 11 2 ∧ seg a 13 6 = seg (pkB 63016602185776 6) 0 6 then leb 2 6 ++ pkP 63016602185776 6 6 else leb 2 7 ++ pkP 33053979968501614 7 7)
theorem byt_vsL (a : Int → Int) (w : Int) : byt (vsL a w) := by
  unfold vsL
  split
  · exact byt_app (byt_leb 4 _) (byt_app (byt_leb 2 _) (byt_pkP _ _ _))
  · exact byt_app (byt_leb 4 _) (byt_app (byt_leb 2 _) (byt_pkP _ _ _))
theorem vsL_len (a : Int → Int) (w : Int) : ((vsL a w).length : Int) ≤ 13 := by
  unfold vsL
  split
  · show (12 : Int) ≤ 13
    decide
  · show (13 : Int) ≤ 13
    decide
theorem m_serveVersion (hP : PM σ0 P S1 σ) (hR : RS T U S S1 7 []) (hI : MJ T U P) (hT : T + 48 ≤ 2147483000) (hs : 0 ≤ s ∧ s < 3) (hc : 0 ≤ c ∧ c < 2) (h0 : S 2281 7 = 0) : CL fb (d + 7) 239 [vR (some 2281), vI s, vI c] σ (SV T U σ0 S (if vsE (S 2285) (S 2281 4) = 0 then vsP P s c (S 2285) else P) (vsE (S 2285) (S 2281 4)) 101 (vsL (S 2285) (if nu (S 2285) 7 4 < 300 then nu (S 2285) 7 4 else 300))) := by
  obtain ⟨hz0, hz1, hb⟩ := hR.pb
  have hz7 : 7 ≤ S 2281 4 := hR.2.2.2.2.1
  have e1 : sE (S 2285) (S 2281 4) (av (S 2281 4) 7 4) = sE (S 2285) (S 2281 4) 11 := sE_av (by decide) (by decide)
  by_cases hw : sE (S 2285) (S 2281 4) 11 = S 2281 4
  · have hc1 := (sE_cases (p := 11) hb).resolve_left (by omega)
    obtain ⟨v, hv0⟩ : ∃ v, nu (S 2285) 7 4 = v := ⟨_, rfl⟩
    have hv2 := nv_ok (a := S 2285) (z := S 2281 4) (p := 7) (n := 4) (by decide) (by omega) hb
    rw [hv0] at hv2
    have hv3 : 0 ≤ v ∧ v < 4294967296 := hv2.2
    have a1 : av (S 2281 4) 7 4 = 11 := if_neg (by omega)
    obtain ⟨y, hy⟩ : ∃ y, nu (S 2285) 11 2 = y := ⟨_, rfl⟩
    rw [hy] at hc1
    have hh : S 2281 4 = S 2281 4 ∧ 0 ≤ S 2281 4 := ⟨rfl, hz0⟩
    have hsm : sm (P 2304) (48 * (2 * s + c)) 48 ≤ 48 := by
      have h1 := sm_le (f := P 2304) (g := fun _ => 1) 48 (48 * (2 * s + c)) (fun i h1 h2 => by
        have b : 0 ≤ P 2304 i ∧ P 2304 i ≤ 1 := IV.a hI.1.1 2304 2 288 rfl rfl rfl (by omega) (by omega)
        exact b.2)
      rw [sm_const] at h1
      exact h1
    have hE : vsE (S 2285) (S 2281 4) = if v < 64 then 14 else 0 := by
      unfold vsE
      rw [hv0]
      exact if_neg (fun q => q hw)
    rw [hE]
    unfold vsP vsL
    rw [hv0, hy]
    by_cases h64 : v < 64
    · rw [if_pos h64, if_neg (show ¬ (14 : Int) = 0 by decide)]
      refine CL_in mL_239 rfl ?_
      show WP fb _ 239 0 [some (vR (some 2281)), some (vI s), some (vI c), none, none, none, none] [] σ _
      refine x_lr (z := some 2281) T_239_0 rfl ?_
      refine x_ic T_239_1 ?_
      refine x_cv2 T_239_2 mN_234 mL_234 (Nat.le_of_ble_eq_true rfl) mO_234 (PM.t hP) (Nat.le_of_ble_eq_true rfl) (r_num 4 rfl hP hR (by decide) hv2.1) ?_
      rintro _ σ ⟨rfl, S1, hP, hR⟩
      rw [a1] at hR
      refine cL ?_
      refine x_sl (ls1 := [some (vR (some 2281)), some (vI s), some (vI c), some (vL v), none, none, none]) T_239_5 rfl ?_
      refine x_lr (z := some 2281) T_239_6 rfl ?_
      refine x_cv1 T_239_7 mN_240 mL_240 (Nat.le_of_ble_eq_true rfl) mO_240 (PM.t hP) (Nat.le_of_ble_eq_true rfl) (r_string hP hR (by decide)) ?_
      rintro _ σ ⟨rfl, S1, hP, hR⟩
      rw [hw, if_neg (by omega), hy] at hR
      refine cV ?_
      refine x_lr (z := some 2281) T_239_10 rfl ?_
      have hw := r_isWhole (fb := fb) (d := d + 3) hP hR
      rw [if_pos hh, if_pos hh] at hw
      refine x_cv1 T_239_11 mN_241 mL_241 (Nat.le_of_ble_eq_true rfl) mO_241 (PM.t hP) (Nat.le_of_ble_eq_true rfl) (hw) ?_
      rintro _ σ ⟨rfl, hP⟩
      refine cI ?_
      refine x_if T_239_14 (fun _ => ?_) (fun h => absurd (show ¬ (1 : Int) = 0 by decide) h)
      refine x_ll (z := v) T_239_18 rfl ?_
      refine x_lc T_239_19 ?_
      refine x_lif T_239_22 T_239_23 (fun h => absurd (show 64 ≤ v from h) (by omega)) (fun _ => ?_)
      refine x_lr (z := some 2281) T_239_26 rfl ?_
      refine x_ic T_239_27 ?_
      refine x_cv2 T_239_29 mN_235 mL_235 (Nat.le_of_ble_eq_true rfl) mO_235 (PM.t hP) (Nat.le_of_ble_eq_true rfl) (m_refuse hP (by omega)) ?_
      rintro _ σ ⟨rfl, hP⟩
      refine cV ?_
      refine x_rv T_239_32 ?_
      exact SV_no hP hR (by decide)
    · rw [if_neg h64, if_pos rfl]
      refine CL_in mL_239 rfl ?_
      show WP fb _ 239 0 [some (vR (some 2281)), some (vI s), some (vI c), none, none, none, none] [] σ _
      refine x_lr (z := some 2281) T_239_0 rfl ?_
      refine x_ic T_239_1 ?_
      refine x_cv2 T_239_2 mN_234 mL_234 (Nat.le_of_ble_eq_true rfl) mO_234 (PM.t hP) (Nat.le_of_ble_eq_true rfl) (r_num 4 rfl hP hR (by decide) hv2.1) ?_
      rintro _ σ ⟨rfl, S1, hP, hR⟩
      rw [a1] at hR
      refine cL ?_
      refine x_sl (ls1 := [some (vR (some 2281)), some (vI s), some (vI c), some (vL v), none, none, none]) T_239_5 rfl ?_
      refine x_lr (z := some 2281) T_239_6 rfl ?_
      refine x_cv1 T_239_7 mN_240 mL_240 (Nat.le_of_ble_eq_true rfl) mO_240 (PM.t hP) (Nat.le_of_ble_eq_true rfl) (r_string hP hR (by decide)) ?_
      rintro _ σ ⟨rfl, S1, hP, hR⟩
      rw [hw, if_neg (by omega), hy] at hR
      refine cV ?_
      refine x_lr (z := some 2281) T_239_10 rfl ?_
      have hw := r_isWhole (fb := fb) (d := d + 3) hP hR
      rw [if_pos hh, if_pos hh] at hw
      refine x_cv1 T_239_11 mN_241 mL_241 (Nat.le_of_ble_eq_true rfl) mO_241 (PM.t hP) (Nat.le_of_ble_eq_true rfl) (hw) ?_
      rintro _ σ ⟨rfl, hP⟩
      refine cI ?_
      refine x_if T_239_14 (fun _ => ?_) (fun h => absurd (show ¬ (1 : Int) = 0 by decide) h)
      refine x_ll (z := v) T_239_18 rfl ?_
      refine x_lc T_239_19 ?_
      refine x_lif T_239_22 T_239_23 (fun _ => ?_) (fun h => absurd (show 64 ≤ v by omega) h)
      refine x_lr (z := some 2281) T_239_33 rfl ?_
      refine x_li (z := s) T_239_34 rfl ?_
      refine x_li (z := c) T_239_35 rfl ?_
      refine x_cv3 T_239_36 mN_242 mL_242 (Nat.le_of_ble_eq_true rfl) mO_242 (PM.t hP) (Nat.le_of_ble_eq_true rfl) (m_leastFid hP (by omega) (by omega)) ?_
      rintro _ σ ⟨rfl, rfl⟩
      refine cI ?_
      refine x_si (ls1 := [some (vR (some 2281)), some (vI s), some (vI c), some (vL v), none, some (vI (qLeast P s c)), none]) T_239_39 rfl ?_
      refine m_version_loop (d := d + 1) hs hc 48 T P σ hsm hI hT hP (fun σ k hP => ?_)
      have q0 := hR.st0
      have qJ := hR.iv
      obtain ⟨P1, hP1⟩ : ∃ P1, P1 = clA P s c 48 := ⟨_, rfl⟩
      rw [← hP1] at hP ⊢
      by_cases h300 : v < 300
      · rw [if_pos h300]
        refine x_lr (z := some 2281) T_239_64 rfl ?_
        refine x_gR (z := some 2313) T_239_65 F_17_37 (PM.t hP) (PM.r hP 37 2313 rfl) ?_
        refine x_ic T_239_68 ?_
        refine x_li (z := s) T_239_69 rfl ?_
        refine x_ib (w := (2 * s)) T_239_70 (fun h => absurd h.1 (by decide)) (w32_id (by omega) (by omega)) ?_
        refine x_li (z := c) T_239_71 rfl ?_
        refine x_ib (w := ((2 * s) + c)) T_239_72 (fun h => absurd h.1 (by decide)) (w32_id (by omega) (by omega)) ?_
        refine x_ll (z := v) T_239_73 rfl ?_
        refine x_lc T_239_74 ?_
        refine x_lif T_239_77 T_239_78 (fun h => absurd (show 300 ≤ v from h) (by omega)) (fun _ => ?_)
        refine x_ll (z := v) T_239_81 rfl ?_
        refine x_l2i (w := v) T_239_82 (w32_id (by omega) (by omega)) ?_
        refine x_goto T_239_83 ?_
        refine y_aIP hP T_239_89 2313 6 rfl rfl rfl (by omega) (by omega) (fun σ hP => ?_)
        refine x_lr (z := some 2281) T_239_90 rfl ?_
        refine x_ic T_239_91 ?_
        refine x_cv2 T_239_93 mN_236 mL_236 (Nat.le_of_ble_eq_true rfl) mO_236 (PM.t hP) (Nat.le_of_ble_eq_true rfl) (m_reply hP) ?_
        rintro _ σ ⟨rfl, hP⟩
        refine cV ?_
        refine x_lr (z := some 2281) T_239_96 rfl ?_
        refine x_ic T_239_97 ?_
        refine x_lr (z := some 2281) T_239_98 rfl ?_
        refine x_gR (z := some 2313) T_239_99 F_17_37 (PM.t hP) (PM.r hP 37 2313 rfl) ?_
        refine x_ic T_239_102 ?_
        refine x_li (z := s) T_239_103 rfl ?_
        refine x_ib (w := (2 * s)) T_239_104 (fun h => absurd h.1 (by decide)) (w32_id (by omega) (by omega)) ?_
        refine x_li (z := c) T_239_105 rfl ?_
        refine x_ib (w := ((2 * s) + c)) T_239_106 (fun h => absurd h.1 (by decide)) (w32_id (by omega) (by omega)) ?_
        refine x_alI (z := v) T_239_107 (by decide) (PM.ta hP 2313 0 6 rfl rfl) (by omega) (by omega) (Eq.trans (PM.aP hP 2313 rfl rfl (by omega)) rU_s) ?_
        refine x_i2l T_239_108 ?_
        refine x_cv3 T_239_109 mN_237 mL_237 (Nat.le_of_ble_eq_true rfl) mO_237 (PM.t hP) (Nat.le_of_ble_eq_true rfl) (m_put 4 rfl hP (by decide) rpl_z (by omega) (by omega)) ?_
        rintro _ σ ⟨rfl, hP⟩
        refine cV ?_
        refine x_cut (C := 6 ≤ y ∧ seg (S 2285) 13 6 = seg (pkB 63016602185776 6) 0 6) (J := 146) (ls1 := [some (vR (some 2281)), some (vI s), some (vI c), some (vL v), none, some (vI k), none]) (sk := fun z => vI z :: []) (fun z146 hz146 => ?_) (fun kJ146 => ?_)
        · refine x_si (ls1 := [some (vR (some 2281)), some (vI s), some (vI c), some (vL v), none, some (vI k), some (vI z146)]) T_239_146 rfl ?_
          refine x_lr (z := some 2281) T_239_148 rfl ?_
          refine x_li (z := z146) T_239_149 rfl ?_
          refine x_if T_239_151 (fun h151 => ?_) (fun h151 => ?_)
          · replace h151 : ¬ (6 ≤ y ∧ seg (S 2285) 13 6 = seg (pkB 63016602185776 6) 0 6) := ite1_z (hz146.symm.trans h151)
            refine x_lc T_239_160 ?_
            refine x_li (z := z146) T_239_163 rfl ?_
            refine x_if T_239_165 (fun h165 => ?_) (fun h165 => ?_)
            · replace h165 : ¬ (6 ≤ y ∧ seg (S 2285) 13 6 = seg (pkB 63016602185776 6) 0 6) := ite1_z (hz146.symm.trans h165)
              refine x_ic T_239_173 ?_
              refine x_cv3 T_239_175 mN_257 mL_257 (Nat.le_of_ble_eq_true rfl) mO_257 (PM.t hP) (Nat.le_of_ble_eq_true rfl) (m_putPacked hP (by decide) (rA_zn (leb_z 4 _ rfl) rpl_z) (by decide)) ?_
              rintro _ σ ⟨rfl, hP⟩
              refine cV ?_
              refine x_rv T_239_178 ?_
              rw [rA_rA] at hP
              first
                | (rw [if_pos h151]; exact SV_ok hP hR h0 (byt_app (byt_leb 4 _) (byt_app (byt_leb 2 _) (byt_pkP _ _ _))) (by show (12 : Int) ≤ 400; decide))
                | (rw [if_neg h151]; exact SV_ok hP hR h0 (byt_app (byt_leb 4 _) (byt_app (byt_leb 2 _) (byt_pkP _ _ _))) (by show (13 : Int) ≤ 400; decide))
                | exact absurd h151 h165
                | exact absurd h165 h151
            · replace h165 : (6 ≤ y ∧ seg (S 2285) 13 6 = seg (pkB 63016602185776 6) 0 6) := ite1_n (fun e => h165 (hz146.trans e))
              refine x_ic T_239_168 ?_
              refine x_goto T_239_170 ?_
              refine x_cv3 T_239_175 mN_257 mL_257 (Nat.le_of_ble_eq_true rfl) mO_257 (PM.t hP) (Nat.le_of_ble_eq_true rfl) (m_putPacked hP (by decide) (rA_zn (leb_z 4 _ rfl) rpl_z) (by decide)) ?_
              rintro _ σ ⟨rfl, hP⟩
              refine cV ?_
              refine x_rv T_239_178 ?_
              rw [rA_rA] at hP
              first
                | (rw [if_pos h151]; exact SV_ok hP hR h0 (byt_app (byt_leb 4 _) (byt_app (byt_leb 2 _) (byt_pkP _ _ _))) (by show (12 : Int) ≤ 400; decide))
                | (rw [if_neg h151]; exact SV_ok hP hR h0 (byt_app (byt_leb 4 _) (byt_app (byt_leb 2 _) (byt_pkP _ _ _))) (by show (13 : Int) ≤ 400; decide))
                | exact absurd h151 h165
                | exact absurd h165 h151
          · replace h151 : (6 ≤ y ∧ seg (S 2285) 13 6 = seg (pkB 63016602185776 6) 0 6) := ite1_n (fun e => h151 (hz146.trans e))
            refine x_lc T_239_154 ?_
            refine x_goto T_239_157 ?_
            refine x_li (z := z146) T_239_163 rfl ?_
            refine x_if T_239_165 (fun h165 => ?_) (fun h165 => ?_)
            · replace h165 : ¬ (6 ≤ y ∧ seg (S 2285) 13 6 = seg (pkB 63016602185776 6) 0 6) := ite1_z (hz146.symm.trans h165)
              refine x_ic T_239_173 ?_
              refine x_cv3 T_239_175 mN_257 mL_257 (Nat.le_of_ble_eq_true rfl) mO_257 (PM.t hP) (Nat.le_of_ble_eq_true rfl) (m_putPacked hP (by decide) (rA_zn (leb_z 4 _ rfl) rpl_z) (by decide)) ?_
              rintro _ σ ⟨rfl, hP⟩
              refine cV ?_
              refine x_rv T_239_178 ?_
              rw [rA_rA] at hP
              first
                | (rw [if_pos h151]; exact SV_ok hP hR h0 (byt_app (byt_leb 4 _) (byt_app (byt_leb 2 _) (byt_pkP _ _ _))) (by show (12 : Int) ≤ 400; decide))
                | (rw [if_neg h151]; exact SV_ok hP hR h0 (byt_app (byt_leb 4 _) (byt_app (byt_leb 2 _) (byt_pkP _ _ _))) (by show (13 : Int) ≤ 400; decide))
                | exact absurd h151 h165
                | exact absurd h165 h151
            · replace h165 : (6 ≤ y ∧ seg (S 2285) 13 6 = seg (pkB 63016602185776 6) 0 6) := ite1_n (fun e => h165 (hz146.trans e))
              refine x_ic T_239_168 ?_
              refine x_goto T_239_170 ?_
              refine x_cv3 T_239_175 mN_257 mL_257 (Nat.le_of_ble_eq_true rfl) mO_257 (PM.t hP) (Nat.le_of_ble_eq_true rfl) (m_putPacked hP (by decide) (rA_zn (leb_z 4 _ rfl) rpl_z) (by decide)) ?_
              rintro _ σ ⟨rfl, hP⟩
              refine cV ?_
              refine x_rv T_239_178 ?_
              rw [rA_rA] at hP
              first
                | (rw [if_pos h151]; exact SV_ok hP hR h0 (byt_app (byt_leb 4 _) (byt_app (byt_leb 2 _) (byt_pkP _ _ _))) (by show (12 : Int) ≤ 400; decide))
                | (rw [if_neg h151]; exact SV_ok hP hR h0 (byt_app (byt_leb 4 _) (byt_app (byt_leb 2 _) (byt_pkP _ _ _))) (by show (13 : Int) ≤ 400; decide))
                | exact absurd h151 h165
                | exact absurd h165 h151
        · refine x_lr (z := some 2281) T_239_112 rfl ?_
          refine x_gR (z := some 2288) T_239_113 F_17_11 (PM.t hP) (PM.r hP 11 2288 rfl) ?_
          refine x_ic T_239_116 ?_
          refine x_alI (z := y) T_239_117 (by decide) (PM.ta hP 2288 0 8 rfl rfl) (by omega) (by omega) (Eq.trans (Eq.trans (PM.aS hP 2288 rfl rfl (by omega)) (Eq.trans (rA_o (Nat.ne_of_beq_eq_false rfl) (by decide)) (rpl_o (Nat.ne_of_beq_eq_false rfl) (by decide)))) q0.2) ?_
          refine x_ic T_239_118 ?_
          refine x_ic2 T_239_120 (fun h120 => ?_) (fun h120 => ?_)
          · replace h120 : y < 6 := h120
            refine x_ic T_239_145 ?_
            exact kJ146 0 (if_neg (by first | (exact fun q => by omega) | exact fun q => h138 q.2)).symm
          · replace h120 : ¬ (y < 6) := h120
            refine x_lr (z := some 2281) T_239_123 rfl ?_
            refine x_lr (z := some 2281) T_239_124 rfl ?_
            refine x_gR (z := some 2287) T_239_125 F_17_10 (PM.t hP) (PM.r hP 10 2287 rfl) ?_
            refine x_ic T_239_128 ?_
            refine x_alI (z := 13) T_239_129 (by decide) (PM.ta hP 2287 0 8 rfl rfl) (by omega) (by omega) (Eq.trans (Eq.trans (PM.aS hP 2287 rfl rfl (by omega)) (Eq.trans (rA_o (Nat.ne_of_beq_eq_false rfl) (by decide)) (rpl_o (Nat.ne_of_beq_eq_false rfl) (by decide)))) q0.1) ?_
            refine x_lc T_239_130 ?_
            refine x_ic T_239_133 ?_
            refine x_cv4 T_239_135 mN_256 mL_256 (Nat.le_of_ble_eq_true rfl) mO_256 (PM.t hP) (Nat.le_of_ble_eq_true rfl) (CL_val (k := if seg (S 2285) 13 6 = seg (pkB 63016602185776 6) 0 6 then 1 else 0) (m_isPacked hP (IV_ans qJ (byt_leb 4 _) (by rw [leb_len]; decide)) (by decide) (by decide) (by decide)) (by rw [ask_ans hR] <;> rfl)) ?_
            rintro _ σ ⟨rfl, rfl⟩
            refine cI ?_
            refine x_if T_239_138 (fun h138 => ?_) (fun h138 => ?_)
            · replace h138 : ¬ (seg (S 2285) 13 6 = seg (pkB 63016602185776 6) 0 6) := ite1_z h138
              refine x_ic T_239_145 ?_
              exact kJ146 0 (if_neg (by first | (exact fun q => by omega) | exact fun q => h138 q.2)).symm
            · replace h138 : (seg (S 2285) 13 6 = seg (pkB 63016602185776 6) 0 6) := ite1_n h138
              refine x_ic T_239_141 ?_
              refine x_goto T_239_142 ?_
              exact kJ146 1 (if_pos (by exact ⟨by omega, h138⟩)).symm
      · rw [if_neg h300]
        refine x_lr (z := some 2281) T_239_64 rfl ?_
        refine x_gR (z := some 2313) T_239_65 F_17_37 (PM.t hP) (PM.r hP 37 2313 rfl) ?_
        refine x_ic T_239_68 ?_
        refine x_li (z := s) T_239_69 rfl ?_
        refine x_ib (w := (2 * s)) T_239_70 (fun h => absurd h.1 (by decide)) (w32_id (by omega) (by omega)) ?_
        refine x_li (z := c) T_239_71 rfl ?_
        refine x_ib (w := ((2 * s) + c)) T_239_72 (fun h => absurd h.1 (by decide)) (w32_id (by omega) (by omega)) ?_
        refine x_ll (z := v) T_239_73 rfl ?_
        refine x_lc T_239_74 ?_
        refine x_lif T_239_77 T_239_78 (fun _ => ?_) (fun h => absurd (show 300 ≤ v by omega) h)
        refine x_ic T_239_86 ?_
        refine y_aIP hP T_239_89 2313 6 rfl rfl rfl (by omega) (by omega) (fun σ hP => ?_)
        refine x_lr (z := some 2281) T_239_90 rfl ?_
        refine x_ic T_239_91 ?_
        refine x_cv2 T_239_93 mN_236 mL_236 (Nat.le_of_ble_eq_true rfl) mO_236 (PM.t hP) (Nat.le_of_ble_eq_true rfl) (m_reply hP) ?_
        rintro _ σ ⟨rfl, hP⟩
        refine cV ?_
        refine x_lr (z := some 2281) T_239_96 rfl ?_
        refine x_ic T_239_97 ?_
        refine x_lr (z := some 2281) T_239_98 rfl ?_
        refine x_gR (z := some 2313) T_239_99 F_17_37 (PM.t hP) (PM.r hP 37 2313 rfl) ?_
        refine x_ic T_239_102 ?_
        refine x_li (z := s) T_239_103 rfl ?_
        refine x_ib (w := (2 * s)) T_239_104 (fun h => absurd h.1 (by decide)) (w32_id (by omega) (by omega)) ?_
        refine x_li (z := c) T_239_105 rfl ?_
        refine x_ib (w := ((2 * s) + c)) T_239_106 (fun h => absurd h.1 (by decide)) (w32_id (by omega) (by omega)) ?_
        refine x_alI (z := 300) T_239_107 (by decide) (PM.ta hP 2313 0 6 rfl rfl) (by omega) (by omega) (Eq.trans (PM.aP hP 2313 rfl rfl (by omega)) rU_s) ?_
        refine x_i2l T_239_108 ?_
        refine x_cv3 T_239_109 mN_237 mL_237 (Nat.le_of_ble_eq_true rfl) mO_237 (PM.t hP) (Nat.le_of_ble_eq_true rfl) (m_put 4 rfl hP (by decide) rpl_z (by omega) (by omega)) ?_
        rintro _ σ ⟨rfl, hP⟩
        refine cV ?_
        refine x_cut (C := 6 ≤ y ∧ seg (S 2285) 13 6 = seg (pkB 63016602185776 6) 0 6) (J := 146) (ls1 := [some (vR (some 2281)), some (vI s), some (vI c), some (vL v), none, some (vI k), none]) (sk := fun z => vI z :: []) (fun z146 hz146 => ?_) (fun kJ146 => ?_)
        · refine x_si (ls1 := [some (vR (some 2281)), some (vI s), some (vI c), some (vL v), none, some (vI k), some (vI z146)]) T_239_146 rfl ?_
          refine x_lr (z := some 2281) T_239_148 rfl ?_
          refine x_li (z := z146) T_239_149 rfl ?_
          refine x_if T_239_151 (fun h151 => ?_) (fun h151 => ?_)
          · replace h151 : ¬ (6 ≤ y ∧ seg (S 2285) 13 6 = seg (pkB 63016602185776 6) 0 6) := ite1_z (hz146.symm.trans h151)
            refine x_lc T_239_160 ?_
            refine x_li (z := z146) T_239_163 rfl ?_
            refine x_if T_239_165 (fun h165 => ?_) (fun h165 => ?_)
            · replace h165 : ¬ (6 ≤ y ∧ seg (S 2285) 13 6 = seg (pkB 63016602185776 6) 0 6) := ite1_z (hz146.symm.trans h165)
              refine x_ic T_239_173 ?_
              refine x_cv3 T_239_175 mN_257 mL_257 (Nat.le_of_ble_eq_true rfl) mO_257 (PM.t hP) (Nat.le_of_ble_eq_true rfl) (m_putPacked hP (by decide) (rA_zn (leb_z 4 _ rfl) rpl_z) (by decide)) ?_
              rintro _ σ ⟨rfl, hP⟩
              refine cV ?_
              refine x_rv T_239_178 ?_
              rw [rA_rA] at hP
              first
                | (rw [if_pos h151]; exact SV_ok hP hR h0 (byt_app (byt_leb 4 _) (byt_app (byt_leb 2 _) (byt_pkP _ _ _))) (by show (12 : Int) ≤ 400; decide))
                | (rw [if_neg h151]; exact SV_ok hP hR h0 (byt_app (byt_leb 4 _) (byt_app (byt_leb 2 _) (byt_pkP _ _ _))) (by show (13 : Int) ≤ 400; decide))
                | exact absurd h151 h165
                | exact absurd h165 h151
            · replace h165 : (6 ≤ y ∧ seg (S 2285) 13 6 = seg (pkB 63016602185776 6) 0 6) := ite1_n (fun e => h165 (hz146.trans e))
              refine x_ic T_239_168 ?_
              refine x_goto T_239_170 ?_
              refine x_cv3 T_239_175 mN_257 mL_257 (Nat.le_of_ble_eq_true rfl) mO_257 (PM.t hP) (Nat.le_of_ble_eq_true rfl) (m_putPacked hP (by decide) (rA_zn (leb_z 4 _ rfl) rpl_z) (by decide)) ?_
              rintro _ σ ⟨rfl, hP⟩
              refine cV ?_
              refine x_rv T_239_178 ?_
              rw [rA_rA] at hP
              first
                | (rw [if_pos h151]; exact SV_ok hP hR h0 (byt_app (byt_leb 4 _) (byt_app (byt_leb 2 _) (byt_pkP _ _ _))) (by show (12 : Int) ≤ 400; decide))
                | (rw [if_neg h151]; exact SV_ok hP hR h0 (byt_app (byt_leb 4 _) (byt_app (byt_leb 2 _) (byt_pkP _ _ _))) (by show (13 : Int) ≤ 400; decide))
                | exact absurd h151 h165
                | exact absurd h165 h151
          · replace h151 : (6 ≤ y ∧ seg (S 2285) 13 6 = seg (pkB 63016602185776 6) 0 6) := ite1_n (fun e => h151 (hz146.trans e))
            refine x_lc T_239_154 ?_
            refine x_goto T_239_157 ?_
            refine x_li (z := z146) T_239_163 rfl ?_
            refine x_if T_239_165 (fun h165 => ?_) (fun h165 => ?_)
            · replace h165 : ¬ (6 ≤ y ∧ seg (S 2285) 13 6 = seg (pkB 63016602185776 6) 0 6) := ite1_z (hz146.symm.trans h165)
              refine x_ic T_239_173 ?_
              refine x_cv3 T_239_175 mN_257 mL_257 (Nat.le_of_ble_eq_true rfl) mO_257 (PM.t hP) (Nat.le_of_ble_eq_true rfl) (m_putPacked hP (by decide) (rA_zn (leb_z 4 _ rfl) rpl_z) (by decide)) ?_
              rintro _ σ ⟨rfl, hP⟩
              refine cV ?_
              refine x_rv T_239_178 ?_
              rw [rA_rA] at hP
              first
                | (rw [if_pos h151]; exact SV_ok hP hR h0 (byt_app (byt_leb 4 _) (byt_app (byt_leb 2 _) (byt_pkP _ _ _))) (by show (12 : Int) ≤ 400; decide))
                | (rw [if_neg h151]; exact SV_ok hP hR h0 (byt_app (byt_leb 4 _) (byt_app (byt_leb 2 _) (byt_pkP _ _ _))) (by show (13 : Int) ≤ 400; decide))
                | exact absurd h151 h165
                | exact absurd h165 h151
            · replace h165 : (6 ≤ y ∧ seg (S 2285) 13 6 = seg (pkB 63016602185776 6) 0 6) := ite1_n (fun e => h165 (hz146.trans e))
              refine x_ic T_239_168 ?_
              refine x_goto T_239_170 ?_
              refine x_cv3 T_239_175 mN_257 mL_257 (Nat.le_of_ble_eq_true rfl) mO_257 (PM.t hP) (Nat.le_of_ble_eq_true rfl) (m_putPacked hP (by decide) (rA_zn (leb_z 4 _ rfl) rpl_z) (by decide)) ?_
              rintro _ σ ⟨rfl, hP⟩
              refine cV ?_
              refine x_rv T_239_178 ?_
              rw [rA_rA] at hP
              first
                | (rw [if_pos h151]; exact SV_ok hP hR h0 (byt_app (byt_leb 4 _) (byt_app (byt_leb 2 _) (byt_pkP _ _ _))) (by show (12 : Int) ≤ 400; decide))
                | (rw [if_neg h151]; exact SV_ok hP hR h0 (byt_app (byt_leb 4 _) (byt_app (byt_leb 2 _) (byt_pkP _ _ _))) (by show (13 : Int) ≤ 400; decide))
                | exact absurd h151 h165
                | exact absurd h165 h151
        · refine x_lr (z := some 2281) T_239_112 rfl ?_
          refine x_gR (z := some 2288) T_239_113 F_17_11 (PM.t hP) (PM.r hP 11 2288 rfl) ?_
          refine x_ic T_239_116 ?_
          refine x_alI (z := y) T_239_117 (by decide) (PM.ta hP 2288 0 8 rfl rfl) (by omega) (by omega) (Eq.trans (Eq.trans (PM.aS hP 2288 rfl rfl (by omega)) (Eq.trans (rA_o (Nat.ne_of_beq_eq_false rfl) (by decide)) (rpl_o (Nat.ne_of_beq_eq_false rfl) (by decide)))) q0.2) ?_
          refine x_ic T_239_118 ?_
          refine x_ic2 T_239_120 (fun h120 => ?_) (fun h120 => ?_)
          · replace h120 : y < 6 := h120
            refine x_ic T_239_145 ?_
            exact kJ146 0 (if_neg (by first | (exact fun q => by omega) | exact fun q => h138 q.2)).symm
          · replace h120 : ¬ (y < 6) := h120
            refine x_lr (z := some 2281) T_239_123 rfl ?_
            refine x_lr (z := some 2281) T_239_124 rfl ?_
            refine x_gR (z := some 2287) T_239_125 F_17_10 (PM.t hP) (PM.r hP 10 2287 rfl) ?_
            refine x_ic T_239_128 ?_
            refine x_alI (z := 13) T_239_129 (by decide) (PM.ta hP 2287 0 8 rfl rfl) (by omega) (by omega) (Eq.trans (Eq.trans (PM.aS hP 2287 rfl rfl (by omega)) (Eq.trans (rA_o (Nat.ne_of_beq_eq_false rfl) (by decide)) (rpl_o (Nat.ne_of_beq_eq_false rfl) (by decide)))) q0.1) ?_
            refine x_lc T_239_130 ?_
            refine x_ic T_239_133 ?_
            refine x_cv4 T_239_135 mN_256 mL_256 (Nat.le_of_ble_eq_true rfl) mO_256 (PM.t hP) (Nat.le_of_ble_eq_true rfl) (CL_val (k := if seg (S 2285) 13 6 = seg (pkB 63016602185776 6) 0 6 then 1 else 0) (m_isPacked hP (IV_ans qJ (byt_leb 4 _) (by rw [leb_len]; decide)) (by decide) (by decide) (by decide)) (by rw [ask_ans hR] <;> rfl)) ?_
            rintro _ σ ⟨rfl, rfl⟩
            refine cI ?_
            refine x_if T_239_138 (fun h138 => ?_) (fun h138 => ?_)
            · replace h138 : ¬ (seg (S 2285) 13 6 = seg (pkB 63016602185776 6) 0 6) := ite1_z h138
              refine x_ic T_239_145 ?_
              exact kJ146 0 (if_neg (by first | (exact fun q => by omega) | exact fun q => h138 q.2)).symm
            · replace h138 : (seg (S 2285) 13 6 = seg (pkB 63016602185776 6) 0 6) := ite1_n h138
              refine x_ic T_239_141 ?_
              refine x_goto T_239_142 ?_
              exact kJ146 1 (if_pos (by exact ⟨by omega, h138⟩)).symm
  · rw [show vsE (S 2285) (S 2281 4) = 14 by unfold vsE; exact if_pos hw, if_neg (show ¬ (14 : Int) = 0 by decide)]
    have hh : ¬ (sE (S 2285) (S 2281 4) (av (S 2281 4) 7 4) = S 2281 4 ∧ 0 ≤ sE (S 2285) (S 2281 4) (av (S 2281 4) 7 4)) := by
      rw [e1]
      exact fun q => hw q.1
    refine CL_in mL_239 rfl ?_
    show WP fb _ 239 0 [some (vR (some 2281)), some (vI s), some (vI c), none, none, none, none] [] σ _
    refine x_lr (z := some 2281) T_239_0 rfl ?_
    refine x_ic T_239_1 ?_
    refine x_cv2 T_239_2 mN_234 mL_234 (Nat.le_of_ble_eq_true rfl) mO_234 (PM.t hP) (Nat.le_of_ble_eq_true rfl) (r_num 4 rfl hP hR (by decide) rfl) ?_
    rintro _ σ ⟨rfl, S1, hP, hR⟩
    refine cL ?_
    refine x_sl (ls1 := [some (vR (some 2281)), some (vI s), some (vI c), some (vL (nv (S 2285) (S 2281 4) 7 4)), none, none, none]) T_239_5 rfl ?_
    refine x_lr (z := some 2281) T_239_6 rfl ?_
    refine x_cv1 T_239_7 mN_240 mL_240 (Nat.le_of_ble_eq_true rfl) mO_240 (PM.t hP) (Nat.le_of_ble_eq_true rfl) (r_string hP hR (by decide)) ?_
    rintro _ σ ⟨rfl, S1, hP, hR⟩
    refine cV ?_
    refine x_lr (z := some 2281) T_239_10 rfl ?_
    have hw := r_isWhole (fb := fb) (d := d + 3) hP hR
    rw [if_neg hh, if_neg hh] at hw
    refine x_cv1 T_239_11 mN_241 mL_241 (Nat.le_of_ble_eq_true rfl) mO_241 (PM.t hP) (Nat.le_of_ble_eq_true rfl) (hw) ?_
    rintro _ σ ⟨rfl, hP⟩
    refine cI ?_
    refine x_if T_239_14 (fun h => absurd (show ¬ (0 : Int) = 0 from h) (by decide)) (fun _ => ?_)
    refine x_rv T_239_17 ?_
    exact SV_no hP hR (by decide)
end MSERVE4
