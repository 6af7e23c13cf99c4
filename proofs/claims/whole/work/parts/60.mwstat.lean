/-! What the reference's servers answer: files changed. -/
theorem T_303_0 : hTab 303 0 = some ((3, 1, 0, []), 1) := rfl
theorem T_303_1 : hTab 303 1 = some ((3, 2, 0, []), 2) := rfl
theorem T_303_2 : hTab 303 2 = some ((31, 247, 0, []), 5) := rfl
theorem T_303_5 : hTab 303 5 = some ((4, 8, 0, []), 7) := rfl
theorem T_303_7 : hTab 303 7 = some ((3, 0, 2, []), 8) := rfl
theorem T_303_8 : hTab 303 8 = some ((3, 1, 0, []), 9) := rfl
theorem T_303_9 : hTab 303 9 = some ((3, 2, 0, []), 10) := rfl
theorem T_303_10 : hTab 303 10 = some ((31, 252, 0, []), 13) := rfl
theorem T_303_13 : hTab 303 13 = some ((4, 9, 0, []), 15) := rfl
theorem T_303_15 : hTab 303 15 = some ((3, 0, 2, []), 16) := rfl
theorem T_303_16 : hTab 303 16 = some ((24, 17, Int.ofNat 11, []), 19) := rfl
theorem T_303_19 : hTab 303 19 = some ((0, 0, 0, []), 20) := rfl
theorem T_303_20 : hTab 303 20 = some ((26, 0, 0, []), 21) := rfl
theorem T_303_21 : hTab 303 21 = some ((18, 5, Int.ofNat 109, []), 24) := rfl
theorem T_303_24 : hTab 303 24 = some ((3, 2, 0, []), 25) := rfl
theorem T_303_25 : hTab 303 25 = some ((18, 1, Int.ofNat 30, []), 28) := rfl
theorem T_303_28 : hTab 303 28 = some ((0, 0, 3, []), 29) := rfl
theorem T_303_29 : hTab 303 29 = some ((33, 1, 0, []), 30) := rfl
theorem T_303_30 : hTab 303 30 = some ((3, 0, 2, []), 31) := rfl
theorem T_303_31 : hTab 303 31 = some ((3, 0, 2, []), 32) := rfl
theorem T_303_32 : hTab 303 32 = some ((24, 17, Int.ofNat 10, []), 35) := rfl
theorem T_303_35 : hTab 303 35 = some ((0, 0, 0, []), 36) := rfl
theorem T_303_36 : hTab 303 36 = some ((26, 0, 0, []), 37) := rfl
theorem T_303_37 : hTab 303 37 = some ((3, 0, 2, []), 38) := rfl
theorem T_303_38 : hTab 303 38 = some ((24, 17, Int.ofNat 11, []), 41) := rfl
theorem T_303_41 : hTab 303 41 = some ((0, 0, 0, []), 42) := rfl
theorem T_303_42 : hTab 303 42 = some ((26, 0, 0, []), 43) := rfl
theorem T_303_43 : hTab 303 43 = some ((31, 281, 0, []), 46) := rfl
theorem T_303_46 : hTab 303 46 = some ((18, 1, Int.ofNat 51, []), 49) := rfl
theorem T_303_49 : hTab 303 49 = some ((0, 0, 5, []), 50) := rfl
theorem T_303_50 : hTab 303 50 = some ((33, 1, 0, []), 51) := rfl
theorem T_303_51 : hTab 303 51 = some ((3, 0, 2, []), 52) := rfl
theorem T_303_52 : hTab 303 52 = some ((3, 1, 0, []), 53) := rfl
theorem T_303_53 : hTab 303 53 = some ((3, 0, 2, []), 54) := rfl
theorem T_303_54 : hTab 303 54 = some ((24, 17, Int.ofNat 14, []), 57) := rfl
theorem T_303_57 : hTab 303 57 = some ((3, 8, 0, []), 59) := rfl
theorem T_303_59 : hTab 303 59 = some ((26, 0, 0, []), 60) := rfl
theorem T_303_60 : hTab 303 60 = some ((3, 0, 2, []), 61) := rfl
theorem T_303_61 : hTab 303 61 = some ((24, 17, Int.ofNat 10, []), 64) := rfl
theorem T_303_64 : hTab 303 64 = some ((0, 0, 0, []), 65) := rfl
theorem T_303_65 : hTab 303 65 = some ((26, 0, 0, []), 66) := rfl
theorem T_303_66 : hTab 303 66 = some ((3, 0, 2, []), 67) := rfl
theorem T_303_67 : hTab 303 67 = some ((24, 17, Int.ofNat 11, []), 70) := rfl
theorem T_303_70 : hTab 303 70 = some ((0, 0, 0, []), 71) := rfl
theorem T_303_71 : hTab 303 71 = some ((26, 0, 0, []), 72) := rfl
theorem T_303_72 : hTab 303 72 = some ((31, 268, 0, []), 75) := rfl
theorem T_303_75 : hTab 303 75 = some ((4, 10, 0, []), 77) := rfl
theorem T_303_77 : hTab 303 77 = some ((3, 10, 0, []), 79) := rfl
theorem T_303_79 : hTab 303 79 = some ((18, 2, Int.ofNat 90, []), 82) := rfl
theorem T_303_82 : hTab 303 82 = some ((3, 10, 0, []), 84) := rfl
theorem T_303_84 : hTab 303 84 = some ((3, 2, 0, []), 85) := rfl
theorem T_303_85 : hTab 303 85 = some ((19, 0, Int.ofNat 90, []), 88) := rfl
theorem T_303_88 : hTab 303 88 = some ((0, 0, 4, []), 89) := rfl
theorem T_303_89 : hTab 303 89 = some ((33, 1, 0, []), 90) := rfl
theorem T_303_90 : hTab 303 90 = some ((3, 0, 2, []), 91) := rfl
theorem T_303_91 : hTab 303 91 = some ((3, 1, 0, []), 92) := rfl
theorem T_303_92 : hTab 303 92 = some ((3, 0, 2, []), 93) := rfl
theorem T_303_93 : hTab 303 93 = some ((24, 17, Int.ofNat 14, []), 96) := rfl
theorem T_303_96 : hTab 303 96 = some ((3, 8, 0, []), 98) := rfl
theorem T_303_98 : hTab 303 98 = some ((26, 0, 0, []), 99) := rfl
theorem T_303_99 : hTab 303 99 = some ((3, 3, 0, []), 100) := rfl
theorem T_303_100 : hTab 303 100 = some ((0, 0, 2, []), 101) := rfl
theorem T_303_101 : hTab 303 101 = some ((31, 248, 0, []), 104) := rfl
theorem T_303_104 : hTab 303 104 = some ((18, 1, Int.ofNat 109, []), 107) := rfl
theorem T_303_107 : hTab 303 107 = some ((0, 0, 3, []), 108) := rfl
theorem T_303_108 : hTab 303 108 = some ((33, 1, 0, []), 109) := rfl
theorem T_303_109 : hTab 303 109 = some ((3, 6, 1, []), 111) := rfl
theorem T_303_111 : hTab 303 111 = some ((1, 0, (-1), []), 114) := rfl
theorem T_303_114 : hTab 303 114 = some ((17, 0, 0, []), 115) := rfl
theorem T_303_115 : hTab 303 115 = some ((18, 0, Int.ofNat 179, []), 118) := rfl
theorem T_303_118 : hTab 303 118 = some ((3, 9, 0, []), 120) := rfl
theorem T_303_120 : hTab 303 120 = some ((18, 0, Int.ofNat 126, []), 123) := rfl
theorem T_303_123 : hTab 303 123 = some ((0, 0, 10, []), 125) := rfl
theorem T_303_125 : hTab 303 125 = some ((33, 1, 0, []), 126) := rfl
theorem T_303_126 : hTab 303 126 = some ((3, 0, 2, []), 127) := rfl
theorem T_303_127 : hTab 303 127 = some ((3, 1, 0, []), 128) := rfl
theorem T_303_128 : hTab 303 128 = some ((3, 2, 0, []), 129) := rfl
theorem T_303_129 : hTab 303 129 = some ((3, 3, 0, []), 130) := rfl
theorem T_303_130 : hTab 303 130 = some ((0, 0, 2, []), 131) := rfl
theorem T_303_131 : hTab 303 131 = some ((31, 248, 0, []), 134) := rfl
theorem T_303_134 : hTab 303 134 = some ((18, 1, Int.ofNat 139, []), 137) := rfl
theorem T_303_137 : hTab 303 137 = some ((0, 0, 3, []), 138) := rfl
theorem T_303_138 : hTab 303 138 = some ((33, 1, 0, []), 139) := rfl
theorem T_303_139 : hTab 303 139 = some ((3, 6, 1, []), 141) := rfl
theorem T_303_141 : hTab 303 141 = some ((1, 0, 0, []), 142) := rfl
theorem T_303_142 : hTab 303 142 = some ((1, 0, 600, []), 145) := rfl
theorem T_303_145 : hTab 303 145 = some ((31, 282, 0, []), 148) := rfl
theorem T_303_148 : hTab 303 148 = some ((18, 0, Int.ofNat 176, []), 151) := rfl
theorem T_303_151 : hTab 303 151 = some ((3, 0, 2, []), 152) := rfl
theorem T_303_152 : hTab 303 152 = some ((24, 17, Int.ofNat 25, []), 155) := rfl
theorem T_303_155 : hTab 303 155 = some ((3, 1, 0, []), 156) := rfl
theorem T_303_156 : hTab 303 156 = some ((26, 0, 0, []), 157) := rfl
theorem T_303_157 : hTab 303 157 = some ((3, 0, 2, []), 158) := rfl
theorem T_303_158 : hTab 303 158 = some ((24, 17, Int.ofNat 21, []), 161) := rfl
theorem T_303_161 : hTab 303 161 = some ((3, 8, 0, []), 163) := rfl
theorem T_303_163 : hTab 303 163 = some ((26, 0, 0, []), 164) := rfl
theorem T_303_164 : hTab 303 164 = some ((10, 1, 0, []), 165) := rfl
theorem T_303_165 : hTab 303 165 = some ((14, 0, 0, []), 166) := rfl
theorem T_303_166 : hTab 303 166 = some ((3, 6, 1, []), 168) := rfl
theorem T_303_168 : hTab 303 168 = some ((11, 0, 0, []), 169) := rfl
theorem T_303_169 : hTab 303 169 = some ((1, 0, 8192, []), 172) := rfl
theorem T_303_172 : hTab 303 172 = some ((17, 0, 0, []), 173) := rfl
theorem T_303_173 : hTab 303 173 = some ((18, 5, Int.ofNat 179, []), 176) := rfl
theorem T_303_176 : hTab 303 176 = some ((0, 0, 12, []), 178) := rfl
theorem T_303_178 : hTab 303 178 = some ((33, 1, 0, []), 179) := rfl
theorem T_303_179 : hTab 303 179 = some ((3, 4, 1, []), 181) := rfl
theorem T_303_181 : hTab 303 181 = some ((1, 0, 4294967295, []), 184) := rfl
theorem T_303_184 : hTab 303 184 = some ((17, 0, 0, []), 185) := rfl
theorem T_303_185 : hTab 303 185 = some ((18, 0, Int.ofNat 240, []), 188) := rfl
theorem T_303_188 : hTab 303 188 = some ((3, 3, 0, []), 189) := rfl
theorem T_303_189 : hTab 303 189 = some ((3, 0, 2, []), 190) := rfl
theorem T_303_190 : hTab 303 190 = some ((24, 17, Int.ofNat 18, []), 193) := rfl
theorem T_303_193 : hTab 303 193 = some ((3, 8, 0, []), 195) := rfl
theorem T_303_195 : hTab 303 195 = some ((26, 0, 0, []), 196) := rfl
theorem T_303_196 : hTab 303 196 = some ((19, 0, Int.ofNat 201, []), 199) := rfl
theorem T_303_199 : hTab 303 199 = some ((0, 0, 3, []), 200) := rfl
theorem T_303_200 : hTab 303 200 = some ((33, 1, 0, []), 201) := rfl
theorem T_303_201 : hTab 303 201 = some ((3, 4, 1, []), 203) := rfl
theorem T_303_203 : hTab 303 203 = some ((15, 0, 0, []), 204) := rfl
theorem T_303_204 : hTab 303 204 = some ((3, 0, 2, []), 205) := rfl
theorem T_303_205 : hTab 303 205 = some ((24, 17, Int.ofNat 17, []), 208) := rfl
theorem T_303_208 : hTab 303 208 = some ((3, 8, 0, []), 210) := rfl
theorem T_303_210 : hTab 303 210 = some ((26, 0, 0, []), 211) := rfl
theorem T_303_211 : hTab 303 211 = some ((10, 7, 0, []), 212) := rfl
theorem T_303_212 : hTab 303 212 = some ((4, 10, 0, []), 214) := rfl
theorem T_303_214 : hTab 303 214 = some ((3, 10, 0, []), 216) := rfl
theorem T_303_216 : hTab 303 216 = some ((0, 0, (-1073742336), []), 219) := rfl
theorem T_303_219 : hTab 303 219 = some ((10, 5, 0, []), 220) := rfl
theorem T_303_220 : hTab 303 220 = some ((18, 1, Int.ofNat 237, []), 223) := rfl
theorem T_303_223 : hTab 303 223 = some ((3, 9, 0, []), 225) := rfl
theorem T_303_225 : hTab 303 225 = some ((18, 0, Int.ofNat 240, []), 228) := rfl
theorem T_303_228 : hTab 303 228 = some ((3, 10, 0, []), 230) := rfl
theorem T_303_230 : hTab 303 230 = some ((0, 0, 1073741824, []), 233) := rfl
theorem T_303_233 : hTab 303 233 = some ((10, 5, 0, []), 234) := rfl
theorem T_303_234 : hTab 303 234 = some ((18, 0, Int.ofNat 240, []), 237) := rfl
theorem T_303_237 : hTab 303 237 = some ((0, 0, 16, []), 239) := rfl
theorem T_303_239 : hTab 303 239 = some ((33, 1, 0, []), 240) := rfl
theorem T_303_240 : hTab 303 240 = some ((0, 0, 0, []), 241) := rfl
theorem T_303_241 : hTab 303 241 = some ((33, 1, 0, []), 242) := rfl
theorem T_304_0 : hTab 304 0 = some ((3, 1, 0, []), 1) := rfl
theorem T_304_1 : hTab 304 1 = some ((3, 2, 0, []), 2) := rfl
theorem T_304_2 : hTab 304 2 = some ((31, 247, 0, []), 5) := rfl
theorem T_304_5 : hTab 304 5 = some ((4, 8, 0, []), 7) := rfl
theorem T_304_7 : hTab 304 7 = some ((3, 0, 2, []), 8) := rfl
theorem T_304_8 : hTab 304 8 = some ((24, 17, Int.ofNat 11, []), 11) := rfl
theorem T_304_11 : hTab 304 11 = some ((0, 0, 0, []), 12) := rfl
theorem T_304_12 : hTab 304 12 = some ((26, 0, 0, []), 13) := rfl
theorem T_304_13 : hTab 304 13 = some ((18, 5, Int.ofNat 34, []), 16) := rfl
theorem T_304_16 : hTab 304 16 = some ((3, 0, 2, []), 17) := rfl
theorem T_304_17 : hTab 304 17 = some ((3, 1, 0, []), 18) := rfl
theorem T_304_18 : hTab 304 18 = some ((3, 2, 0, []), 19) := rfl
theorem T_304_19 : hTab 304 19 = some ((3, 0, 2, []), 20) := rfl
theorem T_304_20 : hTab 304 20 = some ((24, 17, Int.ofNat 10, []), 23) := rfl
theorem T_304_23 : hTab 304 23 = some ((0, 0, 0, []), 24) := rfl
theorem T_304_24 : hTab 304 24 = some ((26, 0, 0, []), 25) := rfl
theorem T_304_25 : hTab 304 25 = some ((3, 0, 2, []), 26) := rfl
theorem T_304_26 : hTab 304 26 = some ((24, 17, Int.ofNat 11, []), 29) := rfl
theorem T_304_29 : hTab 304 29 = some ((0, 0, 0, []), 30) := rfl
theorem T_304_30 : hTab 304 30 = some ((26, 0, 0, []), 31) := rfl
theorem T_304_31 : hTab 304 31 = some ((31, 284, 0, []), 34) := rfl
theorem T_304_34 : hTab 304 34 = some ((3, 6, 1, []), 36) := rfl
theorem T_304_36 : hTab 304 36 = some ((1, 0, (-1), []), 39) := rfl
theorem T_304_39 : hTab 304 39 = some ((17, 0, 0, []), 40) := rfl
theorem T_304_40 : hTab 304 40 = some ((18, 0, Int.ofNat 63, []), 43) := rfl
theorem T_304_43 : hTab 304 43 = some ((3, 0, 2, []), 44) := rfl
theorem T_304_44 : hTab 304 44 = some ((3, 1, 0, []), 45) := rfl
theorem T_304_45 : hTab 304 45 = some ((3, 2, 0, []), 46) := rfl
theorem T_304_46 : hTab 304 46 = some ((3, 6, 1, []), 48) := rfl
theorem T_304_48 : hTab 304 48 = some ((15, 0, 0, []), 49) := rfl
theorem T_304_49 : hTab 304 49 = some ((31, 276, 0, []), 52) := rfl
theorem T_304_52 : hTab 304 52 = some ((3, 0, 2, []), 53) := rfl
theorem T_304_53 : hTab 304 53 = some ((24, 17, Int.ofNat 16, []), 56) := rfl
theorem T_304_56 : hTab 304 56 = some ((3, 8, 0, []), 58) := rfl
theorem T_304_58 : hTab 304 58 = some ((8, 0, 0, []), 59) := rfl
theorem T_304_59 : hTab 304 59 = some ((26, 0, 0, []), 60) := rfl
theorem T_304_60 : hTab 304 60 = some ((0, 0, 1, []), 61) := rfl
theorem T_304_61 : hTab 304 61 = some ((10, 0, 0, []), 62) := rfl
theorem T_304_62 : hTab 304 62 = some ((27, 0, 0, []), 63) := rfl
theorem T_304_63 : hTab 304 63 = some ((3, 4, 1, []), 65) := rfl
theorem T_304_65 : hTab 304 65 = some ((1, 0, 4294967295, []), 68) := rfl
theorem T_304_68 : hTab 304 68 = some ((17, 0, 0, []), 69) := rfl
theorem T_304_69 : hTab 304 69 = some ((18, 0, Int.ofNat 82, []), 72) := rfl
theorem T_304_72 : hTab 304 72 = some ((3, 0, 2, []), 73) := rfl
theorem T_304_73 : hTab 304 73 = some ((24, 17, Int.ofNat 17, []), 76) := rfl
theorem T_304_76 : hTab 304 76 = some ((3, 8, 0, []), 78) := rfl
theorem T_304_78 : hTab 304 78 = some ((3, 4, 1, []), 80) := rfl
theorem T_304_80 : hTab 304 80 = some ((15, 0, 0, []), 81) := rfl
theorem T_304_81 : hTab 304 81 = some ((27, 0, 0, []), 82) := rfl
theorem T_304_82 : hTab 304 82 = some ((3, 0, 2, []), 83) := rfl
theorem T_304_83 : hTab 304 83 = some ((24, 17, Int.ofNat 20, []), 86) := rfl
theorem T_304_86 : hTab 304 86 = some ((3, 8, 0, []), 88) := rfl
theorem T_304_88 : hTab 304 88 = some ((3, 3, 0, []), 89) := rfl
theorem T_304_89 : hTab 304 89 = some ((27, 0, 0, []), 90) := rfl
theorem T_304_90 : hTab 304 90 = some ((33, 0, 0, []), 91) := rfl
theorem mN_303 : hmN 303 = 6 := by decide +kernel
theorem mL_303 : hmL 303 = 11 := by decide +kernel
theorem mK_303 : hmK 303 = 1 := by decide +kernel
theorem mO_303 : hmO 303 = 17 := by decide +kernel
theorem mN_304 : hmN 304 = 6 := by decide +kernel
theorem mL_304 : hmL 304 = 9 := by decide +kernel
theorem mK_304 : hmK 304 = 1 := by decide +kernel
theorem mO_304 : hmO 304 = 17 := by decide +kernel
def qChg (P : qR) (s n u md ln y : Int) (nm : List Int) : Int := if 0 < y ∧ n = 0 then 3 else if 0 < y ∧ ¬ nmOk nm = true then 5 else if 0 < y ∧ (0 ≤ qFind P s (P 2290 (64 * s + n)) nm ∧ ¬ qFind P s (P 2290 (64 * s + n)) nm = n) then 4 else if 0 < y ∧ qMv P s (P 2290 (64 * s + n)) u 2 = 0 then 3 else if ¬ ln = -1 ∧ qMode P s n < 0 then 10 else if ¬ ln = -1 ∧ qMv P s n u 2 = 0 then 3 else if ¬ ln = -1 ∧ (¬ (0 ≤ ln ∧ ln ≤ 600) ∨ 8192 < P 2301 s - P 2297 (64 * s + n) + ln) then 12 else if ¬ md = 4294967295 ∧ ¬ u = P 2294 (64 * s + n) then 3 else if ¬ md = 4294967295 ∧ (¬ and32 (xor32 (w32 md) (P 2293 (64 * s + n))) (-1073742336) = 0 ∨ (qMode P s n < 0 ∧ ¬ and32 (xor32 (w32 md) (P 2293 (64 * s + n))) 1073741824 = 0)) then 16 else 0
def gCh1 (P : qR) (s n y : Int) (nm : List Int) : qR := if 0 < y then gName P s n nm else P
def gCh2 (P : qR) (s n ln : Int) : qR := if ¬ ln = -1 then rU (gSize P s n ln) 2292 (64 * s + n) (P 2292 (64 * s + n) + 1) else P
def gCh3 (P : qR) (s n md : Int) : qR := if ¬ md = 4294967295 then rU P 2293 (64 * s + n) (w32 md) else P
def gChg (P : qR) (s n u md ln y : Int) (nm : List Int) : qR := rU (gCh3 (gCh2 (gCh1 P s n y nm) s n ln) s n md) 2296 (64 * s + n) u
section MWSTAT
variable {fb : Bool} {d : Nat} {σ0 σ : hM} {P Q S S1 : qR} {T U s n u c t p z : Int} {st : List (Int × Int)}
theorem m_change {md ln o y : Int} (hP : PM σ0 P S σ) (hI : IV false T U P) (hJ : IV true T U S) (h : 0 ≤ s ∧ s < 2 ∧ 0 ≤ n ∧ n < 64) (ho : S 2287 0 = o) (hy : S 2288 0 = y) (h0 : 0 ≤ o ∧ 0 ≤ y ∧ o + y ≤ 512) (hl : -9223372036854775808 ≤ ln ∧ ln ≤ 9223372036854775807) : CL fb (d + 5) 303 [vR (some 2281), vI s, vI n, vI u, vL md, vL ln] σ (rP (qChg P s n u md ln y (seg (S 2285) o y.toNat)) σ) := by
  have ba : 0 ≤ P 2290 (64 * s + n) ∧ P 2290 (64 * s + n) ≤ 63 := IV.a hI 2290 0 128 rfl rfl rfl (by omega) (by omega)
  obtain ⟨nm, hnm⟩ : ∃ nm, seg (S 2285) o y.toNat = nm := ⟨_, rfl⟩
  obtain ⟨r, hr⟩ : ∃ r, qFind P s (P 2290 (64 * s + n)) nm = r := ⟨_, rfl⟩
  unfold qChg
  rw [hnm, hr]
  have rest : ∀ σ : hM, (o10 : Option AV) → PM σ0 P S σ → WP fb (d + 5) 303 109 [some (vR (some 2281)), some (vI s), some (vI n), some (vI u), some (vL md), none, some (vL ln), none, some (vI (64 * s + n)), some (vI (if qMode P s n < 0 then 1 else 0)), o10] [] σ (rP (if ¬ ln = -1 ∧ qMode P s n < 0 then 10 else if ¬ ln = -1 ∧ qMv P s n u 2 = 0 then 3 else if ¬ ln = -1 ∧ (¬ (0 ≤ ln ∧ ln ≤ 600) ∨ 8192 < P 2301 s - P 2297 (64 * s + n) + ln) then 12 else if ¬ md = 4294967295 ∧ ¬ u = P 2294 (64 * s + n) then 3 else if ¬ md = 4294967295 ∧ (¬ and32 (xor32 (w32 md) (P 2293 (64 * s + n))) (-1073742336) = 0 ∨ (qMode P s n < 0 ∧ ¬ and32 (xor32 (w32 md) (P 2293 (64 * s + n))) 1073741824 = 0)) then 16 else 0) σ) := by
    intro σ o10 hP
    refine x_ll (z := ln) T_303_109 rfl ?_
    refine x_lc T_303_111 ?_
    refine x_lif T_303_114 T_303_115 (fun h115 => ?_) (fun h115 => ?_)
    · replace h115 : ln = (-1) := h115
      refine x_ll (z := md) T_303_179 rfl ?_
      refine x_lc T_303_181 ?_
      refine x_lif T_303_184 T_303_185 (fun h185 => ?_) (fun h185 => ?_)
      · replace h185 : md = 4294967295 := h185
        refine x_ic T_303_240 ?_
        refine x_ri T_303_241 ?_
        refine ⟨?_, rfl⟩
        first
          | (rw [if_neg (by omega), if_neg (by omega), if_neg (by omega), if_neg (by omega), if_neg (by omega)])
      · replace h185 : ¬ (md = 4294967295) := h185
        refine x_li (z := u) T_303_188 rfl ?_
        refine x_lr (z := some 2281) T_303_189 rfl ?_
        refine x_gR (z := some 2294) T_303_190 F_17_18 (PM.t hP) (PM.r hP 18 2294 rfl) ?_
        refine x_li (z := (64 * s + n)) T_303_193 rfl ?_
        have b1 : 0 ≤ P 2294 (64 * s + n) ∧ P 2294 (64 * s + n) ≤ 3 := IV.a hI 2294 0 128 rfl rfl rfl (by omega) (by omega)
        refine x_alI (z := P 2294 (64 * s + n)) T_303_195 (by decide) (PM.ta hP 2294 0 128 rfl rfl) (by omega) (by omega) (PM.aP hP 2294 rfl rfl (by omega)) ?_
        refine x_ic2 T_303_196 (fun h196 => ?_) (fun h196 => ?_)
        · replace h196 : u = P 2294 (64 * s + n) := h196
          refine x_ll (z := md) T_303_201 rfl ?_
          refine x_l2i (w := w32 md) T_303_203 rfl ?_
          refine x_lr (z := some 2281) T_303_204 rfl ?_
          refine x_gR (z := some 2293) T_303_205 F_17_17 (PM.t hP) (PM.r hP 17 2293 rfl) ?_
          refine x_li (z := (64 * s + n)) T_303_208 rfl ?_
          have b2 : -2147483648 ≤ P 2293 (64 * s + n) ∧ P 2293 (64 * s + n) ≤ 2147483647 := IV.a hI 2293 0 128 rfl rfl rfl (by omega) (by omega)
          refine x_alI (z := P 2293 (64 * s + n)) T_303_210 (by decide) (PM.ta hP 2293 0 128 rfl rfl) (by omega) (by omega) (PM.aP hP 2293 rfl rfl (by omega)) ?_
          refine x_ib (w := (xor32 (w32 md) (P 2293 (64 * s + n)))) T_303_211 (fun h => absurd h.1 (by decide)) rfl ?_
          refine x_si (ls1 := [some (vR (some 2281)), some (vI s), some (vI n), some (vI u), some (vL md), none, some (vL ln), none, some (vI (64 * s + n)), some (vI (if qMode P s n < 0 then (1 : Int) else 0)), some (vI (xor32 (w32 md) (P 2293 (64 * s + n))))]) T_303_212 rfl ?_
          refine x_li (z := (xor32 (w32 md) (P 2293 (64 * s + n)))) T_303_214 rfl ?_
          refine x_ic T_303_216 ?_
          refine x_ib (w := (and32 (xor32 (w32 md) (P 2293 (64 * s + n))) (-1073742336))) T_303_219 (fun h => absurd h.1 (by decide)) rfl ?_
          refine x_if T_303_220 (fun h220 => ?_) (fun h220 => ?_)
          · replace h220 : ¬ (and32 (xor32 (w32 md) (P 2293 (64 * s + n))) (-1073742336)) = 0 := h220
            refine x_ic T_303_237 ?_
            refine x_ri T_303_239 ?_
            refine ⟨?_, rfl⟩
            first
              | (rw [if_neg (by omega), if_neg (by omega), if_neg (by omega), if_neg (by omega), if_pos (by omega)])
          · replace h220 : ¬ (¬ (and32 (xor32 (w32 md) (P 2293 (64 * s + n))) (-1073742336)) = 0) := h220
            refine x_li (z := (if qMode P s n < 0 then (1 : Int) else 0)) T_303_223 rfl ?_
            refine x_if T_303_225 (fun h225 => ?_) (fun h225 => ?_)
            · replace h225 : ¬ (qMode P s n < 0) := ite1_z h225
              refine x_ic T_303_240 ?_
              refine x_ri T_303_241 ?_
              refine ⟨?_, rfl⟩
              first
                | (rw [if_neg (by omega), if_neg (by omega), if_neg (by omega), if_neg (by omega), if_neg (by omega)])
            · replace h225 : (qMode P s n < 0) := ite1_n h225
              refine x_li (z := (xor32 (w32 md) (P 2293 (64 * s + n)))) T_303_228 rfl ?_
              refine x_ic T_303_230 ?_
              refine x_ib (w := (and32 (xor32 (w32 md) (P 2293 (64 * s + n))) 1073741824)) T_303_233 (fun h => absurd h.1 (by decide)) rfl ?_
              refine x_if T_303_234 (fun h234 => ?_) (fun h234 => ?_)
              · replace h234 : (and32 (xor32 (w32 md) (P 2293 (64 * s + n))) 1073741824) = 0 := h234
                refine x_ic T_303_240 ?_
                refine x_ri T_303_241 ?_
                refine ⟨?_, rfl⟩
                first
                  | (rw [if_neg (by omega), if_neg (by omega), if_neg (by omega), if_neg (by omega), if_neg (by omega)])
              · replace h234 : ¬ ((and32 (xor32 (w32 md) (P 2293 (64 * s + n))) 1073741824) = 0) := h234
                refine x_ic T_303_237 ?_
                refine x_ri T_303_239 ?_
                refine ⟨?_, rfl⟩
                first
                  | (rw [if_neg (by omega), if_neg (by omega), if_neg (by omega), if_neg (by omega), if_pos (by omega)])
        · replace h196 : ¬ (u = P 2294 (64 * s + n)) := h196
          refine x_ic T_303_199 ?_
          refine x_ri T_303_200 ?_
          refine ⟨?_, rfl⟩
          first
            | (rw [if_neg (by omega), if_pos (by omega)])
            | (rw [if_neg (by omega), if_neg (by omega), if_neg (by omega), if_pos (by omega)])
    · replace h115 : ¬ (ln = (-1)) := h115
      refine x_li (z := (if qMode P s n < 0 then (1 : Int) else 0)) T_303_118 rfl ?_
      refine x_if T_303_120 (fun h120 => ?_) (fun h120 => ?_)
      · replace h120 : ¬ (qMode P s n < 0) := ite1_z h120
        refine x_lr (z := some 2281) T_303_126 rfl ?_
        refine x_li (z := s) T_303_127 rfl ?_
        refine x_li (z := n) T_303_128 rfl ?_
        refine x_li (z := u) T_303_129 rfl ?_
        refine x_ic T_303_130 ?_
        refine x_cv5 T_303_131 mN_248 mL_248 (Nat.le_of_ble_eq_true rfl) mO_248 (PM.t hP) (Nat.le_of_ble_eq_true rfl) (m_may hP (by omega)) ?_
        rintro _ σ ⟨rfl, rfl⟩
        refine cI ?_
        refine x_if T_303_134 (fun h134 => ?_) (fun h134 => ?_)
        · replace h134 : ¬ (qMv P s n u 2 = 0) := ite0_n h134
          refine x_ll (z := ln) T_303_139 rfl ?_
          refine x_lc T_303_141 ?_
          refine x_lc T_303_142 ?_
          refine x_cs3 T_303_145 mN_282 mL_282 (Nat.le_of_ble_eq_true rfl) mK_282 (Nat.le_of_ble_eq_true rfl) (m_in) ?_
          rintro _ σ ⟨rfl, rfl⟩
          refine cI ?_
          refine x_if T_303_148 (fun h148 => ?_) (fun h148 => ?_)
          · replace h148 : ¬ (0 ≤ ln ∧ ln ≤ 600) := ite1_z h148
            refine x_ic T_303_176 ?_
            refine x_ri T_303_178 ?_
            refine ⟨?_, rfl⟩
            first
              | (rw [if_neg (by omega), if_neg (by omega), if_pos (by omega)])
          · replace h148 : (0 ≤ ln ∧ ln ≤ 600) := ite1_n h148
            refine x_lr (z := some 2281) T_303_151 rfl ?_
            refine x_gR (z := some 2301) T_303_152 F_17_25 (PM.t hP) (PM.r hP 25 2301 rfl) ?_
            refine x_li (z := s) T_303_155 rfl ?_
            have b3 : 0 ≤ P 2301 s ∧ P 2301 s ≤ 8192 := IV.a hI 2301 0 2 rfl rfl rfl (by omega) (by omega)
            refine x_alI (z := P 2301 s) T_303_156 (by decide) (PM.ta hP 2301 0 2 rfl rfl) (by omega) (by omega) (PM.aP hP 2301 rfl rfl (by omega)) ?_
            refine x_lr (z := some 2281) T_303_157 rfl ?_
            refine x_gR (z := some 2297) T_303_158 F_17_21 (PM.t hP) (PM.r hP 21 2297 rfl) ?_
            refine x_li (z := (64 * s + n)) T_303_161 rfl ?_
            have b4 : 0 ≤ P 2297 (64 * s + n) ∧ P 2297 (64 * s + n) ≤ 600 := IV.a hI 2297 0 128 rfl rfl rfl (by omega) (by omega)
            refine x_alI (z := P 2297 (64 * s + n)) T_303_163 (by decide) (PM.ta hP 2297 0 128 rfl rfl) (by omega) (by omega) (PM.aP hP 2297 rfl rfl (by omega)) ?_
            refine x_ib (w := (P 2301 s - P 2297 (64 * s + n))) T_303_164 (fun h => absurd h.1 (by decide)) (w32_id (by omega) (by omega)) ?_
            refine x_i2l T_303_165 ?_
            refine x_ll (z := ln) T_303_166 rfl ?_
            refine x_lb (w := ((P 2301 s - P 2297 (64 * s + n)) + ln)) T_303_168 (fun h => absurd h.1 (by decide)) (w64_id (by omega) (by omega)) ?_
            refine x_lc T_303_169 ?_
            refine x_lif T_303_172 T_303_173 (fun h173 => ?_) (fun h173 => ?_)
            · replace h173 : ((P 2301 s - P 2297 (64 * s + n)) + ln) ≤ 8192 := h173
              refine x_ll (z := md) T_303_179 rfl ?_
              refine x_lc T_303_181 ?_
              refine x_lif T_303_184 T_303_185 (fun h185 => ?_) (fun h185 => ?_)
              · replace h185 : md = 4294967295 := h185
                refine x_ic T_303_240 ?_
                refine x_ri T_303_241 ?_
                refine ⟨?_, rfl⟩
                first
                  | (rw [if_neg (by omega), if_neg (by omega), if_neg (by omega), if_neg (by omega), if_neg (by omega)])
              · replace h185 : ¬ (md = 4294967295) := h185
                refine x_li (z := u) T_303_188 rfl ?_
                refine x_lr (z := some 2281) T_303_189 rfl ?_
                refine x_gR (z := some 2294) T_303_190 F_17_18 (PM.t hP) (PM.r hP 18 2294 rfl) ?_
                refine x_li (z := (64 * s + n)) T_303_193 rfl ?_
                have b5 : 0 ≤ P 2294 (64 * s + n) ∧ P 2294 (64 * s + n) ≤ 3 := IV.a hI 2294 0 128 rfl rfl rfl (by omega) (by omega)
                refine x_alI (z := P 2294 (64 * s + n)) T_303_195 (by decide) (PM.ta hP 2294 0 128 rfl rfl) (by omega) (by omega) (PM.aP hP 2294 rfl rfl (by omega)) ?_
                refine x_ic2 T_303_196 (fun h196 => ?_) (fun h196 => ?_)
                · replace h196 : u = P 2294 (64 * s + n) := h196
                  refine x_ll (z := md) T_303_201 rfl ?_
                  refine x_l2i (w := w32 md) T_303_203 rfl ?_
                  refine x_lr (z := some 2281) T_303_204 rfl ?_
                  refine x_gR (z := some 2293) T_303_205 F_17_17 (PM.t hP) (PM.r hP 17 2293 rfl) ?_
                  refine x_li (z := (64 * s + n)) T_303_208 rfl ?_
                  have b6 : -2147483648 ≤ P 2293 (64 * s + n) ∧ P 2293 (64 * s + n) ≤ 2147483647 := IV.a hI 2293 0 128 rfl rfl rfl (by omega) (by omega)
                  refine x_alI (z := P 2293 (64 * s + n)) T_303_210 (by decide) (PM.ta hP 2293 0 128 rfl rfl) (by omega) (by omega) (PM.aP hP 2293 rfl rfl (by omega)) ?_
                  refine x_ib (w := (xor32 (w32 md) (P 2293 (64 * s + n)))) T_303_211 (fun h => absurd h.1 (by decide)) rfl ?_
                  refine x_si (ls1 := [some (vR (some 2281)), some (vI s), some (vI n), some (vI u), some (vL md), none, some (vL ln), none, some (vI (64 * s + n)), some (vI (if qMode P s n < 0 then (1 : Int) else 0)), some (vI (xor32 (w32 md) (P 2293 (64 * s + n))))]) T_303_212 rfl ?_
                  refine x_li (z := (xor32 (w32 md) (P 2293 (64 * s + n)))) T_303_214 rfl ?_
                  refine x_ic T_303_216 ?_
                  refine x_ib (w := (and32 (xor32 (w32 md) (P 2293 (64 * s + n))) (-1073742336))) T_303_219 (fun h => absurd h.1 (by decide)) rfl ?_
                  refine x_if T_303_220 (fun h220 => ?_) (fun h220 => ?_)
                  · replace h220 : ¬ (and32 (xor32 (w32 md) (P 2293 (64 * s + n))) (-1073742336)) = 0 := h220
                    refine x_ic T_303_237 ?_
                    refine x_ri T_303_239 ?_
                    refine ⟨?_, rfl⟩
                    first
                      | (rw [if_neg (by omega), if_neg (by omega), if_neg (by omega), if_neg (by omega), if_pos (by omega)])
                  · replace h220 : ¬ (¬ (and32 (xor32 (w32 md) (P 2293 (64 * s + n))) (-1073742336)) = 0) := h220
                    refine x_li (z := (if qMode P s n < 0 then (1 : Int) else 0)) T_303_223 rfl ?_
                    refine x_if T_303_225 (fun h225 => ?_) (fun h225 => ?_)
                    · replace h225 : ¬ (qMode P s n < 0) := ite1_z h225
                      refine x_ic T_303_240 ?_
                      refine x_ri T_303_241 ?_
                      refine ⟨?_, rfl⟩
                      first
                        | (rw [if_neg (by omega), if_neg (by omega), if_neg (by omega), if_neg (by omega), if_neg (by omega)])
                    · replace h225 : (qMode P s n < 0) := ite1_n h225
                      refine x_li (z := (xor32 (w32 md) (P 2293 (64 * s + n)))) T_303_228 rfl ?_
                      refine x_ic T_303_230 ?_
                      refine x_ib (w := (and32 (xor32 (w32 md) (P 2293 (64 * s + n))) 1073741824)) T_303_233 (fun h => absurd h.1 (by decide)) rfl ?_
                      refine x_if T_303_234 (fun h234 => ?_) (fun h234 => ?_)
                      · replace h234 : (and32 (xor32 (w32 md) (P 2293 (64 * s + n))) 1073741824) = 0 := h234
                        refine x_ic T_303_240 ?_
                        refine x_ri T_303_241 ?_
                        refine ⟨?_, rfl⟩
                        first
                          | (rw [if_neg (by omega), if_neg (by omega), if_neg (by omega), if_neg (by omega), if_neg (by omega)])
                      · replace h234 : ¬ ((and32 (xor32 (w32 md) (P 2293 (64 * s + n))) 1073741824) = 0) := h234
                        refine x_ic T_303_237 ?_
                        refine x_ri T_303_239 ?_
                        refine ⟨?_, rfl⟩
                        first
                          | (rw [if_neg (by omega), if_neg (by omega), if_neg (by omega), if_neg (by omega), if_pos (by omega)])
                · replace h196 : ¬ (u = P 2294 (64 * s + n)) := h196
                  refine x_ic T_303_199 ?_
                  refine x_ri T_303_200 ?_
                  refine ⟨?_, rfl⟩
                  first
                    | (rw [if_neg (by omega), if_pos (by omega)])
                    | (rw [if_neg (by omega), if_neg (by omega), if_neg (by omega), if_pos (by omega)])
            · replace h173 : ¬ (((P 2301 s - P 2297 (64 * s + n)) + ln) ≤ 8192) := h173
              refine x_ic T_303_176 ?_
              refine x_ri T_303_178 ?_
              refine ⟨?_, rfl⟩
              first
                | (rw [if_neg (by omega), if_neg (by omega), if_pos (by omega)])
        · replace h134 : (qMv P s n u 2 = 0) := ite0_z (Classical.not_not.mp h134)
          refine x_ic T_303_137 ?_
          refine x_ri T_303_138 ?_
          refine ⟨?_, rfl⟩
          first
            | (rw [if_neg (by omega), if_pos (by omega)])
            | (rw [if_neg (by omega), if_neg (by omega), if_neg (by omega), if_pos (by omega)])
      · replace h120 : (qMode P s n < 0) := ite1_n h120
        refine x_ic T_303_123 ?_
        refine x_ri T_303_125 ?_
        refine ⟨?_, rfl⟩
        first
          | (rw [if_pos (by omega)])
  by_cases hy0 : 0 < y
  · by_cases hn0 : n = 0
    · rw [if_pos ⟨hy0, hn0⟩]
      refine CL_in mL_303 rfl ?_
      show WP fb _ 303 0 [some (vR (some 2281)), some (vI s), some (vI n), some (vI u), some (vL md), none, some (vL ln), none, none, none, none] [] σ _
      refine x_li (z := s) T_303_0 rfl ?_
      refine x_li (z := n) T_303_1 rfl ?_
      refine x_cs2 T_303_2 mN_247 mL_247 (Nat.le_of_ble_eq_true rfl) mK_247 (Nat.le_of_ble_eq_true rfl) (m_place (by omega)) ?_
      rintro _ σ ⟨rfl, rfl⟩
      refine cI ?_
      refine x_si (ls1 := [some (vR (some 2281)), some (vI s), some (vI n), some (vI u), some (vL md), none, some (vL ln), none, some (vI (64 * s + n)), none, none]) T_303_5 rfl ?_
      refine x_lr (z := some 2281) T_303_7 rfl ?_
      refine x_li (z := s) T_303_8 rfl ?_
      refine x_li (z := n) T_303_9 rfl ?_
      refine x_cv3 T_303_10 mN_252 mL_252 (Nat.le_of_ble_eq_true rfl) mO_252 (PM.t hP) (Nat.le_of_ble_eq_true rfl) (m_isDirectory hP (by omega)) ?_
      rintro _ σ ⟨rfl, rfl⟩
      refine cI ?_
      refine x_si (ls1 := [some (vR (some 2281)), some (vI s), some (vI n), some (vI u), some (vL md), none, some (vL ln), none, some (vI (64 * s + n)), some (vI (if qMode P s n < 0 then (1 : Int) else 0)), none]) T_303_13 rfl ?_
      refine x_lr (z := some 2281) T_303_15 rfl ?_
      refine x_gR (z := some 2288) T_303_16 F_17_11 (PM.t hP) (PM.r hP 11 2288 rfl) ?_
      refine x_ic T_303_19 ?_
      refine x_alI (z := y) T_303_20 (by decide) (PM.ta hP 2288 0 8 rfl rfl) (by omega) (by omega) (Eq.trans (PM.aS hP 2288 rfl rfl (by omega)) hy) ?_
      refine x_if T_303_21 (fun h => absurd (show y ≤ 0 from h) (by omega)) (fun _ => ?_)
      refine x_li (z := n) T_303_24 rfl ?_
      refine x_if T_303_25 (fun h => absurd (show ¬ n = 0 from h) (by omega)) (fun _ => ?_)
      refine x_ic T_303_28 ?_
      refine x_ri T_303_29 ?_
      exact ⟨rfl, rfl⟩
    · rw [if_neg (fun q => hn0 q.2)]
      refine CL_in mL_303 rfl ?_
      show WP fb _ 303 0 [some (vR (some 2281)), some (vI s), some (vI n), some (vI u), some (vL md), none, some (vL ln), none, none, none, none] [] σ _
      refine x_li (z := s) T_303_0 rfl ?_
      refine x_li (z := n) T_303_1 rfl ?_
      refine x_cs2 T_303_2 mN_247 mL_247 (Nat.le_of_ble_eq_true rfl) mK_247 (Nat.le_of_ble_eq_true rfl) (m_place (by omega)) ?_
      rintro _ σ ⟨rfl, rfl⟩
      refine cI ?_
      refine x_si (ls1 := [some (vR (some 2281)), some (vI s), some (vI n), some (vI u), some (vL md), none, some (vL ln), none, some (vI (64 * s + n)), none, none]) T_303_5 rfl ?_
      refine x_lr (z := some 2281) T_303_7 rfl ?_
      refine x_li (z := s) T_303_8 rfl ?_
      refine x_li (z := n) T_303_9 rfl ?_
      refine x_cv3 T_303_10 mN_252 mL_252 (Nat.le_of_ble_eq_true rfl) mO_252 (PM.t hP) (Nat.le_of_ble_eq_true rfl) (m_isDirectory hP (by omega)) ?_
      rintro _ σ ⟨rfl, rfl⟩
      refine cI ?_
      refine x_si (ls1 := [some (vR (some 2281)), some (vI s), some (vI n), some (vI u), some (vL md), none, some (vL ln), none, some (vI (64 * s + n)), some (vI (if qMode P s n < 0 then (1 : Int) else 0)), none]) T_303_13 rfl ?_
      refine x_lr (z := some 2281) T_303_15 rfl ?_
      refine x_gR (z := some 2288) T_303_16 F_17_11 (PM.t hP) (PM.r hP 11 2288 rfl) ?_
      refine x_ic T_303_19 ?_
      refine x_alI (z := y) T_303_20 (by decide) (PM.ta hP 2288 0 8 rfl rfl) (by omega) (by omega) (Eq.trans (PM.aS hP 2288 rfl rfl (by omega)) hy) ?_
      refine x_if T_303_21 (fun h => absurd (show y ≤ 0 from h) (by omega)) (fun _ => ?_)
      refine x_li (z := n) T_303_24 rfl ?_
      refine x_if T_303_25 (fun _ => ?_) (fun h => absurd (show ¬ n = 0 by omega) h)
      refine x_lr (z := some 2281) T_303_30 rfl ?_
      refine x_lr (z := some 2281) T_303_31 rfl ?_
      refine x_gR (z := some 2287) T_303_32 F_17_10 (PM.t hP) (PM.r hP 10 2287 rfl) ?_
      refine x_ic T_303_35 ?_
      refine x_alI (z := o) T_303_36 (by decide) (PM.ta hP 2287 0 8 rfl rfl) (by omega) (by omega) (Eq.trans (PM.aS hP 2287 rfl rfl (by omega)) ho) ?_
      refine x_lr (z := some 2281) T_303_37 rfl ?_
      refine x_gR (z := some 2288) T_303_38 F_17_11 (PM.t hP) (PM.r hP 11 2288 rfl) ?_
      refine x_ic T_303_41 ?_
      refine x_alI (z := y) T_303_42 (by decide) (PM.ta hP 2288 0 8 rfl rfl) (by omega) (by omega) (Eq.trans (PM.aS hP 2288 rfl rfl (by omega)) hy) ?_
      refine x_cv3 T_303_43 mN_281 mL_281 (Nat.le_of_ble_eq_true rfl) mO_281 (PM.t hP) (Nat.le_of_ble_eq_true rfl) (CL_val (k := if nmOk nm = true then 1 else 0) (m_isName hP hJ (by omega) (by omega) (by omega)) (by rw [hnm])) ?_
      rintro _ σ ⟨rfl, rfl⟩
      refine cI ?_
      refine x_if T_303_46 (fun h46 => ?_) (fun h46 => ?_)
      · replace h46 : (nmOk nm = true) := ite1_n h46
        refine x_lr (z := some 2281) T_303_51 rfl ?_
        refine x_li (z := s) T_303_52 rfl ?_
        refine x_lr (z := some 2281) T_303_53 rfl ?_
        refine x_gR (z := some 2290) T_303_54 F_17_14 (PM.t hP) (PM.r hP 14 2290 rfl) ?_
        refine x_li (z := (64 * s + n)) T_303_57 rfl ?_
        have b1 : 0 ≤ P 2290 (64 * s + n) ∧ P 2290 (64 * s + n) ≤ 63 := IV.a hI 2290 0 128 rfl rfl rfl (by omega) (by omega)
        refine x_alI (z := P 2290 (64 * s + n)) T_303_59 (by decide) (PM.ta hP 2290 0 128 rfl rfl) (by omega) (by omega) (PM.aP hP 2290 rfl rfl (by omega)) ?_
        refine x_lr (z := some 2281) T_303_60 rfl ?_
        refine x_gR (z := some 2287) T_303_61 F_17_10 (PM.t hP) (PM.r hP 10 2287 rfl) ?_
        refine x_ic T_303_64 ?_
        refine x_alI (z := o) T_303_65 (by decide) (PM.ta hP 2287 0 8 rfl rfl) (by omega) (by omega) (Eq.trans (PM.aS hP 2287 rfl rfl (by omega)) ho) ?_
        refine x_lr (z := some 2281) T_303_66 rfl ?_
        refine x_gR (z := some 2288) T_303_67 F_17_11 (PM.t hP) (PM.r hP 11 2288 rfl) ?_
        refine x_ic T_303_70 ?_
        refine x_alI (z := y) T_303_71 (by decide) (PM.ta hP 2288 0 8 rfl rfl) (by omega) (by omega) (Eq.trans (PM.aS hP 2288 rfl rfl (by omega)) hy) ?_
        refine x_cv5 T_303_72 mN_268 mL_268 (Nat.le_of_ble_eq_true rfl) mO_268 (PM.t hP) (Nat.le_of_ble_eq_true rfl) (CL_val (k := r) (m_finds hP hI hJ (by omega) (fun q => by omega) (by omega) (by omega) (by omega)) (by rw [hnm]; exact hr)) ?_
        rintro _ σ ⟨rfl, rfl⟩
        refine cI ?_
        refine x_si (ls1 := [some (vR (some 2281)), some (vI s), some (vI n), some (vI u), some (vL md), none, some (vL ln), none, some (vI (64 * s + n)), some (vI (if qMode P s n < 0 then (1 : Int) else 0)), some (vI r)]) T_303_75 rfl ?_
        refine x_li (z := r) T_303_77 rfl ?_
        refine x_if T_303_79 (fun h79 => ?_) (fun h79 => ?_)
        · replace h79 : r < 0 := h79
          refine x_lr (z := some 2281) T_303_90 rfl ?_
          refine x_li (z := s) T_303_91 rfl ?_
          refine x_lr (z := some 2281) T_303_92 rfl ?_
          refine x_gR (z := some 2290) T_303_93 F_17_14 (PM.t hP) (PM.r hP 14 2290 rfl) ?_
          refine x_li (z := (64 * s + n)) T_303_96 rfl ?_
          refine x_alI (z := P 2290 (64 * s + n)) T_303_98 (by decide) (PM.ta hP 2290 0 128 rfl rfl) (by omega) (by omega) (PM.aP hP 2290 rfl rfl (by omega)) ?_
          refine x_li (z := u) T_303_99 rfl ?_
          refine x_ic T_303_100 ?_
          refine x_cv5 T_303_101 mN_248 mL_248 (Nat.le_of_ble_eq_true rfl) mO_248 (PM.t hP) (Nat.le_of_ble_eq_true rfl) (m_may hP (by omega)) ?_
          rintro _ σ ⟨rfl, rfl⟩
          refine cI ?_
          refine x_if T_303_104 (fun h104 => ?_) (fun h104 => ?_)
          · replace h104 : ¬ (qMv P s (P 2290 (64 * s + n)) u 2 = 0) := ite0_n h104
            rw [if_neg (show ¬ (0 < y ∧ ¬ nmOk nm = true) from fun q => q.2 h46), if_neg (show ¬ (0 < y ∧ (0 ≤ r ∧ ¬ r = n)) by omega), if_neg (show ¬ (0 < y ∧ qMv P s (P 2290 (64 * s + n)) u 2 = 0) by omega)]
            exact rest σ _ hP
          · replace h104 : (qMv P s (P 2290 (64 * s + n)) u 2 = 0) := ite0_z (Classical.not_not.mp h104)
            refine x_ic T_303_107 ?_
            refine x_ri T_303_108 ?_
            exact ⟨by rw [if_neg (fun q => q.2 h46), if_neg (by omega), if_pos (by omega)], rfl⟩
        · replace h79 : ¬ (r < 0) := h79
          refine x_li (z := r) T_303_82 rfl ?_
          refine x_li (z := n) T_303_84 rfl ?_
          refine x_ic2 T_303_85 (fun h85 => ?_) (fun h85 => ?_)
          · replace h85 : r = n := h85
            refine x_lr (z := some 2281) T_303_90 rfl ?_
            refine x_li (z := s) T_303_91 rfl ?_
            refine x_lr (z := some 2281) T_303_92 rfl ?_
            refine x_gR (z := some 2290) T_303_93 F_17_14 (PM.t hP) (PM.r hP 14 2290 rfl) ?_
            refine x_li (z := (64 * s + n)) T_303_96 rfl ?_
            refine x_alI (z := P 2290 (64 * s + n)) T_303_98 (by decide) (PM.ta hP 2290 0 128 rfl rfl) (by omega) (by omega) (PM.aP hP 2290 rfl rfl (by omega)) ?_
            refine x_li (z := u) T_303_99 rfl ?_
            refine x_ic T_303_100 ?_
            refine x_cv5 T_303_101 mN_248 mL_248 (Nat.le_of_ble_eq_true rfl) mO_248 (PM.t hP) (Nat.le_of_ble_eq_true rfl) (m_may hP (by omega)) ?_
            rintro _ σ ⟨rfl, rfl⟩
            refine cI ?_
            refine x_if T_303_104 (fun h104 => ?_) (fun h104 => ?_)
            · replace h104 : ¬ (qMv P s (P 2290 (64 * s + n)) u 2 = 0) := ite0_n h104
              rw [if_neg (show ¬ (0 < y ∧ ¬ nmOk nm = true) from fun q => q.2 h46), if_neg (show ¬ (0 < y ∧ (0 ≤ r ∧ ¬ r = n)) by omega), if_neg (show ¬ (0 < y ∧ qMv P s (P 2290 (64 * s + n)) u 2 = 0) by omega)]
              exact rest σ _ hP
            · replace h104 : (qMv P s (P 2290 (64 * s + n)) u 2 = 0) := ite0_z (Classical.not_not.mp h104)
              refine x_ic T_303_107 ?_
              refine x_ri T_303_108 ?_
              exact ⟨by rw [if_neg (fun q => q.2 h46), if_neg (by omega), if_pos (by omega)], rfl⟩
          · replace h85 : ¬ (r = n) := h85
            refine x_ic T_303_88 ?_
            refine x_ri T_303_89 ?_
            exact ⟨by rw [if_neg (fun q => q.2 h46), if_pos (by omega)], rfl⟩
      · replace h46 : ¬ (nmOk nm = true) := ite1_z (Classical.not_not.mp h46)
        refine x_ic T_303_49 ?_
        refine x_ri T_303_50 ?_
        exact ⟨by rw [if_pos ⟨hy0, h46⟩], rfl⟩
  · rw [if_neg (fun q => hy0 q.1), if_neg (fun q => hy0 q.1), if_neg (fun q => hy0 q.1), if_neg (fun q => hy0 q.1)]
    refine CL_in mL_303 rfl ?_
    show WP fb _ 303 0 [some (vR (some 2281)), some (vI s), some (vI n), some (vI u), some (vL md), none, some (vL ln), none, none, none, none] [] σ _
    refine x_li (z := s) T_303_0 rfl ?_
    refine x_li (z := n) T_303_1 rfl ?_
    refine x_cs2 T_303_2 mN_247 mL_247 (Nat.le_of_ble_eq_true rfl) mK_247 (Nat.le_of_ble_eq_true rfl) (m_place (by omega)) ?_
    rintro _ σ ⟨rfl, rfl⟩
    refine cI ?_
    refine x_si (ls1 := [some (vR (some 2281)), some (vI s), some (vI n), some (vI u), some (vL md), none, some (vL ln), none, some (vI (64 * s + n)), none, none]) T_303_5 rfl ?_
    refine x_lr (z := some 2281) T_303_7 rfl ?_
    refine x_li (z := s) T_303_8 rfl ?_
    refine x_li (z := n) T_303_9 rfl ?_
    refine x_cv3 T_303_10 mN_252 mL_252 (Nat.le_of_ble_eq_true rfl) mO_252 (PM.t hP) (Nat.le_of_ble_eq_true rfl) (m_isDirectory hP (by omega)) ?_
    rintro _ σ ⟨rfl, rfl⟩
    refine cI ?_
    refine x_si (ls1 := [some (vR (some 2281)), some (vI s), some (vI n), some (vI u), some (vL md), none, some (vL ln), none, some (vI (64 * s + n)), some (vI (if qMode P s n < 0 then (1 : Int) else 0)), none]) T_303_13 rfl ?_
    refine x_lr (z := some 2281) T_303_15 rfl ?_
    refine x_gR (z := some 2288) T_303_16 F_17_11 (PM.t hP) (PM.r hP 11 2288 rfl) ?_
    refine x_ic T_303_19 ?_
    refine x_alI (z := y) T_303_20 (by decide) (PM.ta hP 2288 0 8 rfl rfl) (by omega) (by omega) (Eq.trans (PM.aS hP 2288 rfl rfl (by omega)) hy) ?_
    refine x_if T_303_21 (fun _ => ?_) (fun h => absurd (show y ≤ 0 by omega) h)
    exact rest σ _ hP
theorem m_doChange {md ln o y : Int} (hP : PM σ0 P S σ) (hI : IV false T U P) (hJ : IV true T U S) (hT : T ≤ 2147483000) (h : 0 ≤ s ∧ s < 2 ∧ 0 ≤ n ∧ n < 64) (ho : S 2287 0 = o) (hy : S 2288 0 = y) (h0 : 0 ≤ o ∧ 0 ≤ y ∧ y ≤ 12 ∧ o + y ≤ 512) (hl : ¬ ln = -1 → 0 ≤ ln ∧ ln ≤ 600) : CL fb (d + 2) 304 [vR (some 2281), vI s, vI n, vI u, vL md, vL ln] σ (rV σ0 (gChg P s n u md ln y (seg (S 2285) o y.toNat)) S) := by
  have bv : 0 ≤ P 2292 (64 * s + n) ∧ P 2292 (64 * s + n) ≤ T := IV.a hI 2292 0 128 rfl rfl rfl (by omega) (by omega)
  obtain ⟨nm, hnm⟩ : ∃ nm, seg (S 2285) o y.toNat = nm := ⟨_, rfl⟩
  have hnl : (nm.length : Int) = y := by rw [← hnm, seg_len]; omega
  have hnb : byt nm := by rw [← hnm]; exact byt_seg (fun i h1 h2 => IV.a hJ 2285 0 512 rfl rfl rfl (by omega) (by omega))
  rw [hnm]
  have t3 : ∀ (σ : hM) (Q : qR), PM σ0 Q S σ → WP fb (d + 2) 304 63 [some (vR (some 2281)), some (vI s), some (vI n), some (vI u), some (vL md), none, some (vL ln), none, some (vI (64 * s + n))] [] σ (rV σ0 (rU (gCh3 Q s n md) 2296 (64 * s + n) u) S) := by
    intro σ Q hP
    unfold gCh3
    by_cases c : md = 4294967295
    · rw [if_neg (fun q => q c)]
      refine x_ll (z := md) T_304_63 rfl ?_
      refine x_lc T_304_65 ?_
      refine x_lif T_304_68 T_304_69 (fun _ => ?_) (fun h => absurd (show md = 4294967295 by omega) h)
      refine x_lr (z := some 2281) T_304_82 rfl ?_
      refine x_gR (z := some 2296) T_304_83 F_17_20 (PM.t hP) (PM.r hP 20 2296 rfl) ?_
      refine x_li (z := (64 * s + n)) T_304_86 rfl ?_
      refine x_li (z := u) T_304_88 rfl ?_
      refine y_aIP hP T_304_89 2296 128 rfl rfl rfl (by omega) (by omega) (fun σ hP => ?_)
      refine x_rv T_304_90 ?_
      exact ⟨rfl, hP⟩
    · rw [if_pos c]
      refine x_ll (z := md) T_304_63 rfl ?_
      refine x_lc T_304_65 ?_
      refine x_lif T_304_68 T_304_69 (fun h => absurd (show md = 4294967295 from h) (by omega)) (fun _ => ?_)
      refine x_lr (z := some 2281) T_304_72 rfl ?_
      refine x_gR (z := some 2293) T_304_73 F_17_17 (PM.t hP) (PM.r hP 17 2293 rfl) ?_
      refine x_li (z := (64 * s + n)) T_304_76 rfl ?_
      refine x_ll (z := md) T_304_78 rfl ?_
      refine x_l2i (w := w32 md) T_304_80 rfl ?_
      refine y_aIP hP T_304_81 2293 128 rfl rfl rfl (by omega) (by omega) (fun σ hP => ?_)
      refine x_lr (z := some 2281) T_304_82 rfl ?_
      refine x_gR (z := some 2296) T_304_83 F_17_20 (PM.t hP) (PM.r hP 20 2296 rfl) ?_
      refine x_li (z := (64 * s + n)) T_304_86 rfl ?_
      refine x_li (z := u) T_304_88 rfl ?_
      refine y_aIP hP T_304_89 2296 128 rfl rfl rfl (by omega) (by omega) (fun σ hP => ?_)
      refine x_rv T_304_90 ?_
      exact ⟨rfl, hP⟩
  have t2 : ∀ (σ : hM) (Q : qR), PM σ0 Q S σ → IV false T U Q → Q 2292 (64 * s + n) = P 2292 (64 * s + n) → WP fb (d + 2) 304 34 [some (vR (some 2281)), some (vI s), some (vI n), some (vI u), some (vL md), none, some (vL ln), none, some (vI (64 * s + n))] [] σ (rV σ0 (rU (gCh3 (gCh2 Q s n ln) s n md) 2296 (64 * s + n) u) S) := by
    intro σ Q hP hI hv
    unfold gCh2
    by_cases c : ln = -1
    · rw [if_neg (fun q => q c)]
      refine x_ll (z := ln) T_304_34 rfl ?_
      refine x_lc T_304_36 ?_
      refine x_lif T_304_39 T_304_40 (fun _ => ?_) (fun h => absurd (show ln = (-1) by omega) h)
      exact t3 σ _ hP
    · have hl2 := hl c
      rw [if_pos c]
      refine x_ll (z := ln) T_304_34 rfl ?_
      refine x_lc T_304_36 ?_
      refine x_lif T_304_39 T_304_40 (fun h => absurd (show ln = (-1) from h) (by omega)) (fun _ => ?_)
      refine x_lr (z := some 2281) T_304_43 rfl ?_
      refine x_li (z := s) T_304_44 rfl ?_
      refine x_li (z := n) T_304_45 rfl ?_
      refine x_ll (z := ln) T_304_46 rfl ?_
      refine x_l2i (w := ln) T_304_48 (w32_id (by omega) (by omega)) ?_
      refine x_cv4 T_304_49 mN_276 mL_276 (Nat.le_of_ble_eq_true rfl) mO_276 (PM.t hP) (Nat.le_of_ble_eq_true rfl) (m_resize hP hI (by omega) (by omega)) ?_
      rintro _ σ ⟨rfl, hP⟩
      refine cV ?_
      refine x_lr (z := some 2281) T_304_52 rfl ?_
      refine x_gR (z := some 2292) T_304_53 F_17_16 (PM.t hP) (PM.r hP 16 2292 rfl) ?_
      refine x_li (z := (64 * s + n)) T_304_56 rfl ?_
      refine x_dup2 T_304_58 ?_
      have b1 : 0 ≤ Q 2292 (64 * s + n) ∧ Q 2292 (64 * s + n) ≤ T := IV.a hI 2292 0 128 rfl rfl rfl (by omega) (by omega)
      refine x_alI (z := Q 2292 (64 * s + n)) T_304_59 (by decide) (PM.ta hP 2292 0 128 rfl rfl) (by omega) (by omega) (Eq.trans (PM.aP hP 2292 rfl rfl (by omega)) (gSize_f (Nat.ne_of_beq_eq_false rfl) (Nat.ne_of_beq_eq_false rfl) (Nat.ne_of_beq_eq_false rfl))) ?_
      refine x_ic T_304_60 ?_
      refine x_ib (w := (Q 2292 (64 * s + n) + 1)) T_304_61 (fun h => absurd h.1 (by decide)) (w32_id (by omega) (by omega)) ?_
      refine y_aIP hP T_304_62 2292 128 rfl rfl rfl (by omega) (by omega) (fun σ hP => ?_)
      exact t3 σ _ hP
  have hgn : ∀ (g : Nat) (k : Int), g ≠ 2298 → g ≠ 2299 → gName P s n nm g k = P g k := fun g k q1 q2 => gName_f q1 q2
  unfold gChg gCh1
  by_cases hy0 : 0 < y
  · rw [if_pos hy0]
    refine CL_in mL_304 rfl ?_
    show WP fb _ 304 0 [some (vR (some 2281)), some (vI s), some (vI n), some (vI u), some (vL md), none, some (vL ln), none, none] [] σ _
    refine x_li (z := s) T_304_0 rfl ?_
    refine x_li (z := n) T_304_1 rfl ?_
    refine x_cs2 T_304_2 mN_247 mL_247 (Nat.le_of_ble_eq_true rfl) mK_247 (Nat.le_of_ble_eq_true rfl) (m_place (by omega)) ?_
    rintro _ σ ⟨rfl, rfl⟩
    refine cI ?_
    refine x_si (ls1 := [some (vR (some 2281)), some (vI s), some (vI n), some (vI u), some (vL md), none, some (vL ln), none, some (vI (64 * s + n))]) T_304_5 rfl ?_
    refine x_lr (z := some 2281) T_304_7 rfl ?_
    refine x_gR (z := some 2288) T_304_8 F_17_11 (PM.t hP) (PM.r hP 11 2288 rfl) ?_
    refine x_ic T_304_11 ?_
    refine x_alI (z := y) T_304_12 (by decide) (PM.ta hP 2288 0 8 rfl rfl) (by omega) (by omega) (Eq.trans (PM.aS hP 2288 rfl rfl (by omega)) hy) ?_
    refine x_if T_304_13 (fun h => absurd (show y ≤ 0 from h) (by omega)) (fun _ => ?_)
    refine x_lr (z := some 2281) T_304_16 rfl ?_
    refine x_li (z := s) T_304_17 rfl ?_
    refine x_li (z := n) T_304_18 rfl ?_
    refine x_lr (z := some 2281) T_304_19 rfl ?_
    refine x_gR (z := some 2287) T_304_20 F_17_10 (PM.t hP) (PM.r hP 10 2287 rfl) ?_
    refine x_ic T_304_23 ?_
    refine x_alI (z := o) T_304_24 (by decide) (PM.ta hP 2287 0 8 rfl rfl) (by omega) (by omega) (Eq.trans (PM.aS hP 2287 rfl rfl (by omega)) ho) ?_
    refine x_lr (z := some 2281) T_304_25 rfl ?_
    refine x_gR (z := some 2288) T_304_26 F_17_11 (PM.t hP) (PM.r hP 11 2288 rfl) ?_
    refine x_ic T_304_29 ?_
    refine x_alI (z := y) T_304_30 (by decide) (PM.ta hP 2288 0 8 rfl rfl) (by omega) (by omega) (Eq.trans (PM.aS hP 2288 rfl rfl (by omega)) hy) ?_
    refine x_cv5 T_304_31 mN_284 mL_284 (Nat.le_of_ble_eq_true rfl) mO_284 (PM.t hP) (Nat.le_of_ble_eq_true rfl) (m_setName hP hJ (by omega) (by omega) (by omega) (by omega)) ?_
    rintro _ σ ⟨rfl, hP⟩
    rw [hnm] at hP
    refine cV ?_
    exact t2 σ _ hP ((hI.wA 2298 rfl (fun k h1 h2 => hnb _ (by omega))).uA 2299 rfl (by show 0 ≤ (nm.length : Int) ∧ (nm.length : Int) ≤ 12; omega)) (hgn _ _ (by decide) (by decide))
  · rw [if_neg hy0]
    refine CL_in mL_304 rfl ?_
    show WP fb _ 304 0 [some (vR (some 2281)), some (vI s), some (vI n), some (vI u), some (vL md), none, some (vL ln), none, none] [] σ _
    refine x_li (z := s) T_304_0 rfl ?_
    refine x_li (z := n) T_304_1 rfl ?_
    refine x_cs2 T_304_2 mN_247 mL_247 (Nat.le_of_ble_eq_true rfl) mK_247 (Nat.le_of_ble_eq_true rfl) (m_place (by omega)) ?_
    rintro _ σ ⟨rfl, rfl⟩
    refine cI ?_
    refine x_si (ls1 := [some (vR (some 2281)), some (vI s), some (vI n), some (vI u), some (vL md), none, some (vL ln), none, some (vI (64 * s + n))]) T_304_5 rfl ?_
    refine x_lr (z := some 2281) T_304_7 rfl ?_
    refine x_gR (z := some 2288) T_304_8 F_17_11 (PM.t hP) (PM.r hP 11 2288 rfl) ?_
    refine x_ic T_304_11 ?_
    refine x_alI (z := y) T_304_12 (by decide) (PM.ta hP 2288 0 8 rfl rfl) (by omega) (by omega) (Eq.trans (PM.aS hP 2288 rfl rfl (by omega)) hy) ?_
    refine x_if T_304_13 (fun _ => ?_) (fun h => absurd (show y ≤ 0 by omega) h)
    exact t2 σ _ hP hI rfl
end MWSTAT
