/-! The reference's names and entries. -/
theorem T_253_0 : hTab 253 0 = some ((3, 1, 0, []), 1) := rfl
theorem T_253_1 : hTab 253 1 = some ((0, 0, 2, []), 2) := rfl
theorem T_253_2 : hTab 253 2 = some ((19, 1, Int.ofNat 90, []), 5) := rfl
theorem T_253_5 : hTab 253 5 = some ((3, 2, 0, []), 6) := rfl
theorem T_253_6 : hTab 253 6 = some ((18, 5, Int.ofNat 24, []), 9) := rfl
theorem T_253_9 : hTab 253 9 = some ((3, 3, 0, []), 10) := rfl
theorem T_253_10 : hTab 253 10 = some ((0, 0, 2, []), 11) := rfl
theorem T_253_11 : hTab 253 11 = some ((19, 3, Int.ofNat 22, []), 14) := rfl
theorem T_253_14 : hTab 253 14 = some ((3, 2, 0, []), 15) := rfl
theorem T_253_15 : hTab 253 15 = some ((0, 0, 1, []), 16) := rfl
theorem T_253_16 : hTab 253 16 = some ((10, 0, 0, []), 17) := rfl
theorem T_253_17 : hTab 253 17 = some ((3, 3, 0, []), 18) := rfl
theorem T_253_18 : hTab 253 18 = some ((10, 0, 0, []), 19) := rfl
theorem T_253_19 : hTab 253 19 = some ((22, 0, Int.ofNat 23, []), 22) := rfl
theorem T_253_22 : hTab 253 22 = some ((0, 0, (-1), []), 23) := rfl
theorem T_253_23 : hTab 253 23 = some ((33, 1, 0, []), 24) := rfl
theorem T_253_24 : hTab 253 24 = some ((3, 3, 0, []), 25) := rfl
theorem T_253_25 : hTab 253 25 = some ((4, 4, 0, []), 27) := rfl
theorem T_253_27 : hTab 253 27 = some ((3, 3, 0, []), 28) := rfl
theorem T_253_28 : hTab 253 28 = some ((18, 1, Int.ofNat 35, []), 31) := rfl
theorem T_253_31 : hTab 253 31 = some ((0, 0, 1, []), 32) := rfl
theorem T_253_32 : hTab 253 32 = some ((22, 0, Int.ofNat 36, []), 35) := rfl
theorem T_253_35 : hTab 253 35 = some ((0, 0, (-1), []), 36) := rfl
theorem T_253_36 : hTab 253 36 = some ((4, 5, 0, []), 38) := rfl
theorem T_253_38 : hTab 253 38 = some ((0, 0, 0, []), 39) := rfl
theorem T_253_39 : hTab 253 39 = some ((4, 6, 0, []), 41) := rfl
theorem T_253_41 : hTab 253 41 = some ((3, 6, 0, []), 43) := rfl
theorem T_253_43 : hTab 253 43 = some ((0, 0, 8, []), 45) := rfl
theorem T_253_45 : hTab 253 45 = some ((19, 3, Int.ofNat 87, []), 48) := rfl
theorem T_253_48 : hTab 253 48 = some ((3, 0, 2, []), 49) := rfl
theorem T_253_49 : hTab 253 49 = some ((24, 17, Int.ofNat 50, []), 52) := rfl
theorem T_253_52 : hTab 253 52 = some ((3, 6, 0, []), 54) := rfl
theorem T_253_54 : hTab 253 54 = some ((26, 2, 0, []), 55) := rfl
theorem T_253_55 : hTab 253 55 = some ((18, 0, Int.ofNat 81, []), 58) := rfl
theorem T_253_58 : hTab 253 58 = some ((5, 4, (-1), []), 61) := rfl
theorem T_253_61 : hTab 253 61 = some ((3, 4, 0, []), 63) := rfl
theorem T_253_63 : hTab 253 63 = some ((18, 1, Int.ofNat 77, []), 66) := rfl
theorem T_253_66 : hTab 253 66 = some ((0, 0, 16, []), 68) := rfl
theorem T_253_68 : hTab 253 68 = some ((3, 6, 0, []), 70) := rfl
theorem T_253_70 : hTab 253 70 = some ((10, 2, 0, []), 71) := rfl
theorem T_253_71 : hTab 253 71 = some ((0, 0, 16, []), 73) := rfl
theorem T_253_73 : hTab 253 73 = some ((10, 0, 0, []), 74) := rfl
theorem T_253_74 : hTab 253 74 = some ((22, 0, Int.ofNat 79, []), 77) := rfl
theorem T_253_77 : hTab 253 77 = some ((3, 5, 0, []), 79) := rfl
theorem T_253_79 : hTab 253 79 = some ((4, 5, 0, []), 81) := rfl
theorem T_253_81 : hTab 253 81 = some ((5, 6, 1, []), 84) := rfl
theorem T_253_84 : hTab 253 84 = some ((22, 0, Int.ofNat 41, []), 87) := rfl
theorem T_253_87 : hTab 253 87 = some ((3, 5, 0, []), 89) := rfl
theorem T_253_89 : hTab 253 89 = some ((33, 1, 0, []), 90) := rfl
theorem T_253_90 : hTab 253 90 = some ((0, 0, 0, []), 91) := rfl
theorem T_253_91 : hTab 253 91 = some ((4, 4, 0, []), 93) := rfl
theorem T_253_93 : hTab 253 93 = some ((0, 0, (-1), []), 94) := rfl
theorem T_253_94 : hTab 253 94 = some ((4, 5, 0, []), 96) := rfl
theorem T_253_96 : hTab 253 96 = some ((0, 0, 0, []), 97) := rfl
theorem T_253_97 : hTab 253 97 = some ((4, 6, 0, []), 99) := rfl
theorem T_253_99 : hTab 253 99 = some ((3, 6, 0, []), 101) := rfl
theorem T_253_101 : hTab 253 101 = some ((3, 3, 0, []), 102) := rfl
theorem T_253_102 : hTab 253 102 = some ((19, 4, Int.ofNat 238, []), 105) := rfl
theorem T_253_105 : hTab 253 105 = some ((0, 0, (-1), []), 106) := rfl
theorem T_253_106 : hTab 253 106 = some ((4, 5, 0, []), 108) := rfl
theorem T_253_108 : hTab 253 108 = some ((0, 0, 1, []), 109) := rfl
theorem T_253_109 : hTab 253 109 = some ((4, 7, 0, []), 111) := rfl
theorem T_253_111 : hTab 253 111 = some ((3, 7, 0, []), 113) := rfl
theorem T_253_113 : hTab 253 113 = some ((0, 0, 64, []), 115) := rfl
theorem T_253_115 : hTab 253 115 = some ((19, 3, Int.ofNat 212, []), 118) := rfl
theorem T_253_118 : hTab 253 118 = some ((3, 1, 0, []), 119) := rfl
theorem T_253_119 : hTab 253 119 = some ((3, 7, 0, []), 121) := rfl
theorem T_253_121 : hTab 253 121 = some ((31, 247, 0, []), 124) := rfl
theorem T_253_124 : hTab 253 124 = some ((4, 8, 0, []), 126) := rfl
theorem T_253_126 : hTab 253 126 = some ((3, 0, 2, []), 127) := rfl
theorem T_253_127 : hTab 253 127 = some ((24, 17, Int.ofNat 13, []), 130) := rfl
theorem T_253_130 : hTab 253 130 = some ((3, 8, 0, []), 132) := rfl
theorem T_253_132 : hTab 253 132 = some ((26, 2, 0, []), 133) := rfl
theorem T_253_133 : hTab 253 133 = some ((18, 0, Int.ofNat 163, []), 136) := rfl
theorem T_253_136 : hTab 253 136 = some ((3, 0, 2, []), 137) := rfl
theorem T_253_137 : hTab 253 137 = some ((24, 17, Int.ofNat 14, []), 140) := rfl
theorem T_253_140 : hTab 253 140 = some ((3, 8, 0, []), 142) := rfl
theorem T_253_142 : hTab 253 142 = some ((26, 0, 0, []), 143) := rfl
theorem T_253_143 : hTab 253 143 = some ((3, 2, 0, []), 144) := rfl
theorem T_253_144 : hTab 253 144 = some ((19, 1, Int.ofNat 163, []), 147) := rfl
theorem T_253_147 : hTab 253 147 = some ((3, 0, 2, []), 148) := rfl
theorem T_253_148 : hTab 253 148 = some ((24, 17, Int.ofNat 15, []), 151) := rfl
theorem T_253_151 : hTab 253 151 = some ((3, 8, 0, []), 153) := rfl
theorem T_253_153 : hTab 253 153 = some ((26, 0, 0, []), 154) := rfl
theorem T_253_154 : hTab 253 154 = some ((3, 4, 0, []), 156) := rfl
theorem T_253_156 : hTab 253 156 = some ((19, 5, Int.ofNat 163, []), 159) := rfl
theorem T_253_159 : hTab 253 159 = some ((0, 0, 1, []), 160) := rfl
theorem T_253_160 : hTab 253 160 = some ((22, 0, Int.ofNat 164, []), 163) := rfl
theorem T_253_163 : hTab 253 163 = some ((0, 0, 0, []), 164) := rfl
theorem T_253_164 : hTab 253 164 = some ((4, 9, 0, []), 166) := rfl
theorem T_253_166 : hTab 253 166 = some ((3, 9, 0, []), 168) := rfl
theorem T_253_168 : hTab 253 168 = some ((18, 0, Int.ofNat 202, []), 171) := rfl
theorem T_253_171 : hTab 253 171 = some ((3, 5, 0, []), 173) := rfl
theorem T_253_173 : hTab 253 173 = some ((18, 2, Int.ofNat 197, []), 176) := rfl
theorem T_253_176 : hTab 253 176 = some ((3, 0, 2, []), 177) := rfl
theorem T_253_177 : hTab 253 177 = some ((24, 17, Int.ofNat 15, []), 180) := rfl
theorem T_253_180 : hTab 253 180 = some ((3, 8, 0, []), 182) := rfl
theorem T_253_182 : hTab 253 182 = some ((26, 0, 0, []), 183) := rfl
theorem T_253_183 : hTab 253 183 = some ((3, 0, 2, []), 184) := rfl
theorem T_253_184 : hTab 253 184 = some ((24, 17, Int.ofNat 15, []), 187) := rfl
theorem T_253_187 : hTab 253 187 = some ((3, 1, 0, []), 188) := rfl
theorem T_253_188 : hTab 253 188 = some ((3, 5, 0, []), 190) := rfl
theorem T_253_190 : hTab 253 190 = some ((31, 247, 0, []), 193) := rfl
theorem T_253_193 : hTab 253 193 = some ((26, 0, 0, []), 194) := rfl
theorem T_253_194 : hTab 253 194 = some ((19, 3, Int.ofNat 202, []), 197) := rfl
theorem T_253_197 : hTab 253 197 = some ((3, 7, 0, []), 199) := rfl
theorem T_253_199 : hTab 253 199 = some ((22, 0, Int.ofNat 204, []), 202) := rfl
theorem T_253_202 : hTab 253 202 = some ((3, 5, 0, []), 204) := rfl
theorem T_253_204 : hTab 253 204 = some ((4, 5, 0, []), 206) := rfl
theorem T_253_206 : hTab 253 206 = some ((5, 7, 1, []), 209) := rfl
theorem T_253_209 : hTab 253 209 = some ((22, 0, Int.ofNat 111, []), 212) := rfl
theorem T_253_212 : hTab 253 212 = some ((3, 5, 0, []), 214) := rfl
theorem T_253_214 : hTab 253 214 = some ((18, 3, Int.ofNat 219, []), 217) := rfl
theorem T_253_217 : hTab 253 217 = some ((0, 0, (-1), []), 218) := rfl
theorem T_253_218 : hTab 253 218 = some ((33, 1, 0, []), 219) := rfl
theorem T_253_219 : hTab 253 219 = some ((3, 0, 2, []), 220) := rfl
theorem T_253_220 : hTab 253 220 = some ((24, 17, Int.ofNat 15, []), 223) := rfl
theorem T_253_223 : hTab 253 223 = some ((3, 1, 0, []), 224) := rfl
theorem T_253_224 : hTab 253 224 = some ((3, 5, 0, []), 226) := rfl
theorem T_253_226 : hTab 253 226 = some ((31, 247, 0, []), 229) := rfl
theorem T_253_229 : hTab 253 229 = some ((26, 0, 0, []), 230) := rfl
theorem T_253_230 : hTab 253 230 = some ((4, 4, 0, []), 232) := rfl
theorem T_253_232 : hTab 253 232 = some ((5, 6, 1, []), 235) := rfl
theorem T_253_235 : hTab 253 235 = some ((22, 0, Int.ofNat 99, []), 238) := rfl
theorem T_253_238 : hTab 253 238 = some ((3, 5, 0, []), 240) := rfl
theorem T_253_240 : hTab 253 240 = some ((33, 1, 0, []), 241) := rfl
theorem T_268_0 : hTab 268 0 = some ((0, 0, 1, []), 1) := rfl
theorem T_268_1 : hTab 268 1 = some ((4, 5, 0, []), 3) := rfl
theorem T_268_3 : hTab 268 3 = some ((3, 5, 0, []), 5) := rfl
theorem T_268_5 : hTab 268 5 = some ((0, 0, 64, []), 7) := rfl
theorem T_268_7 : hTab 268 7 = some ((19, 3, Int.ofNat 66, []), 10) := rfl
theorem T_268_10 : hTab 268 10 = some ((3, 1, 0, []), 11) := rfl
theorem T_268_11 : hTab 268 11 = some ((0, 0, 2, []), 12) := rfl
theorem T_268_12 : hTab 268 12 = some ((19, 3, Int.ofNat 66, []), 15) := rfl
theorem T_268_15 : hTab 268 15 = some ((3, 0, 2, []), 16) := rfl
theorem T_268_16 : hTab 268 16 = some ((24, 17, Int.ofNat 13, []), 19) := rfl
theorem T_268_19 : hTab 268 19 = some ((3, 1, 0, []), 20) := rfl
theorem T_268_20 : hTab 268 20 = some ((3, 5, 0, []), 22) := rfl
theorem T_268_22 : hTab 268 22 = some ((31, 247, 0, []), 25) := rfl
theorem T_268_25 : hTab 268 25 = some ((26, 2, 0, []), 26) := rfl
theorem T_268_26 : hTab 268 26 = some ((18, 0, Int.ofNat 60, []), 29) := rfl
theorem T_268_29 : hTab 268 29 = some ((3, 0, 2, []), 30) := rfl
theorem T_268_30 : hTab 268 30 = some ((24, 17, Int.ofNat 14, []), 33) := rfl
theorem T_268_33 : hTab 268 33 = some ((3, 1, 0, []), 34) := rfl
theorem T_268_34 : hTab 268 34 = some ((3, 5, 0, []), 36) := rfl
theorem T_268_36 : hTab 268 36 = some ((31, 247, 0, []), 39) := rfl
theorem T_268_39 : hTab 268 39 = some ((26, 0, 0, []), 40) := rfl
theorem T_268_40 : hTab 268 40 = some ((3, 2, 0, []), 41) := rfl
theorem T_268_41 : hTab 268 41 = some ((19, 1, Int.ofNat 60, []), 44) := rfl
theorem T_268_44 : hTab 268 44 = some ((3, 0, 2, []), 45) := rfl
theorem T_268_45 : hTab 268 45 = some ((3, 1, 0, []), 46) := rfl
theorem T_268_46 : hTab 268 46 = some ((3, 5, 0, []), 48) := rfl
theorem T_268_48 : hTab 268 48 = some ((3, 3, 0, []), 49) := rfl
theorem T_268_49 : hTab 268 49 = some ((3, 4, 0, []), 51) := rfl
theorem T_268_51 : hTab 268 51 = some ((31, 269, 0, []), 54) := rfl
theorem T_268_54 : hTab 268 54 = some ((18, 0, Int.ofNat 60, []), 57) := rfl
theorem T_268_57 : hTab 268 57 = some ((3, 5, 0, []), 59) := rfl
theorem T_268_59 : hTab 268 59 = some ((33, 1, 0, []), 60) := rfl
theorem T_268_60 : hTab 268 60 = some ((5, 5, 1, []), 63) := rfl
theorem T_268_63 : hTab 268 63 = some ((22, 0, Int.ofNat 3, []), 66) := rfl
theorem T_268_66 : hTab 268 66 = some ((0, 0, 0, []), 67) := rfl
theorem T_268_67 : hTab 268 67 = some ((4, 5, 0, []), 69) := rfl
theorem T_268_69 : hTab 268 69 = some ((3, 5, 0, []), 71) := rfl
theorem T_268_71 : hTab 268 71 = some ((0, 0, 9, []), 73) := rfl
theorem T_268_73 : hTab 268 73 = some ((19, 3, Int.ofNat 118, []), 76) := rfl
theorem T_268_76 : hTab 268 76 = some ((3, 1, 0, []), 77) := rfl
theorem T_268_77 : hTab 268 77 = some ((0, 0, 2, []), 78) := rfl
theorem T_268_78 : hTab 268 78 = some ((19, 1, Int.ofNat 118, []), 81) := rfl
theorem T_268_81 : hTab 268 81 = some ((3, 0, 2, []), 82) := rfl
theorem T_268_82 : hTab 268 82 = some ((3, 1, 0, []), 83) := rfl
theorem T_268_83 : hTab 268 83 = some ((3, 2, 0, []), 84) := rfl
theorem T_268_84 : hTab 268 84 = some ((3, 5, 0, []), 86) := rfl
theorem T_268_86 : hTab 268 86 = some ((31, 253, 0, []), 89) := rfl
theorem T_268_89 : hTab 268 89 = some ((4, 6, 0, []), 91) := rfl
theorem T_268_91 : hTab 268 91 = some ((3, 6, 0, []), 93) := rfl
theorem T_268_93 : hTab 268 93 = some ((18, 2, Int.ofNat 112, []), 96) := rfl
theorem T_268_96 : hTab 268 96 = some ((3, 0, 2, []), 97) := rfl
theorem T_268_97 : hTab 268 97 = some ((3, 1, 0, []), 98) := rfl
theorem T_268_98 : hTab 268 98 = some ((3, 6, 0, []), 100) := rfl
theorem T_268_100 : hTab 268 100 = some ((3, 3, 0, []), 101) := rfl
theorem T_268_101 : hTab 268 101 = some ((3, 4, 0, []), 103) := rfl
theorem T_268_103 : hTab 268 103 = some ((31, 269, 0, []), 106) := rfl
theorem T_268_106 : hTab 268 106 = some ((18, 0, Int.ofNat 112, []), 109) := rfl
theorem T_268_109 : hTab 268 109 = some ((3, 6, 0, []), 111) := rfl
theorem T_268_111 : hTab 268 111 = some ((33, 1, 0, []), 112) := rfl
theorem T_268_112 : hTab 268 112 = some ((5, 5, 1, []), 115) := rfl
theorem T_268_115 : hTab 268 115 = some ((22, 0, Int.ofNat 69, []), 118) := rfl
theorem T_268_118 : hTab 268 118 = some ((0, 0, (-1), []), 119) := rfl
theorem T_268_119 : hTab 268 119 = some ((33, 1, 0, []), 120) := rfl
theorem T_269_0 : hTab 269 0 = some ((3, 0, 2, []), 1) := rfl
theorem T_269_1 : hTab 269 1 = some ((3, 1, 0, []), 2) := rfl
theorem T_269_2 : hTab 269 2 = some ((3, 2, 0, []), 3) := rfl
theorem T_269_3 : hTab 269 3 = some ((31, 270, 0, []), 6) := rfl
theorem T_269_6 : hTab 269 6 = some ((3, 4, 0, []), 8) := rfl
theorem T_269_8 : hTab 269 8 = some ((19, 1, Int.ofNat 15, []), 11) := rfl
theorem T_269_11 : hTab 269 11 = some ((0, 0, 1, []), 12) := rfl
theorem T_269_12 : hTab 269 12 = some ((22, 0, Int.ofNat 16, []), 15) := rfl
theorem T_269_15 : hTab 269 15 = some ((0, 0, 0, []), 16) := rfl
theorem T_269_16 : hTab 269 16 = some ((4, 5, 0, []), 18) := rfl
theorem T_269_18 : hTab 269 18 = some ((0, 0, 0, []), 19) := rfl
theorem T_269_19 : hTab 269 19 = some ((4, 6, 0, []), 21) := rfl
theorem T_269_21 : hTab 269 21 = some ((3, 6, 0, []), 23) := rfl
theorem T_269_23 : hTab 269 23 = some ((3, 4, 0, []), 25) := rfl
theorem T_269_25 : hTab 269 25 = some ((19, 3, Int.ofNat 66, []), 28) := rfl
theorem T_269_28 : hTab 269 28 = some ((3, 5, 0, []), 30) := rfl
theorem T_269_30 : hTab 269 30 = some ((18, 0, Int.ofNat 66, []), 33) := rfl
theorem T_269_33 : hTab 269 33 = some ((3, 0, 2, []), 34) := rfl
theorem T_269_34 : hTab 269 34 = some ((3, 1, 0, []), 35) := rfl
theorem T_269_35 : hTab 269 35 = some ((3, 2, 0, []), 36) := rfl
theorem T_269_36 : hTab 269 36 = some ((3, 6, 0, []), 38) := rfl
theorem T_269_38 : hTab 269 38 = some ((31, 273, 0, []), 41) := rfl
theorem T_269_41 : hTab 269 41 = some ((3, 0, 2, []), 42) := rfl
theorem T_269_42 : hTab 269 42 = some ((24, 17, Int.ofNat 3, []), 45) := rfl
theorem T_269_45 : hTab 269 45 = some ((3, 3, 0, []), 46) := rfl
theorem T_269_46 : hTab 269 46 = some ((3, 6, 0, []), 48) := rfl
theorem T_269_48 : hTab 269 48 = some ((10, 0, 0, []), 49) := rfl
theorem T_269_49 : hTab 269 49 = some ((26, 0, 0, []), 50) := rfl
theorem T_269_50 : hTab 269 50 = some ((19, 1, Int.ofNat 57, []), 53) := rfl
theorem T_269_53 : hTab 269 53 = some ((0, 0, 1, []), 54) := rfl
theorem T_269_54 : hTab 269 54 = some ((22, 0, Int.ofNat 58, []), 57) := rfl
theorem T_269_57 : hTab 269 57 = some ((0, 0, 0, []), 58) := rfl
theorem T_269_58 : hTab 269 58 = some ((4, 5, 0, []), 60) := rfl
theorem T_269_60 : hTab 269 60 = some ((5, 6, 1, []), 63) := rfl
theorem T_269_63 : hTab 269 63 = some ((22, 0, Int.ofNat 21, []), 66) := rfl
theorem T_269_66 : hTab 269 66 = some ((3, 5, 0, []), 68) := rfl
theorem T_269_68 : hTab 269 68 = some ((33, 2, 0, []), 69) := rfl
theorem F_17_13 : (hFd 17 13).2.2.1 = 4 := rfl
theorem mN_253 : hmN 253 = 4 := by decide +kernel
theorem mL_253 : hmL 253 = 10 := by decide +kernel
theorem mK_253 : hmK 253 = 1 := by decide +kernel
theorem mO_253 : hmO 253 = 17 := by decide +kernel
theorem mN_268 : hmN 268 = 5 := by decide +kernel
theorem mL_268 : hmL 268 = 7 := by decide +kernel
theorem mK_268 : hmK 268 = 1 := by decide +kernel
theorem mO_268 : hmO 268 = 17 := by decide +kernel
theorem mN_269 : hmN 269 = 5 := by decide +kernel
theorem mL_269 : hmL 269 = 7 := by decide +kernel
theorem mK_269 : hmK 269 = 1 := by decide +kernel
theorem mO_269 : hmO 269 = 17 := by decide +kernel
def seg (f : Int → Int) (o : Int) : Nat → List Int
  | 0 => []
  | n + 1 => f o :: seg f (o + 1) n
theorem seg_len (f : Int → Int) : ∀ (n : Nat) (o : Int), (seg f o n).length = n
  | 0, _ => rfl
  | n + 1, o => by show (seg f (o + 1) n).length + 1 = n + 1; rw [seg_len f n]
theorem lg_cons {x : Int} {l : List Int} {i : Int} (h : 0 ≤ i) : lg (x :: l) i = if i = 0 then x else lg l (i - 1) := by
  unfold lg
  split
  · rename_i e; rw [e]; rfl
  · rw [show i.toNat = (i - 1).toNat + 1 by omega]; rfl
theorem lg_seg (f : Int → Int) : ∀ (n : Nat) (o i : Int), 0 ≤ i → i < n → lg (seg f o n) i = f (o + i)
  | 0, o, i, h0, h1 => by omega
  | n + 1, o, i, h0, h1 => by
    show lg (f o :: seg f (o + 1) n) i = f (o + i)
    rw [lg_cons h0]
    split
    · rename_i e; rw [e, Int.add_zero]
    · rw [lg_seg f n (o + 1) (i - 1) (by omega) (by omega)]
      congr 1
      omega
theorem seg_eq {f : Int → Int} : ∀ {n : Nat} {o : Int} {l : List Int}, seg f o n = l ↔ l.length = n ∧ ∀ i : Int, 0 ≤ i → i < n → f (o + i) = lg l i := by
  intro n
  induction n with
  | zero =>
    intro o l
    constructor
    · rintro rfl; exact ⟨rfl, fun i h0 h1 => by omega⟩
    · rintro ⟨h, -⟩; exact (List.length_eq_zero_iff.mp h).symm
  | succ n ih =>
    intro o l
    cases l with
    | nil => exact ⟨fun h => (by cases h), fun h => absurd h.1 (by simp)⟩
    | cons x l =>
      show f o :: seg f (o + 1) n = x :: l ↔ _
      rw [List.cons.injEq, ih]
      constructor
      · rintro ⟨h1, h2, h3⟩
        refine ⟨by rw [List.length_cons, h2], fun i h4 h5 => ?_⟩
        rw [lg_cons h4]
        split
        · rename_i e; rw [e, Int.add_zero]; exact h1
        · rw [← h3 (i - 1) (by omega) (by omega)]
          congr 1
          omega
      · rintro ⟨h2, h3⟩
        refine ⟨?_, by simpa using h2, fun i h4 h5 => ?_⟩
        · have := h3 0 (by omega) (by omega)
          rw [Int.add_zero] at this
          exact this
        · have := h3 (i + 1) (by omega) (by omega)
          rw [lg_cons (by omega), if_neg (by omega), show i + 1 - 1 = i by omega] at this
          rw [← this]
          congr 1
          omega
theorem seg_seg {f g : Int → Int} {n : Nat} {o p : Int} : seg f o n = seg g p n ↔ ∀ i : Int, 0 ≤ i → i < n → f (o + i) = g (p + i) := by
  rw [seg_eq, seg_len]
  exact ⟨fun h i h0 h1 => (h.2 i h0 h1).trans (lg_seg g n p i h0 h1), fun h => ⟨rfl, fun i h0 h1 => (h i h0 h1).trans (lg_seg g n p i h0 h1).symm⟩⟩
def qNm (P : qR) (s n : Int) : List Int := seg (fun k => qNb P s n k) 0 (qNs P s n).toNat
section ENT
variable (P : qR) (s n : Int)
def enI (l : Int) : Nat → Int → Int → Int
  | 0, _, g => g
  | m + 1, f, g => enI l m (f + 1) (if (¬ P 2289 (64 * s + f) = 0 ∧ P 2290 (64 * s + f) = n ∧ l < P 2291 (64 * s + f)) ∧ (g < 0 ∨ P 2291 (64 * s + f) < P 2291 (64 * s + g)) then f else g)
def enO : Nat → Int → Int
  | 0, l => enI P s n l 63 1 (-1)
  | m + 1, l => if enI P s n l 63 1 (-1) < 0 then -1 else enO m (P 2291 (64 * s + enI P s n l 63 1 (-1)))
def enP : Nat → Int → Int → Int → Int
  | 0, _, _, g => g
  | m + 1, p, j, g => if P 2320 p = 0 then enP m (p + 1) j g else enP m (p + 1) (j + (-1)) (if j + (-1) = 0 then 16 * p + 16 else g)
/-- the k-th entry of a directory, or -1 -/
def qEnt (k : Int) : Int := if s = 2 then (if 0 < n then (if k < 2 then n + 1 + k else -1) else enP P 8 0 k (if k = 0 then 1 else -1)) else enO P s n k.toNat 0
def fiF (nm : List Int) : Nat → Int → Int
  | 0, _ => -1
  | m + 1, f => if ¬ P 2289 (64 * s + f) = 0 ∧ P 2290 (64 * s + f) = n ∧ qNm P s f = nm then f else fiF nm m (f + 1)
def fiE (nm : List Int) : Nat → Int → Int
  | 0, _ => -1
  | m + 1, k => if 0 ≤ qEnt P 2 n k ∧ qNm P 2 (qEnt P 2 n k) = nm then qEnt P 2 n k else fiE nm m (k + 1)
/-- the file of a name in a directory, or -1 -/
def qFind (nm : List Int) : Int := if s < 2 then fiF P s n nm 63 1 else fiE P n nm 9 0
theorem enI_rng (l : Int) : ∀ (m : Nat) (f g : Int), f + m = 64 → 1 ≤ f → (-1 ≤ g ∧ g < 64) → -1 ≤ enI P s n l m f g ∧ enI P s n l m f g < 64
  | 0, f, g, _, _, h => h
  | m + 1, f, g, h1, h2, h => by
    refine enI_rng l m (f + 1) _ (by omega) (by omega) ?_
    split <;> omega
theorem enO_rng : ∀ (m : Nat) (l : Int), -1 ≤ enO P s n m l ∧ enO P s n m l < 64
  | 0, l => enI_rng P s n l 63 1 (-1) (by omega) (by omega) (by omega)
  | m + 1, l => by
    unfold enO
    split
    · omega
    · exact enO_rng m _
theorem enP_rng : ∀ (m : Nat) (p j g : Int), p + m = 8 → 0 ≤ p → (-1 ≤ g ∧ g ≤ 128 ∧ (1 < g → g % 16 = 0)) → -1 ≤ enP P m p j g ∧ enP P m p j g ≤ 128 ∧ (1 < enP P m p j g → enP P m p j g % 16 = 0)
  | 0, p, j, g, _, _, h => h
  | m + 1, p, j, g, h1, h2, h => by
    unfold enP
    split
    · exact enP_rng m _ _ _ (by omega) (by omega) h
    · refine enP_rng m _ _ _ (by omega) (by omega) ?_
      split <;> omega
end ENT
theorem qEnt_ok {P : qR} {s n k : Int} (h : okN s n) (hd : s = 2 → 0 < n → n % 16 = 0) (hk : 0 ≤ k) : -1 ≤ qEnt P s n k ∧ (0 ≤ qEnt P s n k → okN s (qEnt P s n k)) := by
  unfold qEnt
  by_cases h2 : s = 2
  · rw [if_pos h2]
    by_cases h3 : 0 < n
    · rw [if_pos h3]
      have := hd h2 h3
      split <;> omega
    · rw [if_neg h3]
      have := enP_rng P 8 0 k (if k = 0 then 1 else -1) (by omega) (by omega) (by split <;> omega)
      omega
  · rw [if_neg h2]
    have := enO_rng P s n k.toNat 0
    omega
section MFIND
variable {fb : Bool} {d : Nat} {σ0 σ : hM} {P S : qR} {T U s n : Int}
theorem m_isNamed_loop {o z : Int} (hP : PM σ0 P S σ) (hI : IV false T U P) (hJ : IV true T U S) (h : okN s n) (ho : 0 ≤ o) (hz : 0 ≤ z) (h1 : o + z ≤ 512) (hs : qNs P s n = z) : ∀ (m : Nat) (k : Int), k + m = z → 0 ≤ k → (∀ i : Int, 0 ≤ i → i < k → qNb P s n i = S 2285 (o + i)) → WP fb (d + 3) 269 21 [some (vR (some 2281)), some (vI s), some (vI n), some (vI o), some (vI z), some (vI 1), some (vI k)] [] σ (rP (if qNm P s n = seg (S 2285) o z.toNat then 1 else 0) σ) := by
  have hc : qNm P s n = seg (S 2285) o z.toNat ↔ ∀ i : Int, 0 ≤ i → i < z → qNb P s n i = S 2285 (o + i) := by
    unfold qNm
    rw [hs, seg_seg]
    constructor
    · intro q i h2 h3; have := q i h2 (by omega); rw [Int.zero_add] at this; exact this
    · intro q i h2 h3; rw [Int.zero_add]; exact q i h2 (by omega)
  intro m
  induction m with
  | zero =>
    intro k hk hk0 he
    rw [if_pos (hc.mpr (fun i h2 h3 => he i h2 (by omega)))]
    refine x_li (z := k) T_269_21 rfl ?_
    refine x_li (z := z) T_269_23 rfl ?_
    refine x_ic2 T_269_25 (fun _ => ?_) (fun h => absurd (show z ≤ k by omega) h)
    refine x_li (z := 1) T_269_66 rfl ?_
    refine x_rz T_269_68 rfl ?_
    exact ⟨rfl, rfl⟩
  | succ m ih =>
    intro k hk hk0 he
    refine x_li (z := k) T_269_21 rfl ?_
    refine x_li (z := z) T_269_23 rfl ?_
    refine x_ic2 T_269_25 (fun h => absurd (show z ≤ k from h) (by omega)) (fun _ => ?_)
    refine x_li (z := 1) T_269_28 rfl ?_
    refine x_if T_269_30 (fun h => absurd (show (1 : Int) = 0 from h) (by decide)) (fun _ => ?_)
    refine x_lr (z := some 2281) T_269_33 rfl ?_
    refine x_li (z := s) T_269_34 rfl ?_
    refine x_li (z := n) T_269_35 rfl ?_
    refine x_li (z := k) T_269_36 rfl ?_
    refine x_cv4 T_269_38 mN_273 mL_273 (Nat.le_of_ble_eq_true rfl) mO_273 (PM.t hP) (Nat.le_of_ble_eq_true rfl) (m_nameByte hP hI (by omega) (by omega)) ?_
    rintro _ _ ⟨rfl, rfl⟩
    refine cI ?_
    refine x_lr (z := some 2281) T_269_41 rfl ?_
    refine x_gR (z := some 2285) T_269_42 F_17_3 (PM.t hP) (PM.r hP 3 2285 rfl) ?_
    refine x_li (z := o) T_269_45 rfl ?_
    refine x_li (z := k) T_269_46 rfl ?_
    refine x_ib (w := (o + k)) T_269_48 (fun h => absurd h.1 (by decide)) (w32_id (by omega) (by omega)) ?_
    have b1 : 0 ≤ S 2285 (o + k) ∧ S 2285 (o + k) ≤ 255 := IV.a hJ 2285 0 512 rfl rfl rfl (by omega) (by omega)
    refine x_alI (z := S 2285 (o + k)) T_269_49 (by decide) (PM.ta hP 2285 0 512 rfl rfl) (by omega) (by omega) (PM.aS hP 2285 rfl rfl (by omega)) ?_
    refine x_ic2 T_269_50 (fun h50 => ?_) (fun h50 => ?_)
    · replace h50 : ¬ qNb P s n k = S 2285 (o + k) := h50
      refine x_ic T_269_57 ?_
      refine x_si (ls1 := [some (vR (some 2281)), some (vI s), some (vI n), some (vI o), some (vI z), some (vI 0), some (vI k)]) T_269_58 rfl ?_
      refine x_inc (w := (k + 1)) (ls1 := [some (vR (some 2281)), some (vI s), some (vI n), some (vI o), some (vI z), some (vI 0), some (vI (k + 1))]) T_269_60 rfl (w32_id (by omega) (by omega)) rfl ?_
      refine x_goto T_269_63 ?_
      refine x_li (z := (k + 1)) T_269_21 rfl ?_
      refine x_li (z := z) T_269_23 rfl ?_
      refine x_ic2 T_269_25 (fun h25 => ?_) (fun h25 => ?_)
      · replace h25 : z ≤ (k + 1) := h25
        refine x_li (z := 0) T_269_66 rfl ?_
        refine x_rz T_269_68 rfl ?_
        exact ⟨by rw [if_neg (fun q => h50 (hc.mp q k hk0 (by omega)))], rfl⟩
      · replace h25 : ¬ (z ≤ (k + 1)) := h25
        refine x_li (z := 0) T_269_28 rfl ?_
        refine x_if T_269_30 (fun _ => ?_) (fun h => absurd (show (0 : Int) = 0 by decide) h)
        refine x_li (z := 0) T_269_66 rfl ?_
        refine x_rz T_269_68 rfl ?_
        exact ⟨by rw [if_neg (fun q => h50 (hc.mp q k hk0 (by omega)))], rfl⟩
    · replace h50 : ¬ (¬ qNb P s n k = S 2285 (o + k)) := h50
      refine x_ic T_269_53 ?_
      refine x_goto T_269_54 ?_
      refine x_si (ls1 := [some (vR (some 2281)), some (vI s), some (vI n), some (vI o), some (vI z), some (vI 1), some (vI k)]) T_269_58 rfl ?_
      refine x_inc (w := (k + 1)) (ls1 := [some (vR (some 2281)), some (vI s), some (vI n), some (vI o), some (vI z), some (vI 1), some (vI (k + 1))]) T_269_60 rfl (w32_id (by omega) (by omega)) rfl ?_
      refine x_goto T_269_63 ?_
      refine ih (k + 1) (by omega) (by omega) (fun i h2 h3 => ?_)
      by_cases e : i = k
      · rw [e]; exact Classical.not_not.mp h50
      · exact he i h2 (by omega)
theorem m_isNamed {o z : Int} (hP : PM σ0 P S σ) (hI : IV false T U P) (hJ : IV true T U S) (h : okN s n) (ho : 0 ≤ o) (hz : 0 ≤ z) (h1 : o + z ≤ 512) : CL fb (d + 3) 269 [vR (some 2281), vI s, vI n, vI o, vI z] σ (rP (if qNm P s n = seg (S 2285) o z.toNat then 1 else 0) σ) := by
  have hn := qNs_i hI h
  by_cases hs : qNs P s n = z
  · skip
    refine CL_in mL_269 rfl ?_
    show WP fb _ 269 0 [some (vR (some 2281)), some (vI s), some (vI n), some (vI o), some (vI z), none, none] [] σ _
    refine x_lr (z := some 2281) T_269_0 rfl ?_
    refine x_li (z := s) T_269_1 rfl ?_
    refine x_li (z := n) T_269_2 rfl ?_
    refine x_cv3 T_269_3 mN_270 mL_270 (Nat.le_of_ble_eq_true rfl) mO_270 (PM.t hP) (Nat.le_of_ble_eq_true rfl) (m_nameSize hP (by omega)) ?_
    rintro _ _ ⟨rfl, rfl⟩
    refine cI ?_
    refine x_li (z := z) T_269_6 rfl ?_
    refine x_ic2 T_269_8 (fun h => absurd (show ¬ qNs P s n = z from h) (by exact fun q => q hs)) (fun _ => ?_)
    refine x_ic T_269_11 ?_
    refine x_goto T_269_12 ?_
    refine x_si (ls1 := [some (vR (some 2281)), some (vI s), some (vI n), some (vI o), some (vI z), some (vI 1), none]) T_269_16 rfl ?_
    refine x_ic T_269_18 ?_
    refine x_si (ls1 := [some (vR (some 2281)), some (vI s), some (vI n), some (vI o), some (vI z), some (vI 1), some (vI 0)]) T_269_19 rfl ?_
    exact m_isNamed_loop hP hI hJ h ho hz h1 hs z.toNat 0 (by omega) (by omega) (fun i h2 h3 => by omega)
  · rw [if_neg (fun q => hs (by have := congrArg List.length q; unfold qNm at this; rw [seg_len, seg_len] at this; omega))]
    refine CL_in mL_269 rfl ?_
    show WP fb _ 269 0 [some (vR (some 2281)), some (vI s), some (vI n), some (vI o), some (vI z), none, none] [] σ _
    refine x_lr (z := some 2281) T_269_0 rfl ?_
    refine x_li (z := s) T_269_1 rfl ?_
    refine x_li (z := n) T_269_2 rfl ?_
    refine x_cv3 T_269_3 mN_270 mL_270 (Nat.le_of_ble_eq_true rfl) mO_270 (PM.t hP) (Nat.le_of_ble_eq_true rfl) (m_nameSize hP (by omega)) ?_
    rintro _ _ ⟨rfl, rfl⟩
    refine cI ?_
    refine x_li (z := z) T_269_6 rfl ?_
    refine x_ic2 T_269_8 (fun _ => ?_) (fun h => absurd (show ¬ qNs P s n = z by exact hs) h)
    refine x_ic T_269_15 ?_
    refine x_si (ls1 := [some (vR (some 2281)), some (vI s), some (vI n), some (vI o), some (vI z), some (vI 0), none]) T_269_16 rfl ?_
    refine x_ic T_269_18 ?_
    refine x_si (ls1 := [some (vR (some 2281)), some (vI s), some (vI n), some (vI o), some (vI z), some (vI 0), some (vI 0)]) T_269_19 rfl ?_
    refine x_li (z := 0) T_269_21 rfl ?_
    refine x_li (z := z) T_269_23 rfl ?_
    refine x_ic2 T_269_25 (fun h25 => ?_) (fun h25 => ?_)
    · replace h25 : z ≤ 0 := h25
      refine x_li (z := 0) T_269_66 rfl ?_
      refine x_rz T_269_68 rfl ?_
      exact ⟨rfl, rfl⟩
    · replace h25 : ¬ (z ≤ 0) := h25
      refine x_li (z := 0) T_269_28 rfl ?_
      refine x_if T_269_30 (fun _ => ?_) (fun h => absurd (show (0 : Int) = 0 by decide) h)
      refine x_li (z := 0) T_269_66 rfl ?_
      refine x_rz T_269_68 rfl ?_
      exact ⟨rfl, rfl⟩
theorem m_entry_in {k l nn : Int} (hP : PM σ0 P S σ) (hI : IV false T U P) (hs : 0 ≤ s ∧ s < 2) {Q : Option AV → hM → Prop} : ∀ (m : Nat) (f g : Int) (o8 o9 : Option AV), f + m = 64 → 1 ≤ f → (-1 ≤ g ∧ g < 64) → (∀ o8 o9, WP fb (d + 1) 253 212 [some (vR (some 2281)), some (vI s), some (vI n), some (vI k), some (vI l), some (vI (enI P s n l m f g)), some (vI nn), some (vI 64), o8, o9] [] σ Q) → WP fb (d + 1) 253 111 [some (vR (some 2281)), some (vI s), some (vI n), some (vI k), some (vI l), some (vI g), some (vI nn), some (vI f), o8, o9] [] σ Q := by
  intro m
  induction m with
  | zero =>
    intro f g o8 o9 h1 h2 h3 hQ
    obtain rfl : f = 64 := by omega
    refine x_li (z := 64) T_253_111 rfl ?_
    refine x_ic T_253_113 ?_
    refine x_ic2 T_253_115 (fun _ => ?_) (fun h => absurd (show 64 ≤ (64 : Int) by decide) h)
    exact hQ o8 o9
  | succ m ih =>
    intro f g o8 o9 h1 h2 h3 hQ
    have key : ∀ x o8 o9, (x = if (¬ P 2289 (64 * s + f) = 0 ∧ P 2290 (64 * s + f) = n ∧ l < P 2291 (64 * s + f)) ∧ (g < 0 ∨ P 2291 (64 * s + f) < P 2291 (64 * s + g)) then f else g) → WP fb (d + 1) 253 111 [some (vR (some 2281)), some (vI s), some (vI n), some (vI k), some (vI l), some (vI x), some (vI nn), some (vI (f + 1)), o8, o9] [] σ Q := by
      intro x o8 o9 hx
      refine ih (f + 1) x o8 o9 (by omega) (by omega) (by rw [hx]; split <;> omega) ?_
      rw [hx]
      exact hQ
    refine x_li (z := f) T_253_111 rfl ?_
    refine x_ic T_253_113 ?_
    refine x_ic2 T_253_115 (fun h => absurd (show 64 ≤ f from h) (by omega)) (fun _ => ?_)
    refine x_li (z := s) T_253_118 rfl ?_
    refine x_li (z := f) T_253_119 rfl ?_
    refine x_cs2 T_253_121 mN_247 mL_247 (Nat.le_of_ble_eq_true rfl) mK_247 (Nat.le_of_ble_eq_true rfl) (m_place (by omega)) ?_
    rintro _ _ ⟨rfl, rfl⟩
    refine cI ?_
    refine x_si (ls1 := [some (vR (some 2281)), some (vI s), some (vI n), some (vI k), some (vI l), some (vI g), some (vI nn), some (vI f), some (vI (64 * s + f)), o9]) T_253_124 rfl ?_
    refine x_cut (C := ¬ P 2289 (64 * s + f) = 0 ∧ P 2290 (64 * s + f) = n ∧ l < P 2291 (64 * s + f)) (J := 164) (ls1 := [some (vR (some 2281)), some (vI s), some (vI n), some (vI k), some (vI l), some (vI g), some (vI nn), some (vI f), some (vI (64 * s + f)), o9]) (sk := fun z => vI z :: []) (fun z hz164 => ?_) (fun kJ164 => ?_)
    · refine x_si (ls1 := [some (vR (some 2281)), some (vI s), some (vI n), some (vI k), some (vI l), some (vI g), some (vI nn), some (vI f), some (vI (64 * s + f)), some (vI z)]) T_253_164 rfl ?_
      refine x_li (z := z) T_253_166 rfl ?_
      refine x_if T_253_168 (fun h168 => ?_) (fun h168 => ?_)
      · replace h168 : z = 0 := h168
        refine x_li (z := g) T_253_202 rfl ?_
        refine x_si (ls1 := [some (vR (some 2281)), some (vI s), some (vI n), some (vI k), some (vI l), some (vI g), some (vI nn), some (vI f), some (vI (64 * s + f)), some (vI z)]) T_253_204 rfl ?_
        refine x_inc (w := (f + 1)) (ls1 := [some (vR (some 2281)), some (vI s), some (vI n), some (vI k), some (vI l), some (vI g), some (vI nn), some (vI (f + 1)), some (vI (64 * s + f)), some (vI z)]) T_253_206 rfl (w32_id (by omega) (by omega)) rfl ?_
        refine x_goto T_253_209 ?_
        exact key _ _ _ (by split <;> first | rfl | omega)
      · replace h168 : ¬ (z = 0) := h168
        refine x_li (z := g) T_253_171 rfl ?_
        refine x_if T_253_173 (fun h173 => ?_) (fun h173 => ?_)
        · replace h173 : g < 0 := h173
          refine x_li (z := f) T_253_197 rfl ?_
          refine x_goto T_253_199 ?_
          refine x_si (ls1 := [some (vR (some 2281)), some (vI s), some (vI n), some (vI k), some (vI l), some (vI f), some (vI nn), some (vI f), some (vI (64 * s + f)), some (vI z)]) T_253_204 rfl ?_
          refine x_inc (w := (f + 1)) (ls1 := [some (vR (some 2281)), some (vI s), some (vI n), some (vI k), some (vI l), some (vI f), some (vI nn), some (vI (f + 1)), some (vI (64 * s + f)), some (vI z)]) T_253_206 rfl (w32_id (by omega) (by omega)) rfl ?_
          refine x_goto T_253_209 ?_
          exact key _ _ _ (by split <;> first | rfl | omega)
        · replace h173 : ¬ (g < 0) := h173
          refine x_lr (z := some 2281) T_253_176 rfl ?_
          refine x_gR (z := some 2291) T_253_177 F_17_15 (PM.t hP) (PM.r hP 15 2291 rfl) ?_
          refine x_li (z := (64 * s + f)) T_253_180 rfl ?_
          have b1 : 0 ≤ P 2291 (64 * s + f) ∧ P 2291 (64 * s + f) ≤ T := IV.a hI 2291 0 128 rfl rfl rfl (by omega) (by omega)
          refine x_alI (z := P 2291 (64 * s + f)) T_253_182 (by decide) (PM.ta hP 2291 0 128 rfl rfl) (by omega) (by omega) (PM.aP hP 2291 rfl rfl (by omega)) ?_
          refine x_lr (z := some 2281) T_253_183 rfl ?_
          refine x_gR (z := some 2291) T_253_184 F_17_15 (PM.t hP) (PM.r hP 15 2291 rfl) ?_
          refine x_li (z := s) T_253_187 rfl ?_
          refine x_li (z := g) T_253_188 rfl ?_
          refine x_cs2 T_253_190 mN_247 mL_247 (Nat.le_of_ble_eq_true rfl) mK_247 (Nat.le_of_ble_eq_true rfl) (m_place (by omega)) ?_
          rintro _ _ ⟨rfl, rfl⟩
          refine cI ?_
          have b2 : 0 ≤ P 2291 (64 * s + g) ∧ P 2291 (64 * s + g) ≤ T := IV.a hI 2291 0 128 rfl rfl rfl (by omega) (by omega)
          refine x_alI (z := P 2291 (64 * s + g)) T_253_193 (by decide) (PM.ta hP 2291 0 128 rfl rfl) (by omega) (by omega) (PM.aP hP 2291 rfl rfl (by omega)) ?_
          refine x_ic2 T_253_194 (fun h194 => ?_) (fun h194 => ?_)
          · replace h194 : P 2291 (64 * s + g) ≤ P 2291 (64 * s + f) := h194
            refine x_li (z := g) T_253_202 rfl ?_
            refine x_si (ls1 := [some (vR (some 2281)), some (vI s), some (vI n), some (vI k), some (vI l), some (vI g), some (vI nn), some (vI f), some (vI (64 * s + f)), some (vI z)]) T_253_204 rfl ?_
            refine x_inc (w := (f + 1)) (ls1 := [some (vR (some 2281)), some (vI s), some (vI n), some (vI k), some (vI l), some (vI g), some (vI nn), some (vI (f + 1)), some (vI (64 * s + f)), some (vI z)]) T_253_206 rfl (w32_id (by omega) (by omega)) rfl ?_
            refine x_goto T_253_209 ?_
            exact key _ _ _ (by split <;> first | rfl | omega)
          · replace h194 : ¬ (P 2291 (64 * s + g) ≤ P 2291 (64 * s + f)) := h194
            refine x_li (z := f) T_253_197 rfl ?_
            refine x_goto T_253_199 ?_
            refine x_si (ls1 := [some (vR (some 2281)), some (vI s), some (vI n), some (vI k), some (vI l), some (vI f), some (vI nn), some (vI f), some (vI (64 * s + f)), some (vI z)]) T_253_204 rfl ?_
            refine x_inc (w := (f + 1)) (ls1 := [some (vR (some 2281)), some (vI s), some (vI n), some (vI k), some (vI l), some (vI f), some (vI nn), some (vI (f + 1)), some (vI (64 * s + f)), some (vI z)]) T_253_206 rfl (w32_id (by omega) (by omega)) rfl ?_
            refine x_goto T_253_209 ?_
            exact key _ _ _ (by split <;> first | rfl | omega)
    · refine x_lr (z := some 2281) T_253_126 rfl ?_
      refine x_gR (z := some 2289) T_253_127 F_17_13 (PM.t hP) (PM.r hP 13 2289 rfl) ?_
      refine x_li (z := (64 * s + f)) T_253_130 rfl ?_
      have b3 : 0 ≤ P 2289 (64 * s + f) ∧ P 2289 (64 * s + f) ≤ 1 := IV.a hI 2289 2 128 rfl rfl rfl (by omega) (by omega)
      refine x_alI (z := P 2289 (64 * s + f)) T_253_132 (by decide) (PM.ta hP 2289 2 128 rfl rfl) (by omega) (by omega) (PM.aP hP 2289 rfl rfl (by omega)) ?_
      refine x_if T_253_133 (fun h133 => ?_) (fun h133 => ?_)
      · replace h133 : P 2289 (64 * s + f) = 0 := h133
        refine x_ic T_253_163 ?_
        exact kJ164 0 (if_neg (by omega)).symm
      · replace h133 : ¬ (P 2289 (64 * s + f) = 0) := h133
        refine x_lr (z := some 2281) T_253_136 rfl ?_
        refine x_gR (z := some 2290) T_253_137 F_17_14 (PM.t hP) (PM.r hP 14 2290 rfl) ?_
        refine x_li (z := (64 * s + f)) T_253_140 rfl ?_
        have b4 : 0 ≤ P 2290 (64 * s + f) ∧ P 2290 (64 * s + f) ≤ 63 := IV.a hI 2290 0 128 rfl rfl rfl (by omega) (by omega)
        refine x_alI (z := P 2290 (64 * s + f)) T_253_142 (by decide) (PM.ta hP 2290 0 128 rfl rfl) (by omega) (by omega) (PM.aP hP 2290 rfl rfl (by omega)) ?_
        refine x_li (z := n) T_253_143 rfl ?_
        refine x_ic2 T_253_144 (fun h144 => ?_) (fun h144 => ?_)
        · replace h144 : ¬ P 2290 (64 * s + f) = n := h144
          refine x_ic T_253_163 ?_
          exact kJ164 0 (if_neg (by omega)).symm
        · replace h144 : ¬ (¬ P 2290 (64 * s + f) = n) := h144
          refine x_lr (z := some 2281) T_253_147 rfl ?_
          refine x_gR (z := some 2291) T_253_148 F_17_15 (PM.t hP) (PM.r hP 15 2291 rfl) ?_
          refine x_li (z := (64 * s + f)) T_253_151 rfl ?_
          have b5 : 0 ≤ P 2291 (64 * s + f) ∧ P 2291 (64 * s + f) ≤ T := IV.a hI 2291 0 128 rfl rfl rfl (by omega) (by omega)
          refine x_alI (z := P 2291 (64 * s + f)) T_253_153 (by decide) (PM.ta hP 2291 0 128 rfl rfl) (by omega) (by omega) (PM.aP hP 2291 rfl rfl (by omega)) ?_
          refine x_li (z := l) T_253_154 rfl ?_
          refine x_ic2 T_253_156 (fun h156 => ?_) (fun h156 => ?_)
          · replace h156 : P 2291 (64 * s + f) ≤ l := h156
            refine x_ic T_253_163 ?_
            exact kJ164 0 (if_neg (by omega)).symm
          · replace h156 : ¬ (P 2291 (64 * s + f) ≤ l) := h156
            refine x_ic T_253_159 ?_
            refine x_goto T_253_160 ?_
            exact kJ164 1 (if_pos (by omega)).symm
theorem m_entry_out {k : Int} (hP : PM σ0 P S σ) (hI : IV false T U P) (hs : 0 ≤ s ∧ s < 2) (hk : k ≤ 1000000) : ∀ (m : Nat) (l g nn : Int) (o7 o8 o9 : Option AV), nn + m = k → 0 ≤ nn → WP fb (d + 1) 253 99 [some (vR (some 2281)), some (vI s), some (vI n), some (vI k), some (vI l), some (vI g), some (vI nn), o7, o8, o9] [] σ (rP (enO P s n m l) σ) := by
  intro m
  induction m with
  | zero =>
    intro l g nn o7 o8 o9 h1 h2
    have hr := enI_rng P s n l 63 1 (-1) (by omega) (by omega) (by omega)
    have h3 := fun o8 o9 (w : WP fb (d + 1) 253 212 [some (vR (some 2281)), some (vI s), some (vI n), some (vI k), some (vI l), some (vI (enI P s n l 63 1 (-1))), some (vI nn), some (vI 64), o8, o9] [] σ (rP (enO P s n 0 l) σ)) => w
    refine x_li (z := nn) T_253_99 rfl ?_
    refine x_li (z := k) T_253_101 rfl ?_
    refine x_ic2 T_253_102 (fun h => absurd (show k < nn from h) (by omega)) (fun _ => ?_)
    refine x_ic T_253_105 ?_
    refine x_si (ls1 := [some (vR (some 2281)), some (vI s), some (vI n), some (vI k), some (vI l), some (vI (-1)), some (vI nn), o7, o8, o9]) T_253_106 rfl ?_
    refine x_ic T_253_108 ?_
    refine x_si (ls1 := [some (vR (some 2281)), some (vI s), some (vI n), some (vI k), some (vI l), some (vI (-1)), some (vI nn), some (vI 1), o8, o9]) T_253_109 rfl ?_
    refine m_entry_in hP hI hs 63 1 (-1) _ _ (by omega) (by omega) (by omega) (fun o8 o9 => ?_)
    by_cases hg : enI P s n l 63 1 (-1) < 0
    · skip
      refine x_li (z := (enI P s n l 63 1 (-1))) T_253_212 rfl ?_
      refine x_if T_253_214 (fun h => absurd (show 0 ≤ (enI P s n l 63 1 (-1)) from h) (by omega)) (fun _ => ?_)
      refine x_ic T_253_217 ?_
      refine x_ri T_253_218 ?_
      exact ⟨by rw [show enO P s n 0 l = -1 by show enI P s n l 63 1 (-1) = -1; omega], rfl⟩
    · skip
      refine x_li (z := (enI P s n l 63 1 (-1))) T_253_212 rfl ?_
      refine x_if T_253_214 (fun _ => ?_) (fun h => absurd (show 0 ≤ (enI P s n l 63 1 (-1)) by omega) h)
      refine x_lr (z := some 2281) T_253_219 rfl ?_
      refine x_gR (z := some 2291) T_253_220 F_17_15 (PM.t hP) (PM.r hP 15 2291 rfl) ?_
      refine x_li (z := s) T_253_223 rfl ?_
      refine x_li (z := (enI P s n l 63 1 (-1))) T_253_224 rfl ?_
      refine x_cs2 T_253_226 mN_247 mL_247 (Nat.le_of_ble_eq_true rfl) mK_247 (Nat.le_of_ble_eq_true rfl) (m_place (by omega)) ?_
      rintro _ _ ⟨rfl, rfl⟩
      refine cI ?_
      have b1 : 0 ≤ P 2291 (64 * s + (enI P s n l 63 1 (-1))) ∧ P 2291 (64 * s + (enI P s n l 63 1 (-1))) ≤ T := IV.a hI 2291 0 128 rfl rfl rfl (by omega) (by omega)
      refine x_alI (z := P 2291 (64 * s + (enI P s n l 63 1 (-1)))) T_253_229 (by decide) (PM.ta hP 2291 0 128 rfl rfl) (by omega) (by omega) (PM.aP hP 2291 rfl rfl (by omega)) ?_
      refine x_si (ls1 := [some (vR (some 2281)), some (vI s), some (vI n), some (vI k), some (vI (P 2291 (64 * s + (enI P s n l 63 1 (-1))))), some (vI (enI P s n l 63 1 (-1))), some (vI nn), some (vI 64), o8, o9]) T_253_230 rfl ?_
      refine x_inc (w := (nn + 1)) (ls1 := [some (vR (some 2281)), some (vI s), some (vI n), some (vI k), some (vI (P 2291 (64 * s + (enI P s n l 63 1 (-1))))), some (vI (enI P s n l 63 1 (-1))), some (vI (nn + 1)), some (vI 64), o8, o9]) T_253_232 rfl (w32_id (by omega) (by omega)) rfl ?_
      refine x_goto T_253_235 ?_
      refine x_li (z := (nn + 1)) T_253_99 rfl ?_
      refine x_li (z := k) T_253_101 rfl ?_
      refine x_ic2 T_253_102 (fun _ => ?_) (fun h => absurd (show k < (nn + 1) by omega) h)
      refine x_li (z := (enI P s n l 63 1 (-1))) T_253_238 rfl ?_
      refine x_ri T_253_240 ?_
      exact ⟨rfl, rfl⟩
  | succ m ih =>
    intro l g nn o7 o8 o9 h1 h2
    have hr := enI_rng P s n l 63 1 (-1) (by omega) (by omega) (by omega)
    refine x_li (z := nn) T_253_99 rfl ?_
    refine x_li (z := k) T_253_101 rfl ?_
    refine x_ic2 T_253_102 (fun h => absurd (show k < nn from h) (by omega)) (fun _ => ?_)
    refine x_ic T_253_105 ?_
    refine x_si (ls1 := [some (vR (some 2281)), some (vI s), some (vI n), some (vI k), some (vI l), some (vI (-1)), some (vI nn), o7, o8, o9]) T_253_106 rfl ?_
    refine x_ic T_253_108 ?_
    refine x_si (ls1 := [some (vR (some 2281)), some (vI s), some (vI n), some (vI k), some (vI l), some (vI (-1)), some (vI nn), some (vI 1), o8, o9]) T_253_109 rfl ?_
    refine m_entry_in hP hI hs 63 1 (-1) _ _ (by omega) (by omega) (by omega) (fun o8 o9 => ?_)
    by_cases hg : enI P s n l 63 1 (-1) < 0
    · skip
      refine x_li (z := (enI P s n l 63 1 (-1))) T_253_212 rfl ?_
      refine x_if T_253_214 (fun h => absurd (show 0 ≤ (enI P s n l 63 1 (-1)) from h) (by omega)) (fun _ => ?_)
      refine x_ic T_253_217 ?_
      refine x_ri T_253_218 ?_
      exact ⟨by rw [show enO P s n (m + 1) l = -1 from if_pos hg], rfl⟩
    · skip
      refine x_li (z := (enI P s n l 63 1 (-1))) T_253_212 rfl ?_
      refine x_if T_253_214 (fun _ => ?_) (fun h => absurd (show 0 ≤ (enI P s n l 63 1 (-1)) by omega) h)
      refine x_lr (z := some 2281) T_253_219 rfl ?_
      refine x_gR (z := some 2291) T_253_220 F_17_15 (PM.t hP) (PM.r hP 15 2291 rfl) ?_
      refine x_li (z := s) T_253_223 rfl ?_
      refine x_li (z := (enI P s n l 63 1 (-1))) T_253_224 rfl ?_
      refine x_cs2 T_253_226 mN_247 mL_247 (Nat.le_of_ble_eq_true rfl) mK_247 (Nat.le_of_ble_eq_true rfl) (m_place (by omega)) ?_
      rintro _ _ ⟨rfl, rfl⟩
      refine cI ?_
      have b1 : 0 ≤ P 2291 (64 * s + (enI P s n l 63 1 (-1))) ∧ P 2291 (64 * s + (enI P s n l 63 1 (-1))) ≤ T := IV.a hI 2291 0 128 rfl rfl rfl (by omega) (by omega)
      refine x_alI (z := P 2291 (64 * s + (enI P s n l 63 1 (-1)))) T_253_229 (by decide) (PM.ta hP 2291 0 128 rfl rfl) (by omega) (by omega) (PM.aP hP 2291 rfl rfl (by omega)) ?_
      refine x_si (ls1 := [some (vR (some 2281)), some (vI s), some (vI n), some (vI k), some (vI (P 2291 (64 * s + (enI P s n l 63 1 (-1))))), some (vI (enI P s n l 63 1 (-1))), some (vI nn), some (vI 64), o8, o9]) T_253_230 rfl ?_
      refine x_inc (w := (nn + 1)) (ls1 := [some (vR (some 2281)), some (vI s), some (vI n), some (vI k), some (vI (P 2291 (64 * s + (enI P s n l 63 1 (-1))))), some (vI (enI P s n l 63 1 (-1))), some (vI (nn + 1)), some (vI 64), o8, o9]) T_253_232 rfl (w32_id (by omega) (by omega)) rfl ?_
      refine x_goto T_253_235 ?_
      rw [show enO P s n (m + 1) l = enO P s n m (P 2291 (64 * s + enI P s n l 63 1 (-1))) from if_neg hg]
      exact ih _ _ _ _ _ _ (by omega) (by omega)
theorem m_entry_pr {k : Int} (hP : PM σ0 P S σ) (hI : IV false T U P) : ∀ (m : Nat) (p j g : Int), p + m = 8 → 0 ≤ p → -p ≤ j → j ≤ 1000000 → WP fb (d + 1) 253 41 [some (vR (some 2281)), some (vI s), some (vI n), some (vI k), some (vI j), some (vI g), some (vI p), none, none, none] [] σ (rP (enP P m p j g) σ) := by
  intro m
  induction m with
  | zero =>
    intro p j g h1 h2 h3 h4
    refine x_li (z := p) T_253_41 rfl ?_
    refine x_ic T_253_43 ?_
    refine x_ic2 T_253_45 (fun _ => ?_) (fun h => absurd (show 8 ≤ p by omega) h)
    refine x_li (z := g) T_253_87 rfl ?_
    refine x_ri T_253_89 ?_
    exact ⟨rfl, rfl⟩
  | succ m ih =>
    intro p j g h1 h2 h3 h4
    have key : ∀ j' g', enP P (m + 1) p j g = enP P m (p + 1) j' g' → -(p + 1) ≤ j' → j' ≤ 1000000 → WP fb (d + 1) 253 41 [some (vR (some 2281)), some (vI s), some (vI n), some (vI k), some (vI j'), some (vI g'), some (vI (p + 1)), none, none, none] [] σ (rP (enP P (m + 1) p j g) σ) := by
      intro j' g' e q1 q2
      rw [e]
      exact ih (p + 1) j' g' (by omega) (by omega) q1 q2
    refine x_li (z := p) T_253_41 rfl ?_
    refine x_ic T_253_43 ?_
    refine x_ic2 T_253_45 (fun h => absurd (show 8 ≤ p from h) (by omega)) (fun _ => ?_)
    refine x_lr (z := some 2281) T_253_48 rfl ?_
    refine x_gR (z := some 2320) T_253_49 F_17_50 (PM.t hP) (PM.r hP 50 2320 rfl) ?_
    refine x_li (z := p) T_253_52 rfl ?_
    have b1 : 0 ≤ P 2320 p ∧ P 2320 p ≤ 1 := IV.a hI 2320 2 8 rfl rfl rfl (by omega) (by omega)
    refine x_alI (z := P 2320 p) T_253_54 (by decide) (PM.ta hP 2320 2 8 rfl rfl) (by omega) (by omega) (PM.aP hP 2320 rfl rfl (by omega)) ?_
    refine x_if T_253_55 (fun h55 => ?_) (fun h55 => ?_)
    · replace h55 : P 2320 p = 0 := h55
      refine x_inc (w := (p + 1)) (ls1 := [some (vR (some 2281)), some (vI s), some (vI n), some (vI k), some (vI j), some (vI g), some (vI (p + 1)), none, none, none]) T_253_81 rfl (w32_id (by omega) (by omega)) rfl ?_
      refine x_goto T_253_84 ?_
      exact key _ _ (by show (if _ then _ else _) = _; first | rw [if_pos h55] | rw [if_neg h55, if_pos (by omega)] | rw [if_neg h55, if_neg (by omega)]) (by omega) (by omega)
    · replace h55 : ¬ (P 2320 p = 0) := h55
      refine x_inc (w := (j + (-1))) (ls1 := [some (vR (some 2281)), some (vI s), some (vI n), some (vI k), some (vI (j + (-1))), some (vI g), some (vI p), none, none, none]) T_253_58 rfl (w32_id (by omega) (by omega)) rfl ?_
      refine x_li (z := (j + (-1))) T_253_61 rfl ?_
      refine x_if T_253_63 (fun h63 => ?_) (fun h63 => ?_)
      · replace h63 : ¬ (j + (-1)) = 0 := h63
        refine x_li (z := g) T_253_77 rfl ?_
        refine x_si (ls1 := [some (vR (some 2281)), some (vI s), some (vI n), some (vI k), some (vI (j + (-1))), some (vI g), some (vI p), none, none, none]) T_253_79 rfl ?_
        refine x_inc (w := (p + 1)) (ls1 := [some (vR (some 2281)), some (vI s), some (vI n), some (vI k), some (vI (j + (-1))), some (vI g), some (vI (p + 1)), none, none, none]) T_253_81 rfl (w32_id (by omega) (by omega)) rfl ?_
        refine x_goto T_253_84 ?_
        exact key _ _ (by show (if _ then _ else _) = _; first | rw [if_pos h55] | rw [if_neg h55, if_pos (by omega)] | rw [if_neg h55, if_neg (by omega)]) (by omega) (by omega)
      · replace h63 : ¬ (¬ (j + (-1)) = 0) := h63
        refine x_ic T_253_66 ?_
        refine x_li (z := p) T_253_68 rfl ?_
        refine x_ib (w := (16 * p)) T_253_70 (fun h => absurd h.1 (by decide)) (w32_id (by omega) (by omega)) ?_
        refine x_ic T_253_71 ?_
        refine x_ib (w := ((16 * p) + 16)) T_253_73 (fun h => absurd h.1 (by decide)) (w32_id (by omega) (by omega)) ?_
        refine x_goto T_253_74 ?_
        refine x_si (ls1 := [some (vR (some 2281)), some (vI s), some (vI n), some (vI k), some (vI (j + (-1))), some (vI ((16 * p) + 16)), some (vI p), none, none, none]) T_253_79 rfl ?_
        refine x_inc (w := (p + 1)) (ls1 := [some (vR (some 2281)), some (vI s), some (vI n), some (vI k), some (vI (j + (-1))), some (vI ((16 * p) + 16)), some (vI (p + 1)), none, none, none]) T_253_81 rfl (w32_id (by omega) (by omega)) rfl ?_
        refine x_goto T_253_84 ?_
        exact key _ _ (by show (if _ then _ else _) = _; first | rw [if_pos h55] | rw [if_neg h55, if_pos (by omega)] | rw [if_neg h55, if_neg (by omega)]) (by omega) (by omega)
theorem m_entry {k : Int} (hP : PM σ0 P S σ) (hI : IV false T U P) (h : okN s n) (hk : 0 ≤ k ∧ k ≤ 1000) : CL fb (d + 1) 253 [vR (some 2281), vI s, vI n, vI k] σ (rP (qEnt P s n k) σ) := by
  by_cases h2 : s = 2
  · by_cases h3 : 0 < n
    · skip
      refine CL_in mL_253 rfl ?_
      show WP fb _ 253 0 [some (vR (some 2281)), some (vI s), some (vI n), some (vI k), none, none, none, none, none, none] [] σ _
      refine x_li (z := s) T_253_0 rfl ?_
      refine x_ic T_253_1 ?_
      refine x_ic2 T_253_2 (fun h => absurd (show ¬ s = 2 from h) (by exact fun q => q h2)) (fun _ => ?_)
      refine x_li (z := n) T_253_5 rfl ?_
      refine x_if T_253_6 (fun h => absurd (show n ≤ 0 from h) (by omega)) (fun _ => ?_)
      refine x_li (z := k) T_253_9 rfl ?_
      refine x_ic T_253_10 ?_
      refine x_ic2 T_253_11 (fun h11 => ?_) (fun h11 => ?_)
      · replace h11 : 2 ≤ k := h11
        refine x_ic T_253_22 ?_
        refine x_ri T_253_23 ?_
        refine ⟨?_, rfl⟩
        unfold qEnt
        rw [if_pos h2, if_pos h3]
        split <;> first | rfl | omega
      · replace h11 : ¬ (2 ≤ k) := h11
        refine x_li (z := n) T_253_14 rfl ?_
        refine x_ic T_253_15 ?_
        refine x_ib (w := (n + 1)) T_253_16 (fun h => absurd h.1 (by decide)) (w32_id (by omega) (by omega)) ?_
        refine x_li (z := k) T_253_17 rfl ?_
        refine x_ib (w := ((n + 1) + k)) T_253_18 (fun h => absurd h.1 (by decide)) (w32_id (by omega) (by omega)) ?_
        refine x_goto T_253_19 ?_
        refine x_ri T_253_23 ?_
        refine ⟨?_, rfl⟩
        unfold qEnt
        rw [if_pos h2, if_pos h3]
        split <;> first | rfl | omega
    · have e : qEnt P s n k = enP P 8 0 k (if k = 0 then 1 else -1) := by
        unfold qEnt
        rw [if_pos h2, if_neg h3]
      rw [e]
      refine CL_in mL_253 rfl ?_
      show WP fb _ 253 0 [some (vR (some 2281)), some (vI s), some (vI n), some (vI k), none, none, none, none, none, none] [] σ _
      refine x_li (z := s) T_253_0 rfl ?_
      refine x_ic T_253_1 ?_
      refine x_ic2 T_253_2 (fun h => absurd (show ¬ s = 2 from h) (by exact fun q => q h2)) (fun _ => ?_)
      refine x_li (z := n) T_253_5 rfl ?_
      refine x_if T_253_6 (fun _ => ?_) (fun h => absurd (show n ≤ 0 by omega) h)
      refine x_li (z := k) T_253_24 rfl ?_
      refine x_si (ls1 := [some (vR (some 2281)), some (vI s), some (vI n), some (vI k), some (vI k), none, none, none, none, none]) T_253_25 rfl ?_
      refine x_li (z := k) T_253_27 rfl ?_
      refine x_if T_253_28 (fun h28 => ?_) (fun h28 => ?_)
      · replace h28 : ¬ k = 0 := h28
        refine x_ic T_253_35 ?_
        refine x_si (ls1 := [some (vR (some 2281)), some (vI s), some (vI n), some (vI k), some (vI k), some (vI (-1)), none, none, none, none]) T_253_36 rfl ?_
        refine x_ic T_253_38 ?_
        refine x_si (ls1 := [some (vR (some 2281)), some (vI s), some (vI n), some (vI k), some (vI k), some (vI (-1)), some (vI 0), none, none, none]) T_253_39 rfl ?_
        refine WP.mono (m_entry_pr hP hI 8 0 k _ (by omega) (by omega) (by omega) (by omega)) ?_
        rintro r σ1 ⟨q1, q2⟩
        exact ⟨q1.trans (by first | rw [if_pos (by omega)] | rw [if_neg (by omega)]), q2⟩
      · replace h28 : ¬ (¬ k = 0) := h28
        refine x_ic T_253_31 ?_
        refine x_goto T_253_32 ?_
        refine x_si (ls1 := [some (vR (some 2281)), some (vI s), some (vI n), some (vI k), some (vI k), some (vI 1), none, none, none, none]) T_253_36 rfl ?_
        refine x_ic T_253_38 ?_
        refine x_si (ls1 := [some (vR (some 2281)), some (vI s), some (vI n), some (vI k), some (vI k), some (vI 1), some (vI 0), none, none, none]) T_253_39 rfl ?_
        refine WP.mono (m_entry_pr hP hI 8 0 k _ (by omega) (by omega) (by omega) (by omega)) ?_
        rintro r σ1 ⟨q1, q2⟩
        exact ⟨q1.trans (by first | rw [if_pos (by omega)] | rw [if_neg (by omega)]), q2⟩
  · have e : qEnt P s n k = enO P s n k.toNat 0 := by
      unfold qEnt
      rw [if_neg h2]
    rw [e]
    refine CL_in mL_253 rfl ?_
    show WP fb _ 253 0 [some (vR (some 2281)), some (vI s), some (vI n), some (vI k), none, none, none, none, none, none] [] σ _
    refine x_li (z := s) T_253_0 rfl ?_
    refine x_ic T_253_1 ?_
    refine x_ic2 T_253_2 (fun _ => ?_) (fun h => absurd (show ¬ s = 2 by exact h2) h)
    refine x_ic T_253_90 ?_
    refine x_si (ls1 := [some (vR (some 2281)), some (vI s), some (vI n), some (vI k), some (vI 0), none, none, none, none, none]) T_253_91 rfl ?_
    refine x_ic T_253_93 ?_
    refine x_si (ls1 := [some (vR (some 2281)), some (vI s), some (vI n), some (vI k), some (vI 0), some (vI (-1)), none, none, none, none]) T_253_94 rfl ?_
    refine x_ic T_253_96 ?_
    refine x_si (ls1 := [some (vR (some 2281)), some (vI s), some (vI n), some (vI k), some (vI 0), some (vI (-1)), some (vI 0), none, none, none]) T_253_97 rfl ?_
    exact m_entry_out hP hI (by omega) (by omega) k.toNat 0 (-1) 0 _ _ _ (by omega) (by omega)
theorem m_find_f {o z : Int} (hP : PM σ0 P S σ) (hI : IV false T U P) (hJ : IV true T U S) (hs : 0 ≤ s ∧ s < 2) (hn : 0 ≤ n ∧ n < 64) (ho : 0 ≤ o) (hz : 0 ≤ z) (h1 : o + z ≤ 512) : ∀ (m : Nat) (f : Int), f + m = 64 → 1 ≤ f → WP fb (d + 4) 268 3 [some (vR (some 2281)), some (vI s), some (vI n), some (vI o), some (vI z), some (vI f), none] [] σ (rP (fiF P s n (seg (S 2285) o z.toNat) m f) σ) := by
  intro m
  induction m with
  | zero =>
    intro f h2 h3
    refine x_li (z := f) T_268_3 rfl ?_
    refine x_ic T_268_5 ?_
    refine x_ic2 T_268_7 (fun _ => ?_) (fun h => absurd (show 64 ≤ f by omega) h)
    refine x_ic T_268_66 ?_
    refine x_si (ls1 := [some (vR (some 2281)), some (vI s), some (vI n), some (vI o), some (vI z), some (vI 0), none]) T_268_67 rfl ?_
    refine x_li (z := 0) T_268_69 rfl ?_
    refine x_ic T_268_71 ?_
    refine x_ic2 T_268_73 (fun h => absurd (show 9 ≤ (0 : Int) from h) (by decide)) (fun _ => ?_)
    refine x_li (z := s) T_268_76 rfl ?_
    refine x_ic T_268_77 ?_
    refine x_ic2 T_268_78 (fun _ => ?_) (fun h => absurd (show ¬ s = 2 by omega) h)
    refine x_ic T_268_118 ?_
    refine x_ri T_268_119 ?_
    exact ⟨rfl, rfl⟩
  | succ m ih =>
    intro f h2 h3
    have key : ¬ (¬ P 2289 (64 * s + f) = 0 ∧ P 2290 (64 * s + f) = n ∧ qNm P s f = seg (S 2285) o z.toNat) → WP fb (d + 4) 268 3 [some (vR (some 2281)), some (vI s), some (vI n), some (vI o), some (vI z), some (vI (f + 1)), none] [] σ (rP (fiF P s n (seg (S 2285) o z.toNat) (m + 1) f) σ) := by
      intro q
      rw [show fiF P s n (seg (S 2285) o z.toNat) (m + 1) f = fiF P s n (seg (S 2285) o z.toNat) m (f + 1) from if_neg q]
      exact ih (f + 1) (by omega) (by omega)
    refine x_li (z := f) T_268_3 rfl ?_
    refine x_ic T_268_5 ?_
    refine x_ic2 T_268_7 (fun h => absurd (show 64 ≤ f from h) (by omega)) (fun _ => ?_)
    refine x_li (z := s) T_268_10 rfl ?_
    refine x_ic T_268_11 ?_
    refine x_ic2 T_268_12 (fun h => absurd (show 2 ≤ s from h) (by omega)) (fun _ => ?_)
    refine x_lr (z := some 2281) T_268_15 rfl ?_
    refine x_gR (z := some 2289) T_268_16 F_17_13 (PM.t hP) (PM.r hP 13 2289 rfl) ?_
    refine x_li (z := s) T_268_19 rfl ?_
    refine x_li (z := f) T_268_20 rfl ?_
    refine x_cs2 T_268_22 mN_247 mL_247 (Nat.le_of_ble_eq_true rfl) mK_247 (Nat.le_of_ble_eq_true rfl) (m_place (by omega)) ?_
    rintro _ _ ⟨rfl, rfl⟩
    refine cI ?_
    have b1 : 0 ≤ P 2289 (64 * s + f) ∧ P 2289 (64 * s + f) ≤ 1 := IV.a hI 2289 2 128 rfl rfl rfl (by omega) (by omega)
    refine x_alI (z := P 2289 (64 * s + f)) T_268_25 (by decide) (PM.ta hP 2289 2 128 rfl rfl) (by omega) (by omega) (PM.aP hP 2289 rfl rfl (by omega)) ?_
    refine x_if T_268_26 (fun h26 => ?_) (fun h26 => ?_)
    · replace h26 : P 2289 (64 * s + f) = 0 := h26
      refine x_inc (w := (f + 1)) (ls1 := [some (vR (some 2281)), some (vI s), some (vI n), some (vI o), some (vI z), some (vI (f + 1)), none]) T_268_60 rfl (w32_id (by omega) (by omega)) rfl ?_
      refine x_goto T_268_63 ?_
      exact key (fun q => by first | exact q.1 h26 | exact h41 q.2.1 | exact absurd h54 (by rw [if_pos q.2.2]; decide))
    · replace h26 : ¬ (P 2289 (64 * s + f) = 0) := h26
      refine x_lr (z := some 2281) T_268_29 rfl ?_
      refine x_gR (z := some 2290) T_268_30 F_17_14 (PM.t hP) (PM.r hP 14 2290 rfl) ?_
      refine x_li (z := s) T_268_33 rfl ?_
      refine x_li (z := f) T_268_34 rfl ?_
      refine x_cs2 T_268_36 mN_247 mL_247 (Nat.le_of_ble_eq_true rfl) mK_247 (Nat.le_of_ble_eq_true rfl) (m_place (by omega)) ?_
      rintro _ _ ⟨rfl, rfl⟩
      refine cI ?_
      have b2 : 0 ≤ P 2290 (64 * s + f) ∧ P 2290 (64 * s + f) ≤ 63 := IV.a hI 2290 0 128 rfl rfl rfl (by omega) (by omega)
      refine x_alI (z := P 2290 (64 * s + f)) T_268_39 (by decide) (PM.ta hP 2290 0 128 rfl rfl) (by omega) (by omega) (PM.aP hP 2290 rfl rfl (by omega)) ?_
      refine x_li (z := n) T_268_40 rfl ?_
      refine x_ic2 T_268_41 (fun h41 => ?_) (fun h41 => ?_)
      · replace h41 : ¬ P 2290 (64 * s + f) = n := h41
        refine x_inc (w := (f + 1)) (ls1 := [some (vR (some 2281)), some (vI s), some (vI n), some (vI o), some (vI z), some (vI (f + 1)), none]) T_268_60 rfl (w32_id (by omega) (by omega)) rfl ?_
        refine x_goto T_268_63 ?_
        exact key (fun q => by first | exact q.1 h26 | exact h41 q.2.1 | exact absurd h54 (by rw [if_pos q.2.2]; decide))
      · replace h41 : ¬ (¬ P 2290 (64 * s + f) = n) := h41
        refine x_lr (z := some 2281) T_268_44 rfl ?_
        refine x_li (z := s) T_268_45 rfl ?_
        refine x_li (z := f) T_268_46 rfl ?_
        refine x_li (z := o) T_268_48 rfl ?_
        refine x_li (z := z) T_268_49 rfl ?_
        refine x_cv5 T_268_51 mN_269 mL_269 (Nat.le_of_ble_eq_true rfl) mO_269 (PM.t hP) (Nat.le_of_ble_eq_true rfl) (m_isNamed hP hI hJ (by omega) (by omega) (by omega) (by omega)) ?_
        rintro _ _ ⟨rfl, rfl⟩
        refine cI ?_
        refine x_if T_268_54 (fun h54 => ?_) (fun h54 => ?_)
        · replace h54 : (if qNm P s f = seg (S 2285) o (z).toNat then (1 : Int) else 0) = 0 := h54
          refine x_inc (w := (f + 1)) (ls1 := [some (vR (some 2281)), some (vI s), some (vI n), some (vI o), some (vI z), some (vI (f + 1)), none]) T_268_60 rfl (w32_id (by omega) (by omega)) rfl ?_
          refine x_goto T_268_63 ?_
          exact key (fun q => by first | exact q.1 h26 | exact h41 q.2.1 | exact absurd h54 (by rw [if_pos q.2.2]; decide))
        · replace h54 : ¬ ((if qNm P s f = seg (S 2285) o (z).toNat then (1 : Int) else 0) = 0) := h54
          refine x_li (z := f) T_268_57 rfl ?_
          refine x_ri T_268_59 ?_
          exact ⟨by rw [show fiF P s n (seg (S 2285) o z.toNat) (m + 1) f = f from if_pos ⟨h26, Classical.not_not.mp h41, Classical.byContradiction (fun q => h54 (if_neg q))⟩], rfl⟩
theorem m_find_e {o z : Int} (hP : PM σ0 P S σ) (hI : IV false T U P) (hJ : IV true T U S) (hn : 0 ≤ n ∧ n < 144 ∧ (0 < n → n % 16 = 0)) (ho : 0 ≤ o) (hz : 0 ≤ z) (h1 : o + z ≤ 512) : ∀ (m : Nat) (k : Int) (o6 : Option AV), k + m = 9 → 0 ≤ k → WP fb (d + 4) 268 69 [some (vR (some 2281)), some (vI 2), some (vI n), some (vI o), some (vI z), some (vI k), o6] [] σ (rP (fiE P n (seg (S 2285) o z.toNat) m k) σ) := by
  intro m
  induction m with
  | zero =>
    intro k o6 h2 h3
    refine x_li (z := k) T_268_69 rfl ?_
    refine x_ic T_268_71 ?_
    refine x_ic2 T_268_73 (fun _ => ?_) (fun h => absurd (show 9 ≤ k by omega) h)
    refine x_ic T_268_118 ?_
    refine x_ri T_268_119 ?_
    exact ⟨rfl, rfl⟩
  | succ m ih =>
    intro k o6 h2 h3
    have hq := qEnt_ok (P := P) (s := 2) (n := n) (k := k) (by omega) (fun _ => hn.2.2) h3
    have key : ∀ o6, ¬ (0 ≤ qEnt P 2 n k ∧ qNm P 2 (qEnt P 2 n k) = seg (S 2285) o z.toNat) → WP fb (d + 4) 268 69 [some (vR (some 2281)), some (vI 2), some (vI n), some (vI o), some (vI z), some (vI (k + 1)), o6] [] σ (rP (fiE P n (seg (S 2285) o z.toNat) (m + 1) k) σ) := by
      intro o6 q
      rw [show fiE P n (seg (S 2285) o z.toNat) (m + 1) k = fiE P n (seg (S 2285) o z.toNat) m (k + 1) from if_neg q]
      exact ih (k + 1) o6 (by omega) (by omega)
    refine x_li (z := k) T_268_69 rfl ?_
    refine x_ic T_268_71 ?_
    refine x_ic2 T_268_73 (fun h => absurd (show 9 ≤ k from h) (by omega)) (fun _ => ?_)
    refine x_li (z := 2) T_268_76 rfl ?_
    refine x_ic T_268_77 ?_
    refine x_ic2 T_268_78 (fun h => absurd (show ¬ (2 : Int) = 2 from h) (by decide)) (fun _ => ?_)
    refine x_lr (z := some 2281) T_268_81 rfl ?_
    refine x_li (z := 2) T_268_82 rfl ?_
    refine x_li (z := n) T_268_83 rfl ?_
    refine x_li (z := k) T_268_84 rfl ?_
    refine x_cv4 T_268_86 mN_253 mL_253 (Nat.le_of_ble_eq_true rfl) mO_253 (PM.t hP) (Nat.le_of_ble_eq_true rfl) (m_entry hP hI (by omega) (by omega)) ?_
    rintro _ _ ⟨rfl, rfl⟩
    refine cI ?_
    refine x_si (ls1 := [some (vR (some 2281)), some (vI 2), some (vI n), some (vI o), some (vI z), some (vI k), some (vI (qEnt P 2 n k))]) T_268_89 rfl ?_
    refine x_li (z := qEnt P 2 n k) T_268_91 rfl ?_
    refine x_if T_268_93 (fun h93 => ?_) (fun h93 => ?_)
    · replace h93 : qEnt P 2 n k < 0 := h93
      refine x_inc (w := (k + 1)) (ls1 := [some (vR (some 2281)), some (vI 2), some (vI n), some (vI o), some (vI z), some (vI (k + 1)), some (vI (qEnt P 2 n k))]) T_268_112 rfl (w32_id (by omega) (by omega)) rfl ?_
      refine x_goto T_268_115 ?_
      exact key _ (fun q => by first | (have := q.1; omega) | exact absurd h106 (by rw [if_pos q.2]; decide))
    · replace h93 : ¬ (qEnt P 2 n k < 0) := h93
      refine x_lr (z := some 2281) T_268_96 rfl ?_
      refine x_li (z := 2) T_268_97 rfl ?_
      refine x_li (z := qEnt P 2 n k) T_268_98 rfl ?_
      refine x_li (z := o) T_268_100 rfl ?_
      refine x_li (z := z) T_268_101 rfl ?_
      refine x_cv5 T_268_103 mN_269 mL_269 (Nat.le_of_ble_eq_true rfl) mO_269 (PM.t hP) (Nat.le_of_ble_eq_true rfl) (m_isNamed hP hI hJ (by omega) (by omega) (by omega) (by omega)) ?_
      rintro _ _ ⟨rfl, rfl⟩
      refine cI ?_
      refine x_if T_268_106 (fun h106 => ?_) (fun h106 => ?_)
      · replace h106 : (if qNm P 2 (qEnt P 2 n k) = seg (S 2285) o (z).toNat then (1 : Int) else 0) = 0 := h106
        refine x_inc (w := (k + 1)) (ls1 := [some (vR (some 2281)), some (vI 2), some (vI n), some (vI o), some (vI z), some (vI (k + 1)), some (vI (qEnt P 2 n k))]) T_268_112 rfl (w32_id (by omega) (by omega)) rfl ?_
        refine x_goto T_268_115 ?_
        exact key _ (fun q => by first | (have := q.1; omega) | exact absurd h106 (by rw [if_pos q.2]; decide))
      · replace h106 : ¬ ((if qNm P 2 (qEnt P 2 n k) = seg (S 2285) o (z).toNat then (1 : Int) else 0) = 0) := h106
        refine x_li (z := qEnt P 2 n k) T_268_109 rfl ?_
        refine x_ri T_268_111 ?_
        exact ⟨by rw [show fiE P n (seg (S 2285) o z.toNat) (m + 1) k = qEnt P 2 n k from if_pos ⟨by omega, Classical.byContradiction (fun q => h106 (if_neg q))⟩], rfl⟩
theorem m_finds {o z : Int} (hP : PM σ0 P S σ) (hI : IV false T U P) (hJ : IV true T U S) (h : okN s n) (hd : s = 2 → 0 < n → n % 16 = 0) (ho : 0 ≤ o) (hz : 0 ≤ z) (h1 : o + z ≤ 512) : CL fb (d + 4) 268 [vR (some 2281), vI s, vI n, vI o, vI z] σ (rP (qFind P s n (seg (S 2285) o z.toNat)) σ) := by
  unfold qFind
  by_cases hs : s < 2
  · rw [if_pos hs]
    refine CL_in mL_268 rfl ?_
    show WP fb _ 268 0 [some (vR (some 2281)), some (vI s), some (vI n), some (vI o), some (vI z), none, none] [] σ _
    refine x_ic T_268_0 ?_
    refine x_si (ls1 := [some (vR (some 2281)), some (vI s), some (vI n), some (vI o), some (vI z), some (vI 1), none]) T_268_1 rfl ?_
    exact m_find_f hP hI hJ (by omega) (by omega) ho hz h1 63 1 (by omega) (by omega)
  · rw [if_neg hs]
    obtain rfl : s = 2 := by omega
    refine CL_in mL_268 rfl ?_
    show WP fb _ 268 0 [some (vR (some 2281)), some (vI 2), some (vI n), some (vI o), some (vI z), none, none] [] σ _
    refine x_ic T_268_0 ?_
    refine x_si (ls1 := [some (vR (some 2281)), some (vI 2), some (vI n), some (vI o), some (vI z), some (vI 1), none]) T_268_1 rfl ?_
    refine x_li (z := 1) T_268_3 rfl ?_
    refine x_ic T_268_5 ?_
    refine x_ic2 T_268_7 (fun h => absurd (show 64 ≤ (1 : Int) from h) (by decide)) (fun _ => ?_)
    refine x_li (z := 2) T_268_10 rfl ?_
    refine x_ic T_268_11 ?_
    refine x_ic2 T_268_12 (fun _ => ?_) (fun h => absurd (show 2 ≤ (2 : Int) by decide) h)
    refine x_ic T_268_66 ?_
    refine x_si (ls1 := [some (vR (some 2281)), some (vI 2), some (vI n), some (vI o), some (vI z), some (vI 0), none]) T_268_67 rfl ?_
    exact m_find_e hP hI hJ ⟨by omega, by omega, hd rfl⟩ ho hz h1 9 0 _ (by omega) (by omega)
end MFIND
