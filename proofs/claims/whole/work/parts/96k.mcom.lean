/-! A command that has no others in it: which one it is. -/
theorem T_353_0 : hTab 353 0 = some ((3, 0, 2, []), 1) := rfl
theorem T_353_1 : hTab 353 1 = some ((0, 0, 0, []), 2) := rfl
theorem T_353_2 : hTab 353 2 = some ((31, 317, 0, []), 5) := rfl
theorem T_353_5 : hTab 353 5 = some ((4, 2, 1, []), 6) := rfl
theorem T_353_6 : hTab 353 6 = some ((3, 2, 1, []), 7) := rfl
theorem T_353_7 : hTab 353 7 = some ((1, 0, 1701013615, []), 10) := rfl
theorem T_353_10 : hTab 353 10 = some ((17, 0, 0, []), 11) := rfl
theorem T_353_11 : hTab 353 11 = some ((18, 1, Int.ofNat 20, []), 14) := rfl
theorem T_353_14 : hTab 353 14 = some ((3, 0, 2, []), 15) := rfl
theorem T_353_15 : hTab 353 15 = some ((3, 1, 0, []), 16) := rfl
theorem T_353_16 : hTab 353 16 = some ((31, 354, 0, []), 19) := rfl
theorem T_353_19 : hTab 353 19 = some ((33, 1, 0, []), 20) := rfl
theorem T_353_20 : hTab 353 20 = some ((3, 2, 1, []), 21) := rfl
theorem T_353_21 : hTab 353 21 = some ((1, 0, 1651076708, []), 24) := rfl
theorem T_353_24 : hTab 353 24 = some ((17, 0, 0, []), 25) := rfl
theorem T_353_25 : hTab 353 25 = some ((18, 1, Int.ofNat 52, []), 28) := rfl
theorem T_353_28 : hTab 353 28 = some ((3, 0, 2, []), 29) := rfl
theorem T_353_29 : hTab 353 29 = some ((24, 17, Int.ofNat 77, []), 32) := rfl
theorem T_353_32 : hTab 353 32 = some ((14, 0, 0, []), 33) := rfl
theorem T_353_33 : hTab 353 33 = some ((1, 0, 3, []), 36) := rfl
theorem T_353_36 : hTab 353 36 = some ((1, 0, 4, []), 39) := rfl
theorem T_353_39 : hTab 353 39 = some ((31, 282, 0, []), 42) := rfl
theorem T_353_42 : hTab 353 42 = some ((18, 0, Int.ofNat 52, []), 45) := rfl
theorem T_353_45 : hTab 353 45 = some ((3, 0, 2, []), 46) := rfl
theorem T_353_46 : hTab 353 46 = some ((3, 1, 0, []), 47) := rfl
theorem T_353_47 : hTab 353 47 = some ((0, 0, 0, []), 48) := rfl
theorem T_353_48 : hTab 353 48 = some ((31, 358, 0, []), 51) := rfl
theorem T_353_51 : hTab 353 51 = some ((33, 1, 0, []), 52) := rfl
theorem T_353_52 : hTab 353 52 = some ((3, 2, 1, []), 53) := rfl
theorem T_353_53 : hTab 353 53 = some ((1, 0, 470021402228, []), 56) := rfl
theorem T_353_56 : hTab 353 56 = some ((17, 0, 0, []), 57) := rfl
theorem T_353_57 : hTab 353 57 = some ((18, 1, Int.ofNat 84, []), 60) := rfl
theorem T_353_60 : hTab 353 60 = some ((3, 0, 2, []), 61) := rfl
theorem T_353_61 : hTab 353 61 = some ((24, 17, Int.ofNat 77, []), 64) := rfl
theorem T_353_64 : hTab 353 64 = some ((14, 0, 0, []), 65) := rfl
theorem T_353_65 : hTab 353 65 = some ((1, 0, 3, []), 68) := rfl
theorem T_353_68 : hTab 353 68 = some ((1, 0, 4, []), 71) := rfl
theorem T_353_71 : hTab 353 71 = some ((31, 282, 0, []), 74) := rfl
theorem T_353_74 : hTab 353 74 = some ((18, 0, Int.ofNat 84, []), 77) := rfl
theorem T_353_77 : hTab 353 77 = some ((3, 0, 2, []), 78) := rfl
theorem T_353_78 : hTab 353 78 = some ((3, 1, 0, []), 79) := rfl
theorem T_353_79 : hTab 353 79 = some ((0, 0, 1, []), 80) := rfl
theorem T_353_80 : hTab 353 80 = some ((31, 358, 0, []), 83) := rfl
theorem T_353_83 : hTab 353 83 = some ((33, 1, 0, []), 84) := rfl
theorem T_353_84 : hTab 353 84 = some ((3, 2, 1, []), 85) := rfl
theorem T_353_85 : hTab 353 85 = some ((1, 0, 33053988575604340, []), 88) := rfl
theorem T_353_88 : hTab 353 88 = some ((17, 0, 0, []), 89) := rfl
theorem T_353_89 : hTab 353 89 = some ((18, 1, Int.ofNat 115, []), 92) := rfl
theorem T_353_92 : hTab 353 92 = some ((3, 0, 2, []), 93) := rfl
theorem T_353_93 : hTab 353 93 = some ((24, 17, Int.ofNat 77, []), 96) := rfl
theorem T_353_96 : hTab 353 96 = some ((14, 0, 0, []), 97) := rfl
theorem T_353_97 : hTab 353 97 = some ((1, 0, 2, []), 100) := rfl
theorem T_353_100 : hTab 353 100 = some ((1, 0, 3, []), 103) := rfl
theorem T_353_103 : hTab 353 103 = some ((31, 282, 0, []), 106) := rfl
theorem T_353_106 : hTab 353 106 = some ((18, 0, Int.ofNat 115, []), 109) := rfl
theorem T_353_109 : hTab 353 109 = some ((3, 0, 2, []), 110) := rfl
theorem T_353_110 : hTab 353 110 = some ((3, 1, 0, []), 111) := rfl
theorem T_353_111 : hTab 353 111 = some ((31, 368, 0, []), 114) := rfl
theorem T_353_114 : hTab 353 114 = some ((33, 1, 0, []), 115) := rfl
theorem T_353_115 : hTab 353 115 = some ((3, 2, 1, []), 116) := rfl
theorem T_353_116 : hTab 353 116 = some ((1, 0, 7562612, []), 119) := rfl
theorem T_353_119 : hTab 353 119 = some ((17, 0, 0, []), 120) := rfl
theorem T_353_120 : hTab 353 120 = some ((18, 1, Int.ofNat 146, []), 123) := rfl
theorem T_353_123 : hTab 353 123 = some ((3, 0, 2, []), 124) := rfl
theorem T_353_124 : hTab 353 124 = some ((24, 17, Int.ofNat 77, []), 127) := rfl
theorem T_353_127 : hTab 353 127 = some ((14, 0, 0, []), 128) := rfl
theorem T_353_128 : hTab 353 128 = some ((1, 0, 2, []), 131) := rfl
theorem T_353_131 : hTab 353 131 = some ((1, 0, 3, []), 134) := rfl
theorem T_353_134 : hTab 353 134 = some ((31, 282, 0, []), 137) := rfl
theorem T_353_137 : hTab 353 137 = some ((18, 0, Int.ofNat 146, []), 140) := rfl
theorem T_353_140 : hTab 353 140 = some ((3, 0, 2, []), 141) := rfl
theorem T_353_141 : hTab 353 141 = some ((3, 1, 0, []), 142) := rfl
theorem T_353_142 : hTab 353 142 = some ((31, 371, 0, []), 145) := rfl
theorem T_353_145 : hTab 353 145 = some ((33, 1, 0, []), 146) := rfl
theorem T_353_146 : hTab 353 146 = some ((3, 0, 2, []), 147) := rfl
theorem T_353_147 : hTab 353 147 = some ((24, 17, Int.ofNat 77, []), 150) := rfl
theorem T_353_150 : hTab 353 150 = some ((0, 0, 1, []), 151) := rfl
theorem T_353_151 : hTab 353 151 = some ((19, 1, Int.ofNat 171, []), 154) := rfl
theorem T_353_154 : hTab 353 154 = some ((3, 2, 1, []), 155) := rfl
theorem T_353_155 : hTab 353 155 = some ((1, 0, 1702390132, []), 158) := rfl
theorem T_353_158 : hTab 353 158 = some ((17, 0, 0, []), 159) := rfl
theorem T_353_159 : hTab 353 159 = some ((18, 1, Int.ofNat 171, []), 162) := rfl
theorem T_353_162 : hTab 353 162 = some ((3, 0, 2, []), 163) := rfl
theorem T_353_163 : hTab 353 163 = some ((24, 17, Int.ofNat 51, []), 166) := rfl
theorem T_353_166 : hTab 353 166 = some ((3, 1, 0, []), 167) := rfl
theorem T_353_167 : hTab 353 167 = some ((0, 0, 1, []), 168) := rfl
theorem T_353_168 : hTab 353 168 = some ((27, 2, 0, []), 169) := rfl
theorem T_353_169 : hTab 353 169 = some ((0, 0, 0, []), 170) := rfl
theorem T_353_170 : hTab 353 170 = some ((33, 1, 0, []), 171) := rfl
theorem T_353_171 : hTab 353 171 = some ((3, 0, 2, []), 172) := rfl
theorem T_353_172 : hTab 353 172 = some ((24, 17, Int.ofNat 77, []), 175) := rfl
theorem T_353_175 : hTab 353 175 = some ((0, 0, 2, []), 176) := rfl
theorem T_353_176 : hTab 353 176 = some ((19, 1, Int.ofNat 188, []), 179) := rfl
theorem T_353_179 : hTab 353 179 = some ((3, 0, 2, []), 180) := rfl
theorem T_353_180 : hTab 353 180 = some ((3, 1, 0, []), 181) := rfl
theorem T_353_181 : hTab 353 181 = some ((3, 2, 1, []), 182) := rfl
theorem T_353_182 : hTab 353 182 = some ((31, 373, 0, []), 185) := rfl
theorem T_353_185 : hTab 353 185 = some ((22, 0, Int.ofNat 231, []), 188) := rfl
theorem T_353_188 : hTab 353 188 = some ((3, 0, 2, []), 189) := rfl
theorem T_353_189 : hTab 353 189 = some ((24, 17, Int.ofNat 77, []), 192) := rfl
theorem T_353_192 : hTab 353 192 = some ((0, 0, 3, []), 193) := rfl
theorem T_353_193 : hTab 353 193 = some ((19, 1, Int.ofNat 205, []), 196) := rfl
theorem T_353_196 : hTab 353 196 = some ((3, 0, 2, []), 197) := rfl
theorem T_353_197 : hTab 353 197 = some ((3, 1, 0, []), 198) := rfl
theorem T_353_198 : hTab 353 198 = some ((3, 2, 1, []), 199) := rfl
theorem T_353_199 : hTab 353 199 = some ((31, 388, 0, []), 202) := rfl
theorem T_353_202 : hTab 353 202 = some ((22, 0, Int.ofNat 231, []), 205) := rfl
theorem T_353_205 : hTab 353 205 = some ((3, 0, 2, []), 206) := rfl
theorem T_353_206 : hTab 353 206 = some ((24, 17, Int.ofNat 77, []), 209) := rfl
theorem T_353_209 : hTab 353 209 = some ((0, 0, 4, []), 210) := rfl
theorem T_353_210 : hTab 353 210 = some ((19, 1, Int.ofNat 229, []), 213) := rfl
theorem T_353_213 : hTab 353 213 = some ((3, 2, 1, []), 214) := rfl
theorem T_353_214 : hTab 353 214 = some ((1, 0, 109342978307173, []), 217) := rfl
theorem T_353_217 : hTab 353 217 = some ((17, 0, 0, []), 218) := rfl
theorem T_353_218 : hTab 353 218 = some ((18, 1, Int.ofNat 229, []), 221) := rfl
theorem T_353_221 : hTab 353 221 = some ((3, 0, 2, []), 222) := rfl
theorem T_353_222 : hTab 353 222 = some ((3, 1, 0, []), 223) := rfl
theorem T_353_223 : hTab 353 223 = some ((31, 397, 0, []), 226) := rfl
theorem T_353_226 : hTab 353 226 = some ((22, 0, Int.ofNat 231, []), 229) := rfl
theorem T_353_229 : hTab 353 229 = some ((0, 0, 18, []), 231) := rfl
theorem T_353_231 : hTab 353 231 = some ((33, 1, 0, []), 232) := rfl
theorem T_373_0 : hTab 373 0 = some ((3, 2, 1, []), 1) := rfl
theorem T_373_1 : hTab 373 1 = some ((1, 0, 25444, []), 4) := rfl
theorem T_373_4 : hTab 373 4 = some ((17, 0, 0, []), 5) := rfl
theorem T_373_5 : hTab 373 5 = some ((18, 1, Int.ofNat 14, []), 8) := rfl
theorem T_373_8 : hTab 373 8 = some ((3, 0, 2, []), 9) := rfl
theorem T_373_9 : hTab 373 9 = some ((3, 1, 0, []), 10) := rfl
theorem T_373_10 : hTab 373 10 = some ((31, 374, 0, []), 13) := rfl
theorem T_373_13 : hTab 373 13 = some ((33, 1, 0, []), 14) := rfl
theorem T_373_14 : hTab 373 14 = some ((3, 2, 1, []), 15) := rfl
theorem T_373_15 : hTab 373 15 = some ((1, 0, 6513012, []), 18) := rfl
theorem T_373_18 : hTab 373 18 = some ((17, 0, 0, []), 19) := rfl
theorem T_373_19 : hTab 373 19 = some ((18, 1, Int.ofNat 29, []), 22) := rfl
theorem T_373_22 : hTab 373 22 = some ((3, 0, 2, []), 23) := rfl
theorem T_373_23 : hTab 373 23 = some ((3, 1, 0, []), 24) := rfl
theorem T_373_24 : hTab 373 24 = some ((0, 0, (-1), []), 25) := rfl
theorem T_373_25 : hTab 373 25 = some ((31, 326, 0, []), 28) := rfl
theorem T_373_28 : hTab 373 28 = some ((33, 1, 0, []), 29) := rfl
theorem T_373_29 : hTab 373 29 = some ((3, 2, 1, []), 30) := rfl
theorem T_373_30 : hTab 373 30 = some ((1, 0, 27763, []), 33) := rfl
theorem T_373_33 : hTab 373 33 = some ((17, 0, 0, []), 34) := rfl
theorem T_373_34 : hTab 373 34 = some ((18, 1, Int.ofNat 43, []), 37) := rfl
theorem T_373_37 : hTab 373 37 = some ((3, 0, 2, []), 38) := rfl
theorem T_373_38 : hTab 373 38 = some ((3, 1, 0, []), 39) := rfl
theorem T_373_39 : hTab 373 39 = some ((31, 375, 0, []), 42) := rfl
theorem T_373_42 : hTab 373 42 = some ((33, 1, 0, []), 43) := rfl
theorem T_373_43 : hTab 373 43 = some ((3, 2, 1, []), 44) := rfl
theorem T_373_44 : hTab 373 44 = some ((1, 0, 469953177970, []), 47) := rfl
theorem T_373_47 : hTab 373 47 = some ((17, 0, 0, []), 48) := rfl
theorem T_373_48 : hTab 373 48 = some ((18, 1, Int.ofNat 62, []), 51) := rfl
theorem T_373_51 : hTab 373 51 = some ((3, 0, 2, []), 52) := rfl
theorem T_373_52 : hTab 373 52 = some ((3, 1, 0, []), 53) := rfl
theorem T_373_53 : hTab 373 53 = some ((0, 0, 1, []), 54) := rfl
theorem T_373_54 : hTab 373 54 = some ((1, 0, 2147484159, []), 57) := rfl
theorem T_373_57 : hTab 373 57 = some ((0, 0, 0, []), 58) := rfl
theorem T_373_58 : hTab 373 58 = some ((31, 355, 0, []), 61) := rfl
theorem T_373_61 : hTab 373 61 = some ((33, 1, 0, []), 62) := rfl
theorem T_373_62 : hTab 373 62 = some ((3, 2, 1, []), 63) := rfl
theorem T_373_63 : hTab 373 63 = some ((1, 0, 29293, []), 66) := rfl
theorem T_373_66 : hTab 373 66 = some ((17, 0, 0, []), 67) := rfl
theorem T_373_67 : hTab 373 67 = some ((18, 1, Int.ofNat 76, []), 70) := rfl
theorem T_373_70 : hTab 373 70 = some ((3, 0, 2, []), 71) := rfl
theorem T_373_71 : hTab 373 71 = some ((3, 1, 0, []), 72) := rfl
theorem T_373_72 : hTab 373 72 = some ((31, 377, 0, []), 75) := rfl
theorem T_373_75 : hTab 373 75 = some ((33, 1, 0, []), 76) := rfl
theorem T_373_76 : hTab 373 76 = some ((3, 2, 1, []), 77) := rfl
theorem T_373_77 : hTab 373 77 = some ((1, 0, 1937006964, []), 80) := rfl
theorem T_373_80 : hTab 373 80 = some ((17, 0, 0, []), 81) := rfl
theorem T_373_81 : hTab 373 81 = some ((18, 1, Int.ofNat 90, []), 84) := rfl
theorem T_373_84 : hTab 373 84 = some ((3, 0, 2, []), 85) := rfl
theorem T_373_85 : hTab 373 85 = some ((3, 1, 0, []), 86) := rfl
theorem T_373_86 : hTab 373 86 = some ((31, 378, 0, []), 89) := rfl
theorem T_373_89 : hTab 373 89 = some ((33, 1, 0, []), 90) := rfl
theorem T_373_90 : hTab 373 90 = some ((3, 2, 1, []), 91) := rfl
theorem T_373_91 : hTab 373 91 = some ((1, 0, 427021005669, []), 94) := rfl
theorem T_373_94 : hTab 373 94 = some ((17, 0, 0, []), 95) := rfl
theorem T_373_95 : hTab 373 95 = some ((18, 1, Int.ofNat 145, []), 98) := rfl
theorem T_373_98 : hTab 373 98 = some ((3, 0, 2, []), 99) := rfl
theorem T_373_99 : hTab 373 99 = some ((0, 0, 1, []), 100) := rfl
theorem T_373_100 : hTab 373 100 = some ((0, 0, 7, []), 102) := rfl
theorem T_373_102 : hTab 373 102 = some ((31, 359, 0, []), 105) := rfl
theorem T_373_105 : hTab 373 105 = some ((4, 4, 0, []), 107) := rfl
theorem T_373_107 : hTab 373 107 = some ((3, 4, 0, []), 109) := rfl
theorem T_373_109 : hTab 373 109 = some ((18, 3, Int.ofNat 117, []), 112) := rfl
theorem T_373_112 : hTab 373 112 = some ((0, 0, 18, []), 114) := rfl
theorem T_373_114 : hTab 373 114 = some ((22, 0, Int.ofNat 144, []), 117) := rfl
theorem T_373_117 : hTab 373 117 = some ((3, 0, 2, []), 118) := rfl
theorem T_373_118 : hTab 373 118 = some ((24, 17, Int.ofNat 57, []), 121) := rfl
theorem T_373_121 : hTab 373 121 = some ((0, 0, 8, []), 123) := rfl
theorem T_373_123 : hTab 373 123 = some ((3, 1, 0, []), 124) := rfl
theorem T_373_124 : hTab 373 124 = some ((10, 2, 0, []), 125) := rfl
theorem T_373_125 : hTab 373 125 = some ((3, 4, 0, []), 127) := rfl
theorem T_373_127 : hTab 373 127 = some ((10, 0, 0, []), 128) := rfl
theorem T_373_128 : hTab 373 128 = some ((26, 0, 0, []), 129) := rfl
theorem T_373_129 : hTab 373 129 = some ((18, 3, Int.ofNat 137, []), 132) := rfl
theorem T_373_132 : hTab 373 132 = some ((0, 0, 19, []), 134) := rfl
theorem T_373_134 : hTab 373 134 = some ((22, 0, Int.ofNat 144, []), 137) := rfl
theorem T_373_137 : hTab 373 137 = some ((3, 0, 2, []), 138) := rfl
theorem T_373_138 : hTab 373 138 = some ((3, 1, 0, []), 139) := rfl
theorem T_373_139 : hTab 373 139 = some ((3, 4, 0, []), 141) := rfl
theorem T_373_141 : hTab 373 141 = some ((31, 380, 0, []), 144) := rfl
theorem T_373_144 : hTab 373 144 = some ((33, 1, 0, []), 145) := rfl
theorem T_373_145 : hTab 373 145 = some ((3, 2, 1, []), 146) := rfl
theorem T_373_146 : hTab 373 146 = some ((1, 0, 1718579819, []), 149) := rfl
theorem T_373_149 : hTab 373 149 = some ((17, 0, 0, []), 150) := rfl
theorem T_373_150 : hTab 373 150 = some ((18, 1, Int.ofNat 161, []), 153) := rfl
theorem T_373_153 : hTab 373 153 = some ((3, 0, 2, []), 154) := rfl
theorem T_373_154 : hTab 373 154 = some ((3, 1, 0, []), 155) := rfl
theorem T_373_155 : hTab 373 155 = some ((31, 382, 0, []), 158) := rfl
theorem T_373_158 : hTab 373 158 = some ((22, 0, Int.ofNat 163, []), 161) := rfl
theorem T_373_161 : hTab 373 161 = some ((0, 0, 18, []), 163) := rfl
theorem T_373_163 : hTab 373 163 = some ((33, 1, 0, []), 164) := rfl
theorem T_388_0 : hTab 388 0 = some ((3, 2, 1, []), 1) := rfl
theorem T_388_1 : hTab 388 1 = some ((1, 0, 28022, []), 4) := rfl
theorem T_388_4 : hTab 388 4 = some ((17, 0, 0, []), 5) := rfl
theorem T_388_5 : hTab 388 5 = some ((18, 1, Int.ofNat 72, []), 8) := rfl
theorem T_388_72 : hTab 388 72 = some ((3, 2, 1, []), 73) := rfl
theorem T_388_73 : hTab 388 73 = some ((1, 0, 1936292453, []), 76) := rfl
theorem T_388_76 : hTab 388 76 = some ((17, 0, 0, []), 77) := rfl
theorem T_388_77 : hTab 388 77 = some ((18, 1, Int.ofNat 154, []), 80) := rfl
theorem T_388_154 : hTab 388 154 = some ((3, 2, 1, []), 155) := rfl
theorem T_388_155 : hTab 388 155 = some ((1, 0, 426953764708, []), 158) := rfl
theorem T_388_158 : hTab 388 158 = some ((17, 0, 0, []), 159) := rfl
theorem T_388_159 : hTab 388 159 = some ((18, 1, Int.ofNat 168, []), 162) := rfl
theorem T_388_162 : hTab 388 162 = some ((3, 0, 2, []), 163) := rfl
theorem T_388_163 : hTab 388 163 = some ((3, 1, 0, []), 164) := rfl
theorem T_388_164 : hTab 388 164 = some ((31, 391, 0, []), 167) := rfl
theorem T_388_167 : hTab 388 167 = some ((33, 1, 0, []), 168) := rfl
theorem T_388_168 : hTab 388 168 = some ((3, 2, 1, []), 169) := rfl
theorem T_388_169 : hTab 388 169 = some ((1, 0, 1869636974, []), 172) := rfl
theorem T_388_172 : hTab 388 172 = some ((17, 0, 0, []), 173) := rfl
theorem T_388_173 : hTab 388 173 = some ((18, 1, Int.ofNat 182, []), 176) := rfl
theorem T_388_176 : hTab 388 176 = some ((3, 0, 2, []), 177) := rfl
theorem T_388_177 : hTab 388 177 = some ((3, 1, 0, []), 178) := rfl
theorem T_388_178 : hTab 388 178 = some ((31, 392, 0, []), 181) := rfl
theorem T_388_181 : hTab 388 181 = some ((33, 1, 0, []), 182) := rfl
theorem T_388_182 : hTab 388 182 = some ((3, 2, 1, []), 183) := rfl
theorem T_388_183 : hTab 388 183 = some ((1, 0, 1919246692, []), 186) := rfl
theorem T_388_186 : hTab 388 186 = some ((17, 0, 0, []), 187) := rfl
theorem T_388_187 : hTab 388 187 = some ((18, 1, Int.ofNat 196, []), 190) := rfl
theorem T_388_190 : hTab 388 190 = some ((3, 0, 2, []), 191) := rfl
theorem T_388_191 : hTab 388 191 = some ((3, 1, 0, []), 192) := rfl
theorem T_388_192 : hTab 388 192 = some ((31, 395, 0, []), 195) := rfl
theorem T_388_195 : hTab 388 195 = some ((33, 1, 0, []), 196) := rfl
theorem T_388_196 : hTab 388 196 = some ((3, 2, 1, []), 197) := rfl
theorem T_388_197 : hTab 388 197 = some ((1, 0, 513020621925, []), 200) := rfl
theorem T_388_200 : hTab 388 200 = some ((17, 0, 0, []), 201) := rfl
theorem T_388_201 : hTab 388 201 = some ((18, 1, Int.ofNat 210, []), 204) := rfl
theorem T_388_204 : hTab 388 204 = some ((3, 0, 2, []), 205) := rfl
theorem T_388_205 : hTab 388 205 = some ((3, 1, 0, []), 206) := rfl
theorem T_388_206 : hTab 388 206 = some ((31, 396, 0, []), 209) := rfl
theorem T_388_209 : hTab 388 209 = some ((33, 1, 0, []), 210) := rfl
theorem T_388_210 : hTab 388 210 = some ((3, 2, 1, []), 211) := rfl
theorem T_388_211 : hTab 388 211 = some ((1, 0, 1936024939, []), 214) := rfl
theorem T_388_214 : hTab 388 214 = some ((17, 0, 0, []), 215) := rfl
theorem T_388_215 : hTab 388 215 = some ((18, 1, Int.ofNat 290, []), 218) := rfl
theorem T_388_218 : hTab 388 218 = some ((3, 0, 2, []), 219) := rfl
theorem T_388_219 : hTab 388 219 = some ((0, 0, 1, []), 220) := rfl
theorem T_388_220 : hTab 388 220 = some ((0, 0, 7, []), 222) := rfl
theorem T_388_222 : hTab 388 222 = some ((31, 359, 0, []), 225) := rfl
theorem T_388_225 : hTab 388 225 = some ((4, 4, 0, []), 227) := rfl
theorem T_388_227 : hTab 388 227 = some ((3, 0, 2, []), 228) := rfl
theorem T_388_228 : hTab 388 228 = some ((0, 0, 2, []), 229) := rfl
theorem T_388_229 : hTab 388 229 = some ((0, 0, 10, []), 231) := rfl
theorem T_388_231 : hTab 388 231 = some ((0, 0, 4, []), 232) := rfl
theorem T_388_232 : hTab 388 232 = some ((31, 390, 0, []), 235) := rfl
theorem T_388_235 : hTab 388 235 = some ((4, 5, 0, []), 237) := rfl
theorem T_388_237 : hTab 388 237 = some ((3, 4, 0, []), 239) := rfl
theorem T_388_239 : hTab 388 239 = some ((18, 2, Int.ofNat 247, []), 242) := rfl
theorem T_388_242 : hTab 388 242 = some ((3, 5, 0, []), 244) := rfl
theorem T_388_244 : hTab 388 244 = some ((18, 3, Int.ofNat 250, []), 247) := rfl
theorem T_388_247 : hTab 388 247 = some ((0, 0, 18, []), 249) := rfl
theorem T_388_249 : hTab 388 249 = some ((33, 1, 0, []), 250) := rfl
theorem T_388_250 : hTab 388 250 = some ((3, 0, 2, []), 251) := rfl
theorem T_388_251 : hTab 388 251 = some ((24, 17, Int.ofNat 57, []), 254) := rfl
theorem T_388_254 : hTab 388 254 = some ((0, 0, 8, []), 256) := rfl
theorem T_388_256 : hTab 388 256 = some ((3, 1, 0, []), 257) := rfl
theorem T_388_257 : hTab 388 257 = some ((10, 2, 0, []), 258) := rfl
theorem T_388_258 : hTab 388 258 = some ((3, 4, 0, []), 260) := rfl
theorem T_388_260 : hTab 388 260 = some ((10, 0, 0, []), 261) := rfl
theorem T_388_261 : hTab 388 261 = some ((26, 0, 0, []), 262) := rfl
theorem T_388_262 : hTab 388 262 = some ((4, 6, 0, []), 264) := rfl
theorem T_388_264 : hTab 388 264 = some ((3, 6, 0, []), 266) := rfl
theorem T_388_266 : hTab 388 266 = some ((18, 2, Int.ofNat 278, []), 269) := rfl
theorem T_388_269 : hTab 388 269 = some ((3, 0, 2, []), 270) := rfl
theorem T_388_270 : hTab 388 270 = some ((24, 17, Int.ofNat 63, []), 273) := rfl
theorem T_388_273 : hTab 388 273 = some ((3, 6, 0, []), 275) := rfl
theorem T_388_275 : hTab 388 275 = some ((3, 5, 0, []), 277) := rfl
theorem T_388_277 : hTab 388 277 = some ((27, 0, 0, []), 278) := rfl
theorem T_388_278 : hTab 388 278 = some ((3, 6, 0, []), 280) := rfl
theorem T_388_280 : hTab 388 280 = some ((18, 3, Int.ofNat 288, []), 283) := rfl
theorem T_388_283 : hTab 388 283 = some ((0, 0, 19, []), 285) := rfl
theorem T_388_285 : hTab 388 285 = some ((22, 0, Int.ofNat 289, []), 288) := rfl
theorem T_388_288 : hTab 388 288 = some ((0, 0, 0, []), 289) := rfl
theorem T_388_289 : hTab 388 289 = some ((33, 1, 0, []), 290) := rfl
theorem T_388_290 : hTab 388 290 = some ((0, 0, 18, []), 292) := rfl
theorem T_388_292 : hTab 388 292 = some ((33, 1, 0, []), 293) := rfl
theorem mN_353 : hmN 353 = 2 := by decide +kernel
theorem mL_353 : hmL 353 = 4 := by decide +kernel
theorem mK_353 : hmK 353 = 1 := by decide +kernel
theorem mO_353 : hmO 353 = 17 := by decide +kernel
theorem mN_373 : hmN 373 = 3 := by decide +kernel
theorem mL_373 : hmL 373 = 5 := by decide +kernel
theorem mK_373 : hmK 373 = 1 := by decide +kernel
theorem mO_373 : hmO 373 = 17 := by decide +kernel
abbrev R3 : Type := Int × qR × List Ch
def cClo (P : qR) (p dd : Int) : R3 := if dd < 0 then (18, P, []) else if P 2327 (8 * p + dd) < 0 then (19, P, []) else (cClE P p dd, cClP P p dd, [])
def cSek (P : qR) (p dd n : Int) : R3 := if dd < 0 ∨ n < 0 then (18, P, []) else if P 2327 (8 * p + dd) < 0 then (19, P, []) else (0, rU P 2333 (P 2327 (8 * p + dd)) n, [])
def cOne (P : qR) (p : Int) (l : List Int) (v : Int) : R3 := if v = 25444 then cCd P p (lnB l 1) else if v = 6513012 then ((cCat P (-1) p (lnB l 1)).1, (cCat P (-1) p (lnB l 1)).2.1, (cCat P (-1) p (lnB l 1)).2.2.1) else if v = 27763 then cLs P p (lnB l 1) else if v = 469953177970 then kCreate P p (lnB l 1) 2147484159 0 else if v = 29293 then cRm P p (lnB l 1) else if v = 1937006964 then cStat P p (lnB l 1) else if v = 427021005669 then cClo P p (dgV (lnB l 1) 7) else if v = 1718579819 then cFork P p (lnB l 1) else (18, P, [])
def cTwo (P : qR) (p : Int) (l : List Int) (v : Int) : R3 := if v = 28022 then cMv P p (lnB l 1) (lnB l 2) else if v = 1936292453 then cSize P p (lnB l 1) (lnB l 2) else if v = 426953764708 then cChm P p (lnB l 1) (lnB l 2) else if v = 1869636974 then cOpen P p (dgV (lnB l 2) 2) (lnB l 1) else if v = 1919246692 then ((cRead P p (dgV (lnB l 1) 7) (nmN (lnB l 2) 10 4)).1, (cRead P p (dgV (lnB l 1) 7) (nmN (lnB l 2) 10 4)).2, []) else if v = 513020621925 then ((cWrt P p (dgV (lnB l 1) 7) (lnB l 2)).1, (cWrt P p (dgV (lnB l 1) 7) (lnB l 2)).2, []) else if v = 1936024939 then cSek P p (dgV (lnB l 1) 7) (nmN (lnB l 2) 10 4) else (18, P, [])
def cCmd (P : qR) (p : Int) (l : List Int) : R3 := if pkW (lnB l 0) = 1701013615 then cEcho P p l else if pkW (lnB l 0) = 1651076708 ∧ (3 ≤ ((lnW l).length : Int) ∧ ((lnW l).length : Int) ≤ 4) then cBnd P p 0 l else if pkW (lnB l 0) = 470021402228 ∧ (3 ≤ ((lnW l).length : Int) ∧ ((lnW l).length : Int) ≤ 4) then cBnd P p 1 l else if pkW (lnB l 0) = 33053988575604340 ∧ (2 ≤ ((lnW l).length : Int) ∧ ((lnW l).length : Int) ≤ 3) then cUnm P p l else if pkW (lnB l 0) = 7562612 ∧ (2 ≤ ((lnW l).length : Int) ∧ ((lnW l).length : Int) ≤ 3) then ((cSet P p l).1, (cSet P p l).2, []) else if ((lnW l).length : Int) = 1 ∧ pkW (lnB l 0) = 1702390132 then (0, rU P 2321 p 1, []) else if ((lnW l).length : Int) = 2 then cOne P p l (pkW (lnB l 0)) else if ((lnW l).length : Int) = 3 then cTwo P p l (pkW (lnB l 0)) else if ((lnW l).length : Int) = 4 ∧ pkW (lnB l 0) = 109342978307173 then cCrt P p (nmN (lnB l 1) 8 3) (dgV (lnB l 3) 2) (lnB l 2) else (18, P, [])
/-- scripts stay -/
def XC (S S1 : qR) : Prop := SX scC scN S S1 ∧ (∀ j : Int, 0 ≤ j → S1 2371 j = S 2371 j) ∧ ∀ j : Int, 0 ≤ j → S1 2370 j = S 2370 j
abbrev KD (T U : Int) (σ0 : hM) (S : qR) (l : List Int) (e : Int) (P1 : qR) (h : List Ch) : Option AV → hM → Prop := fun r σ' => ∃ S2 : qR, r = some (vI e) ∧ PM σ0 P1 S2 σ' ∧ KS T U P1 S2 l h ∧ XC S S2
section MCOM
variable {fb : Bool} {d : Nat} {σ0 σ : hM} {P Q R S S1 S2 : qR} {T U T1 U1 s w g u p k e t z o n N v : Int} {l : List Int} {h : List Ch} {r : Option AV} {σ1 : hM} {P1 : qR}
theorem XC_sc (hX : SX scR scN S S1) : XC S S1 := ⟨hX.mono (fun _ => elem_sub (by decide)) (fun _ => elem_sub (by decide)), fun j _ => hX.2 _ _ rfl rfl, fun j _ => hX.2 _ _ rfl rfl⟩
theorem XC_tr (h1 : XC S S1) (h2 : XC S1 S2) : XC S S2 := ⟨SX_tr h1.1 h2.1, fun j a => (h2.2.1 j a).trans (h1.2.1 j a), fun j a => (h2.2.2 j a).trans (h1.2.2 j a)⟩
theorem XC_so {A : List Int} (h : SO (-1) S S1 A) : XC S S1 := ⟨h.1, fun j a => (h.2.1 j (by omega)).1, fun j a => by
  have := (h.2.1 (j / 600) (by omega)).2 (j % 600) (by omega) (by omega)
  rw [show 600 * (j / 600) + j % 600 = j by omega] at this
  exact this⟩
theorem KC_KD (hT : T ≤ T1) (hU : U ≤ U1) (hr : KC T U σ0 S l e P1 h r σ1) : KD T1 U1 σ0 S l e P1 h r σ1 := by
  obtain ⟨S2, a1, a2, a3, a4⟩ := hr
  exact ⟨S2, a1, a2, (a3.mono hT).monoU hU, XC_sc a4⟩

theorem nmN_rng {wd : List Int} : -1 ≤ nmN wd 10 4 ∧ nmN wd 10 4 ≤ 9999 := by
  unfold nmN
  split
  · rename_i q
    have h := nmV_rng (base := 10) (by decide) wd 0 1 (by decide) (by decide)
    have hl : wd.length = 0 ∨ wd.length = 1 ∨ wd.length = 2 ∨ wd.length = 3 ∨ wd.length = 4 := by omega
    rcases hl with e | e | e | e | e <;> rw [e] at h <;> have h2 := h.2 <;> simp at h2 <;> omega
  · decide
theorem k_create {perm mode : Int} (hP : PM σ0 P S σ) (hK : KS T U P S l []) (hp : 0 ≤ p ∧ p < 8) (hT : T + 800 ≤ 2147483000) (hw : 0 ≤ w ∧ w < ((lnW l).length : Int)) : CL fb (d + 15) 355 [vR (some 2281), vI p, vI w, vL perm, vI mode] σ (KC (T + 320) U σ0 S l (kCreate P p (lnB l w) perm mode).1 (kCreate P p (lnB l w) perm mode).2.1 (kCreate P p (lnB l w) perm mode).2.2) := by
  obtain ⟨hGI, hPT, hJ, hh, hL⟩ := hK
  obtain ⟨b, b2, w1, w2, w3, w4, w5, w6, w7, w8⟩ := hL.word hw
  have hn := (lnW_ok hL.2.1).2
  have hco := kCreate_ok (wd := lnB l w) (perm := perm) (mode := mode) hGI.iv hPT hp
  refine CL.mono (m_create (fb := fb) (d := d) (perm := perm) (mode := mode) (w := w) hP hJ hGI hPT hp hT hh (by decide) ⟨hw.1, by omega⟩ w1 w2 ⟨w3, w4, w6⟩ w8) (fun r σ1 hr => ?_)
  exact KX_KC hL (hPT.of hco.1) hr
theorem m_one (hP : PM σ0 P S σ) (hK : KS T U P S l []) (hGO : GO P) (hp : 0 ≤ p ∧ p < 8) (hlv : ¬ P 2320 p = 0) (hO : v = 27763 → lsOk P p (lnB l 1)) (hT : T + 3000 ≤ 2147483000) (hU : 0 ≤ U) (hw : ((lnW l).length : Int) = 2) : CL fb (d + 17) 373 [vR (some 2281), vI p, vL v] σ (KD (T + 2708) (U + 400) σ0 S l (cOne P p l v).1 (cOne P p l v).2.1 (cOne P p l v).2.2) := by
  have hw1 : 1 < ((lnW l).length : Int) := by omega
  unfold cOne
  by_cases q : v = 25444
  · rw [if_pos q]
    have hc := fun (σ : hM) (hP : PM σ0 P S σ) => CL.mono (m_cd (fb := fb) (d := d) hP hK hp (by omega) hw1) (fun r σ1 hr => KC_KD (T1 := T + 2708) (U1 := U + 400) (by omega) (by omega) hr)
    refine CL_in mL_373 rfl ?_
    show WP fb _ 373 0 [some (vR (some 2281)), some (vI p), some (vL v), none, none] [] σ _
    refine x_ll (z := v) T_373_0 rfl ?_
    refine x_lc T_373_1 ?_
    refine x_lif T_373_4 T_373_5 (fun h => absurd (show ¬ v = 25444 from h) (by omega)) (fun _ => ?_)
    refine x_lr (z := some 2281) T_373_8 rfl ?_
    refine x_li (z := p) T_373_9 rfl ?_
    refine x_cv2 T_373_10 mN_374 mL_374 (Nat.le_of_ble_eq_true rfl) mO_374 (PM.t hP) (Nat.le_of_ble_eq_true rfl) (hc σ hP) ?_
    intro r σ hr
    obtain ⟨S2, rfl, hP, hK2, hX2⟩ := hr
    refine cI ?_
    refine x_ri T_373_13 ?_
    exact ⟨S2, rfl, hP, hK2, hX2⟩
  rw [if_neg q]
  have q0 := q
  clear q
  by_cases q : v = 6513012
  · rw [if_pos q]
    have hc : ∀ σ : hM, PM σ0 P S σ → CL fb (d + 16) 326 [vR (some 2281), vI p, vI (-1)] σ (KD (T + 2708) (U + 400) σ0 S l (cCat P (-1) p (lnB l 1)).1 (cCat P (-1) p (lnB l 1)).2.1 (cCat P (-1) p (lnB l 1)).2.2.1) := fun σ hP => CL.mono (m_cat (fb := fb) (d := d) (fr := -1) hP hK hp (by decide) (by omega) hw1) (fun r σ1 hr => by
      obtain ⟨S2, a1, a2, a3, a4⟩ := hr
      exact ⟨S2, a1, a2, a3.monoU (by omega), XC_so a4⟩)
    refine CL_in mL_373 rfl ?_
    show WP fb _ 373 0 [some (vR (some 2281)), some (vI p), some (vL v), none, none] [] σ _
    refine x_ll (z := v) T_373_0 rfl ?_
    refine x_lc T_373_1 ?_
    refine x_lif T_373_4 T_373_5 (fun _ => ?_) (fun h => absurd (show ¬ v = 25444 by omega) h)
    refine x_ll (z := v) T_373_14 rfl ?_
    refine x_lc T_373_15 ?_
    refine x_lif T_373_18 T_373_19 (fun h => absurd (show ¬ v = 6513012 from h) (by omega)) (fun _ => ?_)
    refine x_lr (z := some 2281) T_373_22 rfl ?_
    refine x_li (z := p) T_373_23 rfl ?_
    refine x_ic T_373_24 ?_
    refine x_cv3 T_373_25 mN_326 mL_326 (Nat.le_of_ble_eq_true rfl) mO_326 (PM.t hP) (Nat.le_of_ble_eq_true rfl) (hc σ hP) ?_
    intro r σ hr
    obtain ⟨S2, rfl, hP, hK2, hX2⟩ := hr
    refine cI ?_
    refine x_ri T_373_28 ?_
    exact ⟨S2, rfl, hP, hK2, hX2⟩
  rw [if_neg q]
  have q1 := q
  clear q
  by_cases q : v = 27763
  · rw [if_pos q]
    have hc := fun (σ : hM) (hP : PM σ0 P S σ) => CL.mono (m_ls (fb := fb) (d := d) hP hK hp (hO q) (by omega) hw1) (fun r σ1 hr => KC_KD (T1 := T + 2708) (U1 := U + 400) (by omega) (by omega) hr)
    refine CL_in mL_373 rfl ?_
    show WP fb _ 373 0 [some (vR (some 2281)), some (vI p), some (vL v), none, none] [] σ _
    refine x_ll (z := v) T_373_0 rfl ?_
    refine x_lc T_373_1 ?_
    refine x_lif T_373_4 T_373_5 (fun _ => ?_) (fun h => absurd (show ¬ v = 25444 by omega) h)
    refine x_ll (z := v) T_373_14 rfl ?_
    refine x_lc T_373_15 ?_
    refine x_lif T_373_18 T_373_19 (fun _ => ?_) (fun h => absurd (show ¬ v = 6513012 by omega) h)
    refine x_ll (z := v) T_373_29 rfl ?_
    refine x_lc T_373_30 ?_
    refine x_lif T_373_33 T_373_34 (fun h => absurd (show ¬ v = 27763 from h) (by omega)) (fun _ => ?_)
    refine x_lr (z := some 2281) T_373_37 rfl ?_
    refine x_li (z := p) T_373_38 rfl ?_
    refine x_cv2 T_373_39 mN_375 mL_375 (Nat.le_of_ble_eq_true rfl) mO_375 (PM.t hP) (Nat.le_of_ble_eq_true rfl) (hc σ hP) ?_
    intro r σ hr
    obtain ⟨S2, rfl, hP, hK2, hX2⟩ := hr
    refine cI ?_
    refine x_ri T_373_42 ?_
    exact ⟨S2, rfl, hP, hK2, hX2⟩
  rw [if_neg q]
  have q2 := q
  clear q
  by_cases q : v = 469953177970
  · rw [if_pos q]
    have hc := fun (σ : hM) (hP : PM σ0 P S σ) => CL.mono (k_create (fb := fb) (d := d + 1) (w := 1) (perm := 2147484159) (mode := 0) hP hK hp (by omega) ⟨by decide, hw1⟩) (fun r σ1 hr => KC_KD (T1 := T + 2708) (U1 := U + 400) (by omega) (by omega) hr)
    refine CL_in mL_373 rfl ?_
    show WP fb _ 373 0 [some (vR (some 2281)), some (vI p), some (vL v), none, none] [] σ _
    refine x_ll (z := v) T_373_0 rfl ?_
    refine x_lc T_373_1 ?_
    refine x_lif T_373_4 T_373_5 (fun _ => ?_) (fun h => absurd (show ¬ v = 25444 by omega) h)
    refine x_ll (z := v) T_373_14 rfl ?_
    refine x_lc T_373_15 ?_
    refine x_lif T_373_18 T_373_19 (fun _ => ?_) (fun h => absurd (show ¬ v = 6513012 by omega) h)
    refine x_ll (z := v) T_373_29 rfl ?_
    refine x_lc T_373_30 ?_
    refine x_lif T_373_33 T_373_34 (fun _ => ?_) (fun h => absurd (show ¬ v = 27763 by omega) h)
    refine x_ll (z := v) T_373_43 rfl ?_
    refine x_lc T_373_44 ?_
    refine x_lif T_373_47 T_373_48 (fun h => absurd (show ¬ v = 469953177970 from h) (by omega)) (fun _ => ?_)
    refine x_lr (z := some 2281) T_373_51 rfl ?_
    refine x_li (z := p) T_373_52 rfl ?_
    refine x_ic T_373_53 ?_
    refine x_lc T_373_54 ?_
    refine x_ic T_373_57 ?_
    refine x_cv5 T_373_58 mN_355 mL_355 (Nat.le_of_ble_eq_true rfl) mO_355 (PM.t hP) (Nat.le_of_ble_eq_true rfl) (hc σ hP) ?_
    intro r σ hr
    obtain ⟨S2, rfl, hP, hK2, hX2⟩ := hr
    refine cI ?_
    refine x_ri T_373_61 ?_
    exact ⟨S2, rfl, hP, hK2, hX2⟩
  rw [if_neg q]
  have q3 := q
  clear q
  by_cases q : v = 29293
  · rw [if_pos q]
    have hc := fun (σ : hM) (hP : PM σ0 P S σ) => CL.mono (m_rm (fb := fb) (d := d) hP hK hp (by omega) hw1) (fun r σ1 hr => KC_KD (T1 := T + 2708) (U1 := U + 400) (by omega) (by omega) hr)
    refine CL_in mL_373 rfl ?_
    show WP fb _ 373 0 [some (vR (some 2281)), some (vI p), some (vL v), none, none] [] σ _
    refine x_ll (z := v) T_373_0 rfl ?_
    refine x_lc T_373_1 ?_
    refine x_lif T_373_4 T_373_5 (fun _ => ?_) (fun h => absurd (show ¬ v = 25444 by omega) h)
    refine x_ll (z := v) T_373_14 rfl ?_
    refine x_lc T_373_15 ?_
    refine x_lif T_373_18 T_373_19 (fun _ => ?_) (fun h => absurd (show ¬ v = 6513012 by omega) h)
    refine x_ll (z := v) T_373_29 rfl ?_
    refine x_lc T_373_30 ?_
    refine x_lif T_373_33 T_373_34 (fun _ => ?_) (fun h => absurd (show ¬ v = 27763 by omega) h)
    refine x_ll (z := v) T_373_43 rfl ?_
    refine x_lc T_373_44 ?_
    refine x_lif T_373_47 T_373_48 (fun _ => ?_) (fun h => absurd (show ¬ v = 469953177970 by omega) h)
    refine x_ll (z := v) T_373_62 rfl ?_
    refine x_lc T_373_63 ?_
    refine x_lif T_373_66 T_373_67 (fun h => absurd (show ¬ v = 29293 from h) (by omega)) (fun _ => ?_)
    refine x_lr (z := some 2281) T_373_70 rfl ?_
    refine x_li (z := p) T_373_71 rfl ?_
    refine x_cv2 T_373_72 mN_377 mL_377 (Nat.le_of_ble_eq_true rfl) mO_377 (PM.t hP) (Nat.le_of_ble_eq_true rfl) (hc σ hP) ?_
    intro r σ hr
    obtain ⟨S2, rfl, hP, hK2, hX2⟩ := hr
    refine cI ?_
    refine x_ri T_373_75 ?_
    exact ⟨S2, rfl, hP, hK2, hX2⟩
  rw [if_neg q]
  have q4 := q
  clear q
  by_cases q : v = 1937006964
  · rw [if_pos q]
    have hc := fun (σ : hM) (hP : PM σ0 P S σ) => CL.mono (m_stat (fb := fb) (d := d) hP hK hp (by omega) hw1) (fun r σ1 hr => KC_KD (T1 := T + 2708) (U1 := U + 400) (by omega) (by omega) hr)
    refine CL_in mL_373 rfl ?_
    show WP fb _ 373 0 [some (vR (some 2281)), some (vI p), some (vL v), none, none] [] σ _
    refine x_ll (z := v) T_373_0 rfl ?_
    refine x_lc T_373_1 ?_
    refine x_lif T_373_4 T_373_5 (fun _ => ?_) (fun h => absurd (show ¬ v = 25444 by omega) h)
    refine x_ll (z := v) T_373_14 rfl ?_
    refine x_lc T_373_15 ?_
    refine x_lif T_373_18 T_373_19 (fun _ => ?_) (fun h => absurd (show ¬ v = 6513012 by omega) h)
    refine x_ll (z := v) T_373_29 rfl ?_
    refine x_lc T_373_30 ?_
    refine x_lif T_373_33 T_373_34 (fun _ => ?_) (fun h => absurd (show ¬ v = 27763 by omega) h)
    refine x_ll (z := v) T_373_43 rfl ?_
    refine x_lc T_373_44 ?_
    refine x_lif T_373_47 T_373_48 (fun _ => ?_) (fun h => absurd (show ¬ v = 469953177970 by omega) h)
    refine x_ll (z := v) T_373_62 rfl ?_
    refine x_lc T_373_63 ?_
    refine x_lif T_373_66 T_373_67 (fun _ => ?_) (fun h => absurd (show ¬ v = 29293 by omega) h)
    refine x_ll (z := v) T_373_76 rfl ?_
    refine x_lc T_373_77 ?_
    refine x_lif T_373_80 T_373_81 (fun h => absurd (show ¬ v = 1937006964 from h) (by omega)) (fun _ => ?_)
    refine x_lr (z := some 2281) T_373_84 rfl ?_
    refine x_li (z := p) T_373_85 rfl ?_
    refine x_cv2 T_373_86 mN_378 mL_378 (Nat.le_of_ble_eq_true rfl) mO_378 (PM.t hP) (Nat.le_of_ble_eq_true rfl) (hc σ hP) ?_
    intro r σ hr
    obtain ⟨S2, rfl, hP, hK2, hX2⟩ := hr
    refine cI ?_
    refine x_ri T_373_89 ?_
    exact ⟨S2, rfl, hP, hK2, hX2⟩
  rw [if_neg q]
  have q5 := q
  clear q
  by_cases q : v = 427021005669
  · rw [if_pos q]
    unfold cClo
    have hdg := m_digit (fb := fb) (d := d + 15) (w := 1) (most := 7) hP hK.2.2.2.2 ⟨by decide, hw1⟩ (by decide)
    have hdr : dgV (lnB l 1) 7 = -1 ∨ (0 ≤ dgV (lnB l 1) 7 ∧ dgV (lnB l 1) 7 ≤ 7) := by
      unfold dgV
      split
      · omega
      · exact Or.inl rfl
    obtain ⟨dd, hdd⟩ : ∃ dd, dgV (lnB l 1) 7 = dd := ⟨_, rfl⟩
    rw [hdd] at hdg hdr ⊢
    by_cases q1 : dd < 0
    · rw [if_pos q1]
      refine CL_in mL_373 rfl ?_
      show WP fb _ 373 0 [some (vR (some 2281)), some (vI p), some (vL v), none, none] [] σ _
      refine x_ll (z := v) T_373_0 rfl ?_
      refine x_lc T_373_1 ?_
      refine x_lif T_373_4 T_373_5 (fun _ => ?_) (fun h => absurd (show ¬ v = 25444 by omega) h)
      refine x_ll (z := v) T_373_14 rfl ?_
      refine x_lc T_373_15 ?_
      refine x_lif T_373_18 T_373_19 (fun _ => ?_) (fun h => absurd (show ¬ v = 6513012 by omega) h)
      refine x_ll (z := v) T_373_29 rfl ?_
      refine x_lc T_373_30 ?_
      refine x_lif T_373_33 T_373_34 (fun _ => ?_) (fun h => absurd (show ¬ v = 27763 by omega) h)
      refine x_ll (z := v) T_373_43 rfl ?_
      refine x_lc T_373_44 ?_
      refine x_lif T_373_47 T_373_48 (fun _ => ?_) (fun h => absurd (show ¬ v = 469953177970 by omega) h)
      refine x_ll (z := v) T_373_62 rfl ?_
      refine x_lc T_373_63 ?_
      refine x_lif T_373_66 T_373_67 (fun _ => ?_) (fun h => absurd (show ¬ v = 29293 by omega) h)
      refine x_ll (z := v) T_373_76 rfl ?_
      refine x_lc T_373_77 ?_
      refine x_lif T_373_80 T_373_81 (fun _ => ?_) (fun h => absurd (show ¬ v = 1937006964 by omega) h)
      refine x_ll (z := v) T_373_90 rfl ?_
      refine x_lc T_373_91 ?_
      refine x_lif T_373_94 T_373_95 (fun h => absurd (show ¬ v = 427021005669 from h) (by omega)) (fun _ => ?_)
      refine x_lr (z := some 2281) T_373_98 rfl ?_
      refine x_ic T_373_99 ?_
      refine x_ic T_373_100 ?_
      refine x_cv3 T_373_102 mN_359 mL_359 (Nat.le_of_ble_eq_true rfl) mO_359 (PM.t hP) (Nat.le_of_ble_eq_true rfl) (hdg) ?_
      rintro _ σ ⟨rfl, rfl⟩
      refine cI ?_
      refine x_si (ls1 := [some (vR (some 2281)), some (vI p), some (vL v), none, some (vI dd)]) T_373_105 rfl ?_
      refine x_li (z := dd) T_373_107 rfl ?_
      refine x_if T_373_109 (fun h => absurd (show 0 ≤ dd from h) (by omega)) (fun _ => ?_)
      refine x_ic T_373_112 ?_
      refine x_goto T_373_114 ?_
      refine x_ri T_373_144 ?_
      exact ⟨S, rfl, hP, (hK.mono (by omega)).monoU (by omega), XC_sc SX_rfl⟩
    rw [if_neg q1]
    obtain ⟨o, ho⟩ : ∃ o, P 2327 (8 * p + dd) = o := ⟨_, rfl⟩
    by_cases q2 : o < 0
    · rw [if_pos (by rw [ho]; exact q2)]
      refine CL_in mL_373 rfl ?_
      show WP fb _ 373 0 [some (vR (some 2281)), some (vI p), some (vL v), none, none] [] σ _
      refine x_ll (z := v) T_373_0 rfl ?_
      refine x_lc T_373_1 ?_
      refine x_lif T_373_4 T_373_5 (fun _ => ?_) (fun h => absurd (show ¬ v = 25444 by omega) h)
      refine x_ll (z := v) T_373_14 rfl ?_
      refine x_lc T_373_15 ?_
      refine x_lif T_373_18 T_373_19 (fun _ => ?_) (fun h => absurd (show ¬ v = 6513012 by omega) h)
      refine x_ll (z := v) T_373_29 rfl ?_
      refine x_lc T_373_30 ?_
      refine x_lif T_373_33 T_373_34 (fun _ => ?_) (fun h => absurd (show ¬ v = 27763 by omega) h)
      refine x_ll (z := v) T_373_43 rfl ?_
      refine x_lc T_373_44 ?_
      refine x_lif T_373_47 T_373_48 (fun _ => ?_) (fun h => absurd (show ¬ v = 469953177970 by omega) h)
      refine x_ll (z := v) T_373_62 rfl ?_
      refine x_lc T_373_63 ?_
      refine x_lif T_373_66 T_373_67 (fun _ => ?_) (fun h => absurd (show ¬ v = 29293 by omega) h)
      refine x_ll (z := v) T_373_76 rfl ?_
      refine x_lc T_373_77 ?_
      refine x_lif T_373_80 T_373_81 (fun _ => ?_) (fun h => absurd (show ¬ v = 1937006964 by omega) h)
      refine x_ll (z := v) T_373_90 rfl ?_
      refine x_lc T_373_91 ?_
      refine x_lif T_373_94 T_373_95 (fun h => absurd (show ¬ v = 427021005669 from h) (by omega)) (fun _ => ?_)
      refine x_lr (z := some 2281) T_373_98 rfl ?_
      refine x_ic T_373_99 ?_
      refine x_ic T_373_100 ?_
      refine x_cv3 T_373_102 mN_359 mL_359 (Nat.le_of_ble_eq_true rfl) mO_359 (PM.t hP) (Nat.le_of_ble_eq_true rfl) (hdg) ?_
      rintro _ σ ⟨rfl, rfl⟩
      refine cI ?_
      refine x_si (ls1 := [some (vR (some 2281)), some (vI p), some (vL v), none, some (vI dd)]) T_373_105 rfl ?_
      refine x_li (z := dd) T_373_107 rfl ?_
      refine x_if T_373_109 (fun _ => ?_) (fun h => absurd (show 0 ≤ dd by omega) h)
      refine x_lr (z := some 2281) T_373_117 rfl ?_
      refine x_gR (z := some 2327) T_373_118 F_17_57 (PM.t hP) (PM.r hP 57 2327 rfl) ?_
      refine x_ic T_373_121 ?_
      refine x_li (z := p) T_373_123 rfl ?_
      refine x_ib (w := (8 * p)) T_373_124 (fun h => absurd h.1 (by decide)) (w32_id (by omega) (by omega)) ?_
      refine x_li (z := dd) T_373_125 rfl ?_
      refine x_ib (w := ((8 * p) + dd)) T_373_127 (fun h => absurd h.1 (by decide)) (w32_id (by omega) (by omega)) ?_
      refine x_alI (z := o) T_373_128 (by decide) (PM.ta hP 2327 0 64 rfl rfl) (by omega) (by omega) (Eq.trans (PM.aP hP 2327 rfl rfl (by omega)) ho) ?_
      refine x_if T_373_129 (fun h => absurd (show 0 ≤ o from h) (by omega)) (fun _ => ?_)
      refine x_ic T_373_132 ?_
      refine x_goto T_373_134 ?_
      refine x_ri T_373_144 ?_
      exact ⟨S, rfl, hP, (hK.mono (by omega)).monoU (by omega), XC_sc SX_rfl⟩
    rw [if_neg (by rw [ho]; exact q2)]
    have hcl := m_close (fb := fb) (d := d + 4) (k := dd) hP hK hp (by omega) (by omega) (by rw [ho]; omega)
    refine CL_in mL_373 rfl ?_
    show WP fb _ 373 0 [some (vR (some 2281)), some (vI p), some (vL v), none, none] [] σ _
    refine x_ll (z := v) T_373_0 rfl ?_
    refine x_lc T_373_1 ?_
    refine x_lif T_373_4 T_373_5 (fun _ => ?_) (fun h => absurd (show ¬ v = 25444 by omega) h)
    refine x_ll (z := v) T_373_14 rfl ?_
    refine x_lc T_373_15 ?_
    refine x_lif T_373_18 T_373_19 (fun _ => ?_) (fun h => absurd (show ¬ v = 6513012 by omega) h)
    refine x_ll (z := v) T_373_29 rfl ?_
    refine x_lc T_373_30 ?_
    refine x_lif T_373_33 T_373_34 (fun _ => ?_) (fun h => absurd (show ¬ v = 27763 by omega) h)
    refine x_ll (z := v) T_373_43 rfl ?_
    refine x_lc T_373_44 ?_
    refine x_lif T_373_47 T_373_48 (fun _ => ?_) (fun h => absurd (show ¬ v = 469953177970 by omega) h)
    refine x_ll (z := v) T_373_62 rfl ?_
    refine x_lc T_373_63 ?_
    refine x_lif T_373_66 T_373_67 (fun _ => ?_) (fun h => absurd (show ¬ v = 29293 by omega) h)
    refine x_ll (z := v) T_373_76 rfl ?_
    refine x_lc T_373_77 ?_
    refine x_lif T_373_80 T_373_81 (fun _ => ?_) (fun h => absurd (show ¬ v = 1937006964 by omega) h)
    refine x_ll (z := v) T_373_90 rfl ?_
    refine x_lc T_373_91 ?_
    refine x_lif T_373_94 T_373_95 (fun h => absurd (show ¬ v = 427021005669 from h) (by omega)) (fun _ => ?_)
    refine x_lr (z := some 2281) T_373_98 rfl ?_
    refine x_ic T_373_99 ?_
    refine x_ic T_373_100 ?_
    refine x_cv3 T_373_102 mN_359 mL_359 (Nat.le_of_ble_eq_true rfl) mO_359 (PM.t hP) (Nat.le_of_ble_eq_true rfl) (hdg) ?_
    rintro _ σ ⟨rfl, rfl⟩
    refine cI ?_
    refine x_si (ls1 := [some (vR (some 2281)), some (vI p), some (vL v), none, some (vI dd)]) T_373_105 rfl ?_
    refine x_li (z := dd) T_373_107 rfl ?_
    refine x_if T_373_109 (fun _ => ?_) (fun h => absurd (show 0 ≤ dd by omega) h)
    refine x_lr (z := some 2281) T_373_117 rfl ?_
    refine x_gR (z := some 2327) T_373_118 F_17_57 (PM.t hP) (PM.r hP 57 2327 rfl) ?_
    refine x_ic T_373_121 ?_
    refine x_li (z := p) T_373_123 rfl ?_
    refine x_ib (w := (8 * p)) T_373_124 (fun h => absurd h.1 (by decide)) (w32_id (by omega) (by omega)) ?_
    refine x_li (z := dd) T_373_125 rfl ?_
    refine x_ib (w := ((8 * p) + dd)) T_373_127 (fun h => absurd h.1 (by decide)) (w32_id (by omega) (by omega)) ?_
    refine x_alI (z := o) T_373_128 (by decide) (PM.ta hP 2327 0 64 rfl rfl) (by omega) (by omega) (Eq.trans (PM.aP hP 2327 rfl rfl (by omega)) ho) ?_
    refine x_if T_373_129 (fun _ => ?_) (fun h => absurd (show 0 ≤ o by omega) h)
    refine x_lr (z := some 2281) T_373_137 rfl ?_
    refine x_li (z := p) T_373_138 rfl ?_
    refine x_li (z := dd) T_373_139 rfl ?_
    refine x_cv3 T_373_141 mN_380 mL_380 (Nat.le_of_ble_eq_true rfl) mO_380 (PM.t hP) (Nat.le_of_ble_eq_true rfl) (hcl) ?_
    clear hP hcl
    rintro _ σ ⟨S2, rfl, hP, hK2, hX2⟩
    refine cI ?_
    refine x_ri T_373_144 ?_
    exact ⟨S2, rfl, hP, (hK2.mono (by omega)).monoU (by omega), XC_sc hX2⟩
  rw [if_neg q]
  have q6 := q
  clear q
  by_cases q : v = 1718579819
  · rw [if_pos q]
    have hc := fun (σ : hM) (hP : PM σ0 P S σ) => CL.mono (m_fork (fb := fb) (d := d + 3) hP hK hp hlv hw1 (by omega)) (fun r σ1 hr => KC_KD (T1 := T + 2708) (U1 := U + 400) (by omega) (by omega) hr)
    refine CL_in mL_373 rfl ?_
    show WP fb _ 373 0 [some (vR (some 2281)), some (vI p), some (vL v), none, none] [] σ _
    refine x_ll (z := v) T_373_0 rfl ?_
    refine x_lc T_373_1 ?_
    refine x_lif T_373_4 T_373_5 (fun _ => ?_) (fun h => absurd (show ¬ v = 25444 by omega) h)
    refine x_ll (z := v) T_373_14 rfl ?_
    refine x_lc T_373_15 ?_
    refine x_lif T_373_18 T_373_19 (fun _ => ?_) (fun h => absurd (show ¬ v = 6513012 by omega) h)
    refine x_ll (z := v) T_373_29 rfl ?_
    refine x_lc T_373_30 ?_
    refine x_lif T_373_33 T_373_34 (fun _ => ?_) (fun h => absurd (show ¬ v = 27763 by omega) h)
    refine x_ll (z := v) T_373_43 rfl ?_
    refine x_lc T_373_44 ?_
    refine x_lif T_373_47 T_373_48 (fun _ => ?_) (fun h => absurd (show ¬ v = 469953177970 by omega) h)
    refine x_ll (z := v) T_373_62 rfl ?_
    refine x_lc T_373_63 ?_
    refine x_lif T_373_66 T_373_67 (fun _ => ?_) (fun h => absurd (show ¬ v = 29293 by omega) h)
    refine x_ll (z := v) T_373_76 rfl ?_
    refine x_lc T_373_77 ?_
    refine x_lif T_373_80 T_373_81 (fun _ => ?_) (fun h => absurd (show ¬ v = 1937006964 by omega) h)
    refine x_ll (z := v) T_373_90 rfl ?_
    refine x_lc T_373_91 ?_
    refine x_lif T_373_94 T_373_95 (fun _ => ?_) (fun h => absurd (show ¬ v = 427021005669 by omega) h)
    refine x_ll (z := v) T_373_145 rfl ?_
    refine x_lc T_373_146 ?_
    refine x_lif T_373_149 T_373_150 (fun h => absurd (show ¬ v = 1718579819 from h) (by omega)) (fun _ => ?_)
    refine x_lr (z := some 2281) T_373_153 rfl ?_
    refine x_li (z := p) T_373_154 rfl ?_
    refine x_cv2 T_373_155 mN_382 mL_382 (Nat.le_of_ble_eq_true rfl) mO_382 (PM.t hP) (Nat.le_of_ble_eq_true rfl) (hc σ hP) ?_
    intro r σ hr
    obtain ⟨S2, rfl, hP, hK2, hX2⟩ := hr
    refine cI ?_
    refine x_goto T_373_158 ?_
    refine x_ri T_373_163 ?_
    exact ⟨S2, rfl, hP, hK2, hX2⟩
  rw [if_neg q]
  have q7 := q
  clear q
  refine CL_in mL_373 rfl ?_
  show WP fb _ 373 0 [some (vR (some 2281)), some (vI p), some (vL v), none, none] [] σ _
  refine x_ll (z := v) T_373_0 rfl ?_
  refine x_lc T_373_1 ?_
  refine x_lif T_373_4 T_373_5 (fun _ => ?_) (fun h => absurd (show ¬ v = 25444 by omega) h)
  refine x_ll (z := v) T_373_14 rfl ?_
  refine x_lc T_373_15 ?_
  refine x_lif T_373_18 T_373_19 (fun _ => ?_) (fun h => absurd (show ¬ v = 6513012 by omega) h)
  refine x_ll (z := v) T_373_29 rfl ?_
  refine x_lc T_373_30 ?_
  refine x_lif T_373_33 T_373_34 (fun _ => ?_) (fun h => absurd (show ¬ v = 27763 by omega) h)
  refine x_ll (z := v) T_373_43 rfl ?_
  refine x_lc T_373_44 ?_
  refine x_lif T_373_47 T_373_48 (fun _ => ?_) (fun h => absurd (show ¬ v = 469953177970 by omega) h)
  refine x_ll (z := v) T_373_62 rfl ?_
  refine x_lc T_373_63 ?_
  refine x_lif T_373_66 T_373_67 (fun _ => ?_) (fun h => absurd (show ¬ v = 29293 by omega) h)
  refine x_ll (z := v) T_373_76 rfl ?_
  refine x_lc T_373_77 ?_
  refine x_lif T_373_80 T_373_81 (fun _ => ?_) (fun h => absurd (show ¬ v = 1937006964 by omega) h)
  refine x_ll (z := v) T_373_90 rfl ?_
  refine x_lc T_373_91 ?_
  refine x_lif T_373_94 T_373_95 (fun _ => ?_) (fun h => absurd (show ¬ v = 427021005669 by omega) h)
  refine x_ll (z := v) T_373_145 rfl ?_
  refine x_lc T_373_146 ?_
  refine x_lif T_373_149 T_373_150 (fun _ => ?_) (fun h => absurd (show ¬ v = 1718579819 by omega) h)
  refine x_ic T_373_161 ?_
  refine x_ri T_373_163 ?_
  exact ⟨S, rfl, hP, (hK.mono (by omega)).monoU (by omega), XC_sc SX_rfl⟩
theorem m_two (hP : PM σ0 P S σ) (hK : KS T U P S l []) (hGO : GO P) (hp : 0 ≤ p ∧ p < 8) (hT : T + 3000 ≤ 2147483000) (hU : 10000 ≤ U ∧ U ≤ 2147480000) (hw : ((lnW l).length : Int) = 3) : CL fb (d + 17) 388 [vR (some 2281), vI p, vL v] σ (KD (T + 2708) (U + 400) σ0 S l (cTwo P p l v).1 (cTwo P p l v).2.1 (cTwo P p l v).2.2) := by
  have hw1 : 2 < ((lnW l).length : Int) := by omega
  unfold cTwo
  by_cases q : v = 28022
  · rw [if_pos q]
    have hc := fun (σ : hM) (hP : PM σ0 P S σ) => m_mv (fb := fb) (d := d + 1) (cc := v) hP hK hp (by omega) hw1 (Q := KD (T + 2708) (U + 400) σ0 S l (cMv P p (lnB l 1) (lnB l 2)).1 (cMv P p (lnB l 1) (lnB l 2)).2.1 (cMv P p (lnB l 1) (lnB l 2)).2.2) (fun r σ1 hr => KC_KD (T1 := T + 2708) (U1 := U + 400) (by omega) (by omega) hr)
    refine CL_in mL_388 rfl ?_
    show WP fb _ 388 0 [some (vR (some 2281)), some (vI p), some (vL v), none, none, none, none] [] σ _
    refine x_ll (z := v) T_388_0 rfl ?_
    refine x_lc T_388_1 ?_
    refine x_lif T_388_4 T_388_5 (fun h => absurd (show ¬ v = 28022 from h) (by omega)) (fun _ => ?_)
    exact hc σ hP
  rw [if_neg q]
  have q0 := q
  clear q
  by_cases q : v = 1936292453
  · rw [if_pos q]
    have hc := fun (σ : hM) (hP : PM σ0 P S σ) => m_csize (fb := fb) (d := d + 1) (cc := v) hP hK hp (by omega) hw1 (Q := KD (T + 2708) (U + 400) σ0 S l (cSize P p (lnB l 1) (lnB l 2)).1 (cSize P p (lnB l 1) (lnB l 2)).2.1 (cSize P p (lnB l 1) (lnB l 2)).2.2) (fun r σ1 hr => KC_KD (T1 := T + 2708) (U1 := U + 400) (by omega) (by omega) hr)
    refine CL_in mL_388 rfl ?_
    show WP fb _ 388 0 [some (vR (some 2281)), some (vI p), some (vL v), none, none, none, none] [] σ _
    refine x_ll (z := v) T_388_0 rfl ?_
    refine x_lc T_388_1 ?_
    refine x_lif T_388_4 T_388_5 (fun _ => ?_) (fun h => absurd (show ¬ v = 28022 by omega) h)
    refine x_ll (z := v) T_388_72 rfl ?_
    refine x_lc T_388_73 ?_
    refine x_lif T_388_76 T_388_77 (fun h => absurd (show ¬ v = 1936292453 from h) (by omega)) (fun _ => ?_)
    exact hc σ hP
  rw [if_neg q]
  have q1 := q
  clear q
  by_cases q : v = 426953764708
  · rw [if_pos q]
    have hc := fun (σ : hM) (hP : PM σ0 P S σ) => CL.mono (m_chmod (fb := fb) (d := d) hP hK hp (by omega) hw1) (fun r σ1 hr => KC_KD (T1 := T + 2708) (U1 := U + 400) (by omega) (by omega) hr)
    refine CL_in mL_388 rfl ?_
    show WP fb _ 388 0 [some (vR (some 2281)), some (vI p), some (vL v), none, none, none, none] [] σ _
    refine x_ll (z := v) T_388_0 rfl ?_
    refine x_lc T_388_1 ?_
    refine x_lif T_388_4 T_388_5 (fun _ => ?_) (fun h => absurd (show ¬ v = 28022 by omega) h)
    refine x_ll (z := v) T_388_72 rfl ?_
    refine x_lc T_388_73 ?_
    refine x_lif T_388_76 T_388_77 (fun _ => ?_) (fun h => absurd (show ¬ v = 1936292453 by omega) h)
    refine x_ll (z := v) T_388_154 rfl ?_
    refine x_lc T_388_155 ?_
    refine x_lif T_388_158 T_388_159 (fun h => absurd (show ¬ v = 426953764708 from h) (by omega)) (fun _ => ?_)
    refine x_lr (z := some 2281) T_388_162 rfl ?_
    refine x_li (z := p) T_388_163 rfl ?_
    refine x_cv2 T_388_164 mN_391 mL_391 (Nat.le_of_ble_eq_true rfl) mO_391 (PM.t hP) (Nat.le_of_ble_eq_true rfl) (hc σ hP) ?_
    intro r σ hr
    obtain ⟨S2, rfl, hP, hK2, hX2⟩ := hr
    refine cI ?_
    refine x_ri T_388_167 ?_
    exact ⟨S2, rfl, hP, hK2, hX2⟩
  rw [if_neg q]
  have q2 := q
  clear q
  by_cases q : v = 1869636974
  · rw [if_pos q]
    have hc := fun (σ : hM) (hP : PM σ0 P S σ) => CL.mono (m_openWords (fb := fb) (d := d) hP hK hGO hp (by omega) (by omega) hw1) (fun r σ1 hr => KC_KD (T1 := T + 2708) (U1 := U + 400) (by omega) (by omega) hr)
    refine CL_in mL_388 rfl ?_
    show WP fb _ 388 0 [some (vR (some 2281)), some (vI p), some (vL v), none, none, none, none] [] σ _
    refine x_ll (z := v) T_388_0 rfl ?_
    refine x_lc T_388_1 ?_
    refine x_lif T_388_4 T_388_5 (fun _ => ?_) (fun h => absurd (show ¬ v = 28022 by omega) h)
    refine x_ll (z := v) T_388_72 rfl ?_
    refine x_lc T_388_73 ?_
    refine x_lif T_388_76 T_388_77 (fun _ => ?_) (fun h => absurd (show ¬ v = 1936292453 by omega) h)
    refine x_ll (z := v) T_388_154 rfl ?_
    refine x_lc T_388_155 ?_
    refine x_lif T_388_158 T_388_159 (fun _ => ?_) (fun h => absurd (show ¬ v = 426953764708 by omega) h)
    refine x_ll (z := v) T_388_168 rfl ?_
    refine x_lc T_388_169 ?_
    refine x_lif T_388_172 T_388_173 (fun h => absurd (show ¬ v = 1869636974 from h) (by omega)) (fun _ => ?_)
    refine x_lr (z := some 2281) T_388_176 rfl ?_
    refine x_li (z := p) T_388_177 rfl ?_
    refine x_cv2 T_388_178 mN_392 mL_392 (Nat.le_of_ble_eq_true rfl) mO_392 (PM.t hP) (Nat.le_of_ble_eq_true rfl) (hc σ hP) ?_
    intro r σ hr
    obtain ⟨S2, rfl, hP, hK2, hX2⟩ := hr
    refine cI ?_
    refine x_ri T_388_181 ?_
    exact ⟨S2, rfl, hP, hK2, hX2⟩
  rw [if_neg q]
  have q3 := q
  clear q
  by_cases q : v = 1919246692
  · rw [if_pos q]
    have hc := fun (σ : hM) (hP : PM σ0 P S σ) => CL.mono (m_readWords (fb := fb) (d := d + 4) hP hK hp (by omega) hU.2 hw1) (fun r σ1 hr => KC_KD (T1 := T + 2708) (U1 := U + 400) (by omega) (by omega) hr)
    refine CL_in mL_388 rfl ?_
    show WP fb _ 388 0 [some (vR (some 2281)), some (vI p), some (vL v), none, none, none, none] [] σ _
    refine x_ll (z := v) T_388_0 rfl ?_
    refine x_lc T_388_1 ?_
    refine x_lif T_388_4 T_388_5 (fun _ => ?_) (fun h => absurd (show ¬ v = 28022 by omega) h)
    refine x_ll (z := v) T_388_72 rfl ?_
    refine x_lc T_388_73 ?_
    refine x_lif T_388_76 T_388_77 (fun _ => ?_) (fun h => absurd (show ¬ v = 1936292453 by omega) h)
    refine x_ll (z := v) T_388_154 rfl ?_
    refine x_lc T_388_155 ?_
    refine x_lif T_388_158 T_388_159 (fun _ => ?_) (fun h => absurd (show ¬ v = 426953764708 by omega) h)
    refine x_ll (z := v) T_388_168 rfl ?_
    refine x_lc T_388_169 ?_
    refine x_lif T_388_172 T_388_173 (fun _ => ?_) (fun h => absurd (show ¬ v = 1869636974 by omega) h)
    refine x_ll (z := v) T_388_182 rfl ?_
    refine x_lc T_388_183 ?_
    refine x_lif T_388_186 T_388_187 (fun h => absurd (show ¬ v = 1919246692 from h) (by omega)) (fun _ => ?_)
    refine x_lr (z := some 2281) T_388_190 rfl ?_
    refine x_li (z := p) T_388_191 rfl ?_
    refine x_cv2 T_388_192 mN_395 mL_395 (Nat.le_of_ble_eq_true rfl) mO_395 (PM.t hP) (Nat.le_of_ble_eq_true rfl) (hc σ hP) ?_
    intro r σ hr
    obtain ⟨S2, rfl, hP, hK2, hX2⟩ := hr
    refine cI ?_
    refine x_ri T_388_195 ?_
    exact ⟨S2, rfl, hP, hK2, hX2⟩
  rw [if_neg q]
  have q4 := q
  clear q
  by_cases q : v = 513020621925
  · rw [if_pos q]
    have hc := fun (σ : hM) (hP : PM σ0 P S σ) => CL.mono (m_writeWords (fb := fb) (d := d + 4) hP hK hp (by omega) hU.2 hw1) (fun r σ1 hr => KC_KD (T1 := T + 2708) (U1 := U + 400) (by omega) (by omega) hr)
    refine CL_in mL_388 rfl ?_
    show WP fb _ 388 0 [some (vR (some 2281)), some (vI p), some (vL v), none, none, none, none] [] σ _
    refine x_ll (z := v) T_388_0 rfl ?_
    refine x_lc T_388_1 ?_
    refine x_lif T_388_4 T_388_5 (fun _ => ?_) (fun h => absurd (show ¬ v = 28022 by omega) h)
    refine x_ll (z := v) T_388_72 rfl ?_
    refine x_lc T_388_73 ?_
    refine x_lif T_388_76 T_388_77 (fun _ => ?_) (fun h => absurd (show ¬ v = 1936292453 by omega) h)
    refine x_ll (z := v) T_388_154 rfl ?_
    refine x_lc T_388_155 ?_
    refine x_lif T_388_158 T_388_159 (fun _ => ?_) (fun h => absurd (show ¬ v = 426953764708 by omega) h)
    refine x_ll (z := v) T_388_168 rfl ?_
    refine x_lc T_388_169 ?_
    refine x_lif T_388_172 T_388_173 (fun _ => ?_) (fun h => absurd (show ¬ v = 1869636974 by omega) h)
    refine x_ll (z := v) T_388_182 rfl ?_
    refine x_lc T_388_183 ?_
    refine x_lif T_388_186 T_388_187 (fun _ => ?_) (fun h => absurd (show ¬ v = 1919246692 by omega) h)
    refine x_ll (z := v) T_388_196 rfl ?_
    refine x_lc T_388_197 ?_
    refine x_lif T_388_200 T_388_201 (fun h => absurd (show ¬ v = 513020621925 from h) (by omega)) (fun _ => ?_)
    refine x_lr (z := some 2281) T_388_204 rfl ?_
    refine x_li (z := p) T_388_205 rfl ?_
    refine x_cv2 T_388_206 mN_396 mL_396 (Nat.le_of_ble_eq_true rfl) mO_396 (PM.t hP) (Nat.le_of_ble_eq_true rfl) (hc σ hP) ?_
    intro r σ hr
    obtain ⟨S2, rfl, hP, hK2, hX2⟩ := hr
    refine cI ?_
    refine x_ri T_388_209 ?_
    exact ⟨S2, rfl, hP, hK2, hX2⟩
  rw [if_neg q]
  have q5 := q
  clear q
  by_cases q : v = 1936024939
  · rw [if_pos q]
    unfold cSek
    have hdg := m_digit (fb := fb) (d := d + 15) (w := 1) (most := 7) hP hK.2.2.2.2 ⟨by decide, by omega⟩ (by decide)
    have hnm := m_numberOf (fb := fb) (d := d + 15) (w := 2) (base := 10) (most := 4) hP hK.2.2.2.2 ⟨by decide, hw1⟩ (by decide) (by decide)
    have hdr : dgV (lnB l 1) 7 = -1 ∨ (0 ≤ dgV (lnB l 1) 7 ∧ dgV (lnB l 1) 7 ≤ 7) := by
      unfold dgV
      split
      · omega
      · exact Or.inl rfl
    obtain ⟨dd, hdd⟩ : ∃ dd, dgV (lnB l 1) 7 = dd := ⟨_, rfl⟩
    have hnr := nmN_rng (wd := lnB l 2)
    obtain ⟨n, hn⟩ : ∃ n, nmN (lnB l 2) 10 4 = n := ⟨_, rfl⟩
    rw [hdd] at hdg hdr ⊢
    rw [hn] at hnm hnr ⊢
    by_cases q1 : dd < 0
    · rw [if_pos (Or.inl q1)]
      refine CL_in mL_388 rfl ?_
      show WP fb _ 388 0 [some (vR (some 2281)), some (vI p), some (vL v), none, none, none, none] [] σ _
      refine x_ll (z := v) T_388_0 rfl ?_
      refine x_lc T_388_1 ?_
      refine x_lif T_388_4 T_388_5 (fun _ => ?_) (fun h => absurd (show ¬ v = 28022 by omega) h)
      refine x_ll (z := v) T_388_72 rfl ?_
      refine x_lc T_388_73 ?_
      refine x_lif T_388_76 T_388_77 (fun _ => ?_) (fun h => absurd (show ¬ v = 1936292453 by omega) h)
      refine x_ll (z := v) T_388_154 rfl ?_
      refine x_lc T_388_155 ?_
      refine x_lif T_388_158 T_388_159 (fun _ => ?_) (fun h => absurd (show ¬ v = 426953764708 by omega) h)
      refine x_ll (z := v) T_388_168 rfl ?_
      refine x_lc T_388_169 ?_
      refine x_lif T_388_172 T_388_173 (fun _ => ?_) (fun h => absurd (show ¬ v = 1869636974 by omega) h)
      refine x_ll (z := v) T_388_182 rfl ?_
      refine x_lc T_388_183 ?_
      refine x_lif T_388_186 T_388_187 (fun _ => ?_) (fun h => absurd (show ¬ v = 1919246692 by omega) h)
      refine x_ll (z := v) T_388_196 rfl ?_
      refine x_lc T_388_197 ?_
      refine x_lif T_388_200 T_388_201 (fun _ => ?_) (fun h => absurd (show ¬ v = 513020621925 by omega) h)
      refine x_ll (z := v) T_388_210 rfl ?_
      refine x_lc T_388_211 ?_
      refine x_lif T_388_214 T_388_215 (fun h => absurd (show ¬ v = 1936024939 from h) (by omega)) (fun _ => ?_)
      refine x_lr (z := some 2281) T_388_218 rfl ?_
      refine x_ic T_388_219 ?_
      refine x_ic T_388_220 ?_
      refine x_cv3 T_388_222 mN_359 mL_359 (Nat.le_of_ble_eq_true rfl) mO_359 (PM.t hP) (Nat.le_of_ble_eq_true rfl) (hdg) ?_
      rintro _ σ ⟨rfl, rfl⟩
      refine cI ?_
      refine x_si (ls1 := [some (vR (some 2281)), some (vI p), some (vL v), none, some (vI dd), none, none]) T_388_225 rfl ?_
      refine x_lr (z := some 2281) T_388_227 rfl ?_
      refine x_ic T_388_228 ?_
      refine x_ic T_388_229 ?_
      refine x_ic T_388_231 ?_
      refine x_cv4 T_388_232 mN_390 mL_390 (Nat.le_of_ble_eq_true rfl) mO_390 (PM.t hP) (Nat.le_of_ble_eq_true rfl) (hnm) ?_
      rintro _ σ ⟨rfl, rfl⟩
      refine cI ?_
      refine x_si (ls1 := [some (vR (some 2281)), some (vI p), some (vL v), none, some (vI dd), some (vI n), none]) T_388_235 rfl ?_
      refine x_li (z := dd) T_388_237 rfl ?_
      refine x_if T_388_239 (fun _ => ?_) (fun h => absurd (show dd < 0 by omega) h)
      refine x_ic T_388_247 ?_
      refine x_ri T_388_249 ?_
      exact ⟨S, rfl, hP, (hK.mono (by omega)).monoU (by omega), XC_sc SX_rfl⟩
    by_cases q2 : n < 0
    · rw [if_pos (Or.inr q2)]
      refine CL_in mL_388 rfl ?_
      show WP fb _ 388 0 [some (vR (some 2281)), some (vI p), some (vL v), none, none, none, none] [] σ _
      refine x_ll (z := v) T_388_0 rfl ?_
      refine x_lc T_388_1 ?_
      refine x_lif T_388_4 T_388_5 (fun _ => ?_) (fun h => absurd (show ¬ v = 28022 by omega) h)
      refine x_ll (z := v) T_388_72 rfl ?_
      refine x_lc T_388_73 ?_
      refine x_lif T_388_76 T_388_77 (fun _ => ?_) (fun h => absurd (show ¬ v = 1936292453 by omega) h)
      refine x_ll (z := v) T_388_154 rfl ?_
      refine x_lc T_388_155 ?_
      refine x_lif T_388_158 T_388_159 (fun _ => ?_) (fun h => absurd (show ¬ v = 426953764708 by omega) h)
      refine x_ll (z := v) T_388_168 rfl ?_
      refine x_lc T_388_169 ?_
      refine x_lif T_388_172 T_388_173 (fun _ => ?_) (fun h => absurd (show ¬ v = 1869636974 by omega) h)
      refine x_ll (z := v) T_388_182 rfl ?_
      refine x_lc T_388_183 ?_
      refine x_lif T_388_186 T_388_187 (fun _ => ?_) (fun h => absurd (show ¬ v = 1919246692 by omega) h)
      refine x_ll (z := v) T_388_196 rfl ?_
      refine x_lc T_388_197 ?_
      refine x_lif T_388_200 T_388_201 (fun _ => ?_) (fun h => absurd (show ¬ v = 513020621925 by omega) h)
      refine x_ll (z := v) T_388_210 rfl ?_
      refine x_lc T_388_211 ?_
      refine x_lif T_388_214 T_388_215 (fun h => absurd (show ¬ v = 1936024939 from h) (by omega)) (fun _ => ?_)
      refine x_lr (z := some 2281) T_388_218 rfl ?_
      refine x_ic T_388_219 ?_
      refine x_ic T_388_220 ?_
      refine x_cv3 T_388_222 mN_359 mL_359 (Nat.le_of_ble_eq_true rfl) mO_359 (PM.t hP) (Nat.le_of_ble_eq_true rfl) (hdg) ?_
      rintro _ σ ⟨rfl, rfl⟩
      refine cI ?_
      refine x_si (ls1 := [some (vR (some 2281)), some (vI p), some (vL v), none, some (vI dd), none, none]) T_388_225 rfl ?_
      refine x_lr (z := some 2281) T_388_227 rfl ?_
      refine x_ic T_388_228 ?_
      refine x_ic T_388_229 ?_
      refine x_ic T_388_231 ?_
      refine x_cv4 T_388_232 mN_390 mL_390 (Nat.le_of_ble_eq_true rfl) mO_390 (PM.t hP) (Nat.le_of_ble_eq_true rfl) (hnm) ?_
      rintro _ σ ⟨rfl, rfl⟩
      refine cI ?_
      refine x_si (ls1 := [some (vR (some 2281)), some (vI p), some (vL v), none, some (vI dd), some (vI n), none]) T_388_235 rfl ?_
      refine x_li (z := dd) T_388_237 rfl ?_
      refine x_if T_388_239 (fun h => absurd (show dd < 0 from h) (by omega)) (fun _ => ?_)
      refine x_li (z := n) T_388_242 rfl ?_
      refine x_if T_388_244 (fun h => absurd (show 0 ≤ n from h) (by omega)) (fun _ => ?_)
      refine x_ic T_388_247 ?_
      refine x_ri T_388_249 ?_
      exact ⟨S, rfl, hP, (hK.mono (by omega)).monoU (by omega), XC_sc SX_rfl⟩
    rw [if_neg (fun c => c.elim q1 q2)]
    have bo : -1 ≤ P 2327 (8 * p + dd) ∧ P 2327 (8 * p + dd) ≤ 63 := IV.a hK.1.iv 2327 0 64 rfl rfl rfl (by omega) (by omega)
    obtain ⟨o, ho⟩ : ∃ o, P 2327 (8 * p + dd) = o := ⟨_, rfl⟩
    rw [ho] at bo ⊢
    by_cases q3 : o < 0
    · rw [if_pos q3]
      refine CL_in mL_388 rfl ?_
      show WP fb _ 388 0 [some (vR (some 2281)), some (vI p), some (vL v), none, none, none, none] [] σ _
      refine x_ll (z := v) T_388_0 rfl ?_
      refine x_lc T_388_1 ?_
      refine x_lif T_388_4 T_388_5 (fun _ => ?_) (fun h => absurd (show ¬ v = 28022 by omega) h)
      refine x_ll (z := v) T_388_72 rfl ?_
      refine x_lc T_388_73 ?_
      refine x_lif T_388_76 T_388_77 (fun _ => ?_) (fun h => absurd (show ¬ v = 1936292453 by omega) h)
      refine x_ll (z := v) T_388_154 rfl ?_
      refine x_lc T_388_155 ?_
      refine x_lif T_388_158 T_388_159 (fun _ => ?_) (fun h => absurd (show ¬ v = 426953764708 by omega) h)
      refine x_ll (z := v) T_388_168 rfl ?_
      refine x_lc T_388_169 ?_
      refine x_lif T_388_172 T_388_173 (fun _ => ?_) (fun h => absurd (show ¬ v = 1869636974 by omega) h)
      refine x_ll (z := v) T_388_182 rfl ?_
      refine x_lc T_388_183 ?_
      refine x_lif T_388_186 T_388_187 (fun _ => ?_) (fun h => absurd (show ¬ v = 1919246692 by omega) h)
      refine x_ll (z := v) T_388_196 rfl ?_
      refine x_lc T_388_197 ?_
      refine x_lif T_388_200 T_388_201 (fun _ => ?_) (fun h => absurd (show ¬ v = 513020621925 by omega) h)
      refine x_ll (z := v) T_388_210 rfl ?_
      refine x_lc T_388_211 ?_
      refine x_lif T_388_214 T_388_215 (fun h => absurd (show ¬ v = 1936024939 from h) (by omega)) (fun _ => ?_)
      refine x_lr (z := some 2281) T_388_218 rfl ?_
      refine x_ic T_388_219 ?_
      refine x_ic T_388_220 ?_
      refine x_cv3 T_388_222 mN_359 mL_359 (Nat.le_of_ble_eq_true rfl) mO_359 (PM.t hP) (Nat.le_of_ble_eq_true rfl) (hdg) ?_
      rintro _ σ ⟨rfl, rfl⟩
      refine cI ?_
      refine x_si (ls1 := [some (vR (some 2281)), some (vI p), some (vL v), none, some (vI dd), none, none]) T_388_225 rfl ?_
      refine x_lr (z := some 2281) T_388_227 rfl ?_
      refine x_ic T_388_228 ?_
      refine x_ic T_388_229 ?_
      refine x_ic T_388_231 ?_
      refine x_cv4 T_388_232 mN_390 mL_390 (Nat.le_of_ble_eq_true rfl) mO_390 (PM.t hP) (Nat.le_of_ble_eq_true rfl) (hnm) ?_
      rintro _ σ ⟨rfl, rfl⟩
      refine cI ?_
      refine x_si (ls1 := [some (vR (some 2281)), some (vI p), some (vL v), none, some (vI dd), some (vI n), none]) T_388_235 rfl ?_
      refine x_li (z := dd) T_388_237 rfl ?_
      refine x_if T_388_239 (fun h => absurd (show dd < 0 from h) (by omega)) (fun _ => ?_)
      refine x_li (z := n) T_388_242 rfl ?_
      refine x_if T_388_244 (fun _ => ?_) (fun h => absurd (show 0 ≤ n by omega) h)
      refine x_lr (z := some 2281) T_388_250 rfl ?_
      refine x_gR (z := some 2327) T_388_251 F_17_57 (PM.t hP) (PM.r hP 57 2327 rfl) ?_
      refine x_ic T_388_254 ?_
      refine x_li (z := p) T_388_256 rfl ?_
      refine x_ib (w := (8 * p)) T_388_257 (fun h => absurd h.1 (by decide)) (w32_id (by omega) (by omega)) ?_
      refine x_li (z := dd) T_388_258 rfl ?_
      refine x_ib (w := ((8 * p) + dd)) T_388_260 (fun h => absurd h.1 (by decide)) (w32_id (by omega) (by omega)) ?_
      refine x_alI (z := o) T_388_261 (by decide) (PM.ta hP 2327 0 64 rfl rfl) (by omega) (by omega) (Eq.trans (PM.aP hP 2327 rfl rfl (by omega)) ho) ?_
      refine x_si (ls1 := [some (vR (some 2281)), some (vI p), some (vL v), none, some (vI dd), some (vI n), some (vI o)]) T_388_262 rfl ?_
      refine x_li (z := o) T_388_264 rfl ?_
      refine x_if T_388_266 (fun _ => ?_) (fun h => absurd (show o < 0 by omega) h)
      refine x_li (z := o) T_388_278 rfl ?_
      refine x_if T_388_280 (fun h => absurd (show 0 ≤ o from h) (by omega)) (fun _ => ?_)
      refine x_ic T_388_283 ?_
      refine x_goto T_388_285 ?_
      refine x_ri T_388_289 ?_
      exact ⟨S, rfl, hP, (hK.mono (by omega)).monoU (by omega), XC_sc SX_rfl⟩
    rw [if_neg q3]
    have hG3 : GI T U (rU P 2333 o n) := GI_off hK.1 (by omega)
    have hK3 : KS (T + 2708) (U + 400) (rU P 2333 o n) S l [] := ⟨(hG3.mono (by omega)).monoU (by omega), hK.2.1.row (fun _ => rU_f (by decide)) (fun _ => rU_f (by decide)), (hK.2.2.1.mono (by omega) (by omega)), hK.2.2.2⟩
    refine CL_in mL_388 rfl ?_
    show WP fb _ 388 0 [some (vR (some 2281)), some (vI p), some (vL v), none, none, none, none] [] σ _
    refine x_ll (z := v) T_388_0 rfl ?_
    refine x_lc T_388_1 ?_
    refine x_lif T_388_4 T_388_5 (fun _ => ?_) (fun h => absurd (show ¬ v = 28022 by omega) h)
    refine x_ll (z := v) T_388_72 rfl ?_
    refine x_lc T_388_73 ?_
    refine x_lif T_388_76 T_388_77 (fun _ => ?_) (fun h => absurd (show ¬ v = 1936292453 by omega) h)
    refine x_ll (z := v) T_388_154 rfl ?_
    refine x_lc T_388_155 ?_
    refine x_lif T_388_158 T_388_159 (fun _ => ?_) (fun h => absurd (show ¬ v = 426953764708 by omega) h)
    refine x_ll (z := v) T_388_168 rfl ?_
    refine x_lc T_388_169 ?_
    refine x_lif T_388_172 T_388_173 (fun _ => ?_) (fun h => absurd (show ¬ v = 1869636974 by omega) h)
    refine x_ll (z := v) T_388_182 rfl ?_
    refine x_lc T_388_183 ?_
    refine x_lif T_388_186 T_388_187 (fun _ => ?_) (fun h => absurd (show ¬ v = 1919246692 by omega) h)
    refine x_ll (z := v) T_388_196 rfl ?_
    refine x_lc T_388_197 ?_
    refine x_lif T_388_200 T_388_201 (fun _ => ?_) (fun h => absurd (show ¬ v = 513020621925 by omega) h)
    refine x_ll (z := v) T_388_210 rfl ?_
    refine x_lc T_388_211 ?_
    refine x_lif T_388_214 T_388_215 (fun h => absurd (show ¬ v = 1936024939 from h) (by omega)) (fun _ => ?_)
    refine x_lr (z := some 2281) T_388_218 rfl ?_
    refine x_ic T_388_219 ?_
    refine x_ic T_388_220 ?_
    refine x_cv3 T_388_222 mN_359 mL_359 (Nat.le_of_ble_eq_true rfl) mO_359 (PM.t hP) (Nat.le_of_ble_eq_true rfl) (hdg) ?_
    rintro _ σ ⟨rfl, rfl⟩
    refine cI ?_
    refine x_si (ls1 := [some (vR (some 2281)), some (vI p), some (vL v), none, some (vI dd), none, none]) T_388_225 rfl ?_
    refine x_lr (z := some 2281) T_388_227 rfl ?_
    refine x_ic T_388_228 ?_
    refine x_ic T_388_229 ?_
    refine x_ic T_388_231 ?_
    refine x_cv4 T_388_232 mN_390 mL_390 (Nat.le_of_ble_eq_true rfl) mO_390 (PM.t hP) (Nat.le_of_ble_eq_true rfl) (hnm) ?_
    rintro _ σ ⟨rfl, rfl⟩
    refine cI ?_
    refine x_si (ls1 := [some (vR (some 2281)), some (vI p), some (vL v), none, some (vI dd), some (vI n), none]) T_388_235 rfl ?_
    refine x_li (z := dd) T_388_237 rfl ?_
    refine x_if T_388_239 (fun h => absurd (show dd < 0 from h) (by omega)) (fun _ => ?_)
    refine x_li (z := n) T_388_242 rfl ?_
    refine x_if T_388_244 (fun _ => ?_) (fun h => absurd (show 0 ≤ n by omega) h)
    refine x_lr (z := some 2281) T_388_250 rfl ?_
    refine x_gR (z := some 2327) T_388_251 F_17_57 (PM.t hP) (PM.r hP 57 2327 rfl) ?_
    refine x_ic T_388_254 ?_
    refine x_li (z := p) T_388_256 rfl ?_
    refine x_ib (w := (8 * p)) T_388_257 (fun h => absurd h.1 (by decide)) (w32_id (by omega) (by omega)) ?_
    refine x_li (z := dd) T_388_258 rfl ?_
    refine x_ib (w := ((8 * p) + dd)) T_388_260 (fun h => absurd h.1 (by decide)) (w32_id (by omega) (by omega)) ?_
    refine x_alI (z := o) T_388_261 (by decide) (PM.ta hP 2327 0 64 rfl rfl) (by omega) (by omega) (Eq.trans (PM.aP hP 2327 rfl rfl (by omega)) ho) ?_
    refine x_si (ls1 := [some (vR (some 2281)), some (vI p), some (vL v), none, some (vI dd), some (vI n), some (vI o)]) T_388_262 rfl ?_
    refine x_li (z := o) T_388_264 rfl ?_
    refine x_if T_388_266 (fun h => absurd (show o < 0 from h) (by omega)) (fun _ => ?_)
    refine x_lr (z := some 2281) T_388_269 rfl ?_
    refine x_gR (z := some 2333) T_388_270 F_17_63 (PM.t hP) (PM.r hP 63 2333 rfl) ?_
    refine x_li (z := o) T_388_273 rfl ?_
    refine x_li (z := n) T_388_275 rfl ?_
    refine y_aIP hP T_388_277 2333 64 rfl rfl rfl (by omega) (by omega) (fun σ hP => ?_)
    refine x_li (z := o) T_388_278 rfl ?_
    refine x_if T_388_280 (fun _ => ?_) (fun h => absurd (show 0 ≤ o by omega) h)
    refine x_ic T_388_288 ?_
    refine x_ri T_388_289 ?_
    exact ⟨S, rfl, hP, hK3, XC_sc SX_rfl⟩
  rw [if_neg q]
  have q6 := q
  clear q
  refine CL_in mL_388 rfl ?_
  show WP fb _ 388 0 [some (vR (some 2281)), some (vI p), some (vL v), none, none, none, none] [] σ _
  refine x_ll (z := v) T_388_0 rfl ?_
  refine x_lc T_388_1 ?_
  refine x_lif T_388_4 T_388_5 (fun _ => ?_) (fun h => absurd (show ¬ v = 28022 by omega) h)
  refine x_ll (z := v) T_388_72 rfl ?_
  refine x_lc T_388_73 ?_
  refine x_lif T_388_76 T_388_77 (fun _ => ?_) (fun h => absurd (show ¬ v = 1936292453 by omega) h)
  refine x_ll (z := v) T_388_154 rfl ?_
  refine x_lc T_388_155 ?_
  refine x_lif T_388_158 T_388_159 (fun _ => ?_) (fun h => absurd (show ¬ v = 426953764708 by omega) h)
  refine x_ll (z := v) T_388_168 rfl ?_
  refine x_lc T_388_169 ?_
  refine x_lif T_388_172 T_388_173 (fun _ => ?_) (fun h => absurd (show ¬ v = 1869636974 by omega) h)
  refine x_ll (z := v) T_388_182 rfl ?_
  refine x_lc T_388_183 ?_
  refine x_lif T_388_186 T_388_187 (fun _ => ?_) (fun h => absurd (show ¬ v = 1919246692 by omega) h)
  refine x_ll (z := v) T_388_196 rfl ?_
  refine x_lc T_388_197 ?_
  refine x_lif T_388_200 T_388_201 (fun _ => ?_) (fun h => absurd (show ¬ v = 513020621925 by omega) h)
  refine x_ll (z := v) T_388_210 rfl ?_
  refine x_lc T_388_211 ?_
  refine x_lif T_388_214 T_388_215 (fun _ => ?_) (fun h => absurd (show ¬ v = 1936024939 by omega) h)
  refine x_ic T_388_290 ?_
  refine x_ri T_388_292 ?_
  exact ⟨S, rfl, hP, (hK.mono (by omega)).monoU (by omega), XC_sc SX_rfl⟩
theorem m_command (hP : PM σ0 P S σ) (hK : KS T U P S l []) (hGO : GO P) (hp : 0 ≤ p ∧ p < 8) (hlv : ¬ P 2320 p = 0) (hO : pkW (lnB l 0) = 27763 → ((lnW l).length : Int) = 2 → lsOk P p (lnB l 1)) (hT : T + 3000 ≤ 2147483000) (hU : 10000 ≤ U ∧ U ≤ 2147480000) (hw : 0 < ((lnW l).length : Int)) : CL fb (d + 18) 353 [vR (some 2281), vI p] σ (KD (T + 2708) (U + 400) σ0 S l (cCmd P p l).1 (cCmd P p l).2.1 (cCmd P p l).2.2) := by
  obtain ⟨N, hN⟩ : ∃ N, ((lnW l).length : Int) = N := ⟨_, rfl⟩
  have h77 : S 2281 77 = N := hK.2.2.2.2.2.2.2.2.1.trans hN
  have hpk := m_packed (fb := fb) (d := d + 16) (w := 0) hP hK.2.2.2.2 ⟨by decide, hw⟩
  have hex : GI (T + 2708) (U + 400) (rU P 2321 p 1) := GI_one (f := 2321) (ty := 2) (len := 8) ((hK.1.mono (by omega)).monoU (by omega)) rfl (show (0 : Int) ≤ 1 ∧ (1 : Int) ≤ 1 by decide) rfl rfl rfl rfl rfl rfl rfl rfl rfl (by decide) (by decide)
  have hKx : KS (T + 2708) (U + 400) (rU P 2321 p 1) S l [] := ⟨hex, hK.2.1.row (fun _ => rU_f (by decide)) (fun _ => rU_f (by decide)), hK.2.2.1.mono (by omega) (by omega), hK.2.2.2⟩
  have hone := fun (v : Int) (hO : v = 27763 → lsOk P p (lnB l 1)) (hw : ((lnW l).length : Int) = 2) => m_one (fb := fb) (d := d) (v := v) hP hK hGO hp hlv hO hT (by omega) hw
  have htwo := fun (v : Int) (hw : ((lnW l).length : Int) = 3) => m_two (fb := fb) (d := d) (v := v) hP hK hGO hp hT hU hw
  suffices key : ∀ R : R3, cCmd P p l = R → CL fb (d + 18) 353 [vR (some 2281), vI p] σ (KD (T + 2708) (U + 400) σ0 S l R.1 R.2.1 R.2.2) from key _ rfl
  intro R hR
  unfold cCmd at hR
  rw [hN] at hR
  obtain ⟨v, hv⟩ : ∃ v, pkW (lnB l 0) = v := ⟨_, rfl⟩
  rw [hv] at hpk hO hR
  refine CL_in mL_353 rfl ?_
  show WP fb _ 353 0 [some (vR (some 2281)), some (vI p), none, none] [] σ _
  by_cases c1 : v = 1701013615
  · rw [if_pos c1] at hR
    subst hR
    have hc := CL.mono (m_echo (fb := fb) (d := d + 1) hP hK hp (by omega) hw) (fun r σ1 hr => KC_KD (T1 := T + 2708) (U1 := U + 400) (by omega) (by omega) hr)
    refine x_lr (z := some 2281) T_353_0 rfl ?_
    refine x_ic T_353_1 ?_
    refine x_cv2 T_353_2 mN_317 mL_317 (Nat.le_of_ble_eq_true rfl) mO_317 (PM.t hP) (Nat.le_of_ble_eq_true rfl) (hpk) ?_
    rintro _ σ ⟨rfl, rfl⟩
    refine cL ?_
    refine x_sl (ls1 := [some (vR (some 2281)), some (vI p), some (vL v), none]) T_353_5 rfl ?_
    refine x_ll (z := v) T_353_6 rfl ?_
    refine x_lc T_353_7 ?_
    refine x_lif T_353_10 T_353_11 (fun h => absurd (show ¬ v = 1701013615 from h) (by omega)) (fun _ => ?_)
    refine x_lr (z := some 2281) T_353_14 rfl ?_
    refine x_li (z := p) T_353_15 rfl ?_
    refine x_cv2 T_353_16 mN_354 mL_354 (Nat.le_of_ble_eq_true rfl) mO_354 (PM.t hP) (Nat.le_of_ble_eq_true rfl) (hc) ?_
    intro r σ hr
    obtain ⟨S2, rfl, hP, hK2, hX2⟩ := hr
    refine cI ?_
    refine x_ri T_353_19 ?_
    exact ⟨S2, rfl, hP, hK2, hX2⟩
  rw [if_neg c1] at hR

  suffices h20 : WP fb (d + 18) 353 20 [some (vR (some 2281)), some (vI p), some (vL v), none] [] σ (KD (T + 2708) (U + 400) σ0 S l R.1 R.2.1 R.2.2) by
    refine x_lr (z := some 2281) T_353_0 rfl ?_
    refine x_ic T_353_1 ?_
    refine x_cv2 T_353_2 mN_317 mL_317 (Nat.le_of_ble_eq_true rfl) mO_317 (PM.t hP) (Nat.le_of_ble_eq_true rfl) (hpk) ?_
    rintro _ σ ⟨rfl, rfl⟩
    refine cL ?_
    refine x_sl (ls1 := [some (vR (some 2281)), some (vI p), some (vL v), none]) T_353_5 rfl ?_
    refine x_ll (z := v) T_353_6 rfl ?_
    refine x_lc T_353_7 ?_
    refine x_lif T_353_10 T_353_11 (fun _ => ?_) (fun h => absurd (show ¬ v = 1701013615 by omega) h)
    exact h20
  by_cases c2 : v = 1651076708 ∧ (3 ≤ N ∧ N ≤ 4)
  · rw [if_pos c2] at hR
    subst hR
    have hc := CL.mono (m_bindWords (fb := fb) (d := d + 1) (mo := 0) hP hK hp (Or.inl rfl) (by omega) hN.symm (by omega)) (fun r σ1 hr => KC_KD (T1 := T + 2708) (U1 := U + 400) (by omega) (by omega) hr)
    refine x_ll (z := v) T_353_20 rfl ?_
    refine x_lc T_353_21 ?_
    refine x_lif T_353_24 T_353_25 (fun h => absurd (show ¬ v = 1651076708 from h) (by omega)) (fun _ => ?_)
    refine x_lr (z := some 2281) T_353_28 rfl ?_
    refine x_gI (z := N) T_353_29 (Or.inl F_17_77) (PM.t hP) (Eq.trans (PM.nS hP 2281 77 77 rfl rfl rfl) h77) ?_
    refine x_i2l T_353_32 ?_
    refine x_lc T_353_33 ?_
    refine x_lc T_353_36 ?_
    refine x_cs3 T_353_39 mN_282 mL_282 (Nat.le_of_ble_eq_true rfl) mK_282 (Nat.le_of_ble_eq_true rfl) (CL_val m_in (if_pos (by omega))) ?_
    rintro _ σ ⟨rfl, rfl⟩
    refine cI ?_
    refine x_if T_353_42 (fun h => absurd (show (1 : Int) = 0 from h) (by decide)) (fun _ => ?_)
    refine x_lr (z := some 2281) T_353_45 rfl ?_
    refine x_li (z := p) T_353_46 rfl ?_
    refine x_ic T_353_47 ?_
    refine x_cv3 T_353_48 mN_358 mL_358 (Nat.le_of_ble_eq_true rfl) mO_358 (PM.t hP) (Nat.le_of_ble_eq_true rfl) (hc) ?_
    intro r σ hr
    obtain ⟨S2, rfl, hP, hK2, hX2⟩ := hr
    refine cI ?_
    refine x_ri T_353_51 ?_
    exact ⟨S2, rfl, hP, hK2, hX2⟩
  rw [if_neg c2] at hR
  suffices h52 : WP fb (d + 18) 353 52 [some (vR (some 2281)), some (vI p), some (vL v), none] [] σ (KD (T + 2708) (U + 400) σ0 S l R.1 R.2.1 R.2.2) by
    by_cases c3 : v = 1651076708
    · skip
      refine x_ll (z := v) T_353_20 rfl ?_
      refine x_lc T_353_21 ?_
      refine x_lif T_353_24 T_353_25 (fun h => absurd (show ¬ v = 1651076708 from h) (by omega)) (fun _ => ?_)
      refine x_lr (z := some 2281) T_353_28 rfl ?_
      refine x_gI (z := N) T_353_29 (Or.inl F_17_77) (PM.t hP) (Eq.trans (PM.nS hP 2281 77 77 rfl rfl rfl) h77) ?_
      refine x_i2l T_353_32 ?_
      refine x_lc T_353_33 ?_
      refine x_lc T_353_36 ?_
      refine x_cs3 T_353_39 mN_282 mL_282 (Nat.le_of_ble_eq_true rfl) mK_282 (Nat.le_of_ble_eq_true rfl) (CL_val m_in (if_neg (by omega))) ?_
      rintro _ σ ⟨rfl, rfl⟩
      refine cI ?_
      refine x_if T_353_42 (fun _ => ?_) (fun h => absurd (show (0 : Int) = 0 by decide) h)
      exact h52
    · skip
      refine x_ll (z := v) T_353_20 rfl ?_
      refine x_lc T_353_21 ?_
      refine x_lif T_353_24 T_353_25 (fun _ => ?_) (fun h => absurd (show ¬ v = 1651076708 by omega) h)
      exact h52
  have c20 := c2
  clear c2
  by_cases c2 : v = 470021402228 ∧ (3 ≤ N ∧ N ≤ 4)
  · rw [if_pos c2] at hR
    subst hR
    have hc := CL.mono (m_bindWords (fb := fb) (d := d + 1) (mo := 1) hP hK hp (Or.inr rfl) (by omega) hN.symm (by omega)) (fun r σ1 hr => KC_KD (T1 := T + 2708) (U1 := U + 400) (by omega) (by omega) hr)
    refine x_ll (z := v) T_353_52 rfl ?_
    refine x_lc T_353_53 ?_
    refine x_lif T_353_56 T_353_57 (fun h => absurd (show ¬ v = 470021402228 from h) (by omega)) (fun _ => ?_)
    refine x_lr (z := some 2281) T_353_60 rfl ?_
    refine x_gI (z := N) T_353_61 (Or.inl F_17_77) (PM.t hP) (Eq.trans (PM.nS hP 2281 77 77 rfl rfl rfl) h77) ?_
    refine x_i2l T_353_64 ?_
    refine x_lc T_353_65 ?_
    refine x_lc T_353_68 ?_
    refine x_cs3 T_353_71 mN_282 mL_282 (Nat.le_of_ble_eq_true rfl) mK_282 (Nat.le_of_ble_eq_true rfl) (CL_val m_in (if_pos (by omega))) ?_
    rintro _ σ ⟨rfl, rfl⟩
    refine cI ?_
    refine x_if T_353_74 (fun h => absurd (show (1 : Int) = 0 from h) (by decide)) (fun _ => ?_)
    refine x_lr (z := some 2281) T_353_77 rfl ?_
    refine x_li (z := p) T_353_78 rfl ?_
    refine x_ic T_353_79 ?_
    refine x_cv3 T_353_80 mN_358 mL_358 (Nat.le_of_ble_eq_true rfl) mO_358 (PM.t hP) (Nat.le_of_ble_eq_true rfl) (hc) ?_
    intro r σ hr
    obtain ⟨S2, rfl, hP, hK2, hX2⟩ := hr
    refine cI ?_
    refine x_ri T_353_83 ?_
    exact ⟨S2, rfl, hP, hK2, hX2⟩
  rw [if_neg c2] at hR
  suffices h84 : WP fb (d + 18) 353 84 [some (vR (some 2281)), some (vI p), some (vL v), none] [] σ (KD (T + 2708) (U + 400) σ0 S l R.1 R.2.1 R.2.2) by
    by_cases c3 : v = 470021402228
    · skip
      refine x_ll (z := v) T_353_52 rfl ?_
      refine x_lc T_353_53 ?_
      refine x_lif T_353_56 T_353_57 (fun h => absurd (show ¬ v = 470021402228 from h) (by omega)) (fun _ => ?_)
      refine x_lr (z := some 2281) T_353_60 rfl ?_
      refine x_gI (z := N) T_353_61 (Or.inl F_17_77) (PM.t hP) (Eq.trans (PM.nS hP 2281 77 77 rfl rfl rfl) h77) ?_
      refine x_i2l T_353_64 ?_
      refine x_lc T_353_65 ?_
      refine x_lc T_353_68 ?_
      refine x_cs3 T_353_71 mN_282 mL_282 (Nat.le_of_ble_eq_true rfl) mK_282 (Nat.le_of_ble_eq_true rfl) (CL_val m_in (if_neg (by omega))) ?_
      rintro _ σ ⟨rfl, rfl⟩
      refine cI ?_
      refine x_if T_353_74 (fun _ => ?_) (fun h => absurd (show (0 : Int) = 0 by decide) h)
      exact h84
    · skip
      refine x_ll (z := v) T_353_52 rfl ?_
      refine x_lc T_353_53 ?_
      refine x_lif T_353_56 T_353_57 (fun _ => ?_) (fun h => absurd (show ¬ v = 470021402228 by omega) h)
      exact h84
  have c52 := c2
  clear c2
  by_cases c2 : v = 33053988575604340 ∧ (2 ≤ N ∧ N ≤ 3)
  · rw [if_pos c2] at hR
    subst hR
    have hc := CL.mono (m_unmount (fb := fb) (d := d + 1) hP hK hp (by omega) hN.symm (by omega)) (fun r σ1 hr => KC_KD (T1 := T + 2708) (U1 := U + 400) (by omega) (by omega) hr)
    refine x_ll (z := v) T_353_84 rfl ?_
    refine x_lc T_353_85 ?_
    refine x_lif T_353_88 T_353_89 (fun h => absurd (show ¬ v = 33053988575604340 from h) (by omega)) (fun _ => ?_)
    refine x_lr (z := some 2281) T_353_92 rfl ?_
    refine x_gI (z := N) T_353_93 (Or.inl F_17_77) (PM.t hP) (Eq.trans (PM.nS hP 2281 77 77 rfl rfl rfl) h77) ?_
    refine x_i2l T_353_96 ?_
    refine x_lc T_353_97 ?_
    refine x_lc T_353_100 ?_
    refine x_cs3 T_353_103 mN_282 mL_282 (Nat.le_of_ble_eq_true rfl) mK_282 (Nat.le_of_ble_eq_true rfl) (CL_val m_in (if_pos (by omega))) ?_
    rintro _ σ ⟨rfl, rfl⟩
    refine cI ?_
    refine x_if T_353_106 (fun h => absurd (show (1 : Int) = 0 from h) (by decide)) (fun _ => ?_)
    refine x_lr (z := some 2281) T_353_109 rfl ?_
    refine x_li (z := p) T_353_110 rfl ?_
    refine x_cv2 T_353_111 mN_368 mL_368 (Nat.le_of_ble_eq_true rfl) mO_368 (PM.t hP) (Nat.le_of_ble_eq_true rfl) (hc) ?_
    intro r σ hr
    obtain ⟨S2, rfl, hP, hK2, hX2⟩ := hr
    refine cI ?_
    refine x_ri T_353_114 ?_
    exact ⟨S2, rfl, hP, hK2, hX2⟩
  rw [if_neg c2] at hR
  suffices h115 : WP fb (d + 18) 353 115 [some (vR (some 2281)), some (vI p), some (vL v), none] [] σ (KD (T + 2708) (U + 400) σ0 S l R.1 R.2.1 R.2.2) by
    by_cases c3 : v = 33053988575604340
    · skip
      refine x_ll (z := v) T_353_84 rfl ?_
      refine x_lc T_353_85 ?_
      refine x_lif T_353_88 T_353_89 (fun h => absurd (show ¬ v = 33053988575604340 from h) (by omega)) (fun _ => ?_)
      refine x_lr (z := some 2281) T_353_92 rfl ?_
      refine x_gI (z := N) T_353_93 (Or.inl F_17_77) (PM.t hP) (Eq.trans (PM.nS hP 2281 77 77 rfl rfl rfl) h77) ?_
      refine x_i2l T_353_96 ?_
      refine x_lc T_353_97 ?_
      refine x_lc T_353_100 ?_
      refine x_cs3 T_353_103 mN_282 mL_282 (Nat.le_of_ble_eq_true rfl) mK_282 (Nat.le_of_ble_eq_true rfl) (CL_val m_in (if_neg (by omega))) ?_
      rintro _ σ ⟨rfl, rfl⟩
      refine cI ?_
      refine x_if T_353_106 (fun _ => ?_) (fun h => absurd (show (0 : Int) = 0 by decide) h)
      exact h115
    · skip
      refine x_ll (z := v) T_353_84 rfl ?_
      refine x_lc T_353_85 ?_
      refine x_lif T_353_88 T_353_89 (fun _ => ?_) (fun h => absurd (show ¬ v = 33053988575604340 by omega) h)
      exact h115
  have c84 := c2
  clear c2
  by_cases c2 : v = 7562612 ∧ (2 ≤ N ∧ N ≤ 3)
  · rw [if_pos c2] at hR
    subst hR
    have hc := CL.mono (m_set (fb := fb) (d := d + 15) hP hK hp (by omega)) (fun r σ1 hr => KC_KD (T1 := T + 2708) (U1 := U + 400) (by omega) (by omega) hr)
    refine x_ll (z := v) T_353_115 rfl ?_
    refine x_lc T_353_116 ?_
    refine x_lif T_353_119 T_353_120 (fun h => absurd (show ¬ v = 7562612 from h) (by omega)) (fun _ => ?_)
    refine x_lr (z := some 2281) T_353_123 rfl ?_
    refine x_gI (z := N) T_353_124 (Or.inl F_17_77) (PM.t hP) (Eq.trans (PM.nS hP 2281 77 77 rfl rfl rfl) h77) ?_
    refine x_i2l T_353_127 ?_
    refine x_lc T_353_128 ?_
    refine x_lc T_353_131 ?_
    refine x_cs3 T_353_134 mN_282 mL_282 (Nat.le_of_ble_eq_true rfl) mK_282 (Nat.le_of_ble_eq_true rfl) (CL_val m_in (if_pos (by omega))) ?_
    rintro _ σ ⟨rfl, rfl⟩
    refine cI ?_
    refine x_if T_353_137 (fun h => absurd (show (1 : Int) = 0 from h) (by decide)) (fun _ => ?_)
    refine x_lr (z := some 2281) T_353_140 rfl ?_
    refine x_li (z := p) T_353_141 rfl ?_
    refine x_cv2 T_353_142 mN_371 mL_371 (Nat.le_of_ble_eq_true rfl) mO_371 (PM.t hP) (Nat.le_of_ble_eq_true rfl) (hc) ?_
    intro r σ hr
    obtain ⟨S2, rfl, hP, hK2, hX2⟩ := hr
    refine cI ?_
    refine x_ri T_353_145 ?_
    exact ⟨S2, rfl, hP, hK2, hX2⟩
  rw [if_neg c2] at hR
  suffices h146 : WP fb (d + 18) 353 146 [some (vR (some 2281)), some (vI p), some (vL v), none] [] σ (KD (T + 2708) (U + 400) σ0 S l R.1 R.2.1 R.2.2) by
    by_cases c3 : v = 7562612
    · skip
      refine x_ll (z := v) T_353_115 rfl ?_
      refine x_lc T_353_116 ?_
      refine x_lif T_353_119 T_353_120 (fun h => absurd (show ¬ v = 7562612 from h) (by omega)) (fun _ => ?_)
      refine x_lr (z := some 2281) T_353_123 rfl ?_
      refine x_gI (z := N) T_353_124 (Or.inl F_17_77) (PM.t hP) (Eq.trans (PM.nS hP 2281 77 77 rfl rfl rfl) h77) ?_
      refine x_i2l T_353_127 ?_
      refine x_lc T_353_128 ?_
      refine x_lc T_353_131 ?_
      refine x_cs3 T_353_134 mN_282 mL_282 (Nat.le_of_ble_eq_true rfl) mK_282 (Nat.le_of_ble_eq_true rfl) (CL_val m_in (if_neg (by omega))) ?_
      rintro _ σ ⟨rfl, rfl⟩
      refine cI ?_
      refine x_if T_353_137 (fun _ => ?_) (fun h => absurd (show (0 : Int) = 0 by decide) h)
      exact h146
    · skip
      refine x_ll (z := v) T_353_115 rfl ?_
      refine x_lc T_353_116 ?_
      refine x_lif T_353_119 T_353_120 (fun _ => ?_) (fun h => absurd (show ¬ v = 7562612 by omega) h)
      exact h146
  have c115 := c2
  clear c2
  by_cases c5 : N = 1 ∧ v = 1702390132
  · rw [if_pos c5] at hR
    subst hR
    refine x_lr (z := some 2281) T_353_146 rfl ?_
    refine x_gI (z := N) T_353_147 (Or.inl F_17_77) (PM.t hP) (Eq.trans (PM.nS hP 2281 77 77 rfl rfl rfl) h77) ?_
    refine x_ic T_353_150 ?_
    refine x_ic2 T_353_151 (fun h => absurd (show ¬ N = 1 from h) (by omega)) (fun _ => ?_)
    refine x_ll (z := v) T_353_154 rfl ?_
    refine x_lc T_353_155 ?_
    refine x_lif T_353_158 T_353_159 (fun h => absurd (show ¬ v = 1702390132 from h) (by omega)) (fun _ => ?_)
    refine x_lr (z := some 2281) T_353_162 rfl ?_
    refine x_gR (z := some 2321) T_353_163 F_17_51 (PM.t hP) (PM.r hP 51 2321 rfl) ?_
    refine x_li (z := p) T_353_166 rfl ?_
    refine x_ic T_353_167 ?_
    refine y_aZP hP T_353_168 rfl 2321 8 rfl rfl rfl (by omega) (by omega) (fun σ hP => ?_)
    refine x_ic T_353_169 ?_
    refine x_ri T_353_170 ?_
    exact ⟨S, rfl, hP, hKx, XC_sc SX_rfl⟩
  rw [if_neg c5] at hR
  suffices h171 : WP fb (d + 18) 353 171 [some (vR (some 2281)), some (vI p), some (vL v), none] [] σ (KD (T + 2708) (U + 400) σ0 S l R.1 R.2.1 R.2.2) by
    by_cases c6 : N = 1
    · skip
      refine x_lr (z := some 2281) T_353_146 rfl ?_
      refine x_gI (z := N) T_353_147 (Or.inl F_17_77) (PM.t hP) (Eq.trans (PM.nS hP 2281 77 77 rfl rfl rfl) h77) ?_
      refine x_ic T_353_150 ?_
      refine x_ic2 T_353_151 (fun h => absurd (show ¬ N = 1 from h) (by omega)) (fun _ => ?_)
      refine x_ll (z := v) T_353_154 rfl ?_
      refine x_lc T_353_155 ?_
      refine x_lif T_353_158 T_353_159 (fun _ => ?_) (fun h => absurd (show ¬ v = 1702390132 by omega) h)
      exact h171
    · skip
      refine x_lr (z := some 2281) T_353_146 rfl ?_
      refine x_gI (z := N) T_353_147 (Or.inl F_17_77) (PM.t hP) (Eq.trans (PM.nS hP 2281 77 77 rfl rfl rfl) h77) ?_
      refine x_ic T_353_150 ?_
      refine x_ic2 T_353_151 (fun _ => ?_) (fun h => absurd (show ¬ N = 1 by omega) h)
      exact h171
  by_cases c6 : N = 2
  · rw [if_pos c6] at hR
    subst hR
    have hc := hone v (fun q => hO q (hN.trans c6)) (hN.trans c6)
    refine x_lr (z := some 2281) T_353_171 rfl ?_
    refine x_gI (z := N) T_353_172 (Or.inl F_17_77) (PM.t hP) (Eq.trans (PM.nS hP 2281 77 77 rfl rfl rfl) h77) ?_
    refine x_ic T_353_175 ?_
    refine x_ic2 T_353_176 (fun h => absurd (show ¬ N = 2 from h) (by omega)) (fun _ => ?_)
    refine x_lr (z := some 2281) T_353_179 rfl ?_
    refine x_li (z := p) T_353_180 rfl ?_
    refine x_ll (z := v) T_353_181 rfl ?_
    refine x_cv3 T_353_182 mN_373 mL_373 (Nat.le_of_ble_eq_true rfl) mO_373 (PM.t hP) (Nat.le_of_ble_eq_true rfl) (hc) ?_
    intro r σ hr
    obtain ⟨S2, rfl, hP, hK2, hX2⟩ := hr
    refine cI ?_
    refine x_goto T_353_185 ?_
    refine x_ri T_353_231 ?_
    exact ⟨S2, rfl, hP, hK2, hX2⟩
  rw [if_neg c6] at hR
  by_cases c7 : N = 3
  · rw [if_pos c7] at hR
    subst hR
    have hc := htwo v (hN.trans c7)
    refine x_lr (z := some 2281) T_353_171 rfl ?_
    refine x_gI (z := N) T_353_172 (Or.inl F_17_77) (PM.t hP) (Eq.trans (PM.nS hP 2281 77 77 rfl rfl rfl) h77) ?_
    refine x_ic T_353_175 ?_
    refine x_ic2 T_353_176 (fun _ => ?_) (fun h => absurd (show ¬ N = 2 by omega) h)
    refine x_lr (z := some 2281) T_353_188 rfl ?_
    refine x_gI (z := N) T_353_189 (Or.inl F_17_77) (PM.t hP) (Eq.trans (PM.nS hP 2281 77 77 rfl rfl rfl) h77) ?_
    refine x_ic T_353_192 ?_
    refine x_ic2 T_353_193 (fun h => absurd (show ¬ N = 3 from h) (by omega)) (fun _ => ?_)
    refine x_lr (z := some 2281) T_353_196 rfl ?_
    refine x_li (z := p) T_353_197 rfl ?_
    refine x_ll (z := v) T_353_198 rfl ?_
    refine x_cv3 T_353_199 mN_388 mL_388 (Nat.le_of_ble_eq_true rfl) mO_388 (PM.t hP) (Nat.le_of_ble_eq_true rfl) (hc) ?_
    intro r σ hr
    obtain ⟨S2, rfl, hP, hK2, hX2⟩ := hr
    refine cI ?_
    refine x_goto T_353_202 ?_
    refine x_ri T_353_231 ?_
    exact ⟨S2, rfl, hP, hK2, hX2⟩
  rw [if_neg c7] at hR
  by_cases c8 : N = 4 ∧ v = 109342978307173
  · rw [if_pos c8] at hR
    subst hR
    have hc := CL.mono (m_createWords (fb := fb) (d := d + 1) hP hK hGO hp (by omega) (by omega) (by omega)) (fun r σ1 hr => KC_KD (T1 := T + 2708) (U1 := U + 400) (by omega) (by omega) hr)
    refine x_lr (z := some 2281) T_353_171 rfl ?_
    refine x_gI (z := N) T_353_172 (Or.inl F_17_77) (PM.t hP) (Eq.trans (PM.nS hP 2281 77 77 rfl rfl rfl) h77) ?_
    refine x_ic T_353_175 ?_
    refine x_ic2 T_353_176 (fun _ => ?_) (fun h => absurd (show ¬ N = 2 by omega) h)
    refine x_lr (z := some 2281) T_353_188 rfl ?_
    refine x_gI (z := N) T_353_189 (Or.inl F_17_77) (PM.t hP) (Eq.trans (PM.nS hP 2281 77 77 rfl rfl rfl) h77) ?_
    refine x_ic T_353_192 ?_
    refine x_ic2 T_353_193 (fun _ => ?_) (fun h => absurd (show ¬ N = 3 by omega) h)
    refine x_lr (z := some 2281) T_353_205 rfl ?_
    refine x_gI (z := N) T_353_206 (Or.inl F_17_77) (PM.t hP) (Eq.trans (PM.nS hP 2281 77 77 rfl rfl rfl) h77) ?_
    refine x_ic T_353_209 ?_
    refine x_ic2 T_353_210 (fun h => absurd (show ¬ N = 4 from h) (by omega)) (fun _ => ?_)
    refine x_ll (z := v) T_353_213 rfl ?_
    refine x_lc T_353_214 ?_
    refine x_lif T_353_217 T_353_218 (fun h => absurd (show ¬ v = 109342978307173 from h) (by omega)) (fun _ => ?_)
    refine x_lr (z := some 2281) T_353_221 rfl ?_
    refine x_li (z := p) T_353_222 rfl ?_
    refine x_cv2 T_353_223 mN_397 mL_397 (Nat.le_of_ble_eq_true rfl) mO_397 (PM.t hP) (Nat.le_of_ble_eq_true rfl) (hc) ?_
    intro r σ hr
    obtain ⟨S2, rfl, hP, hK2, hX2⟩ := hr
    refine cI ?_
    refine x_goto T_353_226 ?_
    refine x_ri T_353_231 ?_
    exact ⟨S2, rfl, hP, hK2, hX2⟩
  rw [if_neg c8] at hR
  subst hR
  by_cases c9 : N = 4
  · skip
    refine x_lr (z := some 2281) T_353_171 rfl ?_
    refine x_gI (z := N) T_353_172 (Or.inl F_17_77) (PM.t hP) (Eq.trans (PM.nS hP 2281 77 77 rfl rfl rfl) h77) ?_
    refine x_ic T_353_175 ?_
    refine x_ic2 T_353_176 (fun _ => ?_) (fun h => absurd (show ¬ N = 2 by omega) h)
    refine x_lr (z := some 2281) T_353_188 rfl ?_
    refine x_gI (z := N) T_353_189 (Or.inl F_17_77) (PM.t hP) (Eq.trans (PM.nS hP 2281 77 77 rfl rfl rfl) h77) ?_
    refine x_ic T_353_192 ?_
    refine x_ic2 T_353_193 (fun _ => ?_) (fun h => absurd (show ¬ N = 3 by omega) h)
    refine x_lr (z := some 2281) T_353_205 rfl ?_
    refine x_gI (z := N) T_353_206 (Or.inl F_17_77) (PM.t hP) (Eq.trans (PM.nS hP 2281 77 77 rfl rfl rfl) h77) ?_
    refine x_ic T_353_209 ?_
    refine x_ic2 T_353_210 (fun h => absurd (show ¬ N = 4 from h) (by omega)) (fun _ => ?_)
    refine x_ll (z := v) T_353_213 rfl ?_
    refine x_lc T_353_214 ?_
    refine x_lif T_353_217 T_353_218 (fun _ => ?_) (fun h => absurd (show ¬ v = 109342978307173 by omega) h)
    refine x_ic T_353_229 ?_
    refine x_ri T_353_231 ?_
    exact ⟨S, rfl, hP, (hK.mono (by omega)).monoU (by omega), XC_sc SX_rfl⟩
  · skip
    refine x_lr (z := some 2281) T_353_171 rfl ?_
    refine x_gI (z := N) T_353_172 (Or.inl F_17_77) (PM.t hP) (Eq.trans (PM.nS hP 2281 77 77 rfl rfl rfl) h77) ?_
    refine x_ic T_353_175 ?_
    refine x_ic2 T_353_176 (fun _ => ?_) (fun h => absurd (show ¬ N = 2 by omega) h)
    refine x_lr (z := some 2281) T_353_188 rfl ?_
    refine x_gI (z := N) T_353_189 (Or.inl F_17_77) (PM.t hP) (Eq.trans (PM.nS hP 2281 77 77 rfl rfl rfl) h77) ?_
    refine x_ic T_353_192 ?_
    refine x_ic2 T_353_193 (fun _ => ?_) (fun h => absurd (show ¬ N = 3 by omega) h)
    refine x_lr (z := some 2281) T_353_205 rfl ?_
    refine x_gI (z := N) T_353_206 (Or.inl F_17_77) (PM.t hP) (Eq.trans (PM.nS hP 2281 77 77 rfl rfl rfl) h77) ?_
    refine x_ic T_353_209 ?_
    refine x_ic2 T_353_210 (fun _ => ?_) (fun h => absurd (show ¬ N = 4 by omega) h)
    refine x_ic T_353_229 ?_
    refine x_ri T_353_231 ?_
    exact ⟨S, rfl, hP, (hK.mono (by omega)).monoU (by omega), XC_sc SX_rfl⟩
end MCOM
