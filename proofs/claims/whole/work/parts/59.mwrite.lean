/-! What the reference's servers answer: writes. -/
theorem T_297_0 : hTab 297 0 = some ((3, 0, 2, []), 1) := rfl
theorem T_297_1 : hTab 297 1 = some ((0, 0, 4, []), 2) := rfl
theorem T_297_2 : hTab 297 2 = some ((31, 234, 0, []), 5) := rfl
theorem T_297_5 : hTab 297 5 = some ((4, 3, 1, []), 6) := rfl
theorem T_297_6 : hTab 297 6 = some ((3, 0, 2, []), 7) := rfl
theorem T_297_7 : hTab 297 7 = some ((0, 0, 8, []), 9) := rfl
theorem T_297_9 : hTab 297 9 = some ((31, 234, 0, []), 12) := rfl
theorem T_297_12 : hTab 297 12 = some ((4, 5, 1, []), 14) := rfl
theorem T_297_14 : hTab 297 14 = some ((3, 0, 2, []), 15) := rfl
theorem T_297_15 : hTab 297 15 = some ((0, 0, 4, []), 16) := rfl
theorem T_297_16 : hTab 297 16 = some ((31, 234, 0, []), 19) := rfl
theorem T_297_19 : hTab 297 19 = some ((4, 7, 1, []), 21) := rfl
theorem T_297_21 : hTab 297 21 = some ((3, 0, 2, []), 22) := rfl
theorem T_297_22 : hTab 297 22 = some ((24, 17, Int.ofNat 8, []), 25) := rfl
theorem T_297_25 : hTab 297 25 = some ((4, 9, 0, []), 27) := rfl
theorem T_297_27 : hTab 297 27 = some ((3, 0, 2, []), 28) := rfl
theorem T_297_28 : hTab 297 28 = some ((24, 17, Int.ofNat 9, []), 31) := rfl
theorem T_297_31 : hTab 297 31 = some ((18, 1, Int.ofNat 50, []), 34) := rfl
theorem T_297_34 : hTab 297 34 = some ((3, 7, 1, []), 36) := rfl
theorem T_297_36 : hTab 297 36 = some ((3, 0, 2, []), 37) := rfl
theorem T_297_37 : hTab 297 37 = some ((24, 17, Int.ofNat 4, []), 40) := rfl
theorem T_297_40 : hTab 297 40 = some ((3, 0, 2, []), 41) := rfl
theorem T_297_41 : hTab 297 41 = some ((24, 17, Int.ofNat 8, []), 44) := rfl
theorem T_297_44 : hTab 297 44 = some ((10, 1, 0, []), 45) := rfl
theorem T_297_45 : hTab 297 45 = some ((14, 0, 0, []), 46) := rfl
theorem T_297_46 : hTab 297 46 = some ((17, 0, 0, []), 47) := rfl
theorem T_297_47 : hTab 297 47 = some ((18, 0, Int.ofNat 57, []), 50) := rfl
theorem T_297_50 : hTab 297 50 = some ((3, 0, 2, []), 51) := rfl
theorem T_297_51 : hTab 297 51 = some ((0, 0, 14, []), 53) := rfl
theorem T_297_53 : hTab 297 53 = some ((31, 235, 0, []), 56) := rfl
theorem T_297_56 : hTab 297 56 = some ((33, 0, 0, []), 57) := rfl
theorem T_297_57 : hTab 297 57 = some ((3, 7, 1, []), 59) := rfl
theorem T_297_59 : hTab 297 59 = some ((15, 0, 0, []), 60) := rfl
theorem T_297_60 : hTab 297 60 = some ((4, 10, 0, []), 62) := rfl
theorem T_297_62 : hTab 297 62 = some ((3, 0, 2, []), 63) := rfl
theorem T_297_63 : hTab 297 63 = some ((3, 1, 0, []), 64) := rfl
theorem T_297_64 : hTab 297 64 = some ((3, 2, 0, []), 65) := rfl
theorem T_297_65 : hTab 297 65 = some ((3, 3, 1, []), 66) := rfl
theorem T_297_66 : hTab 297 66 = some ((31, 261, 0, []), 69) := rfl
theorem T_297_69 : hTab 297 69 = some ((4, 11, 0, []), 71) := rfl
theorem T_297_71 : hTab 297 71 = some ((3, 11, 0, []), 73) := rfl
theorem T_297_73 : hTab 297 73 = some ((18, 2, Int.ofNat 110, []), 76) := rfl
theorem T_297_76 : hTab 297 76 = some ((3, 0, 2, []), 77) := rfl
theorem T_297_77 : hTab 297 77 = some ((24, 17, Int.ofNat 33, []), 80) := rfl
theorem T_297_80 : hTab 297 80 = some ((3, 11, 0, []), 82) := rfl
theorem T_297_82 : hTab 297 82 = some ((26, 0, 0, []), 83) := rfl
theorem T_297_83 : hTab 297 83 = some ((18, 2, Int.ofNat 110, []), 86) := rfl
theorem T_297_86 : hTab 297 86 = some ((3, 0, 2, []), 87) := rfl
theorem T_297_87 : hTab 297 87 = some ((24, 17, Int.ofNat 33, []), 90) := rfl
theorem T_297_90 : hTab 297 90 = some ((3, 11, 0, []), 92) := rfl
theorem T_297_92 : hTab 297 92 = some ((26, 0, 0, []), 93) := rfl
theorem T_297_93 : hTab 297 93 = some ((0, 0, 3, []), 94) := rfl
theorem T_297_94 : hTab 297 94 = some ((10, 5, 0, []), 95) := rfl
theorem T_297_95 : hTab 297 95 = some ((14, 0, 0, []), 96) := rfl
theorem T_297_96 : hTab 297 96 = some ((1, 0, 1, []), 97) := rfl
theorem T_297_97 : hTab 297 97 = some ((1, 0, 2, []), 100) := rfl
theorem T_297_100 : hTab 297 100 = some ((31, 282, 0, []), 103) := rfl
theorem T_297_103 : hTab 297 103 = some ((18, 0, Int.ofNat 110, []), 106) := rfl
theorem T_297_106 : hTab 297 106 = some ((0, 0, 1, []), 107) := rfl
theorem T_297_107 : hTab 297 107 = some ((22, 0, Int.ofNat 111, []), 110) := rfl
theorem T_297_110 : hTab 297 110 = some ((0, 0, 0, []), 111) := rfl
theorem T_297_111 : hTab 297 111 = some ((4, 12, 0, []), 113) := rfl
theorem T_297_113 : hTab 297 113 = some ((3, 11, 0, []), 115) := rfl
theorem T_297_115 : hTab 297 115 = some ((18, 3, Int.ofNat 123, []), 118) := rfl
theorem T_297_118 : hTab 297 118 = some ((0, 0, 6, []), 120) := rfl
theorem T_297_120 : hTab 297 120 = some ((22, 0, Int.ofNat 199, []), 123) := rfl
theorem T_297_123 : hTab 297 123 = some ((3, 12, 0, []), 125) := rfl
theorem T_297_125 : hTab 297 125 = some ((18, 1, Int.ofNat 133, []), 128) := rfl
theorem T_297_128 : hTab 297 128 = some ((0, 0, 9, []), 130) := rfl
theorem T_297_130 : hTab 297 130 = some ((22, 0, Int.ofNat 199, []), 133) := rfl
theorem T_297_133 : hTab 297 133 = some ((3, 0, 2, []), 134) := rfl
theorem T_297_134 : hTab 297 134 = some ((24, 17, Int.ofNat 34, []), 137) := rfl
theorem T_297_137 : hTab 297 137 = some ((3, 11, 0, []), 139) := rfl
theorem T_297_139 : hTab 297 139 = some ((26, 2, 0, []), 140) := rfl
theorem T_297_140 : hTab 297 140 = some ((18, 0, Int.ofNat 147, []), 143) := rfl
theorem T_297_143 : hTab 297 143 = some ((0, 0, 1, []), 144) := rfl
theorem T_297_144 : hTab 297 144 = some ((22, 0, Int.ofNat 199, []), 147) := rfl
theorem T_297_147 : hTab 297 147 = some ((3, 1, 0, []), 148) := rfl
theorem T_297_148 : hTab 297 148 = some ((0, 0, 2, []), 149) := rfl
theorem T_297_149 : hTab 297 149 = some ((19, 3, Int.ofNat 171, []), 152) := rfl
theorem T_297_152 : hTab 297 152 = some ((3, 0, 2, []), 153) := rfl
theorem T_297_153 : hTab 297 153 = some ((3, 1, 0, []), 154) := rfl
theorem T_297_154 : hTab 297 154 = some ((3, 0, 2, []), 155) := rfl
theorem T_297_155 : hTab 297 155 = some ((24, 17, Int.ofNat 30, []), 158) := rfl
theorem T_297_158 : hTab 297 158 = some ((3, 11, 0, []), 160) := rfl
theorem T_297_160 : hTab 297 160 = some ((26, 0, 0, []), 161) := rfl
theorem T_297_161 : hTab 297 161 = some ((3, 5, 1, []), 163) := rfl
theorem T_297_163 : hTab 297 163 = some ((3, 10, 0, []), 165) := rfl
theorem T_297_165 : hTab 297 165 = some ((31, 298, 0, []), 168) := rfl
theorem T_297_168 : hTab 297 168 = some ((22, 0, Int.ofNat 199, []), 171) := rfl
theorem T_297_171 : hTab 297 171 = some ((3, 0, 2, []), 172) := rfl
theorem T_297_172 : hTab 297 172 = some ((24, 17, Int.ofNat 30, []), 175) := rfl
theorem T_297_175 : hTab 297 175 = some ((3, 11, 0, []), 177) := rfl
theorem T_297_177 : hTab 297 177 = some ((26, 0, 0, []), 178) := rfl
theorem T_297_178 : hTab 297 178 = some ((0, 0, 1, []), 179) := rfl
theorem T_297_179 : hTab 297 179 = some ((19, 0, Int.ofNat 193, []), 182) := rfl
theorem T_297_182 : hTab 297 182 = some ((3, 0, 2, []), 183) := rfl
theorem T_297_183 : hTab 297 183 = some ((3, 9, 0, []), 185) := rfl
theorem T_297_185 : hTab 297 185 = some ((3, 10, 0, []), 187) := rfl
theorem T_297_187 : hTab 297 187 = some ((31, 299, 0, []), 190) := rfl
theorem T_297_190 : hTab 297 190 = some ((18, 0, Int.ofNat 197, []), 193) := rfl
theorem T_297_193 : hTab 297 193 = some ((0, 0, 0, []), 194) := rfl
theorem T_297_194 : hTab 297 194 = some ((22, 0, Int.ofNat 199, []), 197) := rfl
theorem T_297_197 : hTab 297 197 = some ((0, 0, 14, []), 199) := rfl
theorem T_297_199 : hTab 297 199 = some ((4, 13, 0, []), 201) := rfl
theorem T_297_201 : hTab 297 201 = some ((3, 13, 0, []), 203) := rfl
theorem T_297_203 : hTab 297 203 = some ((18, 5, Int.ofNat 213, []), 206) := rfl
theorem T_297_206 : hTab 297 206 = some ((3, 0, 2, []), 207) := rfl
theorem T_297_207 : hTab 297 207 = some ((3, 13, 0, []), 209) := rfl
theorem T_297_209 : hTab 297 209 = some ((31, 235, 0, []), 212) := rfl
theorem T_297_212 : hTab 297 212 = some ((33, 0, 0, []), 213) := rfl
theorem T_297_213 : hTab 297 213 = some ((3, 1, 0, []), 214) := rfl
theorem T_297_214 : hTab 297 214 = some ((0, 0, 2, []), 215) := rfl
theorem T_297_215 : hTab 297 215 = some ((19, 3, Int.ofNat 234, []), 218) := rfl
theorem T_297_218 : hTab 297 218 = some ((3, 0, 2, []), 219) := rfl
theorem T_297_219 : hTab 297 219 = some ((3, 1, 0, []), 220) := rfl
theorem T_297_220 : hTab 297 220 = some ((3, 11, 0, []), 222) := rfl
theorem T_297_222 : hTab 297 222 = some ((3, 5, 1, []), 224) := rfl
theorem T_297_224 : hTab 297 224 = some ((3, 9, 0, []), 226) := rfl
theorem T_297_226 : hTab 297 226 = some ((3, 10, 0, []), 228) := rfl
theorem T_297_228 : hTab 297 228 = some ((31, 300, 0, []), 231) := rfl
theorem T_297_231 : hTab 297 231 = some ((22, 0, Int.ofNat 321, []), 234) := rfl
theorem T_297_234 : hTab 297 234 = some ((3, 0, 2, []), 235) := rfl
theorem T_297_235 : hTab 297 235 = some ((24, 17, Int.ofNat 30, []), 238) := rfl
theorem T_297_238 : hTab 297 238 = some ((3, 11, 0, []), 240) := rfl
theorem T_297_240 : hTab 297 240 = some ((26, 0, 0, []), 241) := rfl
theorem T_297_241 : hTab 297 241 = some ((0, 0, 1, []), 242) := rfl
theorem T_297_242 : hTab 297 242 = some ((19, 1, Int.ofNat 303, []), 245) := rfl
theorem T_297_245 : hTab 297 245 = some ((0, 0, 0, []), 246) := rfl
theorem T_297_246 : hTab 297 246 = some ((4, 14, 0, []), 248) := rfl
theorem T_297_248 : hTab 297 248 = some ((3, 14, 0, []), 250) := rfl
theorem T_297_250 : hTab 297 250 = some ((3, 10, 0, []), 252) := rfl
theorem T_297_252 : hTab 297 252 = some ((19, 3, Int.ofNat 300, []), 255) := rfl
theorem T_297_255 : hTab 297 255 = some ((3, 0, 2, []), 256) := rfl
theorem T_297_256 : hTab 297 256 = some ((24, 17, Int.ofNat 41, []), 259) := rfl
theorem T_297_259 : hTab 297 259 = some ((0, 0, 1000, []), 262) := rfl
theorem T_297_262 : hTab 297 262 = some ((19, 3, Int.ofNat 294, []), 265) := rfl
theorem T_297_265 : hTab 297 265 = some ((3, 0, 2, []), 266) := rfl
theorem T_297_266 : hTab 297 266 = some ((24, 17, Int.ofNat 40, []), 269) := rfl
theorem T_297_269 : hTab 297 269 = some ((3, 0, 2, []), 270) := rfl
theorem T_297_270 : hTab 297 270 = some ((24, 17, Int.ofNat 41, []), 273) := rfl
theorem T_297_273 : hTab 297 273 = some ((3, 0, 2, []), 274) := rfl
theorem T_297_274 : hTab 297 274 = some ((24, 17, Int.ofNat 3, []), 277) := rfl
theorem T_297_277 : hTab 297 277 = some ((3, 9, 0, []), 279) := rfl
theorem T_297_279 : hTab 297 279 = some ((3, 14, 0, []), 281) := rfl
theorem T_297_281 : hTab 297 281 = some ((10, 0, 0, []), 282) := rfl
theorem T_297_282 : hTab 297 282 = some ((26, 0, 0, []), 283) := rfl
theorem T_297_283 : hTab 297 283 = some ((27, 0, 0, []), 284) := rfl
theorem T_297_284 : hTab 297 284 = some ((3, 0, 2, []), 285) := rfl
theorem T_297_285 : hTab 297 285 = some ((6, 0, 0, []), 286) := rfl
theorem T_297_286 : hTab 297 286 = some ((24, 17, Int.ofNat 41, []), 289) := rfl
theorem T_297_289 : hTab 297 289 = some ((0, 0, 1, []), 290) := rfl
theorem T_297_290 : hTab 297 290 = some ((10, 0, 0, []), 291) := rfl
theorem T_297_291 : hTab 297 291 = some ((25, 17, Int.ofNat 41, []), 294) := rfl
theorem T_297_294 : hTab 297 294 = some ((5, 14, 1, []), 297) := rfl
theorem T_297_297 : hTab 297 297 = some ((22, 0, Int.ofNat 248, []), 300) := rfl
theorem T_297_300 : hTab 297 300 = some ((22, 0, Int.ofNat 321, []), 303) := rfl
theorem T_297_303 : hTab 297 303 = some ((3, 0, 2, []), 304) := rfl
theorem T_297_304 : hTab 297 304 = some ((24, 17, Int.ofNat 51, []), 307) := rfl
theorem T_297_307 : hTab 297 307 = some ((3, 0, 2, []), 308) := rfl
theorem T_297_308 : hTab 297 308 = some ((24, 17, Int.ofNat 30, []), 311) := rfl
theorem T_297_311 : hTab 297 311 = some ((3, 11, 0, []), 313) := rfl
theorem T_297_313 : hTab 297 313 = some ((26, 0, 0, []), 314) := rfl
theorem T_297_314 : hTab 297 314 = some ((0, 0, 16, []), 316) := rfl
theorem T_297_316 : hTab 297 316 = some ((10, 3, 0, []), 317) := rfl
theorem T_297_317 : hTab 297 317 = some ((0, 0, 1, []), 318) := rfl
theorem T_297_318 : hTab 297 318 = some ((10, 1, 0, []), 319) := rfl
theorem T_297_319 : hTab 297 319 = some ((0, 0, 1, []), 320) := rfl
theorem T_297_320 : hTab 297 320 = some ((27, 2, 0, []), 321) := rfl
theorem T_297_321 : hTab 297 321 = some ((3, 0, 2, []), 322) := rfl
theorem T_297_322 : hTab 297 322 = some ((0, 0, 119, []), 324) := rfl
theorem T_297_324 : hTab 297 324 = some ((31, 236, 0, []), 327) := rfl
theorem T_297_327 : hTab 297 327 = some ((3, 0, 2, []), 328) := rfl
theorem T_297_328 : hTab 297 328 = some ((0, 0, 4, []), 329) := rfl
theorem T_297_329 : hTab 297 329 = some ((3, 10, 0, []), 331) := rfl
theorem T_297_331 : hTab 297 331 = some ((14, 0, 0, []), 332) := rfl
theorem T_297_332 : hTab 297 332 = some ((31, 237, 0, []), 335) := rfl
theorem T_297_335 : hTab 297 335 = some ((33, 0, 0, []), 336) := rfl
theorem T_298_0 : hTab 298 0 = some ((3, 1, 0, []), 1) := rfl
theorem T_298_1 : hTab 298 1 = some ((3, 2, 0, []), 2) := rfl
theorem T_298_2 : hTab 298 2 = some ((31, 247, 0, []), 5) := rfl
theorem T_298_5 : hTab 298 5 = some ((4, 6, 0, []), 7) := rfl
theorem T_298_7 : hTab 298 7 = some ((3, 0, 2, []), 8) := rfl
theorem T_298_8 : hTab 298 8 = some ((24, 17, Int.ofNat 17, []), 11) := rfl
theorem T_298_11 : hTab 298 11 = some ((3, 6, 0, []), 13) := rfl
theorem T_298_13 : hTab 298 13 = some ((26, 0, 0, []), 14) := rfl
theorem T_298_14 : hTab 298 14 = some ((0, 0, 1073741824, []), 17) := rfl
theorem T_298_17 : hTab 298 17 = some ((10, 5, 0, []), 18) := rfl
theorem T_298_18 : hTab 298 18 = some ((18, 0, Int.ofNat 25, []), 21) := rfl
theorem T_298_21 : hTab 298 21 = some ((0, 0, 1, []), 22) := rfl
theorem T_298_22 : hTab 298 22 = some ((22, 0, Int.ofNat 26, []), 25) := rfl
theorem T_298_25 : hTab 298 25 = some ((0, 0, 0, []), 26) := rfl
theorem T_298_26 : hTab 298 26 = some ((4, 7, 0, []), 28) := rfl
theorem T_298_28 : hTab 298 28 = some ((3, 7, 0, []), 30) := rfl
theorem T_298_30 : hTab 298 30 = some ((18, 1, Int.ofNat 52, []), 33) := rfl
theorem T_298_33 : hTab 298 33 = some ((3, 3, 1, []), 34) := rfl
theorem T_298_34 : hTab 298 34 = some ((1, 0, 0, []), 35) := rfl
theorem T_298_35 : hTab 298 35 = some ((3, 0, 2, []), 36) := rfl
theorem T_298_36 : hTab 298 36 = some ((24, 17, Int.ofNat 21, []), 39) := rfl
theorem T_298_39 : hTab 298 39 = some ((3, 6, 0, []), 41) := rfl
theorem T_298_41 : hTab 298 41 = some ((26, 0, 0, []), 42) := rfl
theorem T_298_42 : hTab 298 42 = some ((14, 0, 0, []), 43) := rfl
theorem T_298_43 : hTab 298 43 = some ((31, 282, 0, []), 46) := rfl
theorem T_298_46 : hTab 298 46 = some ((18, 1, Int.ofNat 52, []), 49) := rfl
theorem T_298_49 : hTab 298 49 = some ((0, 0, 13, []), 51) := rfl
theorem T_298_51 : hTab 298 51 = some ((33, 1, 0, []), 52) := rfl
theorem T_298_52 : hTab 298 52 = some ((3, 7, 0, []), 54) := rfl
theorem T_298_54 : hTab 298 54 = some ((18, 0, Int.ofNat 67, []), 57) := rfl
theorem T_298_57 : hTab 298 57 = some ((3, 0, 2, []), 58) := rfl
theorem T_298_58 : hTab 298 58 = some ((24, 17, Int.ofNat 21, []), 61) := rfl
theorem T_298_61 : hTab 298 61 = some ((3, 6, 0, []), 63) := rfl
theorem T_298_63 : hTab 298 63 = some ((26, 0, 0, []), 64) := rfl
theorem T_298_64 : hTab 298 64 = some ((22, 0, Int.ofNat 69, []), 67) := rfl
theorem T_298_67 : hTab 298 67 = some ((3, 3, 1, []), 68) := rfl
theorem T_298_68 : hTab 298 68 = some ((15, 0, 0, []), 69) := rfl
theorem T_298_69 : hTab 298 69 = some ((3, 5, 0, []), 71) := rfl
theorem T_298_71 : hTab 298 71 = some ((10, 0, 0, []), 72) := rfl
theorem T_298_72 : hTab 298 72 = some ((4, 8, 0, []), 74) := rfl
theorem T_298_74 : hTab 298 74 = some ((3, 8, 0, []), 76) := rfl
theorem T_298_76 : hTab 298 76 = some ((3, 0, 2, []), 77) := rfl
theorem T_298_77 : hTab 298 77 = some ((24, 17, Int.ofNat 21, []), 80) := rfl
theorem T_298_80 : hTab 298 80 = some ((3, 6, 0, []), 82) := rfl
theorem T_298_82 : hTab 298 82 = some ((26, 0, 0, []), 83) := rfl
theorem T_298_83 : hTab 298 83 = some ((19, 5, Int.ofNat 99, []), 86) := rfl
theorem T_298_86 : hTab 298 86 = some ((3, 8, 0, []), 88) := rfl
theorem T_298_88 : hTab 298 88 = some ((3, 0, 2, []), 89) := rfl
theorem T_298_89 : hTab 298 89 = some ((24, 17, Int.ofNat 21, []), 92) := rfl
theorem T_298_92 : hTab 298 92 = some ((3, 6, 0, []), 94) := rfl
theorem T_298_94 : hTab 298 94 = some ((26, 0, 0, []), 95) := rfl
theorem T_298_95 : hTab 298 95 = some ((10, 1, 0, []), 96) := rfl
theorem T_298_96 : hTab 298 96 = some ((22, 0, Int.ofNat 100, []), 99) := rfl
theorem T_298_99 : hTab 298 99 = some ((0, 0, 0, []), 100) := rfl
theorem T_298_100 : hTab 298 100 = some ((4, 9, 0, []), 102) := rfl
theorem T_298_102 : hTab 298 102 = some ((3, 8, 0, []), 104) := rfl
theorem T_298_104 : hTab 298 104 = some ((0, 0, 600, []), 107) := rfl
theorem T_298_107 : hTab 298 107 = some ((19, 4, Int.ofNat 125, []), 110) := rfl
theorem T_298_110 : hTab 298 110 = some ((3, 0, 2, []), 111) := rfl
theorem T_298_111 : hTab 298 111 = some ((24, 17, Int.ofNat 25, []), 114) := rfl
theorem T_298_114 : hTab 298 114 = some ((3, 1, 0, []), 115) := rfl
theorem T_298_115 : hTab 298 115 = some ((26, 0, 0, []), 116) := rfl
theorem T_298_116 : hTab 298 116 = some ((3, 9, 0, []), 118) := rfl
theorem T_298_118 : hTab 298 118 = some ((10, 0, 0, []), 119) := rfl
theorem T_298_119 : hTab 298 119 = some ((0, 0, 8192, []), 122) := rfl
theorem T_298_122 : hTab 298 122 = some ((19, 5, Int.ofNat 130, []), 125) := rfl
theorem T_298_125 : hTab 298 125 = some ((0, 0, 12, []), 127) := rfl
theorem T_298_127 : hTab 298 127 = some ((22, 0, Int.ofNat 131, []), 130) := rfl
theorem T_298_130 : hTab 298 130 = some ((0, 0, 0, []), 131) := rfl
theorem T_298_131 : hTab 298 131 = some ((33, 1, 0, []), 132) := rfl
theorem T_299_0 : hTab 299 0 = some ((3, 2, 0, []), 1) := rfl
theorem T_299_1 : hTab 299 1 = some ((0, 0, 4, []), 2) := rfl
theorem T_299_2 : hTab 299 2 = some ((19, 0, Int.ofNat 23, []), 5) := rfl
theorem T_299_5 : hTab 299 5 = some ((3, 2, 0, []), 6) := rfl
theorem T_299_6 : hTab 299 6 = some ((0, 0, 5, []), 7) := rfl
theorem T_299_7 : hTab 299 7 = some ((19, 1, Int.ofNat 39, []), 10) := rfl
theorem T_299_10 : hTab 299 10 = some ((3, 0, 2, []), 11) := rfl
theorem T_299_11 : hTab 299 11 = some ((24, 17, Int.ofNat 3, []), 14) := rfl
theorem T_299_14 : hTab 299 14 = some ((3, 1, 0, []), 15) := rfl
theorem T_299_15 : hTab 299 15 = some ((0, 0, 4, []), 16) := rfl
theorem T_299_16 : hTab 299 16 = some ((10, 0, 0, []), 17) := rfl
theorem T_299_17 : hTab 299 17 = some ((26, 0, 0, []), 18) := rfl
theorem T_299_18 : hTab 299 18 = some ((0, 0, 10, []), 20) := rfl
theorem T_299_20 : hTab 299 20 = some ((19, 1, Int.ofNat 39, []), 23) := rfl
theorem T_299_23 : hTab 299 23 = some ((3, 0, 2, []), 24) := rfl
theorem T_299_24 : hTab 299 24 = some ((3, 1, 0, []), 25) := rfl
theorem T_299_25 : hTab 299 25 = some ((1, 0, 1802071148, []), 28) := rfl
theorem T_299_28 : hTab 299 28 = some ((0, 0, 4, []), 29) := rfl
theorem T_299_29 : hTab 299 29 = some ((31, 256, 0, []), 32) := rfl
theorem T_299_32 : hTab 299 32 = some ((18, 0, Int.ofNat 39, []), 35) := rfl
theorem T_299_35 : hTab 299 35 = some ((0, 0, 1, []), 36) := rfl
theorem T_299_36 : hTab 299 36 = some ((22, 0, Int.ofNat 40, []), 39) := rfl
theorem T_299_39 : hTab 299 39 = some ((0, 0, 0, []), 40) := rfl
theorem T_299_40 : hTab 299 40 = some ((33, 2, 0, []), 41) := rfl
theorem T_300_0 : hTab 300 0 = some ((3, 0, 2, []), 1) := rfl
theorem T_300_1 : hTab 300 1 = some ((24, 17, Int.ofNat 30, []), 4) := rfl
theorem T_300_4 : hTab 300 4 = some ((3, 2, 0, []), 5) := rfl
theorem T_300_5 : hTab 300 5 = some ((26, 0, 0, []), 6) := rfl
theorem T_300_6 : hTab 300 6 = some ((4, 7, 0, []), 8) := rfl
theorem T_300_8 : hTab 300 8 = some ((3, 1, 0, []), 9) := rfl
theorem T_300_9 : hTab 300 9 = some ((3, 7, 0, []), 11) := rfl
theorem T_300_11 : hTab 300 11 = some ((31, 247, 0, []), 14) := rfl
theorem T_300_14 : hTab 300 14 = some ((4, 8, 0, []), 16) := rfl
theorem T_300_16 : hTab 300 16 = some ((3, 0, 2, []), 17) := rfl
theorem T_300_17 : hTab 300 17 = some ((24, 17, Int.ofNat 17, []), 20) := rfl
theorem T_300_20 : hTab 300 20 = some ((3, 8, 0, []), 22) := rfl
theorem T_300_22 : hTab 300 22 = some ((26, 0, 0, []), 23) := rfl
theorem T_300_23 : hTab 300 23 = some ((0, 0, 1073741824, []), 26) := rfl
theorem T_300_26 : hTab 300 26 = some ((10, 5, 0, []), 27) := rfl
theorem T_300_27 : hTab 300 27 = some ((18, 0, Int.ofNat 40, []), 30) := rfl
theorem T_300_30 : hTab 300 30 = some ((3, 0, 2, []), 31) := rfl
theorem T_300_31 : hTab 300 31 = some ((24, 17, Int.ofNat 21, []), 34) := rfl
theorem T_300_34 : hTab 300 34 = some ((3, 8, 0, []), 36) := rfl
theorem T_300_36 : hTab 300 36 = some ((26, 0, 0, []), 37) := rfl
theorem T_300_37 : hTab 300 37 = some ((22, 0, Int.ofNat 42, []), 40) := rfl
theorem T_300_40 : hTab 300 40 = some ((3, 3, 1, []), 41) := rfl
theorem T_300_41 : hTab 300 41 = some ((15, 0, 0, []), 42) := rfl
theorem T_300_42 : hTab 300 42 = some ((4, 9, 0, []), 44) := rfl
theorem T_300_44 : hTab 300 44 = some ((3, 9, 0, []), 46) := rfl
theorem T_300_46 : hTab 300 46 = some ((3, 6, 0, []), 48) := rfl
theorem T_300_48 : hTab 300 48 = some ((10, 0, 0, []), 49) := rfl
theorem T_300_49 : hTab 300 49 = some ((3, 0, 2, []), 50) := rfl
theorem T_300_50 : hTab 300 50 = some ((24, 17, Int.ofNat 21, []), 53) := rfl
theorem T_300_53 : hTab 300 53 = some ((3, 8, 0, []), 55) := rfl
theorem T_300_55 : hTab 300 55 = some ((26, 0, 0, []), 56) := rfl
theorem T_300_56 : hTab 300 56 = some ((19, 5, Int.ofNat 71, []), 59) := rfl
theorem T_300_59 : hTab 300 59 = some ((3, 0, 2, []), 60) := rfl
theorem T_300_60 : hTab 300 60 = some ((3, 1, 0, []), 61) := rfl
theorem T_300_61 : hTab 300 61 = some ((3, 7, 0, []), 63) := rfl
theorem T_300_63 : hTab 300 63 = some ((3, 9, 0, []), 65) := rfl
theorem T_300_65 : hTab 300 65 = some ((3, 6, 0, []), 67) := rfl
theorem T_300_67 : hTab 300 67 = some ((10, 0, 0, []), 68) := rfl
theorem T_300_68 : hTab 300 68 = some ((31, 276, 0, []), 71) := rfl
theorem T_300_71 : hTab 300 71 = some ((0, 0, 0, []), 72) := rfl
theorem T_300_72 : hTab 300 72 = some ((4, 10, 0, []), 74) := rfl
theorem T_300_74 : hTab 300 74 = some ((3, 10, 0, []), 76) := rfl
theorem T_300_76 : hTab 300 76 = some ((3, 6, 0, []), 78) := rfl
theorem T_300_78 : hTab 300 78 = some ((19, 3, Int.ofNat 114, []), 81) := rfl
theorem T_300_81 : hTab 300 81 = some ((3, 0, 2, []), 82) := rfl
theorem T_300_82 : hTab 300 82 = some ((24, 17, Int.ofNat 24, []), 85) := rfl
theorem T_300_85 : hTab 300 85 = some ((0, 0, 600, []), 88) := rfl
theorem T_300_88 : hTab 300 88 = some ((3, 8, 0, []), 90) := rfl
theorem T_300_90 : hTab 300 90 = some ((10, 2, 0, []), 91) := rfl
theorem T_300_91 : hTab 300 91 = some ((3, 9, 0, []), 93) := rfl
theorem T_300_93 : hTab 300 93 = some ((10, 0, 0, []), 94) := rfl
theorem T_300_94 : hTab 300 94 = some ((3, 10, 0, []), 96) := rfl
theorem T_300_96 : hTab 300 96 = some ((10, 0, 0, []), 97) := rfl
theorem T_300_97 : hTab 300 97 = some ((3, 0, 2, []), 98) := rfl
theorem T_300_98 : hTab 300 98 = some ((24, 17, Int.ofNat 3, []), 101) := rfl
theorem T_300_101 : hTab 300 101 = some ((3, 5, 0, []), 103) := rfl
theorem T_300_103 : hTab 300 103 = some ((3, 10, 0, []), 105) := rfl
theorem T_300_105 : hTab 300 105 = some ((10, 0, 0, []), 106) := rfl
theorem T_300_106 : hTab 300 106 = some ((26, 0, 0, []), 107) := rfl
theorem T_300_107 : hTab 300 107 = some ((27, 0, 0, []), 108) := rfl
theorem T_300_108 : hTab 300 108 = some ((5, 10, 1, []), 111) := rfl
theorem T_300_111 : hTab 300 111 = some ((22, 0, Int.ofNat 74, []), 114) := rfl
theorem T_300_114 : hTab 300 114 = some ((3, 6, 0, []), 116) := rfl
theorem T_300_116 : hTab 300 116 = some ((18, 5, Int.ofNat 132, []), 119) := rfl
theorem T_300_119 : hTab 300 119 = some ((3, 0, 2, []), 120) := rfl
theorem T_300_120 : hTab 300 120 = some ((3, 1, 0, []), 121) := rfl
theorem T_300_121 : hTab 300 121 = some ((3, 7, 0, []), 123) := rfl
theorem T_300_123 : hTab 300 123 = some ((3, 0, 2, []), 124) := rfl
theorem T_300_124 : hTab 300 124 = some ((24, 17, Int.ofNat 32, []), 127) := rfl
theorem T_300_127 : hTab 300 127 = some ((3, 2, 0, []), 128) := rfl
theorem T_300_128 : hTab 300 128 = some ((26, 0, 0, []), 129) := rfl
theorem T_300_129 : hTab 300 129 = some ((31, 255, 0, []), 132) := rfl
theorem T_300_132 : hTab 300 132 = some ((33, 0, 0, []), 133) := rfl
theorem F_17_40 : (hFd 17 40).2.2.1 = 4 := rfl
theorem F_17_51 : (hFd 17 51).2.2.1 = 4 := rfl
theorem mN_297 : hmN 297 = 3 := by decide +kernel
theorem mL_297 : hmL 297 = 15 := by decide +kernel
theorem mK_297 : hmK 297 = 1 := by decide +kernel
theorem mO_297 : hmO 297 = 17 := by decide +kernel
theorem mN_298 : hmN 298 = 5 := by decide +kernel
theorem mL_298 : hmL 298 = 10 := by decide +kernel
theorem mK_298 : hmK 298 = 1 := by decide +kernel
theorem mO_298 : hmO 298 = 17 := by decide +kernel
theorem mN_299 : hmN 299 = 3 := by decide +kernel
theorem mL_299 : hmL 299 = 3 := by decide +kernel
theorem mK_299 : hmK 299 = 1 := by decide +kernel
theorem mO_299 : hmO 299 = 17 := by decide +kernel
theorem mN_300 : hmN 300 = 6 := by decide +kernel
theorem mL_300 : hmL 300 = 11 := by decide +kernel
theorem mK_300 : hmK 300 = 1 := by decide +kernel
theorem mO_300 : hmO 300 = 17 := by decide +kernel
def qWr (P : qR) (s n off z : Int) : Int := if and32 (P 2293 (64 * s + n)) 1073741824 = 0 ∧ ¬ (0 ≤ off ∧ off ≤ P 2297 (64 * s + n)) then 13 else if 600 < (if and32 (P 2293 (64 * s + n)) 1073741824 = 0 then off else P 2297 (64 * s + n)) + z then 12 else if 8192 < P 2301 s + (if P 2297 (64 * s + n) < (if and32 (P 2293 (64 * s + n)) 1073741824 = 0 then off else P 2297 (64 * s + n)) + z then (if and32 (P 2293 (64 * s + n)) 1073741824 = 0 then off else P 2297 (64 * s + n)) + z - P 2297 (64 * s + n) else 0) then 12 else 0
def gWr (P : qR) (s n u b : Int) (l : List Int) : qR := if 0 < (l.length : Int) then gGrow (rW (if P 2297 (64 * s + n) < b + l.length then gSize P s n (b + l.length) else P) 2300 (600 * (64 * s + n) + b) l) s n u else P
def gCon (P : qR) (f : Int → Int) (o : Int) : Nat → qR
  | 0 => P
  | m + 1 => if gCon P f o m 2281 41 < 1000 then rU (rU (gCon P f o m) 2315 (gCon P f o m 2281 41) (f (o + m))) 2281 41 (gCon P f o m 2281 41 + 1) else gCon P f o m
section MWRITE
variable {fb : Bool} {d : Nat} {σ0 σ : hM} {P Q S S1 : qR} {T U s n u c t p z : Int} {st : List (Int × Int)}
theorem m_isKill {o : Int} (hP : PM σ0 P S σ) (hJ : IV true T U S) (ho : 0 ≤ o ∧ o ≤ 500) (hz : 0 ≤ z ∧ z ≤ 512) : CL fb (d + 1) 299 [vR (some 2281), vI o, vI z] σ (rP (if (z = 4 ∨ (z = 5 ∧ S 2285 (o + 4) = 10)) ∧ seg (S 2285) o 4 = seg (pkB 1802071148 4) 0 4 then 1 else 0) σ) := by
  by_cases c : seg (S 2285) o 4 = seg (pkB 1802071148 4) 0 4
  · skip
    refine CL_in mL_299 rfl ?_
    show WP fb _ 299 0 [some (vR (some 2281)), some (vI o), some (vI z)] [] σ _
    refine x_li (z := z) T_299_0 rfl ?_
    refine x_ic T_299_1 ?_
    refine x_ic2 T_299_2 (fun h2 => ?_) (fun h2 => ?_)
    · replace h2 : z = 4 := h2
      refine x_lr (z := some 2281) T_299_23 rfl ?_
      refine x_li (z := o) T_299_24 rfl ?_
      refine x_lc T_299_25 ?_
      refine x_ic T_299_28 ?_
      refine x_cv4 T_299_29 mN_256 mL_256 (Nat.le_of_ble_eq_true rfl) mO_256 (PM.t hP) (Nat.le_of_ble_eq_true rfl) (CL_val (k := 1) (m_isPacked hP hJ (by omega) (by decide) (by omega)) (if_pos c)) ?_
      rintro _ σ ⟨rfl, rfl⟩
      refine cI ?_
      refine x_if T_299_32 (fun h => absurd (show (1 : Int) = 0 from h) (by decide)) (fun _ => ?_)
      refine x_ic T_299_35 ?_
      refine x_goto T_299_36 ?_
      refine x_rz T_299_40 rfl ?_
      refine ⟨?_, rfl⟩
      first | rw [if_pos ⟨by omega, c⟩] | rw [if_neg (fun q => by have := q.1; omega)]
    · replace h2 : ¬ (z = 4) := h2
      refine x_li (z := z) T_299_5 rfl ?_
      refine x_ic T_299_6 ?_
      refine x_ic2 T_299_7 (fun h7 => ?_) (fun h7 => ?_)
      · replace h7 : ¬ z = 5 := h7
        refine x_ic T_299_39 ?_
        refine x_rz T_299_40 rfl ?_
        refine ⟨?_, rfl⟩
        first | rw [if_pos ⟨by omega, c⟩] | rw [if_neg (fun q => by have := q.1; omega)]
      · replace h7 : ¬ (¬ z = 5) := h7
        refine x_lr (z := some 2281) T_299_10 rfl ?_
        refine x_gR (z := some 2285) T_299_11 F_17_3 (PM.t hP) (PM.r hP 3 2285 rfl) ?_
        refine x_li (z := o) T_299_14 rfl ?_
        refine x_ic T_299_15 ?_
        refine x_ib (w := (o + 4)) T_299_16 (fun h => absurd h.1 (by decide)) (w32_id (by omega) (by omega)) ?_
        have b1 : 0 ≤ S 2285 (o + 4) ∧ S 2285 (o + 4) ≤ 255 := IV.a hJ 2285 0 512 rfl rfl rfl (by omega) (by omega)
        refine x_alI (z := S 2285 (o + 4)) T_299_17 (by decide) (PM.ta hP 2285 0 512 rfl rfl) (by omega) (by omega) (PM.aS hP 2285 rfl rfl (by omega)) ?_
        refine x_ic T_299_18 ?_
        refine x_ic2 T_299_20 (fun h20 => ?_) (fun h20 => ?_)
        · replace h20 : ¬ S 2285 (o + 4) = 10 := h20
          refine x_ic T_299_39 ?_
          refine x_rz T_299_40 rfl ?_
          refine ⟨?_, rfl⟩
          first | rw [if_pos ⟨by omega, c⟩] | rw [if_neg (fun q => by have := q.1; omega)]
        · replace h20 : ¬ (¬ S 2285 (o + 4) = 10) := h20
          refine x_lr (z := some 2281) T_299_23 rfl ?_
          refine x_li (z := o) T_299_24 rfl ?_
          refine x_lc T_299_25 ?_
          refine x_ic T_299_28 ?_
          refine x_cv4 T_299_29 mN_256 mL_256 (Nat.le_of_ble_eq_true rfl) mO_256 (PM.t hP) (Nat.le_of_ble_eq_true rfl) (CL_val (k := 1) (m_isPacked hP hJ (by omega) (by decide) (by omega)) (if_pos c)) ?_
          rintro _ σ ⟨rfl, rfl⟩
          refine cI ?_
          refine x_if T_299_32 (fun h => absurd (show (1 : Int) = 0 from h) (by decide)) (fun _ => ?_)
          refine x_ic T_299_35 ?_
          refine x_goto T_299_36 ?_
          refine x_rz T_299_40 rfl ?_
          refine ⟨?_, rfl⟩
          first | rw [if_pos ⟨by omega, c⟩] | rw [if_neg (fun q => by have := q.1; omega)]
  · skip
    refine CL_in mL_299 rfl ?_
    show WP fb _ 299 0 [some (vR (some 2281)), some (vI o), some (vI z)] [] σ _
    refine x_li (z := z) T_299_0 rfl ?_
    refine x_ic T_299_1 ?_
    refine x_ic2 T_299_2 (fun h2 => ?_) (fun h2 => ?_)
    · replace h2 : z = 4 := h2
      refine x_lr (z := some 2281) T_299_23 rfl ?_
      refine x_li (z := o) T_299_24 rfl ?_
      refine x_lc T_299_25 ?_
      refine x_ic T_299_28 ?_
      refine x_cv4 T_299_29 mN_256 mL_256 (Nat.le_of_ble_eq_true rfl) mO_256 (PM.t hP) (Nat.le_of_ble_eq_true rfl) (CL_val (k := 0) (m_isPacked hP hJ (by omega) (by decide) (by omega)) (if_neg c)) ?_
      rintro _ σ ⟨rfl, rfl⟩
      refine cI ?_
      refine x_if T_299_32 (fun _ => ?_) (fun h => absurd (show (0 : Int) = 0 by decide) h)
      refine x_ic T_299_39 ?_
      refine x_rz T_299_40 rfl ?_
      refine ⟨?_, rfl⟩
      rw [if_neg (fun q => c q.2)]
    · replace h2 : ¬ (z = 4) := h2
      refine x_li (z := z) T_299_5 rfl ?_
      refine x_ic T_299_6 ?_
      refine x_ic2 T_299_7 (fun h7 => ?_) (fun h7 => ?_)
      · replace h7 : ¬ z = 5 := h7
        refine x_ic T_299_39 ?_
        refine x_rz T_299_40 rfl ?_
        refine ⟨?_, rfl⟩
        rw [if_neg (fun q => c q.2)]
      · replace h7 : ¬ (¬ z = 5) := h7
        refine x_lr (z := some 2281) T_299_10 rfl ?_
        refine x_gR (z := some 2285) T_299_11 F_17_3 (PM.t hP) (PM.r hP 3 2285 rfl) ?_
        refine x_li (z := o) T_299_14 rfl ?_
        refine x_ic T_299_15 ?_
        refine x_ib (w := (o + 4)) T_299_16 (fun h => absurd h.1 (by decide)) (w32_id (by omega) (by omega)) ?_
        have b1 : 0 ≤ S 2285 (o + 4) ∧ S 2285 (o + 4) ≤ 255 := IV.a hJ 2285 0 512 rfl rfl rfl (by omega) (by omega)
        refine x_alI (z := S 2285 (o + 4)) T_299_17 (by decide) (PM.ta hP 2285 0 512 rfl rfl) (by omega) (by omega) (PM.aS hP 2285 rfl rfl (by omega)) ?_
        refine x_ic T_299_18 ?_
        refine x_ic2 T_299_20 (fun h20 => ?_) (fun h20 => ?_)
        · replace h20 : ¬ S 2285 (o + 4) = 10 := h20
          refine x_ic T_299_39 ?_
          refine x_rz T_299_40 rfl ?_
          refine ⟨?_, rfl⟩
          rw [if_neg (fun q => c q.2)]
        · replace h20 : ¬ (¬ S 2285 (o + 4) = 10) := h20
          refine x_lr (z := some 2281) T_299_23 rfl ?_
          refine x_li (z := o) T_299_24 rfl ?_
          refine x_lc T_299_25 ?_
          refine x_ic T_299_28 ?_
          refine x_cv4 T_299_29 mN_256 mL_256 (Nat.le_of_ble_eq_true rfl) mO_256 (PM.t hP) (Nat.le_of_ble_eq_true rfl) (CL_val (k := 0) (m_isPacked hP hJ (by omega) (by decide) (by omega)) (if_neg c)) ?_
          rintro _ σ ⟨rfl, rfl⟩
          refine cI ?_
          refine x_if T_299_32 (fun _ => ?_) (fun h => absurd (show (0 : Int) = 0 by decide) h)
          refine x_ic T_299_39 ?_
          refine x_rz T_299_40 rfl ?_
          refine ⟨?_, rfl⟩
          rw [if_neg (fun q => c q.2)]
theorem m_writing {off : Int} (hP : PM σ0 P S σ) (hI : IV false T U P) (h : 0 ≤ s ∧ s < 2 ∧ 0 ≤ n ∧ n < 64) (hz : 0 ≤ z ∧ z ≤ 512) : CL fb (d + 1) 298 [vR (some 2281), vI s, vI n, vL off, vI z] σ (rP (qWr P s n off z) σ) := by
  have bl : 0 ≤ P 2297 (64 * s + n) ∧ P 2297 (64 * s + n) ≤ 600 := IV.a hI 2297 0 128 rfl rfl rfl (by omega) (by omega)
  unfold qWr
  by_cases g : and32 (P 2293 (64 * s + n)) 1073741824 = 0
  · rw [if_pos g]
    by_cases ho : 0 ≤ off ∧ off ≤ P 2297 (64 * s + n)
    · rw [if_neg (fun q => q.2 ho)]
      refine CL_in mL_298 rfl ?_
      show WP fb _ 298 0 [some (vR (some 2281)), some (vI s), some (vI n), some (vL off), none, some (vI z), none, none, none, none] [] σ _
      refine x_li (z := s) T_298_0 rfl ?_
      refine x_li (z := n) T_298_1 rfl ?_
      refine x_cs2 T_298_2 mN_247 mL_247 (Nat.le_of_ble_eq_true rfl) mK_247 (Nat.le_of_ble_eq_true rfl) (m_place (by omega)) ?_
      rintro _ σ ⟨rfl, rfl⟩
      refine cI ?_
      refine x_si (ls1 := [some (vR (some 2281)), some (vI s), some (vI n), some (vL off), none, some (vI z), some (vI (64 * s + n)), none, none, none]) T_298_5 rfl ?_
      refine x_lr (z := some 2281) T_298_7 rfl ?_
      refine x_gR (z := some 2293) T_298_8 F_17_17 (PM.t hP) (PM.r hP 17 2293 rfl) ?_
      refine x_li (z := (64 * s + n)) T_298_11 rfl ?_
      have b1 : -2147483648 ≤ P 2293 (64 * s + n) ∧ P 2293 (64 * s + n) ≤ 2147483647 := IV.a hI 2293 0 128 rfl rfl rfl (by omega) (by omega)
      refine x_alI (z := P 2293 (64 * s + n)) T_298_13 (by decide) (PM.ta hP 2293 0 128 rfl rfl) (by omega) (by omega) (PM.aP hP 2293 rfl rfl (by omega)) ?_
      refine x_ic T_298_14 ?_
      refine x_ib (w := (and32 (P 2293 (64 * s + n)) 1073741824)) T_298_17 (fun h => absurd h.1 (by decide)) rfl ?_
      refine x_if T_298_18 (fun _ => ?_) (fun h => absurd (show (and32 (P 2293 (64 * s + n)) 1073741824) = 0 by exact g) h)
      refine x_ic T_298_25 ?_
      refine x_si (ls1 := [some (vR (some 2281)), some (vI s), some (vI n), some (vL off), none, some (vI z), some (vI (64 * s + n)), some (vI 0), none, none]) T_298_26 rfl ?_
      refine x_li (z := 0) T_298_28 rfl ?_
      refine x_if T_298_30 (fun h => absurd (show ¬ (0 : Int) = 0 from h) (by decide)) (fun _ => ?_)
      refine x_ll (z := off) T_298_33 rfl ?_
      refine x_lc T_298_34 ?_
      refine x_lr (z := some 2281) T_298_35 rfl ?_
      refine x_gR (z := some 2297) T_298_36 F_17_21 (PM.t hP) (PM.r hP 21 2297 rfl) ?_
      refine x_li (z := (64 * s + n)) T_298_39 rfl ?_
      have b2 : 0 ≤ P 2297 (64 * s + n) ∧ P 2297 (64 * s + n) ≤ 600 := IV.a hI 2297 0 128 rfl rfl rfl (by omega) (by omega)
      refine x_alI (z := P 2297 (64 * s + n)) T_298_41 (by decide) (PM.ta hP 2297 0 128 rfl rfl) (by omega) (by omega) (PM.aP hP 2297 rfl rfl (by omega)) ?_
      refine x_i2l T_298_42 ?_
      refine x_cs3 T_298_43 mN_282 mL_282 (Nat.le_of_ble_eq_true rfl) mK_282 (Nat.le_of_ble_eq_true rfl) (m_in) ?_
      rintro _ σ ⟨rfl, rfl⟩
      refine cI ?_
      refine x_if T_298_46 (fun _ => ?_) (fun h => absurd (show ¬ (if 0 ≤ off ∧ off ≤ (P 2297 (64 * s + n)) then (1 : Int) else 0) = 0 by rw [if_pos ho]; decide) h)
      refine x_li (z := 0) T_298_52 rfl ?_
      refine x_if T_298_54 (fun _ => ?_) (fun h => absurd (show (0 : Int) = 0 by decide) h)
      refine x_ll (z := off) T_298_67 rfl ?_
      refine x_l2i (w := off) T_298_68 (w32_id (by omega) (by omega)) ?_
      refine x_li (z := z) T_298_69 rfl ?_
      refine x_ib (w := (off + z)) T_298_71 (fun h => absurd h.1 (by decide)) (w32_id (by omega) (by omega)) ?_
      refine x_si (ls1 := [some (vR (some 2281)), some (vI s), some (vI n), some (vL off), none, some (vI z), some (vI (64 * s + n)), some (vI 0), some (vI (off + z)), none]) T_298_72 rfl ?_
      refine x_li (z := (off + z)) T_298_74 rfl ?_
      refine x_lr (z := some 2281) T_298_76 rfl ?_
      refine x_gR (z := some 2297) T_298_77 F_17_21 (PM.t hP) (PM.r hP 21 2297 rfl) ?_
      refine x_li (z := (64 * s + n)) T_298_80 rfl ?_
      refine x_alI (z := P 2297 (64 * s + n)) T_298_82 (by decide) (PM.ta hP 2297 0 128 rfl rfl) (by omega) (by omega) (PM.aP hP 2297 rfl rfl (by omega)) ?_
      refine x_ic2 T_298_83 (fun h83 => ?_) (fun h83 => ?_)
      · replace h83 : (off + z) ≤ P 2297 (64 * s + n) := h83
        refine x_ic T_298_99 ?_
        refine x_si (ls1 := [some (vR (some 2281)), some (vI s), some (vI n), some (vL off), none, some (vI z), some (vI (64 * s + n)), some (vI 0), some (vI (off + z)), some (vI 0)]) T_298_100 rfl ?_
        refine x_li (z := (off + z)) T_298_102 rfl ?_
        refine x_ic T_298_104 ?_
        refine x_ic2 T_298_107 (fun h107 => ?_) (fun h107 => ?_)
        · replace h107 : 600 < (off + z) := h107
          refine x_ic T_298_125 ?_
          refine x_goto T_298_127 ?_
          refine x_ri T_298_131 ?_
          exact ⟨by (repeat' split) <;> first | rfl | omega, rfl⟩
        · replace h107 : ¬ (600 < (off + z)) := h107
          refine x_lr (z := some 2281) T_298_110 rfl ?_
          refine x_gR (z := some 2301) T_298_111 F_17_25 (PM.t hP) (PM.r hP 25 2301 rfl) ?_
          refine x_li (z := s) T_298_114 rfl ?_
          have b3 : 0 ≤ P 2301 s ∧ P 2301 s ≤ 8192 := IV.a hI 2301 0 2 rfl rfl rfl (by omega) (by omega)
          refine x_alI (z := P 2301 s) T_298_115 (by decide) (PM.ta hP 2301 0 2 rfl rfl) (by omega) (by omega) (PM.aP hP 2301 rfl rfl (by omega)) ?_
          refine x_li (z := 0) T_298_116 rfl ?_
          refine x_ib (w := (P 2301 s + 0)) T_298_118 (fun h => absurd h.1 (by decide)) (w32_id (by omega) (by omega)) ?_
          refine x_ic T_298_119 ?_
          refine x_ic2 T_298_122 (fun h122 => ?_) (fun h122 => ?_)
          · replace h122 : (P 2301 s + 0) ≤ 8192 := h122
            refine x_ic T_298_130 ?_
            refine x_ri T_298_131 ?_
            exact ⟨by (repeat' split) <;> first | rfl | omega, rfl⟩
          · replace h122 : ¬ ((P 2301 s + 0) ≤ 8192) := h122
            refine x_ic T_298_125 ?_
            refine x_goto T_298_127 ?_
            refine x_ri T_298_131 ?_
            exact ⟨by (repeat' split) <;> first | rfl | omega, rfl⟩
      · replace h83 : ¬ ((off + z) ≤ P 2297 (64 * s + n)) := h83
        refine x_li (z := (off + z)) T_298_86 rfl ?_
        refine x_lr (z := some 2281) T_298_88 rfl ?_
        refine x_gR (z := some 2297) T_298_89 F_17_21 (PM.t hP) (PM.r hP 21 2297 rfl) ?_
        refine x_li (z := (64 * s + n)) T_298_92 rfl ?_
        refine x_alI (z := P 2297 (64 * s + n)) T_298_94 (by decide) (PM.ta hP 2297 0 128 rfl rfl) (by omega) (by omega) (PM.aP hP 2297 rfl rfl (by omega)) ?_
        refine x_ib (w := ((off + z) - P 2297 (64 * s + n))) T_298_95 (fun h => absurd h.1 (by decide)) (w32_id (by omega) (by omega)) ?_
        refine x_goto T_298_96 ?_
        refine x_si (ls1 := [some (vR (some 2281)), some (vI s), some (vI n), some (vL off), none, some (vI z), some (vI (64 * s + n)), some (vI 0), some (vI (off + z)), some (vI ((off + z) - P 2297 (64 * s + n)))]) T_298_100 rfl ?_
        refine x_li (z := (off + z)) T_298_102 rfl ?_
        refine x_ic T_298_104 ?_
        refine x_ic2 T_298_107 (fun h107 => ?_) (fun h107 => ?_)
        · replace h107 : 600 < (off + z) := h107
          refine x_ic T_298_125 ?_
          refine x_goto T_298_127 ?_
          refine x_ri T_298_131 ?_
          exact ⟨by (repeat' split) <;> first | rfl | omega, rfl⟩
        · replace h107 : ¬ (600 < (off + z)) := h107
          refine x_lr (z := some 2281) T_298_110 rfl ?_
          refine x_gR (z := some 2301) T_298_111 F_17_25 (PM.t hP) (PM.r hP 25 2301 rfl) ?_
          refine x_li (z := s) T_298_114 rfl ?_
          have b4 : 0 ≤ P 2301 s ∧ P 2301 s ≤ 8192 := IV.a hI 2301 0 2 rfl rfl rfl (by omega) (by omega)
          refine x_alI (z := P 2301 s) T_298_115 (by decide) (PM.ta hP 2301 0 2 rfl rfl) (by omega) (by omega) (PM.aP hP 2301 rfl rfl (by omega)) ?_
          refine x_li (z := ((off + z) - P 2297 (64 * s + n))) T_298_116 rfl ?_
          refine x_ib (w := (P 2301 s + ((off + z) - P 2297 (64 * s + n)))) T_298_118 (fun h => absurd h.1 (by decide)) (w32_id (by omega) (by omega)) ?_
          refine x_ic T_298_119 ?_
          refine x_ic2 T_298_122 (fun h122 => ?_) (fun h122 => ?_)
          · replace h122 : (P 2301 s + ((off + z) - P 2297 (64 * s + n))) ≤ 8192 := h122
            refine x_ic T_298_130 ?_
            refine x_ri T_298_131 ?_
            exact ⟨by (repeat' split) <;> first | rfl | omega, rfl⟩
          · replace h122 : ¬ ((P 2301 s + ((off + z) - P 2297 (64 * s + n))) ≤ 8192) := h122
            refine x_ic T_298_125 ?_
            refine x_goto T_298_127 ?_
            refine x_ri T_298_131 ?_
            exact ⟨by (repeat' split) <;> first | rfl | omega, rfl⟩
    · rw [if_pos ⟨g, ho⟩]
      refine CL_in mL_298 rfl ?_
      show WP fb _ 298 0 [some (vR (some 2281)), some (vI s), some (vI n), some (vL off), none, some (vI z), none, none, none, none] [] σ _
      refine x_li (z := s) T_298_0 rfl ?_
      refine x_li (z := n) T_298_1 rfl ?_
      refine x_cs2 T_298_2 mN_247 mL_247 (Nat.le_of_ble_eq_true rfl) mK_247 (Nat.le_of_ble_eq_true rfl) (m_place (by omega)) ?_
      rintro _ σ ⟨rfl, rfl⟩
      refine cI ?_
      refine x_si (ls1 := [some (vR (some 2281)), some (vI s), some (vI n), some (vL off), none, some (vI z), some (vI (64 * s + n)), none, none, none]) T_298_5 rfl ?_
      refine x_lr (z := some 2281) T_298_7 rfl ?_
      refine x_gR (z := some 2293) T_298_8 F_17_17 (PM.t hP) (PM.r hP 17 2293 rfl) ?_
      refine x_li (z := (64 * s + n)) T_298_11 rfl ?_
      have b1 : -2147483648 ≤ P 2293 (64 * s + n) ∧ P 2293 (64 * s + n) ≤ 2147483647 := IV.a hI 2293 0 128 rfl rfl rfl (by omega) (by omega)
      refine x_alI (z := P 2293 (64 * s + n)) T_298_13 (by decide) (PM.ta hP 2293 0 128 rfl rfl) (by omega) (by omega) (PM.aP hP 2293 rfl rfl (by omega)) ?_
      refine x_ic T_298_14 ?_
      refine x_ib (w := (and32 (P 2293 (64 * s + n)) 1073741824)) T_298_17 (fun h => absurd h.1 (by decide)) rfl ?_
      refine x_if T_298_18 (fun _ => ?_) (fun h => absurd (show (and32 (P 2293 (64 * s + n)) 1073741824) = 0 by exact g) h)
      refine x_ic T_298_25 ?_
      refine x_si (ls1 := [some (vR (some 2281)), some (vI s), some (vI n), some (vL off), none, some (vI z), some (vI (64 * s + n)), some (vI 0), none, none]) T_298_26 rfl ?_
      refine x_li (z := 0) T_298_28 rfl ?_
      refine x_if T_298_30 (fun h => absurd (show ¬ (0 : Int) = 0 from h) (by decide)) (fun _ => ?_)
      refine x_ll (z := off) T_298_33 rfl ?_
      refine x_lc T_298_34 ?_
      refine x_lr (z := some 2281) T_298_35 rfl ?_
      refine x_gR (z := some 2297) T_298_36 F_17_21 (PM.t hP) (PM.r hP 21 2297 rfl) ?_
      refine x_li (z := (64 * s + n)) T_298_39 rfl ?_
      have b2 : 0 ≤ P 2297 (64 * s + n) ∧ P 2297 (64 * s + n) ≤ 600 := IV.a hI 2297 0 128 rfl rfl rfl (by omega) (by omega)
      refine x_alI (z := P 2297 (64 * s + n)) T_298_41 (by decide) (PM.ta hP 2297 0 128 rfl rfl) (by omega) (by omega) (PM.aP hP 2297 rfl rfl (by omega)) ?_
      refine x_i2l T_298_42 ?_
      refine x_cs3 T_298_43 mN_282 mL_282 (Nat.le_of_ble_eq_true rfl) mK_282 (Nat.le_of_ble_eq_true rfl) (m_in) ?_
      rintro _ σ ⟨rfl, rfl⟩
      refine cI ?_
      refine x_if T_298_46 (fun h => absurd (show ¬ (if 0 ≤ off ∧ off ≤ (P 2297 (64 * s + n)) then (1 : Int) else 0) = 0 from h) (by rw [if_neg ho]; decide)) (fun _ => ?_)
      refine x_ic T_298_49 ?_
      refine x_ri T_298_51 ?_
      exact ⟨rfl, rfl⟩
  · rw [if_neg (fun q => g q.1), if_neg g]
    refine CL_in mL_298 rfl ?_
    show WP fb _ 298 0 [some (vR (some 2281)), some (vI s), some (vI n), some (vL off), none, some (vI z), none, none, none, none] [] σ _
    refine x_li (z := s) T_298_0 rfl ?_
    refine x_li (z := n) T_298_1 rfl ?_
    refine x_cs2 T_298_2 mN_247 mL_247 (Nat.le_of_ble_eq_true rfl) mK_247 (Nat.le_of_ble_eq_true rfl) (m_place (by omega)) ?_
    rintro _ σ ⟨rfl, rfl⟩
    refine cI ?_
    refine x_si (ls1 := [some (vR (some 2281)), some (vI s), some (vI n), some (vL off), none, some (vI z), some (vI (64 * s + n)), none, none, none]) T_298_5 rfl ?_
    refine x_lr (z := some 2281) T_298_7 rfl ?_
    refine x_gR (z := some 2293) T_298_8 F_17_17 (PM.t hP) (PM.r hP 17 2293 rfl) ?_
    refine x_li (z := (64 * s + n)) T_298_11 rfl ?_
    have b1 : -2147483648 ≤ P 2293 (64 * s + n) ∧ P 2293 (64 * s + n) ≤ 2147483647 := IV.a hI 2293 0 128 rfl rfl rfl (by omega) (by omega)
    refine x_alI (z := P 2293 (64 * s + n)) T_298_13 (by decide) (PM.ta hP 2293 0 128 rfl rfl) (by omega) (by omega) (PM.aP hP 2293 rfl rfl (by omega)) ?_
    refine x_ic T_298_14 ?_
    refine x_ib (w := (and32 (P 2293 (64 * s + n)) 1073741824)) T_298_17 (fun h => absurd h.1 (by decide)) rfl ?_
    refine x_if T_298_18 (fun h => absurd (show (and32 (P 2293 (64 * s + n)) 1073741824) = 0 from h) (by exact g)) (fun _ => ?_)
    refine x_ic T_298_21 ?_
    refine x_goto T_298_22 ?_
    refine x_si (ls1 := [some (vR (some 2281)), some (vI s), some (vI n), some (vL off), none, some (vI z), some (vI (64 * s + n)), some (vI 1), none, none]) T_298_26 rfl ?_
    refine x_li (z := 1) T_298_28 rfl ?_
    refine x_if T_298_30 (fun _ => ?_) (fun h => absurd (show ¬ (1 : Int) = 0 by decide) h)
    refine x_li (z := 1) T_298_52 rfl ?_
    refine x_if T_298_54 (fun h => absurd (show (1 : Int) = 0 from h) (by decide)) (fun _ => ?_)
    refine x_lr (z := some 2281) T_298_57 rfl ?_
    refine x_gR (z := some 2297) T_298_58 F_17_21 (PM.t hP) (PM.r hP 21 2297 rfl) ?_
    refine x_li (z := (64 * s + n)) T_298_61 rfl ?_
    have b2 : 0 ≤ P 2297 (64 * s + n) ∧ P 2297 (64 * s + n) ≤ 600 := IV.a hI 2297 0 128 rfl rfl rfl (by omega) (by omega)
    refine x_alI (z := P 2297 (64 * s + n)) T_298_63 (by decide) (PM.ta hP 2297 0 128 rfl rfl) (by omega) (by omega) (PM.aP hP 2297 rfl rfl (by omega)) ?_
    refine x_goto T_298_64 ?_
    refine x_li (z := z) T_298_69 rfl ?_
    refine x_ib (w := (P 2297 (64 * s + n) + z)) T_298_71 (fun h => absurd h.1 (by decide)) (w32_id (by omega) (by omega)) ?_
    refine x_si (ls1 := [some (vR (some 2281)), some (vI s), some (vI n), some (vL off), none, some (vI z), some (vI (64 * s + n)), some (vI 1), some (vI (P 2297 (64 * s + n) + z)), none]) T_298_72 rfl ?_
    refine x_li (z := (P 2297 (64 * s + n) + z)) T_298_74 rfl ?_
    refine x_lr (z := some 2281) T_298_76 rfl ?_
    refine x_gR (z := some 2297) T_298_77 F_17_21 (PM.t hP) (PM.r hP 21 2297 rfl) ?_
    refine x_li (z := (64 * s + n)) T_298_80 rfl ?_
    refine x_alI (z := P 2297 (64 * s + n)) T_298_82 (by decide) (PM.ta hP 2297 0 128 rfl rfl) (by omega) (by omega) (PM.aP hP 2297 rfl rfl (by omega)) ?_
    refine x_ic2 T_298_83 (fun h83 => ?_) (fun h83 => ?_)
    · replace h83 : (P 2297 (64 * s + n) + z) ≤ P 2297 (64 * s + n) := h83
      refine x_ic T_298_99 ?_
      refine x_si (ls1 := [some (vR (some 2281)), some (vI s), some (vI n), some (vL off), none, some (vI z), some (vI (64 * s + n)), some (vI 1), some (vI (P 2297 (64 * s + n) + z)), some (vI 0)]) T_298_100 rfl ?_
      refine x_li (z := (P 2297 (64 * s + n) + z)) T_298_102 rfl ?_
      refine x_ic T_298_104 ?_
      refine x_ic2 T_298_107 (fun h107 => ?_) (fun h107 => ?_)
      · replace h107 : 600 < (P 2297 (64 * s + n) + z) := h107
        refine x_ic T_298_125 ?_
        refine x_goto T_298_127 ?_
        refine x_ri T_298_131 ?_
        exact ⟨by (repeat' split) <;> first | rfl | omega, rfl⟩
      · replace h107 : ¬ (600 < (P 2297 (64 * s + n) + z)) := h107
        refine x_lr (z := some 2281) T_298_110 rfl ?_
        refine x_gR (z := some 2301) T_298_111 F_17_25 (PM.t hP) (PM.r hP 25 2301 rfl) ?_
        refine x_li (z := s) T_298_114 rfl ?_
        have b3 : 0 ≤ P 2301 s ∧ P 2301 s ≤ 8192 := IV.a hI 2301 0 2 rfl rfl rfl (by omega) (by omega)
        refine x_alI (z := P 2301 s) T_298_115 (by decide) (PM.ta hP 2301 0 2 rfl rfl) (by omega) (by omega) (PM.aP hP 2301 rfl rfl (by omega)) ?_
        refine x_li (z := 0) T_298_116 rfl ?_
        refine x_ib (w := (P 2301 s + 0)) T_298_118 (fun h => absurd h.1 (by decide)) (w32_id (by omega) (by omega)) ?_
        refine x_ic T_298_119 ?_
        refine x_ic2 T_298_122 (fun h122 => ?_) (fun h122 => ?_)
        · replace h122 : (P 2301 s + 0) ≤ 8192 := h122
          refine x_ic T_298_130 ?_
          refine x_ri T_298_131 ?_
          exact ⟨by (repeat' split) <;> first | rfl | omega, rfl⟩
        · replace h122 : ¬ ((P 2301 s + 0) ≤ 8192) := h122
          refine x_ic T_298_125 ?_
          refine x_goto T_298_127 ?_
          refine x_ri T_298_131 ?_
          exact ⟨by (repeat' split) <;> first | rfl | omega, rfl⟩
    · replace h83 : ¬ ((P 2297 (64 * s + n) + z) ≤ P 2297 (64 * s + n)) := h83
      refine x_li (z := (P 2297 (64 * s + n) + z)) T_298_86 rfl ?_
      refine x_lr (z := some 2281) T_298_88 rfl ?_
      refine x_gR (z := some 2297) T_298_89 F_17_21 (PM.t hP) (PM.r hP 21 2297 rfl) ?_
      refine x_li (z := (64 * s + n)) T_298_92 rfl ?_
      refine x_alI (z := P 2297 (64 * s + n)) T_298_94 (by decide) (PM.ta hP 2297 0 128 rfl rfl) (by omega) (by omega) (PM.aP hP 2297 rfl rfl (by omega)) ?_
      refine x_ib (w := ((P 2297 (64 * s + n) + z) - P 2297 (64 * s + n))) T_298_95 (fun h => absurd h.1 (by decide)) (w32_id (by omega) (by omega)) ?_
      refine x_goto T_298_96 ?_
      refine x_si (ls1 := [some (vR (some 2281)), some (vI s), some (vI n), some (vL off), none, some (vI z), some (vI (64 * s + n)), some (vI 1), some (vI (P 2297 (64 * s + n) + z)), some (vI ((P 2297 (64 * s + n) + z) - P 2297 (64 * s + n)))]) T_298_100 rfl ?_
      refine x_li (z := (P 2297 (64 * s + n) + z)) T_298_102 rfl ?_
      refine x_ic T_298_104 ?_
      refine x_ic2 T_298_107 (fun h107 => ?_) (fun h107 => ?_)
      · replace h107 : 600 < (P 2297 (64 * s + n) + z) := h107
        refine x_ic T_298_125 ?_
        refine x_goto T_298_127 ?_
        refine x_ri T_298_131 ?_
        exact ⟨by (repeat' split) <;> first | rfl | omega, rfl⟩
      · replace h107 : ¬ (600 < (P 2297 (64 * s + n) + z)) := h107
        refine x_lr (z := some 2281) T_298_110 rfl ?_
        refine x_gR (z := some 2301) T_298_111 F_17_25 (PM.t hP) (PM.r hP 25 2301 rfl) ?_
        refine x_li (z := s) T_298_114 rfl ?_
        have b4 : 0 ≤ P 2301 s ∧ P 2301 s ≤ 8192 := IV.a hI 2301 0 2 rfl rfl rfl (by omega) (by omega)
        refine x_alI (z := P 2301 s) T_298_115 (by decide) (PM.ta hP 2301 0 2 rfl rfl) (by omega) (by omega) (PM.aP hP 2301 rfl rfl (by omega)) ?_
        refine x_li (z := ((P 2297 (64 * s + n) + z) - P 2297 (64 * s + n))) T_298_116 rfl ?_
        refine x_ib (w := (P 2301 s + ((P 2297 (64 * s + n) + z) - P 2297 (64 * s + n)))) T_298_118 (fun h => absurd h.1 (by decide)) (w32_id (by omega) (by omega)) ?_
        refine x_ic T_298_119 ?_
        refine x_ic2 T_298_122 (fun h122 => ?_) (fun h122 => ?_)
        · replace h122 : (P 2301 s + ((P 2297 (64 * s + n) + z) - P 2297 (64 * s + n))) ≤ 8192 := h122
          refine x_ic T_298_130 ?_
          refine x_ri T_298_131 ?_
          exact ⟨by (repeat' split) <;> first | rfl | omega, rfl⟩
        · replace h122 : ¬ ((P 2301 s + ((P 2297 (64 * s + n) + z) - P 2297 (64 * s + n))) ≤ 8192) := h122
          refine x_ic T_298_125 ?_
          refine x_goto T_298_127 ?_
          refine x_ri T_298_131 ?_
          exact ⟨by (repeat' split) <;> first | rfl | omega, rfl⟩
theorem m_wfile_loop {k off o b i : Int} (hJ : IV true T U S) (hi : 0 ≤ i ∧ i < 128) (hb : 0 ≤ b ∧ b + z ≤ 600) (ho : 0 ≤ o ∧ o + z ≤ 512) {Q : Option AV → hM → Prop} (hQ : ∀ σ, PM σ0 (rW P 2300 (600 * i + b) (seg (S 2285) o z.toNat)) S σ → WP fb (d + 2) 300 114 [some (vR (some 2281)), some (vI s), some (vI k), some (vL off), none, some (vI o), some (vI z), some (vI n), some (vI i), some (vI b), some (vI z)] [] σ Q) : ∀ (m : Nat) (j : Int) (σ : hM), j + m = z → 0 ≤ j → PM σ0 (rW P 2300 (600 * i + b) (seg (S 2285) o j.toNat)) S σ → WP fb (d + 2) 300 74 [some (vR (some 2281)), some (vI s), some (vI k), some (vL off), none, some (vI o), some (vI z), some (vI n), some (vI i), some (vI b), some (vI j)] [] σ Q := by
  intro m
  induction m with
  | zero =>
    intro j σ h1 h2 hP
    obtain rfl : j = z := by omega
    refine x_li (z := j) T_300_74 rfl ?_
    refine x_li (z := j) T_300_76 rfl ?_
    refine x_ic2 T_300_78 (fun _ => ?_) (fun h => absurd (show j ≤ j by omega) h)
    exact hQ σ hP
  | succ m ih =>
    intro j σ h1 h2 hP
    refine x_li (z := j) T_300_74 rfl ?_
    refine x_li (z := z) T_300_76 rfl ?_
    refine x_ic2 T_300_78 (fun h => absurd (show z ≤ j from h) (by omega)) (fun _ => ?_)
    refine x_lr (z := some 2281) T_300_81 rfl ?_
    refine x_gR (z := some 2300) T_300_82 F_17_24 (PM.t hP) (PM.r hP 24 2300 rfl) ?_
    refine x_ic T_300_85 ?_
    refine x_li (z := i) T_300_88 rfl ?_
    refine x_ib (w := (600 * i)) T_300_90 (fun h => absurd h.1 (by decide)) (w32_id (by omega) (by omega)) ?_
    refine x_li (z := b) T_300_91 rfl ?_
    refine x_ib (w := ((600 * i) + b)) T_300_93 (fun h => absurd h.1 (by decide)) (w32_id (by omega) (by omega)) ?_
    refine x_li (z := j) T_300_94 rfl ?_
    refine x_ib (w := (((600 * i) + b) + j)) T_300_96 (fun h => absurd h.1 (by decide)) (w32_id (by omega) (by omega)) ?_
    refine x_lr (z := some 2281) T_300_97 rfl ?_
    refine x_gR (z := some 2285) T_300_98 F_17_3 (PM.t hP) (PM.r hP 3 2285 rfl) ?_
    refine x_li (z := o) T_300_101 rfl ?_
    refine x_li (z := j) T_300_103 rfl ?_
    refine x_ib (w := (o + j)) T_300_105 (fun h => absurd h.1 (by decide)) (w32_id (by omega) (by omega)) ?_
    have b1 : 0 ≤ S 2285 (o + j) ∧ S 2285 (o + j) ≤ 255 := IV.a hJ 2285 0 512 rfl rfl rfl (by omega) (by omega)
    refine x_alI (z := S 2285 (o + j)) T_300_106 (by decide) (PM.ta hP 2285 0 512 rfl rfl) (by omega) (by omega) (PM.aS hP 2285 rfl rfl (by omega)) ?_
    refine y_aIP hP T_300_107 2300 76800 rfl rfl rfl (by omega) (by omega) (fun σ hP => ?_)
    refine x_inc (w := (j + 1)) (ls1 := [some (vR (some 2281)), some (vI s), some (vI k), some (vL off), none, some (vI o), some (vI z), some (vI n), some (vI i), some (vI b), some (vI (j + 1))]) T_300_108 rfl (w32_id (by omega) (by omega)) rfl ?_
    refine x_goto T_300_111 ?_
    skip
    have e := rW_app (W := P) (f := 2300) (o := 600 * i + b) (l1 := seg (S 2285) o j.toNat) (l2 := [S 2285 (o + j)])
    have e2 := seg_snoc (S 2285) o j.toNat
    rw [Int.toNat_of_nonneg h2] at e2
    rw [seg_len, rW_one, ← e2, Int.toNat_of_nonneg h2] at e
    refine ih (j + 1) σ (by omega) (by omega) ?_
    rw [show (j + 1).toNat = j.toNat + 1 by omega, ← e]
    exact hP
theorem m_writeFile {k off o b : Int} (hP : PM σ0 P S σ) (hI : IV false T U P) (hJ : IV true T U S) (hT : T ≤ 2147483000) (hn : P 2306 k = n) (hs : 0 ≤ s ∧ s < 2 ∧ 0 ≤ n ∧ n < 64) (hk : 0 ≤ k ∧ k < 288) (hb : (if and32 (P 2293 (64 * s + n)) 1073741824 = 0 then off else P 2297 (64 * s + n)) = b) (hb2 : 0 ≤ b ∧ b + z ≤ 600 ∧ b ≤ P 2297 (64 * s + n)) (hz : 0 ≤ z) (ho : 0 ≤ o ∧ o + z ≤ 512) : CL fb (d + 2) 300 [vR (some 2281), vI s, vI k, vL off, vI o, vI z] σ (rV σ0 (gWr P s n (P 2308 k) b (seg (S 2285) o z.toNat)) S) := by
  have bl : 0 ≤ P 2297 (64 * s + n) ∧ P 2297 (64 * s + n) ≤ 600 := IV.a hI 2297 0 128 rfl rfl rfl (by omega) (by omega)
  have bv : 0 ≤ P 2292 (64 * s + n) ∧ P 2292 (64 * s + n) ≤ T := IV.a hI 2292 0 128 rfl rfl rfl (by omega) (by omega)
  have hl : ((seg (S 2285) o z.toNat).length : Int) = z := by rw [seg_len]; omega
  -- what comes behind the file's new size
  have tail : ∀ (σ : hM) (P1 : qR), P1 = (if P 2297 (64 * s + n) < b + z then gSize P s n (b + z) else P) → PM σ0 P1 S σ → WP fb (d + 2) 300 74 [some (vR (some 2281)), some (vI s), some (vI k), some (vL off), none, some (vI o), some (vI z), some (vI n), some (vI (64 * s + n)), some (vI b), some (vI 0)] [] σ (rV σ0 (gWr P s n (P 2308 k) b (seg (S 2285) o z.toNat)) S) := by
    intro σ P1 hP1 hP
    have e1 : ∀ (g : Nat) (j : Int), g ≠ 2300 → g ≠ 2301 → g ≠ 2297 → P1 g j = P g j := fun g j q1 q2 q3 => by
      rw [hP1]
      split
      · exact gSize_f q1 q2 q3
      · rfl
    have hv : rW P1 2300 (600 * (64 * s + n) + b) (seg (S 2285) o z.toNat) 2292 (64 * s + n) = P 2292 (64 * s + n) := (rW_f (by decide)).trans (e1 _ _ (by decide) (by decide) (by decide))
    have hu : rW P1 2300 (600 * (64 * s + n) + b) (seg (S 2285) o z.toNat) 2308 k = P 2308 k := (rW_f (by decide)).trans (e1 _ _ (by decide) (by decide) (by decide))
    by_cases hz0 : z = 0
    · have hg : gWr P s n (P 2308 k) b (seg (S 2285) o z.toNat) = P := by
        unfold gWr
        rw [hl, if_neg (by omega)]
      have hp : P1 = P := by rw [hP1, if_neg (by omega)]
      rw [hg]
      rw [hp] at hP
      refine x_li (z := 0) T_300_74 rfl ?_
      refine x_li (z := z) T_300_76 rfl ?_
      refine x_ic2 T_300_78 (fun _ => ?_) (fun h => absurd (show z ≤ 0 by omega) h)
      refine x_li (z := z) T_300_114 rfl ?_
      refine x_if T_300_116 (fun _ => ?_) (fun h => absurd (show z ≤ 0 by omega) h)
      refine x_rv T_300_132 ?_
      exact ⟨rfl, hP⟩
    · refine m_wfile_loop (d := d) (P := P1) (off := off) (o := o) (b := b) (i := 64 * s + n) (z := z) hJ (by omega) (by omega) (by omega) (fun σ hP => ?_) z.toNat 0 σ (by omega) (by decide) (by rw [show seg (S 2285) o (0 : Int).toNat = [] from rfl, rW_nil]; exact hP)
      refine x_li (z := z) T_300_114 rfl ?_
      refine x_if T_300_116 (fun h => absurd (show z ≤ 0 from h) (by omega)) (fun _ => ?_)
      refine x_lr (z := some 2281) T_300_119 rfl ?_
      refine x_li (z := s) T_300_120 rfl ?_
      refine x_li (z := n) T_300_121 rfl ?_
      refine x_lr (z := some 2281) T_300_123 rfl ?_
      refine x_gR (z := some 2308) T_300_124 F_17_32 (PM.t hP) (PM.r hP 32 2308 rfl) ?_
      refine x_li (z := k) T_300_127 rfl ?_
      have b1 : 0 ≤ P 2308 k ∧ P 2308 k ≤ 3 := IV.a hI 2308 0 288 rfl rfl rfl (by omega) (by omega)
      refine x_alI (z := P 2308 k) T_300_128 (by decide) (PM.ta hP 2308 0 288 rfl rfl) (by omega) (by omega) (Eq.trans (PM.aP hP 2308 rfl rfl (by omega)) hu) ?_
      refine x_cv4 T_300_129 mN_255 mL_255 (Nat.le_of_ble_eq_true rfl) mO_255 (PM.t hP) (Nat.le_of_ble_eq_true rfl) (m_grow hP hv (by omega) (by omega)) ?_
      rintro _ σ ⟨rfl, hP⟩
      refine cV ?_
      refine x_rv T_300_132 ?_
      refine ⟨rfl, ?_⟩
      unfold gWr
      rw [hl, if_pos (by omega), ← hP1]
      exact hP
  by_cases g : and32 (P 2293 (64 * s + n)) 1073741824 = 0
  · rw [if_pos g] at hb
    subst hb
    refine CL_in mL_300 rfl ?_
    show WP fb _ 300 0 [some (vR (some 2281)), some (vI s), some (vI k), some (vL off), none, some (vI o), some (vI z), none, none, none, none] [] σ _
    refine x_lr (z := some 2281) T_300_0 rfl ?_
    refine x_gR (z := some 2306) T_300_1 F_17_30 (PM.t hP) (PM.r hP 30 2306 rfl) ?_
    refine x_li (z := k) T_300_4 rfl ?_
    refine x_alI (z := n) T_300_5 (by decide) (PM.ta hP 2306 0 288 rfl rfl) (by omega) (by omega) (Eq.trans (PM.aP hP 2306 rfl rfl (by omega)) hn) ?_
    refine x_si (ls1 := [some (vR (some 2281)), some (vI s), some (vI k), some (vL off), none, some (vI o), some (vI z), some (vI n), none, none, none]) T_300_6 rfl ?_
    refine x_li (z := s) T_300_8 rfl ?_
    refine x_li (z := n) T_300_9 rfl ?_
    refine x_cs2 T_300_11 mN_247 mL_247 (Nat.le_of_ble_eq_true rfl) mK_247 (Nat.le_of_ble_eq_true rfl) (m_place (by omega)) ?_
    rintro _ σ ⟨rfl, rfl⟩
    refine cI ?_
    refine x_si (ls1 := [some (vR (some 2281)), some (vI s), some (vI k), some (vL off), none, some (vI o), some (vI z), some (vI n), some (vI (64 * s + n)), none, none]) T_300_14 rfl ?_
    refine x_lr (z := some 2281) T_300_16 rfl ?_
    refine x_gR (z := some 2293) T_300_17 F_17_17 (PM.t hP) (PM.r hP 17 2293 rfl) ?_
    refine x_li (z := (64 * s + n)) T_300_20 rfl ?_
    have b1 : -2147483648 ≤ P 2293 (64 * s + n) ∧ P 2293 (64 * s + n) ≤ 2147483647 := IV.a hI 2293 0 128 rfl rfl rfl (by omega) (by omega)
    refine x_alI (z := P 2293 (64 * s + n)) T_300_22 (by decide) (PM.ta hP 2293 0 128 rfl rfl) (by omega) (by omega) (PM.aP hP 2293 rfl rfl (by omega)) ?_
    refine x_ic T_300_23 ?_
    refine x_ib (w := (and32 (P 2293 (64 * s + n)) 1073741824)) T_300_26 (fun h => absurd h.1 (by decide)) rfl ?_
    refine x_if T_300_27 (fun _ => ?_) (fun h => absurd (show (and32 (P 2293 (64 * s + n)) 1073741824) = 0 by exact g) h)
    refine x_ll (z := off) T_300_40 rfl ?_
    refine x_l2i (w := off) T_300_41 (w32_id (by omega) (by omega)) ?_
    refine x_si (ls1 := [some (vR (some 2281)), some (vI s), some (vI k), some (vL off), none, some (vI o), some (vI z), some (vI n), some (vI (64 * s + n)), some (vI off), none]) T_300_42 rfl ?_
    refine x_li (z := off) T_300_44 rfl ?_
    refine x_li (z := z) T_300_46 rfl ?_
    refine x_ib (w := (off + z)) T_300_48 (fun h => absurd h.1 (by decide)) (w32_id (by omega) (by omega)) ?_
    refine x_lr (z := some 2281) T_300_49 rfl ?_
    refine x_gR (z := some 2297) T_300_50 F_17_21 (PM.t hP) (PM.r hP 21 2297 rfl) ?_
    refine x_li (z := (64 * s + n)) T_300_53 rfl ?_
    have b2 : 0 ≤ P 2297 (64 * s + n) ∧ P 2297 (64 * s + n) ≤ 600 := IV.a hI 2297 0 128 rfl rfl rfl (by omega) (by omega)
    refine x_alI (z := P 2297 (64 * s + n)) T_300_55 (by decide) (PM.ta hP 2297 0 128 rfl rfl) (by omega) (by omega) (PM.aP hP 2297 rfl rfl (by omega)) ?_
    refine x_ic2 T_300_56 (fun h56 => ?_) (fun h56 => ?_)
    · replace h56 : (off + z) ≤ P 2297 (64 * s + n) := h56
      refine x_ic T_300_71 ?_
      refine x_si (ls1 := [some (vR (some 2281)), some (vI s), some (vI k), some (vL off), none, some (vI o), some (vI z), some (vI n), some (vI (64 * s + n)), some (vI off), some (vI 0)]) T_300_72 rfl ?_
      first
        | exact tail σ _ (by rw [if_neg (by omega)]) hP
        | exact tail σ _ (by rw [if_pos (by omega)]) hP
    · replace h56 : ¬ ((off + z) ≤ P 2297 (64 * s + n)) := h56
      refine x_lr (z := some 2281) T_300_59 rfl ?_
      refine x_li (z := s) T_300_60 rfl ?_
      refine x_li (z := n) T_300_61 rfl ?_
      refine x_li (z := off) T_300_63 rfl ?_
      refine x_li (z := z) T_300_65 rfl ?_
      refine x_ib (w := (off + z)) T_300_67 (fun h => absurd h.1 (by decide)) (w32_id (by omega) (by omega)) ?_
      refine x_cv4 T_300_68 mN_276 mL_276 (Nat.le_of_ble_eq_true rfl) mO_276 (PM.t hP) (Nat.le_of_ble_eq_true rfl) (m_resize hP hI (by omega) (by omega)) ?_
      rintro _ σ ⟨rfl, hP⟩
      refine cV ?_
      refine x_ic T_300_71 ?_
      refine x_si (ls1 := [some (vR (some 2281)), some (vI s), some (vI k), some (vL off), none, some (vI o), some (vI z), some (vI n), some (vI (64 * s + n)), some (vI off), some (vI 0)]) T_300_72 rfl ?_
      first
        | exact tail σ _ (by rw [if_neg (by omega)]) hP
        | exact tail σ _ (by rw [if_pos (by omega)]) hP
  · rw [if_neg g] at hb
    subst hb
    refine CL_in mL_300 rfl ?_
    show WP fb _ 300 0 [some (vR (some 2281)), some (vI s), some (vI k), some (vL off), none, some (vI o), some (vI z), none, none, none, none] [] σ _
    refine x_lr (z := some 2281) T_300_0 rfl ?_
    refine x_gR (z := some 2306) T_300_1 F_17_30 (PM.t hP) (PM.r hP 30 2306 rfl) ?_
    refine x_li (z := k) T_300_4 rfl ?_
    refine x_alI (z := n) T_300_5 (by decide) (PM.ta hP 2306 0 288 rfl rfl) (by omega) (by omega) (Eq.trans (PM.aP hP 2306 rfl rfl (by omega)) hn) ?_
    refine x_si (ls1 := [some (vR (some 2281)), some (vI s), some (vI k), some (vL off), none, some (vI o), some (vI z), some (vI n), none, none, none]) T_300_6 rfl ?_
    refine x_li (z := s) T_300_8 rfl ?_
    refine x_li (z := n) T_300_9 rfl ?_
    refine x_cs2 T_300_11 mN_247 mL_247 (Nat.le_of_ble_eq_true rfl) mK_247 (Nat.le_of_ble_eq_true rfl) (m_place (by omega)) ?_
    rintro _ σ ⟨rfl, rfl⟩
    refine cI ?_
    refine x_si (ls1 := [some (vR (some 2281)), some (vI s), some (vI k), some (vL off), none, some (vI o), some (vI z), some (vI n), some (vI (64 * s + n)), none, none]) T_300_14 rfl ?_
    refine x_lr (z := some 2281) T_300_16 rfl ?_
    refine x_gR (z := some 2293) T_300_17 F_17_17 (PM.t hP) (PM.r hP 17 2293 rfl) ?_
    refine x_li (z := (64 * s + n)) T_300_20 rfl ?_
    have b1 : -2147483648 ≤ P 2293 (64 * s + n) ∧ P 2293 (64 * s + n) ≤ 2147483647 := IV.a hI 2293 0 128 rfl rfl rfl (by omega) (by omega)
    refine x_alI (z := P 2293 (64 * s + n)) T_300_22 (by decide) (PM.ta hP 2293 0 128 rfl rfl) (by omega) (by omega) (PM.aP hP 2293 rfl rfl (by omega)) ?_
    refine x_ic T_300_23 ?_
    refine x_ib (w := (and32 (P 2293 (64 * s + n)) 1073741824)) T_300_26 (fun h => absurd h.1 (by decide)) rfl ?_
    refine x_if T_300_27 (fun h => absurd (show (and32 (P 2293 (64 * s + n)) 1073741824) = 0 from h) (by exact g)) (fun _ => ?_)
    refine x_lr (z := some 2281) T_300_30 rfl ?_
    refine x_gR (z := some 2297) T_300_31 F_17_21 (PM.t hP) (PM.r hP 21 2297 rfl) ?_
    refine x_li (z := (64 * s + n)) T_300_34 rfl ?_
    have b2 : 0 ≤ P 2297 (64 * s + n) ∧ P 2297 (64 * s + n) ≤ 600 := IV.a hI 2297 0 128 rfl rfl rfl (by omega) (by omega)
    refine x_alI (z := P 2297 (64 * s + n)) T_300_36 (by decide) (PM.ta hP 2297 0 128 rfl rfl) (by omega) (by omega) (PM.aP hP 2297 rfl rfl (by omega)) ?_
    refine x_goto T_300_37 ?_
    refine x_si (ls1 := [some (vR (some 2281)), some (vI s), some (vI k), some (vL off), none, some (vI o), some (vI z), some (vI n), some (vI (64 * s + n)), some (vI (P 2297 (64 * s + n))), none]) T_300_42 rfl ?_
    refine x_li (z := P 2297 (64 * s + n)) T_300_44 rfl ?_
    refine x_li (z := z) T_300_46 rfl ?_
    refine x_ib (w := (P 2297 (64 * s + n) + z)) T_300_48 (fun h => absurd h.1 (by decide)) (w32_id (by omega) (by omega)) ?_
    refine x_lr (z := some 2281) T_300_49 rfl ?_
    refine x_gR (z := some 2297) T_300_50 F_17_21 (PM.t hP) (PM.r hP 21 2297 rfl) ?_
    refine x_li (z := (64 * s + n)) T_300_53 rfl ?_
    refine x_alI (z := P 2297 (64 * s + n)) T_300_55 (by decide) (PM.ta hP 2297 0 128 rfl rfl) (by omega) (by omega) (PM.aP hP 2297 rfl rfl (by omega)) ?_
    refine x_ic2 T_300_56 (fun h56 => ?_) (fun h56 => ?_)
    · replace h56 : (P 2297 (64 * s + n) + z) ≤ P 2297 (64 * s + n) := h56
      refine x_ic T_300_71 ?_
      refine x_si (ls1 := [some (vR (some 2281)), some (vI s), some (vI k), some (vL off), none, some (vI o), some (vI z), some (vI n), some (vI (64 * s + n)), some (vI (P 2297 (64 * s + n))), some (vI 0)]) T_300_72 rfl ?_
      first
        | exact tail σ _ (by rw [if_neg (by omega)]) hP
        | exact tail σ _ (by rw [if_pos (by omega)]) hP
    · replace h56 : ¬ ((P 2297 (64 * s + n) + z) ≤ P 2297 (64 * s + n)) := h56
      refine x_lr (z := some 2281) T_300_59 rfl ?_
      refine x_li (z := s) T_300_60 rfl ?_
      refine x_li (z := n) T_300_61 rfl ?_
      refine x_li (z := P 2297 (64 * s + n)) T_300_63 rfl ?_
      refine x_li (z := z) T_300_65 rfl ?_
      refine x_ib (w := (P 2297 (64 * s + n) + z)) T_300_67 (fun h => absurd h.1 (by decide)) (w32_id (by omega) (by omega)) ?_
      refine x_cv4 T_300_68 mN_276 mL_276 (Nat.le_of_ble_eq_true rfl) mO_276 (PM.t hP) (Nat.le_of_ble_eq_true rfl) (m_resize hP hI (by omega) (by omega)) ?_
      rintro _ σ ⟨rfl, hP⟩
      refine cV ?_
      refine x_ic T_300_71 ?_
      refine x_si (ls1 := [some (vR (some 2281)), some (vI s), some (vI k), some (vL off), none, some (vI o), some (vI z), some (vI n), some (vI (64 * s + n)), some (vI (P 2297 (64 * s + n))), some (vI 0)]) T_300_72 rfl ?_
      first
        | exact tail σ _ (by rw [if_neg (by omega)]) hP
        | exact tail σ _ (by rw [if_pos (by omega)]) hP
theorem IV_gCon {f : Int → Int} {o : Int} (hI : IV false T U P) : ∀ (m : Nat), (∀ i, o ≤ i → i < o + m → 0 ≤ f i ∧ f i ≤ 255) → IV false T U (gCon P f o m)
  | 0, _ => hI
  | m + 1, hf => by
    have h := IV_gCon hI m (fun i h1 h2 => hf i h1 (by omega))
    have b : 0 ≤ gCon P f o m 2281 41 ∧ gCon P f o m 2281 41 ≤ 1000 := IV.n h 41 41 rfl rfl (by decide)
    unfold gCon
    split
    · exact (h.uA 2315 rfl (hf _ (by omega) (by omega))).uN 41 41 rfl (by show 0 ≤ gCon P f o m 2281 41 + 1 ∧ gCon P f o m 2281 41 + 1 ≤ 1000; omega)
    · exact h
theorem gCon_f {f : Int → Int} {o : Int} {g : Nat} {k : Int} (h1 : g ≠ 2315) (h2 : ¬ (g = 2281 ∧ k = 41)) : ∀ m, gCon P f o m g k = P g k
  | 0 => rfl
  | m + 1 => by
    unfold gCon
    split
    · rw [show ∀ (W : qR) (v : Int), rU W 2281 41 v g k = W g k from fun W v => if_neg h2, rU_f h1]
      exact gCon_f h1 h2 m
    · exact gCon_f h1 h2 m
theorem m_wcons_loop {v off cnt k w e : Int} (hI : IV false T U P) (hR : RS T U S S1 p st) (hz : 0 ≤ z ∧ z ≤ 480) {Q : Option AV → hM → Prop} (hQ : ∀ σ, PM σ0 (gCon P (S 2285) 23 z.toNat) S1 σ → WP fb (d + 1) 297 321 [some (vR (some 2281)), some (vI s), some (vI c), some (vL v), none, some (vL off), none, some (vL cnt), none, some (vI 23), some (vI z), some (vI k), some (vI w), some (vI e), some (vI z)] [] σ Q) : ∀ (m : Nat) (j : Int) (σ : hM), j + m = z → 0 ≤ j → PM σ0 (gCon P (S 2285) 23 j.toNat) S1 σ → WP fb (d + 1) 297 248 [some (vR (some 2281)), some (vI s), some (vI c), some (vL v), none, some (vL off), none, some (vL cnt), none, some (vI 23), some (vI z), some (vI k), some (vI w), some (vI e), some (vI j)] [] σ Q := by
  have hb : ∀ i : Int, 0 ≤ i → i < 512 → 0 ≤ S 2285 i ∧ S 2285 i ≤ 255 := fun i h1 h2 => by
    have := IV.a hR.iv 2285 0 512 (k := i) rfl rfl rfl h1 h2
    rw [hR.ask] at this
    exact this
  intro m
  induction m with
  | zero =>
    intro j σ h1 h2 hP
    obtain rfl : j = z := by omega
    refine x_li (z := j) T_297_248 rfl ?_
    refine x_li (z := j) T_297_250 rfl ?_
    refine x_ic2 T_297_252 (fun _ => ?_) (fun h => absurd (show j ≤ j by omega) h)
    refine x_goto T_297_300 ?_
    exact hQ σ hP
  | succ m ih =>
    intro j σ h1 h2 hP
    have hGI : IV false T U (gCon P (S 2285) 23 j.toNat) := IV_gCon hI j.toNat (fun i h3 h4 => hb i (by omega) (by omega))
    have hst : gCon P (S 2285) 23 (j.toNat + 1) = if gCon P (S 2285) 23 j.toNat 2281 41 < 1000 then rU (rU (gCon P (S 2285) 23 j.toNat) 2315 (gCon P (S 2285) 23 j.toNat 2281 41) (S 2285 (23 + j))) 2281 41 (gCon P (S 2285) 23 j.toNat 2281 41 + 1) else gCon P (S 2285) 23 j.toNat := by
      show (if _ then rU (rU _ _ _ (S 2285 (23 + (j.toNat : Nat)))) _ _ _ else _) = _
      rw [Int.toNat_of_nonneg h2]
    rw [show j.toNat + 1 = (j + 1).toNat by omega] at hst
    obtain ⟨G, hG⟩ : ∃ G, G = gCon P (S 2285) 23 j.toNat := ⟨_, rfl⟩
    rw [← hG] at hP hGI hst
    refine x_li (z := j) T_297_248 rfl ?_
    refine x_li (z := z) T_297_250 rfl ?_
    refine x_ic2 T_297_252 (fun h => absurd (show z ≤ j from h) (by omega)) (fun _ => ?_)
    refine x_lr (z := some 2281) T_297_255 rfl ?_
    have b1 : 0 ≤ G 2281 41 ∧ G 2281 41 ≤ 1000 := IV.n hGI 41 41 rfl rfl (by decide)
    refine x_gI (z := G 2281 41) T_297_256 (Or.inl F_17_41) (PM.t hP) (PM.nP hP 2281 41 41 rfl rfl rfl) ?_
    refine x_ic T_297_259 ?_
    refine x_ic2 T_297_262 (fun h262 => ?_) (fun h262 => ?_)
    · replace h262 : 1000 ≤ G 2281 41 := h262
      refine x_inc (w := (j + 1)) (ls1 := [some (vR (some 2281)), some (vI s), some (vI c), some (vL v), none, some (vL off), none, some (vL cnt), none, some (vI 23), some (vI z), some (vI k), some (vI w), some (vI e), some (vI (j + 1))]) T_297_294 rfl (w32_id (by omega) (by omega)) rfl ?_
      refine x_goto T_297_297 ?_
      refine ih (j + 1) σ (by omega) (by omega) ?_
      rw [hst]
      first
        | (rw [if_pos (by omega)]; exact hP)
        | (rw [if_neg (by omega)]; exact hP)
    · replace h262 : ¬ (1000 ≤ G 2281 41) := h262
      refine x_lr (z := some 2281) T_297_265 rfl ?_
      refine x_gR (z := some 2315) T_297_266 F_17_40 (PM.t hP) (PM.r hP 40 2315 rfl) ?_
      refine x_lr (z := some 2281) T_297_269 rfl ?_
      refine x_gI (z := G 2281 41) T_297_270 (Or.inl F_17_41) (PM.t hP) (PM.nP hP 2281 41 41 rfl rfl rfl) ?_
      refine x_lr (z := some 2281) T_297_273 rfl ?_
      refine x_gR (z := some 2285) T_297_274 F_17_3 (PM.t hP) (PM.r hP 3 2285 rfl) ?_
      refine x_li (z := 23) T_297_277 rfl ?_
      refine x_li (z := j) T_297_279 rfl ?_
      refine x_ib (w := (23 + j)) T_297_281 (fun h => absurd h.1 (by decide)) (w32_id (by omega) (by omega)) ?_
      refine x_alI (z := S 2285 (23 + j)) T_297_282 (by decide) (PM.ta hP 2285 0 512 rfl rfl) (by omega) (by omega) (Eq.trans (PM.aS hP 2285 rfl rfl (by omega)) hR.ask) ?_
      refine y_aIP hP T_297_283 2315 1000 rfl rfl rfl (by omega) (by omega) (fun σ hP => ?_)
      refine x_lr (z := some 2281) T_297_284 rfl ?_
      refine x_dupR T_297_285 ?_
      refine x_gI (z := G 2281 41) T_297_286 (Or.inl F_17_41) (PM.t hP) (Eq.trans (PM.nP hP 2281 41 41 rfl rfl rfl) (rU_f (Nat.ne_of_beq_eq_false rfl))) ?_
      refine x_ic T_297_289 ?_
      refine x_ib (w := (G 2281 41 + 1)) T_297_290 (fun h => absurd h.1 (by decide)) (w32_id (by omega) (by omega)) ?_
      refine y_pIP hP T_297_291 F_17_41 41 rfl rfl (fun σ hP => ?_)
      refine x_inc (w := (j + 1)) (ls1 := [some (vR (some 2281)), some (vI s), some (vI c), some (vL v), none, some (vL off), none, some (vL cnt), none, some (vI 23), some (vI z), some (vI k), some (vI w), some (vI e), some (vI (j + 1))]) T_297_294 rfl (w32_id (by omega) (by omega)) rfl ?_
      refine x_goto T_297_297 ?_
      refine ih (j + 1) σ (by omega) (by omega) ?_
      rw [hst]
      first
        | (rw [if_pos (by omega)]; exact hP)
        | (rw [if_neg (by omega)]; exact hP)
def wrN (P : qR) (s k z : Int) (a : Int → Int) : Int := if (z = 4 ∨ (z = 5 ∧ a 27 = 10)) ∧ seg a 23 4 = seg (pkB 1802071148 4) 0 4 then 0 else 14
def wrX (P : qR) (s k off z : Int) (a : Int → Int) : Int := if k < 0 then 6 else if ¬ (0 ≤ P 2309 k ∧ 1 ≤ and32 (P 2309 k) 3 ∧ and32 (P 2309 k) 3 ≤ 2) then 9 else if ¬ P 2310 k = 0 then 1 else if s < 2 then qWr P s (P 2306 k) off z else if P 2306 k = 1 then 0 else wrN P s k z a
def wrP (P : qR) (s k off z : Int) (a : Int → Int) : qR := if s < 2 then gWr P s (P 2306 k) (P 2308 k) (if and32 (P 2293 (64 * s + P 2306 k)) 1073741824 = 0 then off else P 2297 (64 * s + P 2306 k)) (seg a 23 z.toNat) else if P 2306 k = 1 then gCon P a 23 z.toNat else rU P 2321 (P 2306 k / 16 - 1) 1
def wrErr (P : qR) (s c : Int) (a : Int → Int) (z : Int) : Int := if ¬ (23 ≤ z ∧ nu a 19 4 = z - 23) then 14 else wrX P s (qFid P s c (nu a 7 4)) (w64 (nu a 11 8)) (z - 23) a
theorem qWr_v (P : qR) (s n off z : Int) : (qWr P s n off z = 0 ∧ 0 ≤ (if and32 (P 2293 (64 * s + n)) 1073741824 = 0 then off else 0) ∧ (and32 (P 2293 (64 * s + n)) 1073741824 = 0 → off ≤ P 2297 (64 * s + n)) ∧ (if and32 (P 2293 (64 * s + n)) 1073741824 = 0 then off else P 2297 (64 * s + n)) + z ≤ 600) ∨ (1 ≤ qWr P s n off z ∧ qWr P s n off z ≤ 16) := by
  unfold qWr
  by_cases g : and32 (P 2293 (64 * s + n)) 1073741824 = 0
  · rw [if_pos g, if_pos g]
    by_cases ho : 0 ≤ off ∧ off ≤ P 2297 (64 * s + n)
    · rw [if_neg (fun q => q.2 ho)]
      (repeat' split) <;> first | exact Or.inr (by decide) | exact Or.inl ⟨rfl, ho.1, fun _ => ho.2, by omega⟩
    · rw [if_pos ⟨g, ho⟩]
      exact Or.inr (by decide)
  · rw [if_neg g, if_neg g, if_neg (fun q => g q.1)]
    (repeat' split) <;> first | exact Or.inr (by decide) | exact Or.inl ⟨rfl, Int.le_refl _, fun q => absurd q g, by omega⟩
theorem m_serveWrite (hP : PM σ0 P S1 σ) (hR : RS T U S S1 7 []) (hI : IV false T U P) (hT : T ≤ 2147483000) (hN : s = 2 → ∀ k, 192 ≤ k → k < 288 → P 2306 k < 2 ∨ 16 ≤ P 2306 k) (hW : s = 2 → ∀ k, 192 ≤ k → k < 288 → 0 ≤ P 2309 k → 1 ≤ and32 (P 2309 k) 3 → and32 (P 2309 k) 3 ≤ 2 → ¬ P 2306 k = 0) (hs : 0 ≤ s ∧ s < 3) (hc : 0 ≤ c ∧ c < 2) (hz4 : S 2281 4 ≤ 420) (h0 : S 2281 7 = 0) : CL fb (d + 6) 297 [vR (some 2281), vI s, vI c] σ (SV T U σ0 S (if wrErr P s c (S 2285) (S 2281 4) = 0 then wrP P s (qFid P s c (nu (S 2285) 7 4)) (w64 (nu (S 2285) 11 8)) (S 2281 4 - 23) (S 2285) else P) (wrErr P s c (S 2285) (S 2281 4)) 119 (leb 4 (S 2281 4 - 23))) := by
  obtain ⟨hz0, hz1, hb⟩ := hR.pb
  have hz7 : 7 ≤ S 2281 4 := hR.2.2.2.2.1
  by_cases h23 : 23 ≤ S 2281 4
  · obtain ⟨v, hv0⟩ : ∃ v, nu (S 2285) 7 4 = v := ⟨_, rfl⟩
    obtain ⟨off, ho0⟩ : ∃ off, w64 (nu (S 2285) 11 8) = off := ⟨_, rfl⟩
    obtain ⟨cnt, hc0⟩ : ∃ cnt, nu (S 2285) 19 4 = cnt := ⟨_, rfl⟩
    have hv1 : nv (S 2285) (S 2281 4) 7 4 = v := (nv_ok (n := 4) (by decide) (by omega) hb).1.trans hv0
    have ho1 : nv (S 2285) (S 2281 4) 11 8 = off := (if_neg (by omega)).trans ho0
    have hc1 : nv (S 2285) (S 2281 4) 19 4 = cnt := (nv_ok (n := 4) (by decide) (by omega) hb).1.trans hc0
    have a1 : av (S 2281 4) 7 4 = 11 := if_neg (by omega)
    have a2 : av (S 2281 4) 11 8 = 19 := if_neg (by omega)
    have a3 : av (S 2281 4) 19 4 = 23 := if_neg (by omega)
    unfold wrErr
    rw [hv0, ho0, hc0]
    obtain ⟨z, hz⟩ : ∃ z, S 2281 4 - 23 = z := ⟨_, rfl⟩
    rw [hz]
    by_cases hcz : cnt = z
    · have hC : ¬ ¬ (23 ≤ S 2281 4 ∧ cnt = z) := fun q => q ⟨h23, hcz⟩
      rw [if_neg hC]
      subst hcz
      have hk := qFid_rng (P := P) (s := s) (c := c) v hs hc
      obtain ⟨k, hk0⟩ : ∃ k, qFid P s c v = k := ⟨_, rfl⟩
      rw [hk0] at hk ⊢
      have hkr : k = -1 ∨ (96 * s ≤ k ∧ k < 96 * s + 96) := by omega
      clear hk
      have hzb : 0 ≤ cnt ∧ cnt ≤ 400 := by omega
      have tail : ∀ (σ : hM) (S1 : qR) (st : List (Int × Int)) (p e w i14 : Int) (Q : qR), PM σ0 Q S1 σ → RS T U S S1 p st → WP fb (d + 6) 297 321 [some (vR (some 2281)), some (vI s), some (vI c), some (vL v), none, some (vL off), none, some (vL cnt), none, some (vI 23), some (vI cnt), some (vI k), some (vI w), some (vI e), some (vI i14)] [] σ (SV T U σ0 S Q 0 119 (leb 4 cnt)) := by
        intro σ S1 st p e w i14 Q hP hR
        refine x_lr (z := some 2281) T_297_321 rfl ?_
        refine x_ic T_297_322 ?_
        refine x_cv2 T_297_324 mN_236 mL_236 (Nat.le_of_ble_eq_true rfl) mO_236 (PM.t hP) (Nat.le_of_ble_eq_true rfl) (m_reply hP) ?_
        rintro _ σ ⟨rfl, hP⟩
        refine cV ?_
        refine x_lr (z := some 2281) T_297_327 rfl ?_
        refine x_ic T_297_328 ?_
        refine x_li (z := cnt) T_297_329 rfl ?_
        refine x_i2l T_297_331 ?_
        refine x_cv3 T_297_332 mN_237 mL_237 (Nat.le_of_ble_eq_true rfl) mO_237 (PM.t hP) (Nat.le_of_ble_eq_true rfl) (m_put 4 rfl hP (by decide) rpl_z (by omega) (by omega)) ?_
        rintro _ σ ⟨rfl, hP⟩
        refine cV ?_
        refine x_rv T_297_335 ?_
        exact SV_ok hP hR h0 (byt_leb 4 _) (by rw [leb_len]; decide)
      have tail2 : ∀ (σ : hM) (S1 : qR) (st : List (Int × Int)) (p e w : Int) (Q : qR), PM σ0 Q S1 σ → RS T U S S1 p st → WP fb (d + 6) 297 321 [some (vR (some 2281)), some (vI s), some (vI c), some (vL v), none, some (vL off), none, some (vL cnt), none, some (vI 23), some (vI cnt), some (vI k), some (vI w), some (vI e), none] [] σ (SV T U σ0 S Q 0 119 (leb 4 cnt)) := by
        intro σ S1 st p e w Q hP hR
        refine x_lr (z := some 2281) T_297_321 rfl ?_
        refine x_ic T_297_322 ?_
        refine x_cv2 T_297_324 mN_236 mL_236 (Nat.le_of_ble_eq_true rfl) mO_236 (PM.t hP) (Nat.le_of_ble_eq_true rfl) (m_reply hP) ?_
        rintro _ σ ⟨rfl, hP⟩
        refine cV ?_
        refine x_lr (z := some 2281) T_297_327 rfl ?_
        refine x_ic T_297_328 ?_
        refine x_li (z := cnt) T_297_329 rfl ?_
        refine x_i2l T_297_331 ?_
        refine x_cv3 T_297_332 mN_237 mL_237 (Nat.le_of_ble_eq_true rfl) mO_237 (PM.t hP) (Nat.le_of_ble_eq_true rfl) (m_put 4 rfl hP (by decide) rpl_z (by omega) (by omega)) ?_
        rintro _ σ ⟨rfl, hP⟩
        refine cV ?_
        refine x_rv T_297_335 ?_
        exact SV_ok hP hR h0 (byt_leb 4 _) (by rw [leb_len]; decide)
      obtain ⟨r, hr⟩ : ∃ r, qWr P s (P 2306 k) off cnt = r := ⟨_, rfl⟩
      have hrv := qWr_v P s (P 2306 k) off cnt
      rw [hr] at hrv
      obtain ⟨q, hq⟩ : ∃ q, wrN P s k cnt (S 2285) = q := ⟨_, rfl⟩
      have hqv : q = 0 ∨ q = 14 := by
        rw [← hq]
        unfold wrN
        split
        · exact Or.inl rfl
        · exact Or.inr rfl
      unfold wrX
      rw [hr, hq]
      -- what is done
      have fin : ∀ (σ : hM) (S1 : qR) (w : Int), PM σ0 P S1 σ → RS T U S S1 23 [] → 0 ≤ k → 0 ≤ P 2309 k → 1 ≤ and32 (P 2309 k) 3 → and32 (P 2309 k) 3 ≤ 2 → (s < 2 → r = 0) → (¬ s < 2 → ¬ P 2306 k = 1 → q = 0) → WP fb (d + 6) 297 213 [some (vR (some 2281)), some (vI s), some (vI c), some (vL v), none, some (vL off), none, some (vL cnt), none, some (vI 23), some (vI cnt), some (vI k), some (vI w), some (vI 0), none] [] σ (SV T U σ0 S (wrP P s k off cnt (S 2285)) 0 119 (leb 4 cnt)) := by
        intro σ S1 w hP hR q1 q2 q3 q4 q5 q6
        have hkr := hkr.resolve_left (by omega)
        have bn : 0 ≤ P 2306 k ∧ P 2306 k ≤ (if k < 192 then 63 else 143) := IV.a hI 2306 0 288 rfl rfl rfl (by omega) (by omega)
        by_cases hs2 : s < 2
        · have hrv := hrv.resolve_right (by have := q5 hs2; omega)
          rw [if_pos (by omega)] at bn
          have bl : 0 ≤ P 2297 (64 * s + P 2306 k) ∧ P 2297 (64 * s + P 2306 k) ≤ 600 := IV.a hI 2297 0 128 rfl rfl rfl (by omega) (by omega)
          have hbb : 0 ≤ (if and32 (P 2293 (64 * s + P 2306 k)) 1073741824 = 0 then off else P 2297 (64 * s + P 2306 k)) ∧ (if and32 (P 2293 (64 * s + P 2306 k)) 1073741824 = 0 then off else P 2297 (64 * s + P 2306 k)) + cnt ≤ 600 ∧ (if and32 (P 2293 (64 * s + P 2306 k)) 1073741824 = 0 then off else P 2297 (64 * s + P 2306 k)) ≤ P 2297 (64 * s + P 2306 k) := by
            obtain ⟨-, g1, g2, g3⟩ := hrv
            by_cases g : and32 (P 2293 (64 * s + P 2306 k)) 1073741824 = 0
            · rw [if_pos g] at g1 g3 ⊢
              exact ⟨g1, g3, g2 g⟩
            · rw [if_neg g] at g1 g3 ⊢
              exact ⟨bl.1, g3, Int.le_refl _⟩
          rw [show wrP P s k off cnt (S 2285) = gWr P s (P 2306 k) (P 2308 k) (if and32 (P 2293 (64 * s + P 2306 k)) 1073741824 = 0 then off else P 2297 (64 * s + P 2306 k)) (seg (S 2285) 23 cnt.toNat) from if_pos hs2, ← hR.askf]
          refine x_li (z := s) T_297_213 rfl ?_
          refine x_ic T_297_214 ?_
          refine x_ic2 T_297_215 (fun h => absurd (show 2 ≤ s from h) (by omega)) (fun _ => ?_)
          refine x_lr (z := some 2281) T_297_218 rfl ?_
          refine x_li (z := s) T_297_219 rfl ?_
          refine x_li (z := k) T_297_220 rfl ?_
          refine x_ll (z := off) T_297_222 rfl ?_
          refine x_li (z := 23) T_297_224 rfl ?_
          refine x_li (z := cnt) T_297_226 rfl ?_
          refine x_cv6 T_297_228 mN_300 mL_300 (Nat.le_of_ble_eq_true rfl) mO_300 (PM.t hP) (Nat.le_of_ble_eq_true rfl) (m_writeFile hP hI hR.iv hT rfl (by omega) (by omega) rfl hbb (by omega) (by omega)) ?_
          rintro _ σ ⟨rfl, hP⟩
          refine cV ?_
          refine x_goto T_297_231 ?_
          exact tail2 σ S1 _ _ _ _ _ hP hR
        · by_cases hn1 : P 2306 k = 1
          · rw [show wrP P s k off cnt (S 2285) = gCon P (S 2285) 23 cnt.toNat from (if_neg hs2).trans (if_pos hn1)]
            refine x_li (z := s) T_297_213 rfl ?_
            refine x_ic T_297_214 ?_
            refine x_ic2 T_297_215 (fun _ => ?_) (fun h => absurd (show 2 ≤ s by omega) h)
            refine x_lr (z := some 2281) T_297_234 rfl ?_
            refine x_gR (z := some 2306) T_297_235 F_17_30 (PM.t hP) (PM.r hP 30 2306 rfl) ?_
            refine x_li (z := k) T_297_238 rfl ?_
            have b1 : 0 ≤ P 2306 k ∧ P 2306 k ≤ (if k < 192 then 63 else 143) := IV.a hI 2306 0 288 rfl rfl rfl (by omega) (by omega)
            refine x_alI (z := P 2306 k) T_297_240 (by decide) (PM.ta hP 2306 0 288 rfl rfl) (by omega) (by omega) (PM.aP hP 2306 rfl rfl (by omega)) ?_
            refine x_ic T_297_241 ?_
            refine x_ic2 T_297_242 (fun h => absurd (show ¬ P 2306 k = 1 from h) (by omega)) (fun _ => ?_)
            refine x_ic T_297_245 ?_
            refine x_si (ls1 := [some (vR (some 2281)), some (vI s), some (vI c), some (vL v), none, some (vL off), none, some (vL cnt), none, some (vI 23), some (vI cnt), some (vI k), some (vI w), some (vI 0), some (vI 0)]) T_297_246 rfl ?_
            exact m_wcons_loop (d := d + 5) hI hR (by omega) (fun σ hP => tail σ S1 _ _ _ _ _ _ hP hR) cnt.toNat 0 σ (by omega) (by decide) hP
          · have hn0 := hW (by omega) k (by omega) (by omega) q2 q3 q4
            have hn16 := hN (by omega) k (by omega) (by omega)
            rw [show wrP P s k off cnt (S 2285) = rU P 2321 (P 2306 k / 16 - 1) 1 from (if_neg hs2).trans (if_neg hn1)]
            refine x_li (z := s) T_297_213 rfl ?_
            refine x_ic T_297_214 ?_
            refine x_ic2 T_297_215 (fun _ => ?_) (fun h => absurd (show 2 ≤ s by omega) h)
            refine x_lr (z := some 2281) T_297_234 rfl ?_
            refine x_gR (z := some 2306) T_297_235 F_17_30 (PM.t hP) (PM.r hP 30 2306 rfl) ?_
            refine x_li (z := k) T_297_238 rfl ?_
            have b1 : 0 ≤ P 2306 k ∧ P 2306 k ≤ (if k < 192 then 63 else 143) := IV.a hI 2306 0 288 rfl rfl rfl (by omega) (by omega)
            refine x_alI (z := P 2306 k) T_297_240 (by decide) (PM.ta hP 2306 0 288 rfl rfl) (by omega) (by omega) (PM.aP hP 2306 rfl rfl (by omega)) ?_
            refine x_ic T_297_241 ?_
            refine x_ic2 T_297_242 (fun _ => ?_) (fun h => absurd (show ¬ P 2306 k = 1 by omega) h)
            refine x_lr (z := some 2281) T_297_303 rfl ?_
            refine x_gR (z := some 2321) T_297_304 F_17_51 (PM.t hP) (PM.r hP 51 2321 rfl) ?_
            refine x_lr (z := some 2281) T_297_307 rfl ?_
            refine x_gR (z := some 2306) T_297_308 F_17_30 (PM.t hP) (PM.r hP 30 2306 rfl) ?_
            refine x_li (z := k) T_297_311 rfl ?_
            refine x_alI (z := P 2306 k) T_297_313 (by decide) (PM.ta hP 2306 0 288 rfl rfl) (by omega) (by omega) (PM.aP hP 2306 rfl rfl (by omega)) ?_
            refine x_ic T_297_314 ?_
            refine x_ib (w := (P 2306 k / 16)) T_297_316 (fun h => absurd h.2 (by decide)) (div32_n (by omega) (by omega) (by decide)) ?_
            refine x_ic T_297_317 ?_
            refine x_ib (w := ((P 2306 k / 16) - 1)) T_297_318 (fun h => absurd h.1 (by decide)) (w32_id (by omega) (by omega)) ?_
            refine x_ic T_297_319 ?_
            refine y_aZP hP T_297_320 rfl 2321 8 rfl rfl rfl (by omega) (by omega) (fun σ hP => ?_)
            exact tail2 σ S1 _ _ _ _ _ hP hR
      have hkill : (if (cnt = 4 ∨ (cnt = 5 ∧ S 2285 (23 + 4) = 10)) ∧ seg (S 2285) 23 4 = seg (pkB 1802071148 4) 0 4 then (1 : Int) else 0) = if q = 0 then 1 else 0 := by
        rw [← hq]
        unfold wrN
        rw [show (23 : Int) + 4 = 27 from rfl]
        by_cases g : (cnt = 4 ∨ (cnt = 5 ∧ S 2285 27 = 10)) ∧ seg (S 2285) 23 4 = seg (pkB 1802071148 4) 0 4
        · rw [if_pos g, if_pos g]
          rfl
        · rw [if_neg g, if_neg g]
          rfl
      have hko : k < 0 ∨ 0 ≤ k ∧ k < 288 := by omega
      have hbn : ∀ j : Int, 0 ≤ j → j < 288 → 0 ≤ P 2306 j ∧ P 2306 j ≤ 143 := fun j h1 h2 => by
        have b : 0 ≤ P 2306 j ∧ P 2306 j ≤ (if j < 192 then 63 else 143) := IV.a hI 2306 0 288 rfl rfl rfl h1 h2
        split at b <;> omega
      refine CL_in mL_297 rfl ?_
      show WP fb _ 297 0 [some (vR (some 2281)), some (vI s), some (vI c), none, none, none, none, none, none, none, none, none, none, none, none] [] σ _
      refine x_lr (z := some 2281) T_297_0 rfl ?_
      refine x_ic T_297_1 ?_
      refine x_cv2 T_297_2 mN_234 mL_234 (Nat.le_of_ble_eq_true rfl) mO_234 (PM.t hP) (Nat.le_of_ble_eq_true rfl) (r_num 4 rfl hP hR (by decide) hv1) ?_
      rintro _ σ ⟨rfl, S1, hP, hR⟩
      rw [a1] at hR
      refine cL ?_
      refine x_sl (ls1 := [some (vR (some 2281)), some (vI s), some (vI c), some (vL v), none, none, none, none, none, none, none, none, none, none, none]) T_297_5 rfl ?_
      refine x_lr (z := some 2281) T_297_6 rfl ?_
      refine x_ic T_297_7 ?_
      refine x_cv2 T_297_9 mN_234 mL_234 (Nat.le_of_ble_eq_true rfl) mO_234 (PM.t hP) (Nat.le_of_ble_eq_true rfl) (r_num 8 rfl hP hR (by decide) ho1) ?_
      rintro _ σ ⟨rfl, S1, hP, hR⟩
      rw [a2] at hR
      refine cL ?_
      refine x_sl (ls1 := [some (vR (some 2281)), some (vI s), some (vI c), some (vL v), none, some (vL off), none, none, none, none, none, none, none, none, none]) T_297_12 rfl ?_
      refine x_lr (z := some 2281) T_297_14 rfl ?_
      refine x_ic T_297_15 ?_
      refine x_cv2 T_297_16 mN_234 mL_234 (Nat.le_of_ble_eq_true rfl) mO_234 (PM.t hP) (Nat.le_of_ble_eq_true rfl) (r_num 4 rfl hP hR (by decide) hc1) ?_
      rintro _ σ ⟨rfl, S1, hP, hR⟩
      rw [a3] at hR
      refine cL ?_
      refine x_sl (ls1 := [some (vR (some 2281)), some (vI s), some (vI c), some (vL v), none, some (vL off), none, some (vL cnt), none, none, none, none, none, none, none]) T_297_19 rfl ?_
      refine x_lr (z := some 2281) T_297_21 rfl ?_
      have hat : S1 2281 8 = 23 := hR.2.2.2.1
      have hbd : S1 2281 9 = 0 := hR.2.2.1
      refine x_gI (z := 23) T_297_22 (Or.inl F_17_8) (PM.t hP) (Eq.trans (PM.nS hP 2281 8 8 rfl rfl rfl) hat) ?_
      refine x_si (ls1 := [some (vR (some 2281)), some (vI s), some (vI c), some (vL v), none, some (vL off), none, some (vL cnt), none, some (vI 23), none, none, none, none, none]) T_297_25 rfl ?_
      refine x_lr (z := some 2281) T_297_27 rfl ?_
      refine x_gI (z := 0) T_297_28 (Or.inr (Or.inl F_17_9)) (PM.t hP) (Eq.trans (PM.nS hP 2281 9 9 rfl rfl rfl) hbd) ?_
      refine x_if T_297_31 (fun h => absurd (show ¬ (0 : Int) = 0 from h) (by decide)) (fun _ => ?_)
      refine x_ll (z := cnt) T_297_34 rfl ?_
      refine x_lr (z := some 2281) T_297_36 rfl ?_
      refine x_gI (z := S 2281 4) T_297_37 (Or.inl F_17_4) (PM.t hP) (Eq.trans (PM.nS hP 2281 4 4 rfl rfl rfl) hR.sz) ?_
      refine x_lr (z := some 2281) T_297_40 rfl ?_
      refine x_gI (z := 23) T_297_41 (Or.inl F_17_8) (PM.t hP) (Eq.trans (PM.nS hP 2281 8 8 rfl rfl rfl) hat) ?_
      refine x_ib (w := (S 2281 4 - 23)) T_297_44 (fun h => absurd h.1 (by decide)) (w32_id (by omega) (by omega)) ?_
      refine x_i2l T_297_45 ?_
      refine x_lif T_297_46 T_297_47 (fun _ => ?_) (fun h => absurd (show cnt = (S 2281 4 - 23) by omega) h)
      refine x_ll (z := cnt) T_297_57 rfl ?_
      refine x_l2i (w := cnt) T_297_59 (w32_id (by omega) (by omega)) ?_
      refine x_si (ls1 := [some (vR (some 2281)), some (vI s), some (vI c), some (vL v), none, some (vL off), none, some (vL cnt), none, some (vI 23), some (vI cnt), none, none, none, none]) T_297_60 rfl ?_
      refine x_lr (z := some 2281) T_297_62 rfl ?_
      refine x_li (z := s) T_297_63 rfl ?_
      refine x_li (z := c) T_297_64 rfl ?_
      refine x_ll (z := v) T_297_65 rfl ?_
      refine x_cv4 T_297_66 mN_261 mL_261 (Nat.le_of_ble_eq_true rfl) mO_261 (PM.t hP) (Nat.le_of_ble_eq_true rfl) (CL_val (m_findFid hP (by omega) (by omega)) hk0) ?_
      rintro _ σ ⟨rfl, rfl⟩
      refine cI ?_
      refine x_si (ls1 := [some (vR (some 2281)), some (vI s), some (vI c), some (vL v), none, some (vL off), none, some (vL cnt), none, some (vI 23), some (vI cnt), some (vI k), none, none, none]) T_297_69 rfl ?_
      refine x_cut (C := 0 ≤ k ∧ 0 ≤ P 2309 k ∧ 1 ≤ and32 (P 2309 k) 3 ∧ and32 (P 2309 k) 3 ≤ 2) (J := 111) (ls1 := [some (vR (some 2281)), some (vI s), some (vI c), some (vL v), none, some (vL off), none, some (vL cnt), none, some (vI 23), some (vI cnt), some (vI k), none, none, none]) (sk := fun z => vI z :: []) (fun z111 hz111 => ?_) (fun kJ111 => ?_)
      · refine x_si (ls1 := [some (vR (some 2281)), some (vI s), some (vI c), some (vL v), none, some (vL off), none, some (vL cnt), none, some (vI 23), some (vI cnt), some (vI k), some (vI z111), none, none]) T_297_111 rfl ?_
        refine x_li (z := k) T_297_113 rfl ?_
        refine x_if T_297_115 (fun h115 => ?_) (fun h115 => ?_)
        · replace h115 : 0 ≤ k := h115
          refine x_li (z := z111) T_297_123 rfl ?_
          refine x_if T_297_125 (fun h125 => ?_) (fun h125 => ?_)
          · replace h125 : (0 ≤ k ∧ 0 ≤ P 2309 k ∧ 1 ≤ and32 (P 2309 k) 3 ∧ and32 (P 2309 k) 3 ≤ 2) := ite1_n (fun e => h125 (hz111.trans e))
            refine x_lr (z := some 2281) T_297_133 rfl ?_
            refine x_gR (z := some 2310) T_297_134 F_17_34 (PM.t hP) (PM.r hP 34 2310 rfl) ?_
            refine x_li (z := k) T_297_137 rfl ?_
            have b1 : 0 ≤ P 2310 k ∧ P 2310 k ≤ 1 := IV.a hI 2310 2 288 rfl rfl rfl (by omega) (by omega)
            refine x_alI (z := P 2310 k) T_297_139 (by decide) (PM.ta hP 2310 2 288 rfl rfl) (by omega) (by omega) (PM.aP hP 2310 rfl rfl (by omega)) ?_
            refine x_if T_297_140 (fun h140 => ?_) (fun h140 => ?_)
            · replace h140 : P 2310 k = 0 := h140
              refine x_li (z := s) T_297_147 rfl ?_
              refine x_ic T_297_148 ?_
              refine x_ic2 T_297_149 (fun h149 => ?_) (fun h149 => ?_)
              · replace h149 : 2 ≤ s := h149
                refine x_lr (z := some 2281) T_297_171 rfl ?_
                refine x_gR (z := some 2306) T_297_172 F_17_30 (PM.t hP) (PM.r hP 30 2306 rfl) ?_
                refine x_li (z := k) T_297_175 rfl ?_
                have b2 : 0 ≤ P 2306 k ∧ P 2306 k ≤ (if k < 192 then 63 else 143) := IV.a hI 2306 0 288 rfl rfl rfl (by omega) (by omega)
                refine x_alI (z := P 2306 k) T_297_177 (by decide) (PM.ta hP 2306 0 288 rfl rfl) (by omega) (by omega) (PM.aP hP 2306 rfl rfl (by omega)) ?_
                refine x_ic T_297_178 ?_
                refine x_ic2 T_297_179 (fun h179 => ?_) (fun h179 => ?_)
                · replace h179 : P 2306 k = 1 := h179
                  refine x_ic T_297_193 ?_
                  refine x_goto T_297_194 ?_
                  refine x_si (ls1 := [some (vR (some 2281)), some (vI s), some (vI c), some (vL v), none, some (vL off), none, some (vL cnt), none, some (vI 23), some (vI cnt), some (vI k), some (vI z111), some (vI 0), none]) T_297_199 rfl ?_
                  refine x_li (z := 0) T_297_201 rfl ?_
                  refine x_if T_297_203 (fun _ => ?_) (fun h => absurd (show (0 : Int) ≤ 0 by decide) h)
                  rw [if_neg (show ¬ k < 0 by omega), if_neg (show ¬ ¬ (0 ≤ P 2309 k ∧ 1 ≤ and32 (P 2309 k) 3 ∧ and32 (P 2309 k) 3 ≤ 2) by omega), if_neg (show ¬ ¬ P 2310 k = 0 by omega)]
                  first
                    | rw [if_pos (show s < 2 by omega), if_pos (show r = 0 by omega), show r = 0 by omega]
                    | rw [if_neg (show ¬ s < 2 by omega), if_pos (show P 2306 k = 1 by omega), if_pos rfl]
                    | rw [if_neg (show ¬ s < 2 by omega), if_neg (show ¬ P 2306 k = 1 by omega), if_pos (show q = 0 by omega), show q = 0 by omega]
                  exact fin σ S1 _ hP hR (by omega) (by omega) (by omega) (by omega) (fun _ => by omega) (fun _ _ => by omega)
                · replace h179 : ¬ (P 2306 k = 1) := h179
                  refine x_lr (z := some 2281) T_297_182 rfl ?_
                  refine x_li (z := 23) T_297_183 rfl ?_
                  refine x_li (z := cnt) T_297_185 rfl ?_
                  refine x_cv3 T_297_187 mN_299 mL_299 (Nat.le_of_ble_eq_true rfl) mO_299 (PM.t hP) (Nat.le_of_ble_eq_true rfl) (CL_val (k := if q = 0 then 1 else 0) (m_isKill hP hR.iv (by decide) (by omega)) (by rw [hR.askf]; exact hkill)) ?_
                  rintro _ σ ⟨rfl, rfl⟩
                  refine cI ?_
                  refine x_if T_297_190 (fun h190 => ?_) (fun h190 => ?_)
                  · replace h190 : ¬ (q = 0) := ite1_z h190
                    refine x_ic T_297_197 ?_
                    refine x_si (ls1 := [some (vR (some 2281)), some (vI s), some (vI c), some (vL v), none, some (vL off), none, some (vL cnt), none, some (vI 23), some (vI cnt), some (vI k), some (vI z111), some (vI 14), none]) T_297_199 rfl ?_
                    refine x_li (z := 14) T_297_201 rfl ?_
                    refine x_if T_297_203 (fun h => absurd (show (14 : Int) ≤ 0 from h) (by decide)) (fun _ => ?_)
                    refine x_lr (z := some 2281) T_297_206 rfl ?_
                    refine x_li (z := 14) T_297_207 rfl ?_
                    refine x_cv2 T_297_209 mN_235 mL_235 (Nat.le_of_ble_eq_true rfl) mO_235 (PM.t hP) (Nat.le_of_ble_eq_true rfl) (m_refuse hP (by omega)) ?_
                    rintro _ σ ⟨rfl, hP⟩
                    refine cV ?_
                    refine x_rv T_297_212 ?_
                    exact SV_not hP hR (by decide) (if_neg (by rw [if_neg (by omega), if_neg (by omega), if_neg (by omega), if_neg (by omega), if_neg (by omega)]; omega)) (by rw [if_neg (by omega), if_neg (by omega), if_neg (by omega), if_neg (by omega), if_neg (by omega)]; omega)
                  · replace h190 : (q = 0) := ite1_n h190
                    refine x_ic T_297_193 ?_
                    refine x_goto T_297_194 ?_
                    refine x_si (ls1 := [some (vR (some 2281)), some (vI s), some (vI c), some (vL v), none, some (vL off), none, some (vL cnt), none, some (vI 23), some (vI cnt), some (vI k), some (vI z111), some (vI 0), none]) T_297_199 rfl ?_
                    refine x_li (z := 0) T_297_201 rfl ?_
                    refine x_if T_297_203 (fun _ => ?_) (fun h => absurd (show (0 : Int) ≤ 0 by decide) h)
                    rw [if_neg (show ¬ k < 0 by omega), if_neg (show ¬ ¬ (0 ≤ P 2309 k ∧ 1 ≤ and32 (P 2309 k) 3 ∧ and32 (P 2309 k) 3 ≤ 2) by omega), if_neg (show ¬ ¬ P 2310 k = 0 by omega)]
                    first
                      | rw [if_pos (show s < 2 by omega), if_pos (show r = 0 by omega), show r = 0 by omega]
                      | rw [if_neg (show ¬ s < 2 by omega), if_pos (show P 2306 k = 1 by omega), if_pos rfl]
                      | rw [if_neg (show ¬ s < 2 by omega), if_neg (show ¬ P 2306 k = 1 by omega), if_pos (show q = 0 by omega), show q = 0 by omega]
                    exact fin σ S1 _ hP hR (by omega) (by omega) (by omega) (by omega) (fun _ => by omega) (fun _ _ => by omega)
              · replace h149 : ¬ (2 ≤ s) := h149
                refine x_lr (z := some 2281) T_297_152 rfl ?_
                refine x_li (z := s) T_297_153 rfl ?_
                refine x_lr (z := some 2281) T_297_154 rfl ?_
                refine x_gR (z := some 2306) T_297_155 F_17_30 (PM.t hP) (PM.r hP 30 2306 rfl) ?_
                refine x_li (z := k) T_297_158 rfl ?_
                have b3 : 0 ≤ P 2306 k ∧ P 2306 k ≤ (if k < 192 then 63 else 143) := IV.a hI 2306 0 288 rfl rfl rfl (by omega) (by omega)
                refine x_alI (z := P 2306 k) T_297_160 (by decide) (PM.ta hP 2306 0 288 rfl rfl) (by omega) (by omega) (PM.aP hP 2306 rfl rfl (by omega)) ?_
                refine x_ll (z := off) T_297_161 rfl ?_
                refine x_li (z := cnt) T_297_163 rfl ?_
                refine x_cv5 T_297_165 mN_298 mL_298 (Nat.le_of_ble_eq_true rfl) mO_298 (PM.t hP) (Nat.le_of_ble_eq_true rfl) (CL_val (m_writing hP hI (by omega) (by omega)) hr) ?_
                rintro _ σ ⟨rfl, rfl⟩
                refine cI ?_
                refine x_goto T_297_168 ?_
                refine x_si (ls1 := [some (vR (some 2281)), some (vI s), some (vI c), some (vL v), none, some (vL off), none, some (vL cnt), none, some (vI 23), some (vI cnt), some (vI k), some (vI z111), some (vI r), none]) T_297_199 rfl ?_
                refine x_li (z := r) T_297_201 rfl ?_
                refine x_if T_297_203 (fun h203 => ?_) (fun h203 => ?_)
                · replace h203 : r ≤ 0 := h203
                  rw [if_neg (show ¬ k < 0 by omega), if_neg (show ¬ ¬ (0 ≤ P 2309 k ∧ 1 ≤ and32 (P 2309 k) 3 ∧ and32 (P 2309 k) 3 ≤ 2) by omega), if_neg (show ¬ ¬ P 2310 k = 0 by omega)]
                  first
                    | rw [if_pos (show s < 2 by omega), if_pos (show r = 0 by omega), show r = 0 by omega]
                    | rw [if_neg (show ¬ s < 2 by omega), if_pos (show P 2306 k = 1 by omega), if_pos rfl]
                    | rw [if_neg (show ¬ s < 2 by omega), if_neg (show ¬ P 2306 k = 1 by omega), if_pos (show q = 0 by omega), show q = 0 by omega]
                  exact fin σ S1 _ hP hR (by omega) (by omega) (by omega) (by omega) (fun _ => by omega) (fun _ _ => by omega)
                · replace h203 : ¬ (r ≤ 0) := h203
                  refine x_lr (z := some 2281) T_297_206 rfl ?_
                  refine x_li (z := r) T_297_207 rfl ?_
                  refine x_cv2 T_297_209 mN_235 mL_235 (Nat.le_of_ble_eq_true rfl) mO_235 (PM.t hP) (Nat.le_of_ble_eq_true rfl) (m_refuse hP (by omega)) ?_
                  rintro _ σ ⟨rfl, hP⟩
                  refine cV ?_
                  refine x_rv T_297_212 ?_
                  exact SV_not hP hR (by omega) (if_neg (by rw [if_neg (by omega), if_neg (by omega), if_neg (by omega), if_pos (by omega)]; omega)) (by rw [if_neg (by omega), if_neg (by omega), if_neg (by omega), if_pos (by omega)])
            · replace h140 : ¬ (P 2310 k = 0) := h140
              refine x_ic T_297_143 ?_
              refine x_goto T_297_144 ?_
              refine x_si (ls1 := [some (vR (some 2281)), some (vI s), some (vI c), some (vL v), none, some (vL off), none, some (vL cnt), none, some (vI 23), some (vI cnt), some (vI k), some (vI z111), some (vI 1), none]) T_297_199 rfl ?_
              refine x_li (z := 1) T_297_201 rfl ?_
              refine x_if T_297_203 (fun h => absurd (show (1 : Int) ≤ 0 from h) (by decide)) (fun _ => ?_)
              refine x_lr (z := some 2281) T_297_206 rfl ?_
              refine x_li (z := 1) T_297_207 rfl ?_
              refine x_cv2 T_297_209 mN_235 mL_235 (Nat.le_of_ble_eq_true rfl) mO_235 (PM.t hP) (Nat.le_of_ble_eq_true rfl) (m_refuse hP (by omega)) ?_
              rintro _ σ ⟨rfl, hP⟩
              refine cV ?_
              refine x_rv T_297_212 ?_
              exact SV_not hP hR (by decide) (if_neg (by rw [if_neg (by omega), if_neg (by omega), if_pos (by omega)]; decide)) (by rw [if_neg (by omega), if_neg (by omega), if_pos (by omega)])
          · replace h125 : ¬ (0 ≤ k ∧ 0 ≤ P 2309 k ∧ 1 ≤ and32 (P 2309 k) 3 ∧ and32 (P 2309 k) 3 ≤ 2) := ite1_z (hz111.symm.trans (Classical.not_not.mp h125))
            refine x_ic T_297_128 ?_
            refine x_goto T_297_130 ?_
            refine x_si (ls1 := [some (vR (some 2281)), some (vI s), some (vI c), some (vL v), none, some (vL off), none, some (vL cnt), none, some (vI 23), some (vI cnt), some (vI k), some (vI z111), some (vI 9), none]) T_297_199 rfl ?_
            refine x_li (z := 9) T_297_201 rfl ?_
            refine x_if T_297_203 (fun h => absurd (show (9 : Int) ≤ 0 from h) (by decide)) (fun _ => ?_)
            refine x_lr (z := some 2281) T_297_206 rfl ?_
            refine x_li (z := 9) T_297_207 rfl ?_
            refine x_cv2 T_297_209 mN_235 mL_235 (Nat.le_of_ble_eq_true rfl) mO_235 (PM.t hP) (Nat.le_of_ble_eq_true rfl) (m_refuse hP (by omega)) ?_
            rintro _ σ ⟨rfl, hP⟩
            refine cV ?_
            refine x_rv T_297_212 ?_
            exact SV_not hP hR (by decide) (if_neg (by rw [if_neg (by omega), if_pos (by omega)]; decide)) (by rw [if_neg (by omega), if_pos (by omega)])
        · replace h115 : ¬ (0 ≤ k) := h115
          refine x_ic T_297_118 ?_
          refine x_goto T_297_120 ?_
          refine x_si (ls1 := [some (vR (some 2281)), some (vI s), some (vI c), some (vL v), none, some (vL off), none, some (vL cnt), none, some (vI 23), some (vI cnt), some (vI k), some (vI z111), some (vI 6), none]) T_297_199 rfl ?_
          refine x_li (z := 6) T_297_201 rfl ?_
          refine x_if T_297_203 (fun h => absurd (show (6 : Int) ≤ 0 from h) (by decide)) (fun _ => ?_)
          refine x_lr (z := some 2281) T_297_206 rfl ?_
          refine x_li (z := 6) T_297_207 rfl ?_
          refine x_cv2 T_297_209 mN_235 mL_235 (Nat.le_of_ble_eq_true rfl) mO_235 (PM.t hP) (Nat.le_of_ble_eq_true rfl) (m_refuse hP (by omega)) ?_
          rintro _ σ ⟨rfl, hP⟩
          refine cV ?_
          refine x_rv T_297_212 ?_
          exact SV_not hP hR (by decide) (if_neg (by rw [if_pos (by omega)]; decide)) (by rw [if_pos (by omega)])
      · refine x_li (z := k) T_297_71 rfl ?_
        refine x_if T_297_73 (fun h73 => ?_) (fun h73 => ?_)
        · replace h73 : k < 0 := h73
          refine x_ic T_297_110 ?_
          exact kJ111 0 (if_neg (by omega)).symm
        · replace h73 : ¬ (k < 0) := h73
          refine x_lr (z := some 2281) T_297_76 rfl ?_
          refine x_gR (z := some 2309) T_297_77 F_17_33 (PM.t hP) (PM.r hP 33 2309 rfl) ?_
          refine x_li (z := k) T_297_80 rfl ?_
          have b4 : -1 ≤ P 2309 k ∧ P 2309 k ≤ 255 := IV.a hI 2309 0 288 rfl rfl rfl (by omega) (by omega)
          refine x_alI (z := P 2309 k) T_297_82 (by decide) (PM.ta hP 2309 0 288 rfl rfl) (by omega) (by omega) (PM.aP hP 2309 rfl rfl (by omega)) ?_
          refine x_if T_297_83 (fun h83 => ?_) (fun h83 => ?_)
          · replace h83 : P 2309 k < 0 := h83
            refine x_ic T_297_110 ?_
            exact kJ111 0 (if_neg (by omega)).symm
          · replace h83 : ¬ (P 2309 k < 0) := h83
            refine x_lr (z := some 2281) T_297_86 rfl ?_
            refine x_gR (z := some 2309) T_297_87 F_17_33 (PM.t hP) (PM.r hP 33 2309 rfl) ?_
            refine x_li (z := k) T_297_90 rfl ?_
            refine x_alI (z := P 2309 k) T_297_92 (by decide) (PM.ta hP 2309 0 288 rfl rfl) (by omega) (by omega) (PM.aP hP 2309 rfl rfl (by omega)) ?_
            refine x_ic T_297_93 ?_
            refine x_ib (w := (and32 (P 2309 k) 3)) T_297_94 (fun h => absurd h.1 (by decide)) rfl ?_
            refine x_i2l T_297_95 ?_
            refine x_lc T_297_96 ?_
            refine x_lc T_297_97 ?_
            refine x_cs3 T_297_100 mN_282 mL_282 (Nat.le_of_ble_eq_true rfl) mK_282 (Nat.le_of_ble_eq_true rfl) (m_in) ?_
            rintro _ σ ⟨rfl, rfl⟩
            refine cI ?_
            refine x_if T_297_103 (fun h103 => ?_) (fun h103 => ?_)
            · replace h103 : ¬ (1 ≤ (and32 (P 2309 k) 3) ∧ (and32 (P 2309 k) 3) ≤ 2) := ite1_z h103
              refine x_ic T_297_110 ?_
              exact kJ111 0 (if_neg (by omega)).symm
            · replace h103 : (1 ≤ (and32 (P 2309 k) 3) ∧ (and32 (P 2309 k) 3) ≤ 2) := ite1_n h103
              refine x_ic T_297_106 ?_
              refine x_goto T_297_107 ?_
              exact kJ111 1 (if_pos (by omega)).symm
    · have hC : ¬ (23 ≤ S 2281 4 ∧ cnt = z) := fun q => hcz q.2
      rw [if_pos hC, if_neg (show ¬ (14 : Int) = 0 by decide)]
      refine CL_in mL_297 rfl ?_
      show WP fb _ 297 0 [some (vR (some 2281)), some (vI s), some (vI c), none, none, none, none, none, none, none, none, none, none, none, none] [] σ _
      refine x_lr (z := some 2281) T_297_0 rfl ?_
      refine x_ic T_297_1 ?_
      refine x_cv2 T_297_2 mN_234 mL_234 (Nat.le_of_ble_eq_true rfl) mO_234 (PM.t hP) (Nat.le_of_ble_eq_true rfl) (r_num 4 rfl hP hR (by decide) hv1) ?_
      rintro _ σ ⟨rfl, S1, hP, hR⟩
      rw [a1] at hR
      refine cL ?_
      refine x_sl (ls1 := [some (vR (some 2281)), some (vI s), some (vI c), some (vL v), none, none, none, none, none, none, none, none, none, none, none]) T_297_5 rfl ?_
      refine x_lr (z := some 2281) T_297_6 rfl ?_
      refine x_ic T_297_7 ?_
      refine x_cv2 T_297_9 mN_234 mL_234 (Nat.le_of_ble_eq_true rfl) mO_234 (PM.t hP) (Nat.le_of_ble_eq_true rfl) (r_num 8 rfl hP hR (by decide) ho1) ?_
      rintro _ σ ⟨rfl, S1, hP, hR⟩
      rw [a2] at hR
      refine cL ?_
      refine x_sl (ls1 := [some (vR (some 2281)), some (vI s), some (vI c), some (vL v), none, some (vL off), none, none, none, none, none, none, none, none, none]) T_297_12 rfl ?_
      refine x_lr (z := some 2281) T_297_14 rfl ?_
      refine x_ic T_297_15 ?_
      refine x_cv2 T_297_16 mN_234 mL_234 (Nat.le_of_ble_eq_true rfl) mO_234 (PM.t hP) (Nat.le_of_ble_eq_true rfl) (r_num 4 rfl hP hR (by decide) hc1) ?_
      rintro _ σ ⟨rfl, S1, hP, hR⟩
      rw [a3] at hR
      refine cL ?_
      refine x_sl (ls1 := [some (vR (some 2281)), some (vI s), some (vI c), some (vL v), none, some (vL off), none, some (vL cnt), none, none, none, none, none, none, none]) T_297_19 rfl ?_
      refine x_lr (z := some 2281) T_297_21 rfl ?_
      have hat : S1 2281 8 = 23 := hR.2.2.2.1
      have hbd : S1 2281 9 = 0 := hR.2.2.1
      refine x_gI (z := 23) T_297_22 (Or.inl F_17_8) (PM.t hP) (Eq.trans (PM.nS hP 2281 8 8 rfl rfl rfl) hat) ?_
      refine x_si (ls1 := [some (vR (some 2281)), some (vI s), some (vI c), some (vL v), none, some (vL off), none, some (vL cnt), none, some (vI 23), none, none, none, none, none]) T_297_25 rfl ?_
      refine x_lr (z := some 2281) T_297_27 rfl ?_
      refine x_gI (z := 0) T_297_28 (Or.inr (Or.inl F_17_9)) (PM.t hP) (Eq.trans (PM.nS hP 2281 9 9 rfl rfl rfl) hbd) ?_
      refine x_if T_297_31 (fun h => absurd (show ¬ (0 : Int) = 0 from h) (by decide)) (fun _ => ?_)
      refine x_ll (z := cnt) T_297_34 rfl ?_
      refine x_lr (z := some 2281) T_297_36 rfl ?_
      refine x_gI (z := S 2281 4) T_297_37 (Or.inl F_17_4) (PM.t hP) (Eq.trans (PM.nS hP 2281 4 4 rfl rfl rfl) hR.sz) ?_
      refine x_lr (z := some 2281) T_297_40 rfl ?_
      refine x_gI (z := 23) T_297_41 (Or.inl F_17_8) (PM.t hP) (Eq.trans (PM.nS hP 2281 8 8 rfl rfl rfl) hat) ?_
      refine x_ib (w := (S 2281 4 - 23)) T_297_44 (fun h => absurd h.1 (by decide)) (w32_id (by omega) (by omega)) ?_
      refine x_i2l T_297_45 ?_
      refine x_lif T_297_46 T_297_47 (fun h => absurd (show cnt = (S 2281 4 - 23) from h) (by omega)) (fun _ => ?_)
      refine x_lr (z := some 2281) T_297_50 rfl ?_
      refine x_ic T_297_51 ?_
      refine x_cv2 T_297_53 mN_235 mL_235 (Nat.le_of_ble_eq_true rfl) mO_235 (PM.t hP) (Nat.le_of_ble_eq_true rfl) (m_refuse hP (by omega)) ?_
      rintro _ σ ⟨rfl, hP⟩
      refine cV ?_
      refine x_rv T_297_56 ?_
      exact SV_no hP hR (by decide)
  · have hC : ¬ (23 ≤ S 2281 4 ∧ nu (S 2285) 19 4 = S 2281 4 - 23) := fun q => h23 q.1
    unfold wrErr
    rw [if_pos hC, if_neg (show ¬ (14 : Int) = 0 by decide)]
    have ha : av (S 2281 4) (av (S 2281 4) (av (S 2281 4) 7 4) 8) 4 = -1 := by
      unfold av
      (repeat' split) <;> omega
    refine CL_in mL_297 rfl ?_
    show WP fb _ 297 0 [some (vR (some 2281)), some (vI s), some (vI c), none, none, none, none, none, none, none, none, none, none, none, none] [] σ _
    refine x_lr (z := some 2281) T_297_0 rfl ?_
    refine x_ic T_297_1 ?_
    refine x_cv2 T_297_2 mN_234 mL_234 (Nat.le_of_ble_eq_true rfl) mO_234 (PM.t hP) (Nat.le_of_ble_eq_true rfl) (r_num 4 rfl hP hR (by decide) rfl) ?_
    rintro _ σ ⟨rfl, S1, hP, hR⟩
    refine cL ?_
    refine x_sl (ls1 := [some (vR (some 2281)), some (vI s), some (vI c), some (vL (nv (S 2285) (S 2281 4) 7 4)), none, none, none, none, none, none, none, none, none, none, none]) T_297_5 rfl ?_
    refine x_lr (z := some 2281) T_297_6 rfl ?_
    refine x_ic T_297_7 ?_
    refine x_cv2 T_297_9 mN_234 mL_234 (Nat.le_of_ble_eq_true rfl) mO_234 (PM.t hP) (Nat.le_of_ble_eq_true rfl) (r_num 8 rfl hP hR (by decide) rfl) ?_
    rintro _ σ ⟨rfl, S1, hP, hR⟩
    refine cL ?_
    refine x_sl (ls1 := [some (vR (some 2281)), some (vI s), some (vI c), some (vL (nv (S 2285) (S 2281 4) 7 4)), none, some (vL (nv (S 2285) (S 2281 4) (av (S 2281 4) 7 4) 8)), none, none, none, none, none, none, none, none, none]) T_297_12 rfl ?_
    refine x_lr (z := some 2281) T_297_14 rfl ?_
    refine x_ic T_297_15 ?_
    refine x_cv2 T_297_16 mN_234 mL_234 (Nat.le_of_ble_eq_true rfl) mO_234 (PM.t hP) (Nat.le_of_ble_eq_true rfl) (r_num 4 rfl hP hR (by decide) rfl) ?_
    rintro _ σ ⟨rfl, S1, hP, hR⟩
    rw [ha] at hR
    refine cL ?_
    refine x_sl (ls1 := [some (vR (some 2281)), some (vI s), some (vI c), some (vL (nv (S 2285) (S 2281 4) 7 4)), none, some (vL (nv (S 2285) (S 2281 4) (av (S 2281 4) 7 4) 8)), none, some (vL (nv (S 2285) (S 2281 4) (av (S 2281 4) (av (S 2281 4) 7 4) 8) 4)), none, none, none, none, none, none, none]) T_297_19 rfl ?_
    refine x_lr (z := some 2281) T_297_21 rfl ?_
    refine x_gI (z := S1 2281 8) T_297_22 (Or.inl F_17_8) (PM.t hP) (PM.nS hP 2281 8 8 rfl rfl rfl) ?_
    refine x_si (ls1 := [some (vR (some 2281)), some (vI s), some (vI c), some (vL (nv (S 2285) (S 2281 4) 7 4)), none, some (vL (nv (S 2285) (S 2281 4) (av (S 2281 4) 7 4) 8)), none, some (vL (nv (S 2285) (S 2281 4) (av (S 2281 4) (av (S 2281 4) 7 4) 8) 4)), none, some (vI (S1 2281 8)), none, none, none, none, none]) T_297_25 rfl ?_
    refine x_lr (z := some 2281) T_297_27 rfl ?_
    have hbd : S1 2281 9 = 1 := hR.2.2.1
    refine x_gI (z := 1) T_297_28 (Or.inr (Or.inl F_17_9)) (PM.t hP) (Eq.trans (PM.nS hP 2281 9 9 rfl rfl rfl) hbd) ?_
    refine x_if T_297_31 (fun _ => ?_) (fun h => absurd (show ¬ (1 : Int) = 0 by decide) h)
    refine x_lr (z := some 2281) T_297_50 rfl ?_
    refine x_ic T_297_51 ?_
    refine x_cv2 T_297_53 mN_235 mL_235 (Nat.le_of_ble_eq_true rfl) mO_235 (PM.t hP) (Nat.le_of_ble_eq_true rfl) (m_refuse hP (by omega)) ?_
    rintro _ σ ⟨rfl, hP⟩
    refine cV ?_
    refine x_rv T_297_56 ?_
    exact SV_no hP hR (by decide)
end MWRITE
