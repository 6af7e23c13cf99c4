/-! What the reference's servers answer: files made. -/
theorem T_279_0 : hTab 279 0 = some ((3, 0, 2, []), 1) := rfl
theorem T_279_1 : hTab 279 1 = some ((0, 0, 4, []), 2) := rfl
theorem T_279_2 : hTab 279 2 = some ((31, 234, 0, []), 5) := rfl
theorem T_279_5 : hTab 279 5 = some ((4, 3, 1, []), 6) := rfl
theorem T_279_6 : hTab 279 6 = some ((3, 0, 2, []), 7) := rfl
theorem T_279_7 : hTab 279 7 = some ((31, 240, 0, []), 10) := rfl
theorem T_279_10 : hTab 279 10 = some ((3, 0, 2, []), 11) := rfl
theorem T_279_11 : hTab 279 11 = some ((0, 0, 4, []), 12) := rfl
theorem T_279_12 : hTab 279 12 = some ((31, 234, 0, []), 15) := rfl
theorem T_279_15 : hTab 279 15 = some ((4, 5, 1, []), 17) := rfl
theorem T_279_17 : hTab 279 17 = some ((3, 0, 2, []), 18) := rfl
theorem T_279_18 : hTab 279 18 = some ((0, 0, 1, []), 19) := rfl
theorem T_279_19 : hTab 279 19 = some ((31, 234, 0, []), 22) := rfl
theorem T_279_22 : hTab 279 22 = some ((15, 0, 0, []), 23) := rfl
theorem T_279_23 : hTab 279 23 = some ((4, 7, 0, []), 25) := rfl
theorem T_279_25 : hTab 279 25 = some ((3, 0, 2, []), 26) := rfl
theorem T_279_26 : hTab 279 26 = some ((31, 241, 0, []), 29) := rfl
theorem T_279_29 : hTab 279 29 = some ((18, 1, Int.ofNat 33, []), 32) := rfl
theorem T_279_32 : hTab 279 32 = some ((33, 0, 0, []), 33) := rfl
theorem T_279_33 : hTab 279 33 = some ((3, 0, 2, []), 34) := rfl
theorem T_279_34 : hTab 279 34 = some ((3, 1, 0, []), 35) := rfl
theorem T_279_35 : hTab 279 35 = some ((3, 2, 0, []), 36) := rfl
theorem T_279_36 : hTab 279 36 = some ((3, 3, 1, []), 37) := rfl
theorem T_279_37 : hTab 279 37 = some ((31, 261, 0, []), 40) := rfl
theorem T_279_40 : hTab 279 40 = some ((4, 8, 0, []), 42) := rfl
theorem T_279_42 : hTab 279 42 = some ((3, 0, 2, []), 43) := rfl
theorem T_279_43 : hTab 279 43 = some ((3, 1, 0, []), 44) := rfl
theorem T_279_44 : hTab 279 44 = some ((3, 8, 0, []), 46) := rfl
theorem T_279_46 : hTab 279 46 = some ((3, 5, 1, []), 48) := rfl
theorem T_279_48 : hTab 279 48 = some ((3, 7, 0, []), 50) := rfl
theorem T_279_50 : hTab 279 50 = some ((31, 280, 0, []), 53) := rfl
theorem T_279_53 : hTab 279 53 = some ((4, 9, 0, []), 55) := rfl
theorem T_279_55 : hTab 279 55 = some ((3, 9, 0, []), 57) := rfl
theorem T_279_57 : hTab 279 57 = some ((18, 5, Int.ofNat 67, []), 60) := rfl
theorem T_279_60 : hTab 279 60 = some ((3, 0, 2, []), 61) := rfl
theorem T_279_61 : hTab 279 61 = some ((3, 9, 0, []), 63) := rfl
theorem T_279_63 : hTab 279 63 = some ((31, 235, 0, []), 66) := rfl
theorem T_279_66 : hTab 279 66 = some ((33, 0, 0, []), 67) := rfl
theorem T_279_67 : hTab 279 67 = some ((3, 0, 2, []), 68) := rfl
theorem T_279_68 : hTab 279 68 = some ((24, 17, Int.ofNat 30, []), 71) := rfl
theorem T_279_71 : hTab 279 71 = some ((3, 8, 0, []), 73) := rfl
theorem T_279_73 : hTab 279 73 = some ((26, 0, 0, []), 74) := rfl
theorem T_279_74 : hTab 279 74 = some ((4, 10, 0, []), 76) := rfl
theorem T_279_76 : hTab 279 76 = some ((3, 0, 2, []), 77) := rfl
theorem T_279_77 : hTab 279 77 = some ((24, 17, Int.ofNat 32, []), 80) := rfl
theorem T_279_80 : hTab 279 80 = some ((3, 8, 0, []), 82) := rfl
theorem T_279_82 : hTab 279 82 = some ((26, 0, 0, []), 83) := rfl
theorem T_279_83 : hTab 279 83 = some ((4, 11, 0, []), 85) := rfl
theorem T_279_85 : hTab 279 85 = some ((0, 0, 1, []), 86) := rfl
theorem T_279_86 : hTab 279 86 = some ((4, 12, 0, []), 88) := rfl
theorem T_279_88 : hTab 279 88 = some ((3, 0, 2, []), 89) := rfl
theorem T_279_89 : hTab 279 89 = some ((24, 17, Int.ofNat 13, []), 92) := rfl
theorem T_279_92 : hTab 279 92 = some ((3, 1, 0, []), 93) := rfl
theorem T_279_93 : hTab 279 93 = some ((3, 12, 0, []), 95) := rfl
theorem T_279_95 : hTab 279 95 = some ((31, 247, 0, []), 98) := rfl
theorem T_279_98 : hTab 279 98 = some ((26, 2, 0, []), 99) := rfl
theorem T_279_99 : hTab 279 99 = some ((18, 0, Int.ofNat 108, []), 102) := rfl
theorem T_279_102 : hTab 279 102 = some ((5, 12, 1, []), 105) := rfl
theorem T_279_105 : hTab 279 105 = some ((22, 0, Int.ofNat 88, []), 108) := rfl
theorem T_279_108 : hTab 279 108 = some ((3, 1, 0, []), 109) := rfl
theorem T_279_109 : hTab 279 109 = some ((3, 12, 0, []), 111) := rfl
theorem T_279_111 : hTab 279 111 = some ((31, 247, 0, []), 114) := rfl
theorem T_279_114 : hTab 279 114 = some ((4, 13, 0, []), 116) := rfl
theorem T_279_116 : hTab 279 116 = some ((3, 5, 1, []), 118) := rfl
theorem T_279_118 : hTab 279 118 = some ((15, 0, 0, []), 119) := rfl
theorem T_279_119 : hTab 279 119 = some ((0, 0, 511, []), 122) := rfl
theorem T_279_122 : hTab 279 122 = some ((10, 5, 0, []), 123) := rfl
theorem T_279_123 : hTab 279 123 = some ((4, 14, 0, []), 125) := rfl
theorem T_279_125 : hTab 279 125 = some ((3, 0, 2, []), 126) := rfl
theorem T_279_126 : hTab 279 126 = some ((3, 1, 0, []), 127) := rfl
theorem T_279_127 : hTab 279 127 = some ((3, 10, 0, []), 129) := rfl
theorem T_279_129 : hTab 279 129 = some ((31, 249, 0, []), 132) := rfl
theorem T_279_132 : hTab 279 132 = some ((0, 0, 511, []), 135) := rfl
theorem T_279_135 : hTab 279 135 = some ((10, 5, 0, []), 136) := rfl
theorem T_279_136 : hTab 279 136 = some ((4, 15, 0, []), 138) := rfl
theorem T_279_138 : hTab 279 138 = some ((3, 5, 1, []), 140) := rfl
theorem T_279_140 : hTab 279 140 = some ((1, 0, 2147483648, []), 143) := rfl
theorem T_279_143 : hTab 279 143 = some ((11, 5, 0, []), 144) := rfl
theorem T_279_144 : hTab 279 144 = some ((1, 0, 0, []), 145) := rfl
theorem T_279_145 : hTab 279 145 = some ((17, 0, 0, []), 146) := rfl
theorem T_279_146 : hTab 279 146 = some ((18, 0, Int.ofNat 153, []), 149) := rfl
theorem T_279_149 : hTab 279 149 = some ((0, 0, 1, []), 150) := rfl
theorem T_279_150 : hTab 279 150 = some ((22, 0, Int.ofNat 154, []), 153) := rfl
theorem T_279_153 : hTab 279 153 = some ((0, 0, 0, []), 154) := rfl
theorem T_279_154 : hTab 279 154 = some ((4, 16, 0, []), 156) := rfl
theorem T_279_156 : hTab 279 156 = some ((3, 0, 2, []), 157) := rfl
theorem T_279_157 : hTab 279 157 = some ((24, 17, Int.ofNat 13, []), 160) := rfl
theorem T_279_160 : hTab 279 160 = some ((3, 13, 0, []), 162) := rfl
theorem T_279_162 : hTab 279 162 = some ((0, 0, 1, []), 163) := rfl
theorem T_279_163 : hTab 279 163 = some ((27, 2, 0, []), 164) := rfl
theorem T_279_164 : hTab 279 164 = some ((3, 0, 2, []), 165) := rfl
theorem T_279_165 : hTab 279 165 = some ((24, 17, Int.ofNat 14, []), 168) := rfl
theorem T_279_168 : hTab 279 168 = some ((3, 13, 0, []), 170) := rfl
theorem T_279_170 : hTab 279 170 = some ((3, 10, 0, []), 172) := rfl
theorem T_279_172 : hTab 279 172 = some ((27, 0, 0, []), 173) := rfl
theorem T_279_173 : hTab 279 173 = some ((3, 0, 2, []), 174) := rfl
theorem T_279_174 : hTab 279 174 = some ((24, 17, Int.ofNat 27, []), 177) := rfl
theorem T_279_177 : hTab 279 177 = some ((3, 1, 0, []), 178) := rfl
theorem T_279_178 : hTab 279 178 = some ((8, 0, 0, []), 179) := rfl
theorem T_279_179 : hTab 279 179 = some ((26, 0, 0, []), 180) := rfl
theorem T_279_180 : hTab 279 180 = some ((0, 0, 1, []), 181) := rfl
theorem T_279_181 : hTab 279 181 = some ((10, 0, 0, []), 182) := rfl
theorem T_279_182 : hTab 279 182 = some ((27, 0, 0, []), 183) := rfl
theorem T_279_183 : hTab 279 183 = some ((3, 0, 2, []), 184) := rfl
theorem T_279_184 : hTab 279 184 = some ((24, 17, Int.ofNat 15, []), 187) := rfl
theorem T_279_187 : hTab 279 187 = some ((3, 13, 0, []), 189) := rfl
theorem T_279_189 : hTab 279 189 = some ((3, 0, 2, []), 190) := rfl
theorem T_279_190 : hTab 279 190 = some ((24, 17, Int.ofNat 27, []), 193) := rfl
theorem T_279_193 : hTab 279 193 = some ((3, 1, 0, []), 194) := rfl
theorem T_279_194 : hTab 279 194 = some ((26, 0, 0, []), 195) := rfl
theorem T_279_195 : hTab 279 195 = some ((27, 0, 0, []), 196) := rfl
theorem T_279_196 : hTab 279 196 = some ((3, 0, 2, []), 197) := rfl
theorem T_279_197 : hTab 279 197 = some ((24, 17, Int.ofNat 16, []), 200) := rfl
theorem T_279_200 : hTab 279 200 = some ((3, 13, 0, []), 202) := rfl
theorem T_279_202 : hTab 279 202 = some ((0, 0, 0, []), 203) := rfl
theorem T_279_203 : hTab 279 203 = some ((27, 0, 0, []), 204) := rfl
theorem T_279_204 : hTab 279 204 = some ((3, 0, 2, []), 205) := rfl
theorem T_279_205 : hTab 279 205 = some ((24, 17, Int.ofNat 17, []), 208) := rfl
theorem T_279_208 : hTab 279 208 = some ((3, 13, 0, []), 210) := rfl
theorem T_279_210 : hTab 279 210 = some ((3, 5, 1, []), 212) := rfl
theorem T_279_212 : hTab 279 212 = some ((1, 0, (-512), []), 215) := rfl
theorem T_279_215 : hTab 279 215 = some ((11, 5, 0, []), 216) := rfl
theorem T_279_216 : hTab 279 216 = some ((15, 0, 0, []), 217) := rfl
theorem T_279_217 : hTab 279 217 = some ((3, 14, 0, []), 219) := rfl
theorem T_279_219 : hTab 279 219 = some ((3, 16, 0, []), 221) := rfl
theorem T_279_221 : hTab 279 221 = some ((18, 0, Int.ofNat 229, []), 224) := rfl
theorem T_279_224 : hTab 279 224 = some ((3, 15, 0, []), 226) := rfl
theorem T_279_226 : hTab 279 226 = some ((22, 0, Int.ofNat 234, []), 229) := rfl
theorem T_279_229 : hTab 279 229 = some ((3, 15, 0, []), 231) := rfl
theorem T_279_231 : hTab 279 231 = some ((0, 0, 73, []), 233) := rfl
theorem T_279_233 : hTab 279 233 = some ((10, 6, 0, []), 234) := rfl
theorem T_279_234 : hTab 279 234 = some ((10, 5, 0, []), 235) := rfl
theorem T_279_235 : hTab 279 235 = some ((10, 6, 0, []), 236) := rfl
theorem T_279_236 : hTab 279 236 = some ((27, 0, 0, []), 237) := rfl
theorem T_279_237 : hTab 279 237 = some ((3, 0, 2, []), 238) := rfl
theorem T_279_238 : hTab 279 238 = some ((24, 17, Int.ofNat 18, []), 241) := rfl
theorem T_279_241 : hTab 279 241 = some ((3, 13, 0, []), 243) := rfl
theorem T_279_243 : hTab 279 243 = some ((3, 11, 0, []), 245) := rfl
theorem T_279_245 : hTab 279 245 = some ((27, 0, 0, []), 246) := rfl
theorem T_279_246 : hTab 279 246 = some ((3, 0, 2, []), 247) := rfl
theorem T_279_247 : hTab 279 247 = some ((24, 17, Int.ofNat 19, []), 250) := rfl
theorem T_279_250 : hTab 279 250 = some ((3, 13, 0, []), 252) := rfl
theorem T_279_252 : hTab 279 252 = some ((3, 0, 2, []), 253) := rfl
theorem T_279_253 : hTab 279 253 = some ((3, 1, 0, []), 254) := rfl
theorem T_279_254 : hTab 279 254 = some ((3, 10, 0, []), 256) := rfl
theorem T_279_256 : hTab 279 256 = some ((31, 251, 0, []), 259) := rfl
theorem T_279_259 : hTab 279 259 = some ((27, 0, 0, []), 260) := rfl
theorem T_279_260 : hTab 279 260 = some ((3, 0, 2, []), 261) := rfl
theorem T_279_261 : hTab 279 261 = some ((24, 17, Int.ofNat 20, []), 264) := rfl
theorem T_279_264 : hTab 279 264 = some ((3, 13, 0, []), 266) := rfl
theorem T_279_266 : hTab 279 266 = some ((3, 11, 0, []), 268) := rfl
theorem T_279_268 : hTab 279 268 = some ((27, 0, 0, []), 269) := rfl
theorem T_279_269 : hTab 279 269 = some ((3, 0, 2, []), 270) := rfl
theorem T_279_270 : hTab 279 270 = some ((24, 17, Int.ofNat 21, []), 273) := rfl
theorem T_279_273 : hTab 279 273 = some ((3, 13, 0, []), 275) := rfl
theorem T_279_275 : hTab 279 275 = some ((0, 0, 0, []), 276) := rfl
theorem T_279_276 : hTab 279 276 = some ((27, 0, 0, []), 277) := rfl
theorem T_279_277 : hTab 279 277 = some ((3, 0, 2, []), 278) := rfl
theorem T_279_278 : hTab 279 278 = some ((3, 1, 0, []), 279) := rfl
theorem T_279_279 : hTab 279 279 = some ((3, 12, 0, []), 281) := rfl
theorem T_279_281 : hTab 279 281 = some ((3, 0, 2, []), 282) := rfl
theorem T_279_282 : hTab 279 282 = some ((24, 17, Int.ofNat 10, []), 285) := rfl
theorem T_279_285 : hTab 279 285 = some ((0, 0, 0, []), 286) := rfl
theorem T_279_286 : hTab 279 286 = some ((26, 0, 0, []), 287) := rfl
theorem T_279_287 : hTab 279 287 = some ((3, 0, 2, []), 288) := rfl
theorem T_279_288 : hTab 279 288 = some ((24, 17, Int.ofNat 11, []), 291) := rfl
theorem T_279_291 : hTab 279 291 = some ((0, 0, 0, []), 292) := rfl
theorem T_279_292 : hTab 279 292 = some ((26, 0, 0, []), 293) := rfl
theorem T_279_293 : hTab 279 293 = some ((31, 284, 0, []), 296) := rfl
theorem T_279_296 : hTab 279 296 = some ((3, 0, 2, []), 297) := rfl
theorem T_279_297 : hTab 279 297 = some ((24, 17, Int.ofNat 26, []), 300) := rfl
theorem T_279_300 : hTab 279 300 = some ((3, 1, 0, []), 301) := rfl
theorem T_279_301 : hTab 279 301 = some ((8, 0, 0, []), 302) := rfl
theorem T_279_302 : hTab 279 302 = some ((26, 0, 0, []), 303) := rfl
theorem T_279_303 : hTab 279 303 = some ((0, 0, 1, []), 304) := rfl
theorem T_279_304 : hTab 279 304 = some ((10, 0, 0, []), 305) := rfl
theorem T_279_305 : hTab 279 305 = some ((27, 0, 0, []), 306) := rfl
theorem T_279_306 : hTab 279 306 = some ((3, 0, 2, []), 307) := rfl
theorem T_279_307 : hTab 279 307 = some ((3, 1, 0, []), 308) := rfl
theorem T_279_308 : hTab 279 308 = some ((3, 10, 0, []), 310) := rfl
theorem T_279_310 : hTab 279 310 = some ((3, 11, 0, []), 312) := rfl
theorem T_279_312 : hTab 279 312 = some ((31, 255, 0, []), 315) := rfl
theorem T_279_315 : hTab 279 315 = some ((3, 0, 2, []), 316) := rfl
theorem T_279_316 : hTab 279 316 = some ((24, 17, Int.ofNat 30, []), 319) := rfl
theorem T_279_319 : hTab 279 319 = some ((3, 8, 0, []), 321) := rfl
theorem T_279_321 : hTab 279 321 = some ((3, 12, 0, []), 323) := rfl
theorem T_279_323 : hTab 279 323 = some ((27, 0, 0, []), 324) := rfl
theorem T_279_324 : hTab 279 324 = some ((3, 0, 2, []), 325) := rfl
theorem T_279_325 : hTab 279 325 = some ((24, 17, Int.ofNat 31, []), 328) := rfl
theorem T_279_328 : hTab 279 328 = some ((3, 8, 0, []), 330) := rfl
theorem T_279_330 : hTab 279 330 = some ((3, 0, 2, []), 331) := rfl
theorem T_279_331 : hTab 279 331 = some ((24, 17, Int.ofNat 15, []), 334) := rfl
theorem T_279_334 : hTab 279 334 = some ((3, 13, 0, []), 336) := rfl
theorem T_279_336 : hTab 279 336 = some ((26, 0, 0, []), 337) := rfl
theorem T_279_337 : hTab 279 337 = some ((27, 0, 0, []), 338) := rfl
theorem T_279_338 : hTab 279 338 = some ((3, 0, 2, []), 339) := rfl
theorem T_279_339 : hTab 279 339 = some ((3, 8, 0, []), 341) := rfl
theorem T_279_341 : hTab 279 341 = some ((3, 7, 0, []), 343) := rfl
theorem T_279_343 : hTab 279 343 = some ((31, 277, 0, []), 346) := rfl
theorem T_279_346 : hTab 279 346 = some ((3, 0, 2, []), 347) := rfl
theorem T_279_347 : hTab 279 347 = some ((0, 0, 115, []), 349) := rfl
theorem T_279_349 : hTab 279 349 = some ((31, 236, 0, []), 352) := rfl
theorem T_279_352 : hTab 279 352 = some ((3, 0, 2, []), 353) := rfl
theorem T_279_353 : hTab 279 353 = some ((3, 1, 0, []), 354) := rfl
theorem T_279_354 : hTab 279 354 = some ((3, 12, 0, []), 356) := rfl
theorem T_279_356 : hTab 279 356 = some ((31, 264, 0, []), 359) := rfl
theorem T_279_359 : hTab 279 359 = some ((3, 0, 2, []), 360) := rfl
theorem T_279_360 : hTab 279 360 = some ((0, 0, 4, []), 361) := rfl
theorem T_279_361 : hTab 279 361 = some ((1, 0, 0, []), 362) := rfl
theorem T_279_362 : hTab 279 362 = some ((31, 237, 0, []), 365) := rfl
theorem T_279_365 : hTab 279 365 = some ((33, 0, 0, []), 366) := rfl
theorem T_280_0 : hTab 280 0 = some ((3, 2, 0, []), 1) := rfl
theorem T_280_1 : hTab 280 1 = some ((18, 3, Int.ofNat 7, []), 4) := rfl
theorem T_280_4 : hTab 280 4 = some ((0, 0, 6, []), 6) := rfl
theorem T_280_6 : hTab 280 6 = some ((33, 1, 0, []), 7) := rfl
theorem T_280_7 : hTab 280 7 = some ((3, 0, 2, []), 8) := rfl
theorem T_280_8 : hTab 280 8 = some ((24, 17, Int.ofNat 30, []), 11) := rfl
theorem T_280_11 : hTab 280 11 = some ((3, 2, 0, []), 12) := rfl
theorem T_280_12 : hTab 280 12 = some ((26, 0, 0, []), 13) := rfl
theorem T_280_13 : hTab 280 13 = some ((4, 6, 0, []), 15) := rfl
theorem T_280_15 : hTab 280 15 = some ((3, 0, 2, []), 16) := rfl
theorem T_280_16 : hTab 280 16 = some ((24, 17, Int.ofNat 32, []), 19) := rfl
theorem T_280_19 : hTab 280 19 = some ((3, 2, 0, []), 20) := rfl
theorem T_280_20 : hTab 280 20 = some ((26, 0, 0, []), 21) := rfl
theorem T_280_21 : hTab 280 21 = some ((4, 7, 0, []), 23) := rfl
theorem T_280_23 : hTab 280 23 = some ((3, 0, 2, []), 24) := rfl
theorem T_280_24 : hTab 280 24 = some ((24, 17, Int.ofNat 33, []), 27) := rfl
theorem T_280_27 : hTab 280 27 = some ((3, 2, 0, []), 28) := rfl
theorem T_280_28 : hTab 280 28 = some ((26, 0, 0, []), 29) := rfl
theorem T_280_29 : hTab 280 29 = some ((18, 2, Int.ofNat 35, []), 32) := rfl
theorem T_280_32 : hTab 280 32 = some ((0, 0, 8, []), 34) := rfl
theorem T_280_34 : hTab 280 34 = some ((33, 1, 0, []), 35) := rfl
theorem T_280_35 : hTab 280 35 = some ((3, 0, 2, []), 36) := rfl
theorem T_280_36 : hTab 280 36 = some ((24, 17, Int.ofNat 34, []), 39) := rfl
theorem T_280_39 : hTab 280 39 = some ((3, 2, 0, []), 40) := rfl
theorem T_280_40 : hTab 280 40 = some ((26, 2, 0, []), 41) := rfl
theorem T_280_41 : hTab 280 41 = some ((18, 0, Int.ofNat 46, []), 44) := rfl
theorem T_280_44 : hTab 280 44 = some ((0, 0, 1, []), 45) := rfl
theorem T_280_45 : hTab 280 45 = some ((33, 1, 0, []), 46) := rfl
theorem T_280_46 : hTab 280 46 = some ((3, 0, 2, []), 47) := rfl
theorem T_280_47 : hTab 280 47 = some ((3, 1, 0, []), 48) := rfl
theorem T_280_48 : hTab 280 48 = some ((3, 6, 0, []), 50) := rfl
theorem T_280_50 : hTab 280 50 = some ((31, 252, 0, []), 53) := rfl
theorem T_280_53 : hTab 280 53 = some ((18, 1, Int.ofNat 58, []), 56) := rfl
theorem T_280_56 : hTab 280 56 = some ((0, 0, 2, []), 57) := rfl
theorem T_280_57 : hTab 280 57 = some ((33, 1, 0, []), 58) := rfl
theorem T_280_58 : hTab 280 58 = some ((3, 1, 0, []), 59) := rfl
theorem T_280_59 : hTab 280 59 = some ((0, 0, 2, []), 60) := rfl
theorem T_280_60 : hTab 280 60 = some ((19, 1, Int.ofNat 65, []), 63) := rfl
theorem T_280_63 : hTab 280 63 = some ((0, 0, 3, []), 64) := rfl
theorem T_280_64 : hTab 280 64 = some ((33, 1, 0, []), 65) := rfl
theorem T_280_65 : hTab 280 65 = some ((3, 0, 2, []), 66) := rfl
theorem T_280_66 : hTab 280 66 = some ((3, 0, 2, []), 67) := rfl
theorem T_280_67 : hTab 280 67 = some ((24, 17, Int.ofNat 10, []), 70) := rfl
theorem T_280_70 : hTab 280 70 = some ((0, 0, 0, []), 71) := rfl
theorem T_280_71 : hTab 280 71 = some ((26, 0, 0, []), 72) := rfl
theorem T_280_72 : hTab 280 72 = some ((3, 0, 2, []), 73) := rfl
theorem T_280_73 : hTab 280 73 = some ((24, 17, Int.ofNat 11, []), 76) := rfl
theorem T_280_76 : hTab 280 76 = some ((0, 0, 0, []), 77) := rfl
theorem T_280_77 : hTab 280 77 = some ((26, 0, 0, []), 78) := rfl
theorem T_280_78 : hTab 280 78 = some ((31, 281, 0, []), 81) := rfl
theorem T_280_81 : hTab 280 81 = some ((18, 1, Int.ofNat 86, []), 84) := rfl
theorem T_280_84 : hTab 280 84 = some ((0, 0, 5, []), 85) := rfl
theorem T_280_85 : hTab 280 85 = some ((33, 1, 0, []), 86) := rfl
theorem T_280_86 : hTab 280 86 = some ((3, 0, 2, []), 87) := rfl
theorem T_280_87 : hTab 280 87 = some ((3, 1, 0, []), 88) := rfl
theorem T_280_88 : hTab 280 88 = some ((3, 6, 0, []), 90) := rfl
theorem T_280_90 : hTab 280 90 = some ((3, 0, 2, []), 91) := rfl
theorem T_280_91 : hTab 280 91 = some ((24, 17, Int.ofNat 10, []), 94) := rfl
theorem T_280_94 : hTab 280 94 = some ((0, 0, 0, []), 95) := rfl
theorem T_280_95 : hTab 280 95 = some ((26, 0, 0, []), 96) := rfl
theorem T_280_96 : hTab 280 96 = some ((3, 0, 2, []), 97) := rfl
theorem T_280_97 : hTab 280 97 = some ((24, 17, Int.ofNat 11, []), 100) := rfl
theorem T_280_100 : hTab 280 100 = some ((0, 0, 0, []), 101) := rfl
theorem T_280_101 : hTab 280 101 = some ((26, 0, 0, []), 102) := rfl
theorem T_280_102 : hTab 280 102 = some ((31, 268, 0, []), 105) := rfl
theorem T_280_105 : hTab 280 105 = some ((18, 2, Int.ofNat 110, []), 108) := rfl
theorem T_280_108 : hTab 280 108 = some ((0, 0, 4, []), 109) := rfl
theorem T_280_109 : hTab 280 109 = some ((33, 1, 0, []), 110) := rfl
theorem T_280_110 : hTab 280 110 = some ((3, 0, 2, []), 111) := rfl
theorem T_280_111 : hTab 280 111 = some ((3, 1, 0, []), 112) := rfl
theorem T_280_112 : hTab 280 112 = some ((3, 6, 0, []), 114) := rfl
theorem T_280_114 : hTab 280 114 = some ((3, 7, 0, []), 116) := rfl
theorem T_280_116 : hTab 280 116 = some ((0, 0, 2, []), 117) := rfl
theorem T_280_117 : hTab 280 117 = some ((31, 248, 0, []), 120) := rfl
theorem T_280_120 : hTab 280 120 = some ((18, 1, Int.ofNat 125, []), 123) := rfl
theorem T_280_123 : hTab 280 123 = some ((0, 0, 3, []), 124) := rfl
theorem T_280_124 : hTab 280 124 = some ((33, 1, 0, []), 125) := rfl
theorem T_280_125 : hTab 280 125 = some ((3, 3, 1, []), 126) := rfl
theorem T_280_126 : hTab 280 126 = some ((1, 0, (-512), []), 129) := rfl
theorem T_280_129 : hTab 280 129 = some ((11, 5, 0, []), 130) := rfl
theorem T_280_130 : hTab 280 130 = some ((4, 8, 1, []), 132) := rfl
theorem T_280_132 : hTab 280 132 = some ((3, 8, 1, []), 134) := rfl
theorem T_280_134 : hTab 280 134 = some ((1, 0, 2147483648, []), 137) := rfl
theorem T_280_137 : hTab 280 137 = some ((17, 0, 0, []), 138) := rfl
theorem T_280_138 : hTab 280 138 = some ((18, 1, Int.ofNat 145, []), 141) := rfl
theorem T_280_141 : hTab 280 141 = some ((0, 0, 1, []), 142) := rfl
theorem T_280_142 : hTab 280 142 = some ((22, 0, Int.ofNat 146, []), 145) := rfl
theorem T_280_145 : hTab 280 145 = some ((0, 0, 0, []), 146) := rfl
theorem T_280_146 : hTab 280 146 = some ((4, 10, 0, []), 148) := rfl
theorem T_280_148 : hTab 280 148 = some ((3, 8, 1, []), 150) := rfl
theorem T_280_150 : hTab 280 150 = some ((1, 0, 0, []), 151) := rfl
theorem T_280_151 : hTab 280 151 = some ((17, 0, 0, []), 152) := rfl
theorem T_280_152 : hTab 280 152 = some ((18, 0, Int.ofNat 169, []), 155) := rfl
theorem T_280_155 : hTab 280 155 = some ((3, 8, 1, []), 157) := rfl
theorem T_280_157 : hTab 280 157 = some ((1, 0, 1073741824, []), 160) := rfl
theorem T_280_160 : hTab 280 160 = some ((17, 0, 0, []), 161) := rfl
theorem T_280_161 : hTab 280 161 = some ((18, 0, Int.ofNat 169, []), 164) := rfl
theorem T_280_164 : hTab 280 164 = some ((3, 10, 0, []), 166) := rfl
theorem T_280_166 : hTab 280 166 = some ((18, 0, Int.ofNat 178, []), 169) := rfl
theorem T_280_169 : hTab 280 169 = some ((3, 5, 0, []), 171) := rfl
theorem T_280_171 : hTab 280 171 = some ((0, 0, (-65), []), 173) := rfl
theorem T_280_173 : hTab 280 173 = some ((10, 5, 0, []), 174) := rfl
theorem T_280_174 : hTab 280 174 = some ((0, 0, 3, []), 175) := rfl
theorem T_280_175 : hTab 280 175 = some ((19, 5, Int.ofNat 181, []), 178) := rfl
theorem T_280_178 : hTab 280 178 = some ((0, 0, 16, []), 180) := rfl
theorem T_280_180 : hTab 280 180 = some ((33, 1, 0, []), 181) := rfl
theorem T_280_181 : hTab 280 181 = some ((3, 10, 0, []), 183) := rfl
theorem T_280_183 : hTab 280 183 = some ((18, 0, Int.ofNat 197, []), 186) := rfl
theorem T_280_186 : hTab 280 186 = some ((3, 5, 0, []), 188) := rfl
theorem T_280_188 : hTab 280 188 = some ((0, 0, (-65), []), 190) := rfl
theorem T_280_190 : hTab 280 190 = some ((10, 5, 0, []), 191) := rfl
theorem T_280_191 : hTab 280 191 = some ((18, 0, Int.ofNat 197, []), 194) := rfl
theorem T_280_194 : hTab 280 194 = some ((0, 0, 10, []), 196) := rfl
theorem T_280_196 : hTab 280 196 = some ((33, 1, 0, []), 197) := rfl
theorem T_280_197 : hTab 280 197 = some ((3, 0, 2, []), 198) := rfl
theorem T_280_198 : hTab 280 198 = some ((24, 17, Int.ofNat 26, []), 201) := rfl
theorem T_280_201 : hTab 280 201 = some ((3, 1, 0, []), 202) := rfl
theorem T_280_202 : hTab 280 202 = some ((26, 0, 0, []), 203) := rfl
theorem T_280_203 : hTab 280 203 = some ((0, 0, 64, []), 205) := rfl
theorem T_280_205 : hTab 280 205 = some ((19, 1, Int.ofNat 213, []), 208) := rfl
theorem T_280_208 : hTab 280 208 = some ((0, 0, 12, []), 210) := rfl
theorem T_280_210 : hTab 280 210 = some ((22, 0, Int.ofNat 214, []), 213) := rfl
theorem T_280_213 : hTab 280 213 = some ((0, 0, 0, []), 214) := rfl
theorem T_280_214 : hTab 280 214 = some ((33, 1, 0, []), 215) := rfl
theorem F_17_27 : (hFd 17 27).2.2.1 = 4 := rfl
theorem mN_279 : hmN 279 = 3 := by decide +kernel
theorem mL_279 : hmL 279 = 17 := by decide +kernel
theorem mK_279 : hmK 279 = 1 := by decide +kernel
theorem mO_279 : hmO 279 = 17 := by decide +kernel
theorem mN_280 : hmN 280 = 5 := by decide +kernel
theorem mL_280 : hmL 280 = 11 := by decide +kernel
theorem mK_280 : hmK 280 = 1 := by decide +kernel
theorem mO_280 : hmO 280 = 17 := by decide +kernel
/-- why a file can't be made there -/
def qCre (P : qR) (s k p m : Int) (nm : List Int) : Int := if k < 0 then 6 else if 0 ≤ P 2309 k then 8 else if ¬ P 2310 k = 0 then 1 else if ¬ qMode P s (P 2306 k) < 0 then 2 else if s = 2 then 3 else if ¬ nmOk nm = true then 5 else if 0 ≤ qFind P s (P 2306 k) nm then 4 else if qMv P s (P 2306 k) (P 2308 k) 2 = 0 then 3 else if (¬ and64 p (-512) = 0 ∧ ¬ and64 p (-512) = 1073741824 ∧ ¬ and64 p (-512) = 2147483648) ∨ 3 < and32 m (-65) then 16 else if and64 p (-512) = 2147483648 ∧ ¬ and32 m (-65) = 0 then 10 else if P 2302 s = 64 then 12 else 0
def frFl (P : qR) (s : Int) : Nat → Int → Int
  | 0, f => f
  | m + 1, f => if P 2289 (64 * s + f) = 0 then f else frFl P s m (f + 1)
/-- the place of the next file -/
def qNew (P : qR) (s : Int) : Int := frFl P s 63 1
/-- bits of a file that is made; the rows then -/
def creM (P : qR) (s into p : Int) : Int := or32 (w32 (and64 p (-512))) (and32 (and32 (w32 p) 511) (if ¬ and64 p 2147483648 = 0 then and32 (qMode P s into) 511 else or32 (and32 (qMode P s into) 511) 73))
def gCre (P : qR) (s k p m into nn u : Int) (nm : List Int) : qR := gOpen (rU (rU (gGrow (rU (gName (rU (rU (rU (rU (rU (rU (rU (rU (rU (rU P 2289 (64 * s + nn) 1) 2290 (64 * s + nn) into) 2303 s (P 2303 s + 1)) 2291 (64 * s + nn) (P 2303 s + 1)) 2292 (64 * s + nn) 0) 2293 (64 * s + nn) (creM P s into p)) 2294 (64 * s + nn) u) 2295 (64 * s + nn) (P 2295 (64 * s + into))) 2296 (64 * s + nn) u) 2297 (64 * s + nn) 0) s nn nm) 2302 s (P 2302 s + 1)) s into u) 2306 k nn) 2307 k (P 2303 s + 1)) k m
def crE (P : qR) (s c : Int) (a : Int → Int) (z : Int) : Int := if ¬ (0 ≤ sE a z 11 ∧ sE a z 11 + 5 = z) then 14 else qCre P s (qFid P s c (nu a 7 4)) (nu a (sE a z 11) 4) (nu a (sE a z 11 + 4) 1) (seg a 13 (nu a 11 2).toNat)
def crP (P : qR) (s c : Int) (a : Int → Int) (z : Int) : qR := gCre P s (qFid P s c (nu a 7 4)) (nu a (sE a z 11) 4) (nu a (sE a z 11 + 4) 1) (P 2306 (qFid P s c (nu a 7 4))) (qNew P s) (P 2308 (qFid P s c (nu a 7 4))) (seg a 13 (nu a 11 2).toNat)
section MSERVE7
variable {fb : Bool} {d : Nat} {σ0 σ : hM} {P S S1 : qR} {T U s n u c t p z : Int} {st : List (Int × Int)}
theorem m_creation {k m o y : Int} (hP : PM σ0 P S σ) (hI : IV false T U P) (hJ : IV true T U S) (hs : 0 ≤ s ∧ s < 3) (hk : k < 0 ∨ (96 * s ≤ k ∧ k < 96 * s + 96)) (ho : S 2287 0 = o) (hy : S 2288 0 = y) (h0 : 0 ≤ o ∧ 0 ≤ y ∧ o + y ≤ 512) : CL fb (d + 5) 280 [vR (some 2281), vI s, vI k, vL p, vI m] σ (rP (qCre P s k p m (seg (S 2285) o y.toNat)) σ) := by
  by_cases hkn : k < 0
  · rw [show qCre P s k p m (seg (S 2285) o y.toNat) = 6 from if_pos hkn]
    refine CL_in mL_280 rfl ?_
    show WP fb _ 280 0 [some (vR (some 2281)), some (vI s), some (vI k), some (vL p), none, some (vI m), none, none, none, none, none] [] σ _
    refine x_li (z := k) T_280_0 rfl ?_
    refine x_if T_280_1 (fun h => absurd (show 0 ≤ k from h) (by omega)) (fun _ => ?_)
    refine x_ic T_280_4 ?_
    refine x_ri T_280_6 ?_
    exact ⟨rfl, rfl⟩
  · have hk := hk.resolve_left hkn
    have bn : 0 ≤ P 2306 k ∧ P 2306 k ≤ (if k < 192 then 63 else 143) := IV.a hI 2306 0 288 rfl rfl rfl (by omega) (by omega)
    have hon : okN s (P 2306 k) := by omega
    obtain ⟨nm, hnm⟩ : ∃ nm, seg (S 2285) o y.toNat = nm := ⟨_, rfl⟩
    obtain ⟨r, hr⟩ : ∃ r, qFind P s (P 2306 k) nm = r := ⟨_, rfl⟩
    unfold qCre
    rw [hnm, hr, if_neg hkn]
    refine CL_in mL_280 rfl ?_
    show WP fb _ 280 0 [some (vR (some 2281)), some (vI s), some (vI k), some (vL p), none, some (vI m), none, none, none, none, none] [] σ _
    refine x_li (z := k) T_280_0 rfl ?_
    refine x_if T_280_1 (fun _ => ?_) (fun h => absurd (show 0 ≤ k by omega) h)
    refine x_lr (z := some 2281) T_280_7 rfl ?_
    refine x_gR (z := some 2306) T_280_8 F_17_30 (PM.t hP) (PM.r hP 30 2306 rfl) ?_
    refine x_li (z := k) T_280_11 rfl ?_
    have b1 : 0 ≤ P 2306 k ∧ P 2306 k ≤ (if k < 192 then 63 else 143) := IV.a hI 2306 0 288 rfl rfl rfl (by omega) (by omega)
    refine x_alI (z := P 2306 k) T_280_12 (by decide) (PM.ta hP 2306 0 288 rfl rfl) (by omega) (by omega) (PM.aP hP 2306 rfl rfl (by omega)) ?_
    refine x_si (ls1 := [some (vR (some 2281)), some (vI s), some (vI k), some (vL p), none, some (vI m), some (vI (P 2306 k)), none, none, none, none]) T_280_13 rfl ?_
    refine x_lr (z := some 2281) T_280_15 rfl ?_
    refine x_gR (z := some 2308) T_280_16 F_17_32 (PM.t hP) (PM.r hP 32 2308 rfl) ?_
    refine x_li (z := k) T_280_19 rfl ?_
    have b2 : 0 ≤ P 2308 k ∧ P 2308 k ≤ 3 := IV.a hI 2308 0 288 rfl rfl rfl (by omega) (by omega)
    refine x_alI (z := P 2308 k) T_280_20 (by decide) (PM.ta hP 2308 0 288 rfl rfl) (by omega) (by omega) (PM.aP hP 2308 rfl rfl (by omega)) ?_
    refine x_si (ls1 := [some (vR (some 2281)), some (vI s), some (vI k), some (vL p), none, some (vI m), some (vI (P 2306 k)), some (vI (P 2308 k)), none, none, none]) T_280_21 rfl ?_
    refine x_lr (z := some 2281) T_280_23 rfl ?_
    refine x_gR (z := some 2309) T_280_24 F_17_33 (PM.t hP) (PM.r hP 33 2309 rfl) ?_
    refine x_li (z := k) T_280_27 rfl ?_
    have b3 : -1 ≤ P 2309 k ∧ P 2309 k ≤ 255 := IV.a hI 2309 0 288 rfl rfl rfl (by omega) (by omega)
    refine x_alI (z := P 2309 k) T_280_28 (by decide) (PM.ta hP 2309 0 288 rfl rfl) (by omega) (by omega) (PM.aP hP 2309 rfl rfl (by omega)) ?_
    refine x_if T_280_29 (fun h29 => ?_) (fun h29 => ?_)
    · replace h29 : P 2309 k < 0 := h29
      refine x_lr (z := some 2281) T_280_35 rfl ?_
      refine x_gR (z := some 2310) T_280_36 F_17_34 (PM.t hP) (PM.r hP 34 2310 rfl) ?_
      refine x_li (z := k) T_280_39 rfl ?_
      have b4 : 0 ≤ P 2310 k ∧ P 2310 k ≤ 1 := IV.a hI 2310 2 288 rfl rfl rfl (by omega) (by omega)
      refine x_alI (z := P 2310 k) T_280_40 (by decide) (PM.ta hP 2310 2 288 rfl rfl) (by omega) (by omega) (PM.aP hP 2310 rfl rfl (by omega)) ?_
      refine x_if T_280_41 (fun h41 => ?_) (fun h41 => ?_)
      · replace h41 : P 2310 k = 0 := h41
        refine x_lr (z := some 2281) T_280_46 rfl ?_
        refine x_li (z := s) T_280_47 rfl ?_
        refine x_li (z := P 2306 k) T_280_48 rfl ?_
        refine x_cv3 T_280_50 mN_252 mL_252 (Nat.le_of_ble_eq_true rfl) mO_252 (PM.t hP) (Nat.le_of_ble_eq_true rfl) (m_isDirectory hP (by omega)) ?_
        rintro _ σ ⟨rfl, rfl⟩
        refine cI ?_
        refine x_if T_280_53 (fun h53 => ?_) (fun h53 => ?_)
        · replace h53 : (qMode P s (P 2306 k) < 0) := ite1_n h53
          refine x_li (z := s) T_280_58 rfl ?_
          refine x_ic T_280_59 ?_
          refine x_ic2 T_280_60 (fun h60 => ?_) (fun h60 => ?_)
          · replace h60 : ¬ s = 2 := h60
            refine x_lr (z := some 2281) T_280_65 rfl ?_
            refine x_lr (z := some 2281) T_280_66 rfl ?_
            refine x_gR (z := some 2287) T_280_67 F_17_10 (PM.t hP) (PM.r hP 10 2287 rfl) ?_
            refine x_ic T_280_70 ?_
            refine x_alI (z := o) T_280_71 (by decide) (PM.ta hP 2287 0 8 rfl rfl) (by omega) (by omega) (Eq.trans (PM.aS hP 2287 rfl rfl (by omega)) ho) ?_
            refine x_lr (z := some 2281) T_280_72 rfl ?_
            refine x_gR (z := some 2288) T_280_73 F_17_11 (PM.t hP) (PM.r hP 11 2288 rfl) ?_
            refine x_ic T_280_76 ?_
            refine x_alI (z := y) T_280_77 (by decide) (PM.ta hP 2288 0 8 rfl rfl) (by omega) (by omega) (Eq.trans (PM.aS hP 2288 rfl rfl (by omega)) hy) ?_
            refine x_cv3 T_280_78 mN_281 mL_281 (Nat.le_of_ble_eq_true rfl) mO_281 (PM.t hP) (Nat.le_of_ble_eq_true rfl) (CL_val (k := if nmOk nm = true then 1 else 0) (m_isName hP hJ (by omega) (by omega) (by omega)) (by rw [hnm])) ?_
            rintro _ σ ⟨rfl, rfl⟩
            refine cI ?_
            refine x_if T_280_81 (fun h81 => ?_) (fun h81 => ?_)
            · replace h81 : (nmOk nm = true) := ite1_n h81
              refine x_lr (z := some 2281) T_280_86 rfl ?_
              refine x_li (z := s) T_280_87 rfl ?_
              refine x_li (z := P 2306 k) T_280_88 rfl ?_
              refine x_lr (z := some 2281) T_280_90 rfl ?_
              refine x_gR (z := some 2287) T_280_91 F_17_10 (PM.t hP) (PM.r hP 10 2287 rfl) ?_
              refine x_ic T_280_94 ?_
              refine x_alI (z := o) T_280_95 (by decide) (PM.ta hP 2287 0 8 rfl rfl) (by omega) (by omega) (Eq.trans (PM.aS hP 2287 rfl rfl (by omega)) ho) ?_
              refine x_lr (z := some 2281) T_280_96 rfl ?_
              refine x_gR (z := some 2288) T_280_97 F_17_11 (PM.t hP) (PM.r hP 11 2288 rfl) ?_
              refine x_ic T_280_100 ?_
              refine x_alI (z := y) T_280_101 (by decide) (PM.ta hP 2288 0 8 rfl rfl) (by omega) (by omega) (Eq.trans (PM.aS hP 2288 rfl rfl (by omega)) hy) ?_
              refine x_cv5 T_280_102 mN_268 mL_268 (Nat.le_of_ble_eq_true rfl) mO_268 (PM.t hP) (Nat.le_of_ble_eq_true rfl) (CL_val (k := r) (m_finds hP hI hJ hon (fun q => by omega) (by omega) (by omega) (by omega)) (by rw [hnm]; exact hr)) ?_
              rintro _ σ ⟨rfl, rfl⟩
              refine cI ?_
              refine x_if T_280_105 (fun h105 => ?_) (fun h105 => ?_)
              · replace h105 : r < 0 := h105
                refine x_lr (z := some 2281) T_280_110 rfl ?_
                refine x_li (z := s) T_280_111 rfl ?_
                refine x_li (z := P 2306 k) T_280_112 rfl ?_
                refine x_li (z := P 2308 k) T_280_114 rfl ?_
                refine x_ic T_280_116 ?_
                refine x_cv5 T_280_117 mN_248 mL_248 (Nat.le_of_ble_eq_true rfl) mO_248 (PM.t hP) (Nat.le_of_ble_eq_true rfl) (m_may hP (by omega)) ?_
                rintro _ σ ⟨rfl, rfl⟩
                refine cI ?_
                refine x_if T_280_120 (fun h120 => ?_) (fun h120 => ?_)
                · replace h120 : ¬ (qMv P s (P 2306 k) (P 2308 k) 2 = 0) := ite0_n h120
                  refine x_ll (z := p) T_280_125 rfl ?_
                  refine x_lc T_280_126 ?_
                  refine x_lb (w := (and64 p (-512))) T_280_129 (fun h => absurd h.1 (by decide)) rfl ?_
                  refine x_sl (ls1 := [some (vR (some 2281)), some (vI s), some (vI k), some (vL p), none, some (vI m), some (vI (P 2306 k)), some (vI (P 2308 k)), some (vL (and64 p (-512))), none, none]) T_280_130 rfl ?_
                  refine x_cut (C := and64 p (-512) = 2147483648) (J := 146) (ls1 := [some (vR (some 2281)), some (vI s), some (vI k), some (vL p), none, some (vI m), some (vI (P 2306 k)), some (vI (P 2308 k)), some (vL (and64 p (-512))), none, none]) (sk := fun z => vI z :: []) (fun z146 hz146 => ?_) (fun kJ146 => ?_)
                  · refine x_si (ls1 := [some (vR (some 2281)), some (vI s), some (vI k), some (vL p), none, some (vI m), some (vI (P 2306 k)), some (vI (P 2308 k)), some (vL (and64 p (-512))), none, some (vI z146)]) T_280_146 rfl ?_
                    refine x_ll (z := (and64 p (-512))) T_280_148 rfl ?_
                    refine x_lc T_280_150 ?_
                    refine x_lif T_280_151 T_280_152 (fun h152 => ?_) (fun h152 => ?_)
                    · replace h152 : (and64 p (-512)) = 0 := h152
                      refine x_li (z := m) T_280_169 rfl ?_
                      refine x_ic T_280_171 ?_
                      refine x_ib (w := (and32 m (-65))) T_280_173 (fun h => absurd h.1 (by decide)) rfl ?_
                      refine x_ic T_280_174 ?_
                      refine x_ic2 T_280_175 (fun h175 => ?_) (fun h175 => ?_)
                      · replace h175 : (and32 m (-65)) ≤ 3 := h175
                        refine x_li (z := z146) T_280_181 rfl ?_
                        refine x_if T_280_183 (fun h183 => ?_) (fun h183 => ?_)
                        · replace h183 : ¬ (and64 p (-512) = 2147483648) := ite1_z (hz146.symm.trans h183)
                          refine x_lr (z := some 2281) T_280_197 rfl ?_
                          refine x_gR (z := some 2302) T_280_198 F_17_26 (PM.t hP) (PM.r hP 26 2302 rfl) ?_
                          refine x_li (z := s) T_280_201 rfl ?_
                          have b5 : 0 ≤ P 2302 s ∧ P 2302 s ≤ 64 := IV.a hI 2302 0 2 rfl rfl rfl (by omega) (by omega)
                          refine x_alI (z := P 2302 s) T_280_202 (by decide) (PM.ta hP 2302 0 2 rfl rfl) (by omega) (by omega) (PM.aP hP 2302 rfl rfl (by omega)) ?_
                          refine x_ic T_280_203 ?_
                          refine x_ic2 T_280_205 (fun h205 => ?_) (fun h205 => ?_)
                          · replace h205 : ¬ P 2302 s = 64 := h205
                            refine x_ic T_280_213 ?_
                            refine x_ri T_280_214 ?_
                            refine ⟨?_, rfl⟩
                            first
                              | (rw [if_neg (by omega), if_neg (by omega), if_neg (by omega), if_neg (by omega), if_neg (fun q => q (by assumption)), if_neg (by omega), if_neg (by omega), if_neg (by omega), if_neg (by omega), if_neg (by omega)])
                          · replace h205 : ¬ (¬ P 2302 s = 64) := h205
                            refine x_ic T_280_208 ?_
                            refine x_goto T_280_210 ?_
                            refine x_ri T_280_214 ?_
                            refine ⟨?_, rfl⟩
                            first
                              | (rw [if_neg (by omega), if_neg (by omega), if_neg (by omega), if_neg (by omega), if_neg (fun q => q (by assumption)), if_neg (by omega), if_neg (by omega), if_neg (by omega), if_neg (by omega), if_pos (by omega)])
                        · replace h183 : (and64 p (-512) = 2147483648) := ite1_n (fun e => h183 (hz146.trans e))
                          refine x_li (z := m) T_280_186 rfl ?_
                          refine x_ic T_280_188 ?_
                          refine x_ib (w := (and32 m (-65))) T_280_190 (fun h => absurd h.1 (by decide)) rfl ?_
                          refine x_if T_280_191 (fun h191 => ?_) (fun h191 => ?_)
                          · replace h191 : (and32 m (-65)) = 0 := h191
                            refine x_lr (z := some 2281) T_280_197 rfl ?_
                            refine x_gR (z := some 2302) T_280_198 F_17_26 (PM.t hP) (PM.r hP 26 2302 rfl) ?_
                            refine x_li (z := s) T_280_201 rfl ?_
                            have b6 : 0 ≤ P 2302 s ∧ P 2302 s ≤ 64 := IV.a hI 2302 0 2 rfl rfl rfl (by omega) (by omega)
                            refine x_alI (z := P 2302 s) T_280_202 (by decide) (PM.ta hP 2302 0 2 rfl rfl) (by omega) (by omega) (PM.aP hP 2302 rfl rfl (by omega)) ?_
                            refine x_ic T_280_203 ?_
                            refine x_ic2 T_280_205 (fun h205 => ?_) (fun h205 => ?_)
                            · replace h205 : ¬ P 2302 s = 64 := h205
                              refine x_ic T_280_213 ?_
                              refine x_ri T_280_214 ?_
                              refine ⟨?_, rfl⟩
                              first
                                | (rw [if_neg (by omega), if_neg (by omega), if_neg (by omega), if_neg (by omega), if_neg (fun q => q (by assumption)), if_neg (by omega), if_neg (by omega), if_neg (by omega), if_neg (by omega), if_neg (by omega)])
                            · replace h205 : ¬ (¬ P 2302 s = 64) := h205
                              refine x_ic T_280_208 ?_
                              refine x_goto T_280_210 ?_
                              refine x_ri T_280_214 ?_
                              refine ⟨?_, rfl⟩
                              first
                                | (rw [if_neg (by omega), if_neg (by omega), if_neg (by omega), if_neg (by omega), if_neg (fun q => q (by assumption)), if_neg (by omega), if_neg (by omega), if_neg (by omega), if_neg (by omega), if_pos (by omega)])
                          · replace h191 : ¬ ((and32 m (-65)) = 0) := h191
                            refine x_ic T_280_194 ?_
                            refine x_ri T_280_196 ?_
                            refine ⟨?_, rfl⟩
                            first
                              | (rw [if_neg (by omega), if_neg (by omega), if_neg (by omega), if_neg (by omega), if_neg (fun q => q (by assumption)), if_neg (by omega), if_neg (by omega), if_neg (by omega), if_pos (by omega)])
                      · replace h175 : ¬ ((and32 m (-65)) ≤ 3) := h175
                        refine x_ic T_280_178 ?_
                        refine x_ri T_280_180 ?_
                        refine ⟨?_, rfl⟩
                        first
                          | (rw [if_neg (by omega), if_neg (by omega), if_neg (by omega), if_neg (by omega), if_neg (fun q => q (by assumption)), if_neg (by omega), if_neg (by omega), if_pos (by omega)])
                    · replace h152 : ¬ ((and64 p (-512)) = 0) := h152
                      refine x_ll (z := (and64 p (-512))) T_280_155 rfl ?_
                      refine x_lc T_280_157 ?_
                      refine x_lif T_280_160 T_280_161 (fun h161 => ?_) (fun h161 => ?_)
                      · replace h161 : (and64 p (-512)) = 1073741824 := h161
                        refine x_li (z := m) T_280_169 rfl ?_
                        refine x_ic T_280_171 ?_
                        refine x_ib (w := (and32 m (-65))) T_280_173 (fun h => absurd h.1 (by decide)) rfl ?_
                        refine x_ic T_280_174 ?_
                        refine x_ic2 T_280_175 (fun h175 => ?_) (fun h175 => ?_)
                        · replace h175 : (and32 m (-65)) ≤ 3 := h175
                          refine x_li (z := z146) T_280_181 rfl ?_
                          refine x_if T_280_183 (fun h183 => ?_) (fun h183 => ?_)
                          · replace h183 : ¬ (and64 p (-512) = 2147483648) := ite1_z (hz146.symm.trans h183)
                            refine x_lr (z := some 2281) T_280_197 rfl ?_
                            refine x_gR (z := some 2302) T_280_198 F_17_26 (PM.t hP) (PM.r hP 26 2302 rfl) ?_
                            refine x_li (z := s) T_280_201 rfl ?_
                            have b7 : 0 ≤ P 2302 s ∧ P 2302 s ≤ 64 := IV.a hI 2302 0 2 rfl rfl rfl (by omega) (by omega)
                            refine x_alI (z := P 2302 s) T_280_202 (by decide) (PM.ta hP 2302 0 2 rfl rfl) (by omega) (by omega) (PM.aP hP 2302 rfl rfl (by omega)) ?_
                            refine x_ic T_280_203 ?_
                            refine x_ic2 T_280_205 (fun h205 => ?_) (fun h205 => ?_)
                            · replace h205 : ¬ P 2302 s = 64 := h205
                              refine x_ic T_280_213 ?_
                              refine x_ri T_280_214 ?_
                              refine ⟨?_, rfl⟩
                              first
                                | (rw [if_neg (by omega), if_neg (by omega), if_neg (by omega), if_neg (by omega), if_neg (fun q => q (by assumption)), if_neg (by omega), if_neg (by omega), if_neg (by omega), if_neg (by omega), if_neg (by omega)])
                            · replace h205 : ¬ (¬ P 2302 s = 64) := h205
                              refine x_ic T_280_208 ?_
                              refine x_goto T_280_210 ?_
                              refine x_ri T_280_214 ?_
                              refine ⟨?_, rfl⟩
                              first
                                | (rw [if_neg (by omega), if_neg (by omega), if_neg (by omega), if_neg (by omega), if_neg (fun q => q (by assumption)), if_neg (by omega), if_neg (by omega), if_neg (by omega), if_neg (by omega), if_pos (by omega)])
                          · replace h183 : (and64 p (-512) = 2147483648) := ite1_n (fun e => h183 (hz146.trans e))
                            refine x_li (z := m) T_280_186 rfl ?_
                            refine x_ic T_280_188 ?_
                            refine x_ib (w := (and32 m (-65))) T_280_190 (fun h => absurd h.1 (by decide)) rfl ?_
                            refine x_if T_280_191 (fun h191 => ?_) (fun h191 => ?_)
                            · replace h191 : (and32 m (-65)) = 0 := h191
                              refine x_lr (z := some 2281) T_280_197 rfl ?_
                              refine x_gR (z := some 2302) T_280_198 F_17_26 (PM.t hP) (PM.r hP 26 2302 rfl) ?_
                              refine x_li (z := s) T_280_201 rfl ?_
                              have b8 : 0 ≤ P 2302 s ∧ P 2302 s ≤ 64 := IV.a hI 2302 0 2 rfl rfl rfl (by omega) (by omega)
                              refine x_alI (z := P 2302 s) T_280_202 (by decide) (PM.ta hP 2302 0 2 rfl rfl) (by omega) (by omega) (PM.aP hP 2302 rfl rfl (by omega)) ?_
                              refine x_ic T_280_203 ?_
                              refine x_ic2 T_280_205 (fun h205 => ?_) (fun h205 => ?_)
                              · replace h205 : ¬ P 2302 s = 64 := h205
                                refine x_ic T_280_213 ?_
                                refine x_ri T_280_214 ?_
                                refine ⟨?_, rfl⟩
                                first
                                  | (rw [if_neg (by omega), if_neg (by omega), if_neg (by omega), if_neg (by omega), if_neg (fun q => q (by assumption)), if_neg (by omega), if_neg (by omega), if_neg (by omega), if_neg (by omega), if_neg (by omega)])
                              · replace h205 : ¬ (¬ P 2302 s = 64) := h205
                                refine x_ic T_280_208 ?_
                                refine x_goto T_280_210 ?_
                                refine x_ri T_280_214 ?_
                                refine ⟨?_, rfl⟩
                                first
                                  | (rw [if_neg (by omega), if_neg (by omega), if_neg (by omega), if_neg (by omega), if_neg (fun q => q (by assumption)), if_neg (by omega), if_neg (by omega), if_neg (by omega), if_neg (by omega), if_pos (by omega)])
                            · replace h191 : ¬ ((and32 m (-65)) = 0) := h191
                              refine x_ic T_280_194 ?_
                              refine x_ri T_280_196 ?_
                              refine ⟨?_, rfl⟩
                              first
                                | (rw [if_neg (by omega), if_neg (by omega), if_neg (by omega), if_neg (by omega), if_neg (fun q => q (by assumption)), if_neg (by omega), if_neg (by omega), if_neg (by omega), if_pos (by omega)])
                        · replace h175 : ¬ ((and32 m (-65)) ≤ 3) := h175
                          refine x_ic T_280_178 ?_
                          refine x_ri T_280_180 ?_
                          refine ⟨?_, rfl⟩
                          first
                            | (rw [if_neg (by omega), if_neg (by omega), if_neg (by omega), if_neg (by omega), if_neg (fun q => q (by assumption)), if_neg (by omega), if_neg (by omega), if_pos (by omega)])
                      · replace h161 : ¬ ((and64 p (-512)) = 1073741824) := h161
                        refine x_li (z := z146) T_280_164 rfl ?_
                        refine x_if T_280_166 (fun h166 => ?_) (fun h166 => ?_)
                        · replace h166 : ¬ (and64 p (-512) = 2147483648) := ite1_z (hz146.symm.trans h166)
                          refine x_ic T_280_178 ?_
                          refine x_ri T_280_180 ?_
                          refine ⟨?_, rfl⟩
                          first
                            | (rw [if_neg (by omega), if_neg (by omega), if_neg (by omega), if_neg (by omega), if_neg (fun q => q (by assumption)), if_neg (by omega), if_neg (by omega), if_pos (by omega)])
                        · replace h166 : (and64 p (-512) = 2147483648) := ite1_n (fun e => h166 (hz146.trans e))
                          refine x_li (z := m) T_280_169 rfl ?_
                          refine x_ic T_280_171 ?_
                          refine x_ib (w := (and32 m (-65))) T_280_173 (fun h => absurd h.1 (by decide)) rfl ?_
                          refine x_ic T_280_174 ?_
                          refine x_ic2 T_280_175 (fun h175 => ?_) (fun h175 => ?_)
                          · replace h175 : (and32 m (-65)) ≤ 3 := h175
                            refine x_li (z := z146) T_280_181 rfl ?_
                            refine x_if T_280_183 (fun h183 => ?_) (fun h183 => ?_)
                            · replace h183 : ¬ (and64 p (-512) = 2147483648) := ite1_z (hz146.symm.trans h183)
                              refine x_lr (z := some 2281) T_280_197 rfl ?_
                              refine x_gR (z := some 2302) T_280_198 F_17_26 (PM.t hP) (PM.r hP 26 2302 rfl) ?_
                              refine x_li (z := s) T_280_201 rfl ?_
                              have b9 : 0 ≤ P 2302 s ∧ P 2302 s ≤ 64 := IV.a hI 2302 0 2 rfl rfl rfl (by omega) (by omega)
                              refine x_alI (z := P 2302 s) T_280_202 (by decide) (PM.ta hP 2302 0 2 rfl rfl) (by omega) (by omega) (PM.aP hP 2302 rfl rfl (by omega)) ?_
                              refine x_ic T_280_203 ?_
                              refine x_ic2 T_280_205 (fun h205 => ?_) (fun h205 => ?_)
                              · replace h205 : ¬ P 2302 s = 64 := h205
                                refine x_ic T_280_213 ?_
                                refine x_ri T_280_214 ?_
                                refine ⟨?_, rfl⟩
                                first
                                  | (rw [if_neg (by omega), if_neg (by omega), if_neg (by omega), if_neg (by omega), if_neg (fun q => q (by assumption)), if_neg (by omega), if_neg (by omega), if_neg (by omega), if_neg (by omega), if_neg (by omega)])
                              · replace h205 : ¬ (¬ P 2302 s = 64) := h205
                                refine x_ic T_280_208 ?_
                                refine x_goto T_280_210 ?_
                                refine x_ri T_280_214 ?_
                                refine ⟨?_, rfl⟩
                                first
                                  | (rw [if_neg (by omega), if_neg (by omega), if_neg (by omega), if_neg (by omega), if_neg (fun q => q (by assumption)), if_neg (by omega), if_neg (by omega), if_neg (by omega), if_neg (by omega), if_pos (by omega)])
                            · replace h183 : (and64 p (-512) = 2147483648) := ite1_n (fun e => h183 (hz146.trans e))
                              refine x_li (z := m) T_280_186 rfl ?_
                              refine x_ic T_280_188 ?_
                              refine x_ib (w := (and32 m (-65))) T_280_190 (fun h => absurd h.1 (by decide)) rfl ?_
                              refine x_if T_280_191 (fun h191 => ?_) (fun h191 => ?_)
                              · replace h191 : (and32 m (-65)) = 0 := h191
                                refine x_lr (z := some 2281) T_280_197 rfl ?_
                                refine x_gR (z := some 2302) T_280_198 F_17_26 (PM.t hP) (PM.r hP 26 2302 rfl) ?_
                                refine x_li (z := s) T_280_201 rfl ?_
                                have b10 : 0 ≤ P 2302 s ∧ P 2302 s ≤ 64 := IV.a hI 2302 0 2 rfl rfl rfl (by omega) (by omega)
                                refine x_alI (z := P 2302 s) T_280_202 (by decide) (PM.ta hP 2302 0 2 rfl rfl) (by omega) (by omega) (PM.aP hP 2302 rfl rfl (by omega)) ?_
                                refine x_ic T_280_203 ?_
                                refine x_ic2 T_280_205 (fun h205 => ?_) (fun h205 => ?_)
                                · replace h205 : ¬ P 2302 s = 64 := h205
                                  refine x_ic T_280_213 ?_
                                  refine x_ri T_280_214 ?_
                                  refine ⟨?_, rfl⟩
                                  first
                                    | (rw [if_neg (by omega), if_neg (by omega), if_neg (by omega), if_neg (by omega), if_neg (fun q => q (by assumption)), if_neg (by omega), if_neg (by omega), if_neg (by omega), if_neg (by omega), if_neg (by omega)])
                                · replace h205 : ¬ (¬ P 2302 s = 64) := h205
                                  refine x_ic T_280_208 ?_
                                  refine x_goto T_280_210 ?_
                                  refine x_ri T_280_214 ?_
                                  refine ⟨?_, rfl⟩
                                  first
                                    | (rw [if_neg (by omega), if_neg (by omega), if_neg (by omega), if_neg (by omega), if_neg (fun q => q (by assumption)), if_neg (by omega), if_neg (by omega), if_neg (by omega), if_neg (by omega), if_pos (by omega)])
                              · replace h191 : ¬ ((and32 m (-65)) = 0) := h191
                                refine x_ic T_280_194 ?_
                                refine x_ri T_280_196 ?_
                                refine ⟨?_, rfl⟩
                                first
                                  | (rw [if_neg (by omega), if_neg (by omega), if_neg (by omega), if_neg (by omega), if_neg (fun q => q (by assumption)), if_neg (by omega), if_neg (by omega), if_neg (by omega), if_pos (by omega)])
                          · replace h175 : ¬ ((and32 m (-65)) ≤ 3) := h175
                            refine x_ic T_280_178 ?_
                            refine x_ri T_280_180 ?_
                            refine ⟨?_, rfl⟩
                            first
                              | (rw [if_neg (by omega), if_neg (by omega), if_neg (by omega), if_neg (by omega), if_neg (fun q => q (by assumption)), if_neg (by omega), if_neg (by omega), if_pos (by omega)])
                  · refine x_ll (z := (and64 p (-512))) T_280_132 rfl ?_
                    refine x_lc T_280_134 ?_
                    refine x_lif T_280_137 T_280_138 (fun h138 => ?_) (fun h138 => ?_)
                    · replace h138 : ¬ (and64 p (-512)) = 2147483648 := h138
                      refine x_ic T_280_145 ?_
                      exact kJ146 0 (if_neg (by omega)).symm
                    · replace h138 : ¬ (¬ (and64 p (-512)) = 2147483648) := h138
                      refine x_ic T_280_141 ?_
                      refine x_goto T_280_142 ?_
                      exact kJ146 1 (if_pos (by omega)).symm
                · replace h120 : (qMv P s (P 2306 k) (P 2308 k) 2 = 0) := ite0_z (Classical.not_not.mp h120)
                  refine x_ic T_280_123 ?_
                  refine x_ri T_280_124 ?_
                  refine ⟨?_, rfl⟩
                  first
                    | (rw [if_neg (by omega), if_neg (by omega), if_neg (by omega), if_pos (by omega)])
                    | (rw [if_neg (by omega), if_neg (by omega), if_neg (by omega), if_neg (by omega), if_neg (fun q => q (by assumption)), if_neg (by omega), if_pos (by omega)])
              · replace h105 : ¬ (r < 0) := h105
                refine x_ic T_280_108 ?_
                refine x_ri T_280_109 ?_
                refine ⟨?_, rfl⟩
                first
                  | (rw [if_neg (by omega), if_neg (by omega), if_neg (by omega), if_neg (by omega), if_neg (fun q => q (by assumption)), if_pos (by omega)])
            · replace h81 : ¬ (nmOk nm = true) := ite1_z (Classical.not_not.mp h81)
              refine x_ic T_280_84 ?_
              refine x_ri T_280_85 ?_
              refine ⟨?_, rfl⟩
              first
                | (rw [if_neg (by omega), if_neg (by omega), if_neg (by omega), if_neg (by omega), if_pos (by assumption)])
          · replace h60 : ¬ (¬ s = 2) := h60
            refine x_ic T_280_63 ?_
            refine x_ri T_280_64 ?_
            refine ⟨?_, rfl⟩
            first
              | (rw [if_neg (by omega), if_neg (by omega), if_neg (by omega), if_pos (by omega)])
              | (rw [if_neg (by omega), if_neg (by omega), if_neg (by omega), if_neg (by omega), if_neg (fun q => q (by assumption)), if_neg (by omega), if_pos (by omega)])
        · replace h53 : ¬ (qMode P s (P 2306 k) < 0) := ite1_z (Classical.not_not.mp h53)
          refine x_ic T_280_56 ?_
          refine x_ri T_280_57 ?_
          refine ⟨?_, rfl⟩
          first
            | (rw [if_neg (by omega), if_neg (by omega), if_pos (by omega)])
      · replace h41 : ¬ (P 2310 k = 0) := h41
        refine x_ic T_280_44 ?_
        refine x_ri T_280_45 ?_
        refine ⟨?_, rfl⟩
        first
          | (rw [if_neg (by omega), if_pos (by omega)])
    · replace h29 : ¬ (P 2309 k < 0) := h29
      refine x_ic T_280_32 ?_
      refine x_ri T_280_34 ?_
      refine ⟨?_, rfl⟩
      first
        | (rw [if_pos (by omega)])
theorem frFl_ok {s : Int} : ∀ (m : Nat) (f : Int), f + m = 64 → 1 ≤ f → (1 ≤ frFl P s m f ∧ frFl P s m f ≤ 64 ∧ (frFl P s m f < 64 → P 2289 (64 * s + frFl P s m f) = 0) ∧ ∀ i, f ≤ i → i < frFl P s m f → ¬ P 2289 (64 * s + i) = 0)
  | 0, f, h1, h2 => by
    refine ⟨h2, by show f ≤ 64; omega, fun q => ?_, fun i q1 q2 => ?_⟩
    · have q : f < 64 := q
      omega
    · have q2 : i < f := q2
      omega
  | m + 1, f, h1, h2 => by
    by_cases q : P 2289 (64 * s + f) = 0
    · rw [show frFl P s (m + 1) f = f from if_pos q]
      exact ⟨h2, by omega, fun _ => q, fun i q1 q2 => by omega⟩
    · rw [show frFl P s (m + 1) f = frFl P s m (f + 1) from if_neg q]
      obtain ⟨a1, a2, a3, a4⟩ := frFl_ok (s := s) m (f + 1) (by omega) (by omega)
      refine ⟨a1, a2, a3, fun i q1 q2 => ?_⟩
      by_cases e : i = f
      · rw [e]; exact q
      · exact a4 i (by omega) q2
theorem qNew_ok (h : MI T U P) (hs : 0 ≤ s ∧ s < 2) (hroot : P 2289 (64 * s) = 1) (hf : ¬ P 2302 s = 64) : 1 ≤ qNew P s ∧ qNew P s < 64 ∧ P 2289 (64 * s + qNew P s) = 0 := by
  obtain ⟨a1, a2, a3, a4⟩ := frFl_ok (P := P) (s := s) 63 1 (by omega) (by omega)
  have a1 : 1 ≤ qNew P s := a1
  have a2 : qNew P s ≤ 64 := a2
  by_cases q : qNew P s < 64
  · exact ⟨a1, q, a3 q⟩
  · exfalso
    have e64 : frFl P s 63 1 = 64 := by
      have : qNew P s = 64 := by omega
      exact this
    rw [e64] at a4
    have h1 := (h.2 s hs.1 hs.2).2
    have h2 : sm (P 2289) (64 * s) 64 = sm (fun _ => 1) (64 * s) 64 := sm_congr 64 (64 * s) (fun i h3 h4 => by
      have b : 0 ≤ P 2289 i ∧ P 2289 i ≤ 1 := IV.a h.1 2289 2 128 rfl rfl rfl (by omega) (by omega)
      by_cases e : i = 64 * s
      · rw [e]; exact hroot
      · have := a4 (i - 64 * s) (by omega) (by omega)
        rw [show 64 * s + (i - 64 * s) = i by omega] at this
        omega)
    rw [sm_const] at h2
    omega
theorem m_new_loop {v p m k e into u : Int} {Q : Option AV → hM → Prop} (hP : PM σ0 P S σ) (hs : 0 ≤ s ∧ s < 2) (hlt : qNew P s < 64) (hQ : WP fb (d + 1) 279 108 [some (vR (some 2281)), some (vI s), some (vI c), some (vL v), none, some (vL p), none, some (vI m), some (vI k), some (vI e), some (vI into), some (vI u), some (vI (qNew P s)), none, none, none, none] [] σ Q) : ∀ (j : Nat) (f : Int), f + j = 64 → 1 ≤ f → frFl P s j f = qNew P s → WP fb (d + 1) 279 88 [some (vR (some 2281)), some (vI s), some (vI c), some (vL v), none, some (vL p), none, some (vI m), some (vI k), some (vI e), some (vI into), some (vI u), some (vI f), none, none, none, none] [] σ Q := by
  intro j
  induction j with
  | zero =>
    intro f h1 h2 h3
    have h3 : f = qNew P s := h3
    omega
  | succ j ih =>
    intro f h1 h2 h3
    by_cases q : P 2289 (64 * s + f) = 0
    · have h3 : qNew P s = f := by rw [← h3]; exact if_pos q
      rw [h3] at hQ
      refine x_lr (z := some 2281) T_279_88 rfl ?_
      refine x_gR (z := some 2289) T_279_89 F_17_13 (PM.t hP) (PM.r hP 13 2289 rfl) ?_
      refine x_li (z := s) T_279_92 rfl ?_
      refine x_li (z := f) T_279_93 rfl ?_
      refine x_cs2 T_279_95 mN_247 mL_247 (Nat.le_of_ble_eq_true rfl) mK_247 (Nat.le_of_ble_eq_true rfl) (m_place (by omega)) ?_
      rintro _ σ ⟨rfl, rfl⟩
      refine cI ?_
      refine x_alI (z := P 2289 (64 * s + f)) T_279_98 (by decide) (PM.ta hP 2289 2 128 rfl rfl) (by omega) (by omega) (PM.aP hP 2289 rfl rfl (by omega)) ?_
      refine x_if T_279_99 (fun _ => ?_) (fun h => absurd (show P 2289 (64 * s + f) = 0 by exact q) h)
      exact hQ
    · have h4 : frFl P s j (f + 1) = qNew P s := by rw [← h3]; exact (if_neg q).symm
      refine x_lr (z := some 2281) T_279_88 rfl ?_
      refine x_gR (z := some 2289) T_279_89 F_17_13 (PM.t hP) (PM.r hP 13 2289 rfl) ?_
      refine x_li (z := s) T_279_92 rfl ?_
      refine x_li (z := f) T_279_93 rfl ?_
      refine x_cs2 T_279_95 mN_247 mL_247 (Nat.le_of_ble_eq_true rfl) mK_247 (Nat.le_of_ble_eq_true rfl) (m_place (by omega)) ?_
      rintro _ σ ⟨rfl, rfl⟩
      refine cI ?_
      refine x_alI (z := P 2289 (64 * s + f)) T_279_98 (by decide) (PM.ta hP 2289 2 128 rfl rfl) (by omega) (by omega) (PM.aP hP 2289 rfl rfl (by omega)) ?_
      refine x_if T_279_99 (fun h => absurd (show P 2289 (64 * s + f) = 0 from h) (by exact q)) (fun _ => ?_)
      refine x_inc (w := (f + 1)) (ls1 := [some (vR (some 2281)), some (vI s), some (vI c), some (vL v), none, some (vL p), none, some (vI m), some (vI k), some (vI e), some (vI into), some (vI u), some (vI (f + 1)), none, none, none, none]) T_279_102 rfl (w32_id (by omega) (by omega)) rfl ?_
      refine x_goto T_279_105 ?_
      exact ih (f + 1) (by omega) (by omega) h4
theorem gName_f {l : List Int} {g : Nat} {k : Int} (h1 : g ≠ 2298) (h2 : g ≠ 2299) : gName P s n l g k = P g k := by
  unfold gName
  rw [rU_f h2, rW_f h1]
theorem m_create_tail {v p m k e into u nn : Int} {o y : Int} {st : List (Int × Int)} (hP : PM σ0 P S1 σ) (hR : RS T U S S1 z ((o, y) :: st)) (hI : IV false T U P) (hT : T ≤ 2147483000) (hs : 0 ≤ s ∧ s < 2) (hn : 1 ≤ nn ∧ nn < 64) (hi : 0 ≤ into ∧ into < 64) (hne : ¬ into = nn) (hk : 0 ≤ k ∧ k < 288) (hu : 0 ≤ u ∧ u ≤ 3) (hy : 0 ≤ o ∧ 0 ≤ y ∧ y ≤ 12 ∧ o + y ≤ 512) (ht : P 2302 s ≤ 63) (h0 : S 2281 7 = 0) : WP fb (d + 6) 279 108 [some (vR (some 2281)), some (vI s), some (vI c), some (vL v), none, some (vL p), none, some (vI m), some (vI k), some (vI e), some (vI into), some (vI u), some (vI nn), none, none, none, none] [] σ (SV T U σ0 S (gCre P s k p m into nn u (seg (S 2285) o y.toNat)) 0 115 (qidL (gCre P s k p m into nn u (seg (S 2285) o y.toNat)) s nn ++ leb 4 0)) := by
  have hl : ∀ Q : qR, byt (qidL Q s nn ++ leb 4 0) ∧ ((qidL Q s nn ++ leb 4 0).length : Int) ≤ 400 := fun Q => ⟨byt_app (byt_qidL _ _ _) (byt_leb 4 _), by rw [List.length_append, leb_len]; have := qidL_len Q s nn; omega⟩
  have q0 := hR.st0
  have hJ := hR.iv
  refine x_li (z := s) T_279_108 rfl ?_
  refine x_li (z := nn) T_279_109 rfl ?_
  refine x_cs2 T_279_111 mN_247 mL_247 (Nat.le_of_ble_eq_true rfl) mK_247 (Nat.le_of_ble_eq_true rfl) (m_place (by omega)) ?_
  rintro _ σ ⟨rfl, rfl⟩
  refine cI ?_
  refine x_si (ls1 := [some (vR (some 2281)), some (vI s), some (vI c), some (vL v), none, some (vL p), none, some (vI m), some (vI k), some (vI e), some (vI into), some (vI u), some (vI nn), some (vI (64 * s + nn)), none, none, none]) T_279_114 rfl ?_
  refine x_ll (z := p) T_279_116 rfl ?_
  refine x_l2i (w := w32 p) T_279_118 rfl ?_
  refine x_ic T_279_119 ?_
  refine x_ib (w := (and32 (w32 p) 511)) T_279_122 (fun h => absurd h.1 (by decide)) rfl ?_
  refine x_si (ls1 := [some (vR (some 2281)), some (vI s), some (vI c), some (vL v), none, some (vL p), none, some (vI m), some (vI k), some (vI e), some (vI into), some (vI u), some (vI nn), some (vI (64 * s + nn)), some (vI (and32 (w32 p) 511)), none, none]) T_279_123 rfl ?_
  refine x_lr (z := some 2281) T_279_125 rfl ?_
  refine x_li (z := s) T_279_126 rfl ?_
  refine x_li (z := into) T_279_127 rfl ?_
  refine x_cv3 T_279_129 mN_249 mL_249 (Nat.le_of_ble_eq_true rfl) mO_249 (PM.t hP) (Nat.le_of_ble_eq_true rfl) (m_modeOf hP (by omega)) ?_
  rintro _ σ ⟨rfl, rfl⟩
  refine cI ?_
  refine x_ic T_279_132 ?_
  refine x_ib (w := (and32 (qMode P s into) 511)) T_279_135 (fun h => absurd h.1 (by decide)) rfl ?_
  refine x_si (ls1 := [some (vR (some 2281)), some (vI s), some (vI c), some (vL v), none, some (vL p), none, some (vI m), some (vI k), some (vI e), some (vI into), some (vI u), some (vI nn), some (vI (64 * s + nn)), some (vI (and32 (w32 p) 511)), some (vI (and32 (qMode P s into) 511)), none]) T_279_136 rfl ?_
  refine x_cut (C := ¬ and64 p 2147483648 = 0) (J := 154) (ls1 := [some (vR (some 2281)), some (vI s), some (vI c), some (vL v), none, some (vL p), none, some (vI m), some (vI k), some (vI e), some (vI into), some (vI u), some (vI nn), some (vI (64 * s + nn)), some (vI (and32 (w32 p) 511)), some (vI (and32 (qMode P s into) 511)), none]) (sk := fun z => vI z :: []) (fun z154 hz154 => ?_) (fun kJ154 => ?_)
  · refine x_si (ls1 := [some (vR (some 2281)), some (vI s), some (vI c), some (vL v), none, some (vL p), none, some (vI m), some (vI k), some (vI e), some (vI into), some (vI u), some (vI nn), some (vI (64 * s + nn)), some (vI (and32 (w32 p) 511)), some (vI (and32 (qMode P s into) 511)), some (vI z154)]) T_279_154 rfl ?_
    refine x_lr (z := some 2281) T_279_156 rfl ?_
    refine x_gR (z := some 2289) T_279_157 F_17_13 (PM.t hP) (PM.r hP 13 2289 rfl) ?_
    refine x_li (z := (64 * s + nn)) T_279_160 rfl ?_
    refine x_ic T_279_162 ?_
    refine y_aZP hP T_279_163 rfl 2289 128 rfl rfl rfl (by omega) (by omega) (fun σ hP => ?_)
    refine x_lr (z := some 2281) T_279_164 rfl ?_
    refine x_gR (z := some 2290) T_279_165 F_17_14 (PM.t hP) (PM.r hP 14 2290 rfl) ?_
    refine x_li (z := (64 * s + nn)) T_279_168 rfl ?_
    refine x_li (z := into) T_279_170 rfl ?_
    refine y_aIP hP T_279_172 2290 128 rfl rfl rfl (by omega) (by omega) (fun σ hP => ?_)
    refine x_lr (z := some 2281) T_279_173 rfl ?_
    refine x_gR (z := some 2303) T_279_174 F_17_27 (PM.t hP) (PM.r hP 27 2303 rfl) ?_
    refine x_li (z := s) T_279_177 rfl ?_
    refine x_dup2 T_279_178 ?_
    have b1 : 0 ≤ P 2303 s ∧ P 2303 s ≤ T := IV.a hI 2303 0 2 rfl rfl rfl (by omega) (by omega)
    refine x_alI (z := P 2303 s) T_279_179 (by decide) (PM.ta hP 2303 0 2 rfl rfl) (by omega) (by omega) (Eq.trans (PM.aP hP 2303 rfl rfl (by omega)) (Eq.trans (rU_f (Nat.ne_of_beq_eq_false rfl)) (rU_f (Nat.ne_of_beq_eq_false rfl)))) ?_
    refine x_ic T_279_180 ?_
    refine x_ib (w := (P 2303 s + 1)) T_279_181 (fun h => absurd h.1 (by decide)) (w32_id (by omega) (by omega)) ?_
    refine y_aIP hP T_279_182 2303 2 rfl rfl rfl (by omega) (by omega) (fun σ hP => ?_)
    refine x_lr (z := some 2281) T_279_183 rfl ?_
    refine x_gR (z := some 2291) T_279_184 F_17_15 (PM.t hP) (PM.r hP 15 2291 rfl) ?_
    refine x_li (z := (64 * s + nn)) T_279_187 rfl ?_
    refine x_lr (z := some 2281) T_279_189 rfl ?_
    refine x_gR (z := some 2303) T_279_190 F_17_27 (PM.t hP) (PM.r hP 27 2303 rfl) ?_
    refine x_li (z := s) T_279_193 rfl ?_
    refine x_alI (z := (P 2303 s + 1)) T_279_194 (by decide) (PM.ta hP 2303 0 2 rfl rfl) (by omega) (by omega) (Eq.trans (PM.aP hP 2303 rfl rfl (by omega)) rU_s) ?_
    refine y_aIP hP T_279_195 2291 128 rfl rfl rfl (by omega) (by omega) (fun σ hP => ?_)
    refine x_lr (z := some 2281) T_279_196 rfl ?_
    refine x_gR (z := some 2292) T_279_197 F_17_16 (PM.t hP) (PM.r hP 16 2292 rfl) ?_
    refine x_li (z := (64 * s + nn)) T_279_200 rfl ?_
    refine x_ic T_279_202 ?_
    refine y_aIP hP T_279_203 2292 128 rfl rfl rfl (by omega) (by omega) (fun σ hP => ?_)
    refine x_lr (z := some 2281) T_279_204 rfl ?_
    refine x_gR (z := some 2293) T_279_205 F_17_17 (PM.t hP) (PM.r hP 17 2293 rfl) ?_
    refine x_li (z := (64 * s + nn)) T_279_208 rfl ?_
    refine x_ll (z := p) T_279_210 rfl ?_
    refine x_lc T_279_212 ?_
    refine x_lb (w := (and64 p (-512))) T_279_215 (fun h => absurd h.1 (by decide)) rfl ?_
    refine x_l2i (w := w32 (and64 p (-512))) T_279_216 rfl ?_
    refine x_li (z := (and32 (w32 p) 511)) T_279_217 rfl ?_
    refine x_li (z := z154) T_279_219 rfl ?_
    refine x_if T_279_221 (fun h221 => ?_) (fun h221 => ?_)
    · replace h221 : ¬ (¬ and64 p 2147483648 = 0) := ite1_z (hz154.symm.trans h221)
      refine x_li (z := (and32 (qMode P s into) 511)) T_279_229 rfl ?_
      refine x_ic T_279_231 ?_
      refine x_ib (w := (or32 (and32 (qMode P s into) 511) 73)) T_279_233 (fun h => absurd h.1 (by decide)) rfl ?_
      refine x_ib (w := (and32 (and32 (w32 p) 511) (or32 (and32 (qMode P s into) 511) 73))) T_279_234 (fun h => absurd h.1 (by decide)) rfl ?_
      refine x_ib (w := (or32 (w32 (and64 p (-512))) (and32 (and32 (w32 p) 511) (or32 (and32 (qMode P s into) 511) 73)))) T_279_235 (fun h => absurd h.1 (by decide)) rfl ?_
      refine y_aIP hP T_279_236 2293 128 rfl rfl rfl (by omega) (by omega) (fun σ hP => ?_)
      refine x_lr (z := some 2281) T_279_237 rfl ?_
      refine x_gR (z := some 2294) T_279_238 F_17_18 (PM.t hP) (PM.r hP 18 2294 rfl) ?_
      refine x_li (z := (64 * s + nn)) T_279_241 rfl ?_
      refine x_li (z := u) T_279_243 rfl ?_
      refine y_aIP hP T_279_245 2294 128 rfl rfl rfl (by omega) (by omega) (fun σ hP => ?_)
      refine x_lr (z := some 2281) T_279_246 rfl ?_
      refine x_gR (z := some 2295) T_279_247 F_17_19 (PM.t hP) (PM.r hP 19 2295 rfl) ?_
      refine x_li (z := (64 * s + nn)) T_279_250 rfl ?_
      refine x_lr (z := some 2281) T_279_252 rfl ?_
      refine x_li (z := s) T_279_253 rfl ?_
      refine x_li (z := into) T_279_254 rfl ?_
      refine x_cv3 T_279_256 mN_251 mL_251 (Nat.le_of_ble_eq_true rfl) mO_251 (PM.t hP) (Nat.le_of_ble_eq_true rfl) (CL_val (k := P 2295 (64 * s + into)) (m_gidOf hP (by omega)) (by unfold qGid; rw [if_pos (by omega), rU_f (by decide), rU_f (by decide), rU_f (by decide), rU_f (by decide), rU_f (by decide), rU_f (by decide), rU_f (by decide)])) ?_
      rintro _ σ ⟨rfl, rfl⟩
      refine cI ?_
      refine y_aIP hP T_279_259 2295 128 rfl rfl rfl (by omega) (by omega) (fun σ hP => ?_)
      refine x_lr (z := some 2281) T_279_260 rfl ?_
      refine x_gR (z := some 2296) T_279_261 F_17_20 (PM.t hP) (PM.r hP 20 2296 rfl) ?_
      refine x_li (z := (64 * s + nn)) T_279_264 rfl ?_
      refine x_li (z := u) T_279_266 rfl ?_
      refine y_aIP hP T_279_268 2296 128 rfl rfl rfl (by omega) (by omega) (fun σ hP => ?_)
      refine x_lr (z := some 2281) T_279_269 rfl ?_
      refine x_gR (z := some 2297) T_279_270 F_17_21 (PM.t hP) (PM.r hP 21 2297 rfl) ?_
      refine x_li (z := (64 * s + nn)) T_279_273 rfl ?_
      refine x_ic T_279_275 ?_
      refine y_aIP hP T_279_276 2297 128 rfl rfl rfl (by omega) (by omega) (fun σ hP => ?_)
      refine x_lr (z := some 2281) T_279_277 rfl ?_
      refine x_li (z := s) T_279_278 rfl ?_
      refine x_li (z := nn) T_279_279 rfl ?_
      refine x_lr (z := some 2281) T_279_281 rfl ?_
      refine x_gR (z := some 2287) T_279_282 F_17_10 (PM.t hP) (PM.r hP 10 2287 rfl) ?_
      refine x_ic T_279_285 ?_
      refine x_alI (z := o) T_279_286 (by decide) (PM.ta hP 2287 0 8 rfl rfl) (by omega) (by omega) (Eq.trans (PM.aS hP 2287 rfl rfl (by omega)) q0.1) ?_
      refine x_lr (z := some 2281) T_279_287 rfl ?_
      refine x_gR (z := some 2288) T_279_288 F_17_11 (PM.t hP) (PM.r hP 11 2288 rfl) ?_
      refine x_ic T_279_291 ?_
      refine x_alI (z := y) T_279_292 (by decide) (PM.ta hP 2288 0 8 rfl rfl) (by omega) (by omega) (Eq.trans (PM.aS hP 2288 rfl rfl (by omega)) q0.2) ?_
      refine x_cv5 T_279_293 mN_284 mL_284 (Nat.le_of_ble_eq_true rfl) mO_284 (PM.t hP) (Nat.le_of_ble_eq_true rfl) (m_setName hP hJ (by omega) (by omega) (by omega) (by omega)) ?_
      rintro _ σ ⟨rfl, hP⟩
      rw [hR.askf] at hP
      refine cV ?_
      refine x_lr (z := some 2281) T_279_296 rfl ?_
      refine x_gR (z := some 2302) T_279_297 F_17_26 (PM.t hP) (PM.r hP 26 2302 rfl) ?_
      refine x_li (z := s) T_279_300 rfl ?_
      refine x_dup2 T_279_301 ?_
      have b2 : 0 ≤ P 2302 s ∧ P 2302 s ≤ 64 := IV.a hI 2302 0 2 rfl rfl rfl (by omega) (by omega)
      refine x_alI (z := P 2302 s) T_279_302 (by decide) (PM.ta hP 2302 0 2 rfl rfl) (by omega) (by omega) (Eq.trans (PM.aP hP 2302 rfl rfl (by omega)) (Eq.trans (gName_f (Nat.ne_of_beq_eq_false rfl) (Nat.ne_of_beq_eq_false rfl)) (Eq.trans (rU_f (Nat.ne_of_beq_eq_false rfl)) (Eq.trans (rU_f (Nat.ne_of_beq_eq_false rfl)) (Eq.trans (rU_f (Nat.ne_of_beq_eq_false rfl)) (Eq.trans (rU_f (Nat.ne_of_beq_eq_false rfl)) (Eq.trans (rU_f (Nat.ne_of_beq_eq_false rfl)) (Eq.trans (rU_f (Nat.ne_of_beq_eq_false rfl)) (Eq.trans (rU_f (Nat.ne_of_beq_eq_false rfl)) (Eq.trans (rU_f (Nat.ne_of_beq_eq_false rfl)) (Eq.trans (rU_f (Nat.ne_of_beq_eq_false rfl)) (rU_f (Nat.ne_of_beq_eq_false rfl))))))))))))) ?_
      refine x_ic T_279_303 ?_
      refine x_ib (w := (P 2302 s + 1)) T_279_304 (fun h => absurd h.1 (by decide)) (w32_id (by omega) (by omega)) ?_
      refine y_aIP hP T_279_305 2302 2 rfl rfl rfl (by omega) (by omega) (fun σ hP => ?_)
      refine x_lr (z := some 2281) T_279_306 rfl ?_
      refine x_li (z := s) T_279_307 rfl ?_
      refine x_li (z := into) T_279_308 rfl ?_
      refine x_li (z := u) T_279_310 rfl ?_
      refine x_cv4 T_279_312 mN_255 mL_255 (Nat.le_of_ble_eq_true rfl) mO_255 (PM.t hP) (Nat.le_of_ble_eq_true rfl) (m_grow hP (Eq.trans (rU_f (Nat.ne_of_beq_eq_false rfl)) (Eq.trans (gName_f (Nat.ne_of_beq_eq_false rfl) (Nat.ne_of_beq_eq_false rfl)) (Eq.trans (rU_f (Nat.ne_of_beq_eq_false rfl)) (Eq.trans (rU_f (Nat.ne_of_beq_eq_false rfl)) (Eq.trans (rU_f (Nat.ne_of_beq_eq_false rfl)) (Eq.trans (rU_f (Nat.ne_of_beq_eq_false rfl)) (Eq.trans (rU_f (Nat.ne_of_beq_eq_false rfl)) (Eq.trans (rU_k (by omega)) (Eq.trans (rU_f (Nat.ne_of_beq_eq_false rfl)) (Eq.trans (rU_f (Nat.ne_of_beq_eq_false rfl)) (Eq.trans (rU_f (Nat.ne_of_beq_eq_false rfl)) (rU_f (Nat.ne_of_beq_eq_false rfl))))))))))))) (by have b : 0 ≤ (P 2292 (64 * s + into)) ∧ (P 2292 (64 * s + into)) ≤ T := IV.a hI 2292 0 128 rfl rfl rfl (by omega) (by omega); omega) (by omega)) ?_
      rintro _ σ ⟨rfl, hP⟩
      refine cV ?_
      refine x_lr (z := some 2281) T_279_315 rfl ?_
      refine x_gR (z := some 2306) T_279_316 F_17_30 (PM.t hP) (PM.r hP 30 2306 rfl) ?_
      refine x_li (z := k) T_279_319 rfl ?_
      refine x_li (z := nn) T_279_321 rfl ?_
      refine y_aIP hP T_279_323 2306 288 rfl rfl rfl (by omega) (by omega) (fun σ hP => ?_)
      refine x_lr (z := some 2281) T_279_324 rfl ?_
      refine x_gR (z := some 2307) T_279_325 F_17_31 (PM.t hP) (PM.r hP 31 2307 rfl) ?_
      refine x_li (z := k) T_279_328 rfl ?_
      refine x_lr (z := some 2281) T_279_330 rfl ?_
      refine x_gR (z := some 2291) T_279_331 F_17_15 (PM.t hP) (PM.r hP 15 2291 rfl) ?_
      refine x_li (z := (64 * s + nn)) T_279_334 rfl ?_
      refine x_alI (z := (P 2303 s + 1)) T_279_336 (by decide) (PM.ta hP 2291 0 128 rfl rfl) (by omega) (by omega) (Eq.trans (PM.aP hP 2291 rfl rfl (by omega)) (Eq.trans (rU_f (Nat.ne_of_beq_eq_false rfl)) (Eq.trans (gGrow_f (Nat.ne_of_beq_eq_false rfl) (Nat.ne_of_beq_eq_false rfl)) (Eq.trans (rU_f (Nat.ne_of_beq_eq_false rfl)) (Eq.trans (gName_f (Nat.ne_of_beq_eq_false rfl) (Nat.ne_of_beq_eq_false rfl)) (Eq.trans (rU_f (Nat.ne_of_beq_eq_false rfl)) (Eq.trans (rU_f (Nat.ne_of_beq_eq_false rfl)) (Eq.trans (rU_f (Nat.ne_of_beq_eq_false rfl)) (Eq.trans (rU_f (Nat.ne_of_beq_eq_false rfl)) (Eq.trans (rU_f (Nat.ne_of_beq_eq_false rfl)) (Eq.trans (rU_f (Nat.ne_of_beq_eq_false rfl)) rU_s))))))))))) ?_
      refine y_aIP hP T_279_337 2307 288 rfl rfl rfl (by omega) (by omega) (fun σ hP => ?_)
      refine x_lr (z := some 2281) T_279_338 rfl ?_
      refine x_li (z := k) T_279_339 rfl ?_
      refine x_li (z := m) T_279_341 rfl ?_
      refine x_cv3 T_279_343 mN_277 mL_277 (Nat.le_of_ble_eq_true rfl) mO_277 (PM.t hP) (Nat.le_of_ble_eq_true rfl) (m_open hP (by omega)) ?_
      rintro _ σ ⟨rfl, hP⟩
      refine cV ?_
      refine x_lr (z := some 2281) T_279_346 rfl ?_
      refine x_ic T_279_347 ?_
      refine x_cv2 T_279_349 mN_236 mL_236 (Nat.le_of_ble_eq_true rfl) mO_236 (PM.t hP) (Nat.le_of_ble_eq_true rfl) (m_reply hP) ?_
      rintro _ σ ⟨rfl, hP⟩
      refine cV ?_
      refine x_lr (z := some 2281) T_279_352 rfl ?_
      refine x_li (z := s) T_279_353 rfl ?_
      refine x_li (z := nn) T_279_354 rfl ?_
      refine x_cv3 T_279_356 mN_264 mL_264 (Nat.le_of_ble_eq_true rfl) mO_264 (PM.t hP) (Nat.le_of_ble_eq_true rfl) (m_putQid hP (by omega) rpl_z (by omega)) ?_
      rintro _ σ ⟨rfl, hP⟩
      refine cV ?_
      refine x_lr (z := some 2281) T_279_359 rfl ?_
      refine x_ic T_279_360 ?_
      refine x_lc T_279_361 ?_
      refine x_cv3 T_279_362 mN_237 mL_237 (Nat.le_of_ble_eq_true rfl) mO_237 (PM.t hP) (Nat.le_of_ble_eq_true rfl) (m_put 4 rfl hP (by decide) (rA_zn (qidL_len _ _ _) rpl_z) (by omega) (by omega)) ?_
      rintro _ σ ⟨rfl, hP⟩
      refine cV ?_
      refine x_rv T_279_365 ?_
      rw [rA_rA] at hP
      unfold gCre creM
      first
        | (rw [if_pos h221]; exact SV_ok hP hR h0 (hl _).1 (hl _).2)
        | (rw [if_neg h221]; exact SV_ok hP hR h0 (hl _).1 (hl _).2)
    · replace h221 : (¬ and64 p 2147483648 = 0) := ite1_n (fun e => h221 (hz154.trans e))
      refine x_li (z := (and32 (qMode P s into) 511)) T_279_224 rfl ?_
      refine x_goto T_279_226 ?_
      refine x_ib (w := (and32 (and32 (w32 p) 511) (and32 (qMode P s into) 511))) T_279_234 (fun h => absurd h.1 (by decide)) rfl ?_
      refine x_ib (w := (or32 (w32 (and64 p (-512))) (and32 (and32 (w32 p) 511) (and32 (qMode P s into) 511)))) T_279_235 (fun h => absurd h.1 (by decide)) rfl ?_
      refine y_aIP hP T_279_236 2293 128 rfl rfl rfl (by omega) (by omega) (fun σ hP => ?_)
      refine x_lr (z := some 2281) T_279_237 rfl ?_
      refine x_gR (z := some 2294) T_279_238 F_17_18 (PM.t hP) (PM.r hP 18 2294 rfl) ?_
      refine x_li (z := (64 * s + nn)) T_279_241 rfl ?_
      refine x_li (z := u) T_279_243 rfl ?_
      refine y_aIP hP T_279_245 2294 128 rfl rfl rfl (by omega) (by omega) (fun σ hP => ?_)
      refine x_lr (z := some 2281) T_279_246 rfl ?_
      refine x_gR (z := some 2295) T_279_247 F_17_19 (PM.t hP) (PM.r hP 19 2295 rfl) ?_
      refine x_li (z := (64 * s + nn)) T_279_250 rfl ?_
      refine x_lr (z := some 2281) T_279_252 rfl ?_
      refine x_li (z := s) T_279_253 rfl ?_
      refine x_li (z := into) T_279_254 rfl ?_
      refine x_cv3 T_279_256 mN_251 mL_251 (Nat.le_of_ble_eq_true rfl) mO_251 (PM.t hP) (Nat.le_of_ble_eq_true rfl) (CL_val (k := P 2295 (64 * s + into)) (m_gidOf hP (by omega)) (by unfold qGid; rw [if_pos (by omega), rU_f (by decide), rU_f (by decide), rU_f (by decide), rU_f (by decide), rU_f (by decide), rU_f (by decide), rU_f (by decide)])) ?_
      rintro _ σ ⟨rfl, rfl⟩
      refine cI ?_
      refine y_aIP hP T_279_259 2295 128 rfl rfl rfl (by omega) (by omega) (fun σ hP => ?_)
      refine x_lr (z := some 2281) T_279_260 rfl ?_
      refine x_gR (z := some 2296) T_279_261 F_17_20 (PM.t hP) (PM.r hP 20 2296 rfl) ?_
      refine x_li (z := (64 * s + nn)) T_279_264 rfl ?_
      refine x_li (z := u) T_279_266 rfl ?_
      refine y_aIP hP T_279_268 2296 128 rfl rfl rfl (by omega) (by omega) (fun σ hP => ?_)
      refine x_lr (z := some 2281) T_279_269 rfl ?_
      refine x_gR (z := some 2297) T_279_270 F_17_21 (PM.t hP) (PM.r hP 21 2297 rfl) ?_
      refine x_li (z := (64 * s + nn)) T_279_273 rfl ?_
      refine x_ic T_279_275 ?_
      refine y_aIP hP T_279_276 2297 128 rfl rfl rfl (by omega) (by omega) (fun σ hP => ?_)
      refine x_lr (z := some 2281) T_279_277 rfl ?_
      refine x_li (z := s) T_279_278 rfl ?_
      refine x_li (z := nn) T_279_279 rfl ?_
      refine x_lr (z := some 2281) T_279_281 rfl ?_
      refine x_gR (z := some 2287) T_279_282 F_17_10 (PM.t hP) (PM.r hP 10 2287 rfl) ?_
      refine x_ic T_279_285 ?_
      refine x_alI (z := o) T_279_286 (by decide) (PM.ta hP 2287 0 8 rfl rfl) (by omega) (by omega) (Eq.trans (PM.aS hP 2287 rfl rfl (by omega)) q0.1) ?_
      refine x_lr (z := some 2281) T_279_287 rfl ?_
      refine x_gR (z := some 2288) T_279_288 F_17_11 (PM.t hP) (PM.r hP 11 2288 rfl) ?_
      refine x_ic T_279_291 ?_
      refine x_alI (z := y) T_279_292 (by decide) (PM.ta hP 2288 0 8 rfl rfl) (by omega) (by omega) (Eq.trans (PM.aS hP 2288 rfl rfl (by omega)) q0.2) ?_
      refine x_cv5 T_279_293 mN_284 mL_284 (Nat.le_of_ble_eq_true rfl) mO_284 (PM.t hP) (Nat.le_of_ble_eq_true rfl) (m_setName hP hJ (by omega) (by omega) (by omega) (by omega)) ?_
      rintro _ σ ⟨rfl, hP⟩
      rw [hR.askf] at hP
      refine cV ?_
      refine x_lr (z := some 2281) T_279_296 rfl ?_
      refine x_gR (z := some 2302) T_279_297 F_17_26 (PM.t hP) (PM.r hP 26 2302 rfl) ?_
      refine x_li (z := s) T_279_300 rfl ?_
      refine x_dup2 T_279_301 ?_
      have b3 : 0 ≤ P 2302 s ∧ P 2302 s ≤ 64 := IV.a hI 2302 0 2 rfl rfl rfl (by omega) (by omega)
      refine x_alI (z := P 2302 s) T_279_302 (by decide) (PM.ta hP 2302 0 2 rfl rfl) (by omega) (by omega) (Eq.trans (PM.aP hP 2302 rfl rfl (by omega)) (Eq.trans (gName_f (Nat.ne_of_beq_eq_false rfl) (Nat.ne_of_beq_eq_false rfl)) (Eq.trans (rU_f (Nat.ne_of_beq_eq_false rfl)) (Eq.trans (rU_f (Nat.ne_of_beq_eq_false rfl)) (Eq.trans (rU_f (Nat.ne_of_beq_eq_false rfl)) (Eq.trans (rU_f (Nat.ne_of_beq_eq_false rfl)) (Eq.trans (rU_f (Nat.ne_of_beq_eq_false rfl)) (Eq.trans (rU_f (Nat.ne_of_beq_eq_false rfl)) (Eq.trans (rU_f (Nat.ne_of_beq_eq_false rfl)) (Eq.trans (rU_f (Nat.ne_of_beq_eq_false rfl)) (Eq.trans (rU_f (Nat.ne_of_beq_eq_false rfl)) (rU_f (Nat.ne_of_beq_eq_false rfl))))))))))))) ?_
      refine x_ic T_279_303 ?_
      refine x_ib (w := (P 2302 s + 1)) T_279_304 (fun h => absurd h.1 (by decide)) (w32_id (by omega) (by omega)) ?_
      refine y_aIP hP T_279_305 2302 2 rfl rfl rfl (by omega) (by omega) (fun σ hP => ?_)
      refine x_lr (z := some 2281) T_279_306 rfl ?_
      refine x_li (z := s) T_279_307 rfl ?_
      refine x_li (z := into) T_279_308 rfl ?_
      refine x_li (z := u) T_279_310 rfl ?_
      refine x_cv4 T_279_312 mN_255 mL_255 (Nat.le_of_ble_eq_true rfl) mO_255 (PM.t hP) (Nat.le_of_ble_eq_true rfl) (m_grow hP (Eq.trans (rU_f (Nat.ne_of_beq_eq_false rfl)) (Eq.trans (gName_f (Nat.ne_of_beq_eq_false rfl) (Nat.ne_of_beq_eq_false rfl)) (Eq.trans (rU_f (Nat.ne_of_beq_eq_false rfl)) (Eq.trans (rU_f (Nat.ne_of_beq_eq_false rfl)) (Eq.trans (rU_f (Nat.ne_of_beq_eq_false rfl)) (Eq.trans (rU_f (Nat.ne_of_beq_eq_false rfl)) (Eq.trans (rU_f (Nat.ne_of_beq_eq_false rfl)) (Eq.trans (rU_k (by omega)) (Eq.trans (rU_f (Nat.ne_of_beq_eq_false rfl)) (Eq.trans (rU_f (Nat.ne_of_beq_eq_false rfl)) (Eq.trans (rU_f (Nat.ne_of_beq_eq_false rfl)) (rU_f (Nat.ne_of_beq_eq_false rfl))))))))))))) (by have b : 0 ≤ (P 2292 (64 * s + into)) ∧ (P 2292 (64 * s + into)) ≤ T := IV.a hI 2292 0 128 rfl rfl rfl (by omega) (by omega); omega) (by omega)) ?_
      rintro _ σ ⟨rfl, hP⟩
      refine cV ?_
      refine x_lr (z := some 2281) T_279_315 rfl ?_
      refine x_gR (z := some 2306) T_279_316 F_17_30 (PM.t hP) (PM.r hP 30 2306 rfl) ?_
      refine x_li (z := k) T_279_319 rfl ?_
      refine x_li (z := nn) T_279_321 rfl ?_
      refine y_aIP hP T_279_323 2306 288 rfl rfl rfl (by omega) (by omega) (fun σ hP => ?_)
      refine x_lr (z := some 2281) T_279_324 rfl ?_
      refine x_gR (z := some 2307) T_279_325 F_17_31 (PM.t hP) (PM.r hP 31 2307 rfl) ?_
      refine x_li (z := k) T_279_328 rfl ?_
      refine x_lr (z := some 2281) T_279_330 rfl ?_
      refine x_gR (z := some 2291) T_279_331 F_17_15 (PM.t hP) (PM.r hP 15 2291 rfl) ?_
      refine x_li (z := (64 * s + nn)) T_279_334 rfl ?_
      refine x_alI (z := (P 2303 s + 1)) T_279_336 (by decide) (PM.ta hP 2291 0 128 rfl rfl) (by omega) (by omega) (Eq.trans (PM.aP hP 2291 rfl rfl (by omega)) (Eq.trans (rU_f (Nat.ne_of_beq_eq_false rfl)) (Eq.trans (gGrow_f (Nat.ne_of_beq_eq_false rfl) (Nat.ne_of_beq_eq_false rfl)) (Eq.trans (rU_f (Nat.ne_of_beq_eq_false rfl)) (Eq.trans (gName_f (Nat.ne_of_beq_eq_false rfl) (Nat.ne_of_beq_eq_false rfl)) (Eq.trans (rU_f (Nat.ne_of_beq_eq_false rfl)) (Eq.trans (rU_f (Nat.ne_of_beq_eq_false rfl)) (Eq.trans (rU_f (Nat.ne_of_beq_eq_false rfl)) (Eq.trans (rU_f (Nat.ne_of_beq_eq_false rfl)) (Eq.trans (rU_f (Nat.ne_of_beq_eq_false rfl)) (Eq.trans (rU_f (Nat.ne_of_beq_eq_false rfl)) rU_s))))))))))) ?_
      refine y_aIP hP T_279_337 2307 288 rfl rfl rfl (by omega) (by omega) (fun σ hP => ?_)
      refine x_lr (z := some 2281) T_279_338 rfl ?_
      refine x_li (z := k) T_279_339 rfl ?_
      refine x_li (z := m) T_279_341 rfl ?_
      refine x_cv3 T_279_343 mN_277 mL_277 (Nat.le_of_ble_eq_true rfl) mO_277 (PM.t hP) (Nat.le_of_ble_eq_true rfl) (m_open hP (by omega)) ?_
      rintro _ σ ⟨rfl, hP⟩
      refine cV ?_
      refine x_lr (z := some 2281) T_279_346 rfl ?_
      refine x_ic T_279_347 ?_
      refine x_cv2 T_279_349 mN_236 mL_236 (Nat.le_of_ble_eq_true rfl) mO_236 (PM.t hP) (Nat.le_of_ble_eq_true rfl) (m_reply hP) ?_
      rintro _ σ ⟨rfl, hP⟩
      refine cV ?_
      refine x_lr (z := some 2281) T_279_352 rfl ?_
      refine x_li (z := s) T_279_353 rfl ?_
      refine x_li (z := nn) T_279_354 rfl ?_
      refine x_cv3 T_279_356 mN_264 mL_264 (Nat.le_of_ble_eq_true rfl) mO_264 (PM.t hP) (Nat.le_of_ble_eq_true rfl) (m_putQid hP (by omega) rpl_z (by omega)) ?_
      rintro _ σ ⟨rfl, hP⟩
      refine cV ?_
      refine x_lr (z := some 2281) T_279_359 rfl ?_
      refine x_ic T_279_360 ?_
      refine x_lc T_279_361 ?_
      refine x_cv3 T_279_362 mN_237 mL_237 (Nat.le_of_ble_eq_true rfl) mO_237 (PM.t hP) (Nat.le_of_ble_eq_true rfl) (m_put 4 rfl hP (by decide) (rA_zn (qidL_len _ _ _) rpl_z) (by omega) (by omega)) ?_
      rintro _ σ ⟨rfl, hP⟩
      refine cV ?_
      refine x_rv T_279_365 ?_
      rw [rA_rA] at hP
      unfold gCre creM
      first
        | (rw [if_pos h221]; exact SV_ok hP hR h0 (hl _).1 (hl _).2)
        | (rw [if_neg h221]; exact SV_ok hP hR h0 (hl _).1 (hl _).2)
  · refine x_ll (z := p) T_279_138 rfl ?_
    refine x_lc T_279_140 ?_
    refine x_lb (w := (and64 p 2147483648)) T_279_143 (fun h => absurd h.1 (by decide)) rfl ?_
    refine x_lc T_279_144 ?_
    refine x_lif T_279_145 T_279_146 (fun h146 => ?_) (fun h146 => ?_)
    · replace h146 : (and64 p 2147483648) = 0 := h146
      refine x_ic T_279_153 ?_
      exact kJ154 0 (if_neg (by omega)).symm
    · replace h146 : ¬ ((and64 p 2147483648) = 0) := h146
      refine x_ic T_279_149 ?_
      refine x_goto T_279_150 ?_
      exact kJ154 1 (if_pos (by omega)).symm
theorem qCre_v (P : qR) (s k p m : Int) (nm : List Int) : (qCre P s k p m nm = 0 ∧ 0 ≤ k ∧ P 2309 k < 0 ∧ P 2310 k = 0 ∧ qMode P s (P 2306 k) < 0 ∧ ¬ s = 2 ∧ nmOk nm = true ∧ qFind P s (P 2306 k) nm < 0 ∧ ¬ qMv P s (P 2306 k) (P 2308 k) 2 = 0 ∧ ¬ P 2302 s = 64) ∨ (1 ≤ qCre P s k p m nm ∧ qCre P s k p m nm ≤ 16) := by
  unfold qCre
  by_cases c1 : k < 0
  · rw [if_pos c1]; omega
  rw [if_neg c1]
  by_cases c2 : 0 ≤ P 2309 k
  · rw [if_pos c2]; omega
  rw [if_neg c2]
  by_cases c3 : ¬ P 2310 k = 0
  · rw [if_pos c3]; omega
  rw [if_neg c3]
  by_cases c4 : ¬ qMode P s (P 2306 k) < 0
  · rw [if_pos c4]; omega
  rw [if_neg c4]
  by_cases c5 : s = 2
  · rw [if_pos c5]; omega
  rw [if_neg c5]
  by_cases c6 : ¬ nmOk nm = true
  · rw [if_pos c6]; exact Or.inr (by decide)
  rw [if_neg c6]
  have c6 : nmOk nm = true := Classical.not_not.mp c6
  by_cases c7 : 0 ≤ qFind P s (P 2306 k) nm
  · rw [if_pos c7]; exact Or.inr (by decide)
  rw [if_neg c7]
  by_cases c8 : qMv P s (P 2306 k) (P 2308 k) 2 = 0
  · rw [if_pos c8]; exact Or.inr (by decide)
  rw [if_neg c8]
  split
  · exact Or.inr (by decide)
  · split
    · exact Or.inr (by decide)
    · split
      · exact Or.inr (by decide)
      · rename_i c9
        exact Or.inl ⟨rfl, by omega, by omega, by omega, by omega, c5, c6, by omega, c8, c9⟩
theorem m_serveCreate (hP : PM σ0 P S1 σ) (hR : RS T U S S1 7 []) (hI : MJ T U P) (hT : T ≤ 2147483000) (hroot : s < 2 → P 2289 (64 * s) = 1) (hs : 0 ≤ s ∧ s < 3) (hc : 0 ≤ c ∧ c < 2) (h0 : S 2281 7 = 0) : CL fb (d + 7) 279 [vR (some 2281), vI s, vI c] σ (SV T U σ0 S (if crE P s c (S 2285) (S 2281 4) = 0 then crP P s c (S 2285) (S 2281 4) else P) (crE P s c (S 2285) (S 2281 4)) 115 (qidL (crP P s c (S 2285) (S 2281 4)) s (qNew P s) ++ leb 4 0)) := by
  obtain ⟨hz0, hz1, hb⟩ := hR.pb
  have hz7 : 7 ≤ S 2281 4 := hR.2.2.2.2.1
  have e1 : sE (S 2285) (S 2281 4) (av (S 2281 4) 7 4) = sE (S 2285) (S 2281 4) 11 := sE_av (by decide) (by decide)
  by_cases hw : 0 ≤ sE (S 2285) (S 2281 4) 11 ∧ sE (S 2285) (S 2281 4) 11 + 5 = S 2281 4
  · have hc1 := (sE_cases (p := 11) hb).resolve_left (by omega)
    obtain ⟨v, hv0⟩ : ∃ v, nu (S 2285) 7 4 = v := ⟨_, rfl⟩
    have hv1 : nv (S 2285) (S 2281 4) 7 4 = v := (nv_ok (n := 4) (by decide) (by omega) hb).1.trans hv0
    have a1 : av (S 2281 4) 7 4 = 11 := if_neg (by omega)
    obtain ⟨y, hy⟩ : ∃ y, nu (S 2285) 11 2 = y := ⟨_, rfl⟩
    rw [hy] at hc1
    unfold crE crP
    rw [if_neg (show ¬ ¬ (0 ≤ sE (S 2285) (S 2281 4) 11 ∧ sE (S 2285) (S 2281 4) 11 + 5 = S 2281 4) from fun q => q hw), hv0, hy]
    obtain ⟨e, he⟩ : ∃ e, sE (S 2285) (S 2281 4) 11 = e := ⟨_, rfl⟩
    rw [he] at hw hc1 ⊢
    obtain ⟨p, hp0⟩ : ∃ p, nu (S 2285) e 4 = p := ⟨_, rfl⟩
    obtain ⟨m, hm0⟩ : ∃ m, nu (S 2285) (e + 4) 1 = m := ⟨_, rfl⟩
    have hp1 : nv (S 2285) (S 2281 4) e 4 = p := (nv_ok (n := 4) (by decide) (by omega) hb).1.trans hp0
    have hm2 := nv_ok (a := S 2285) (z := S 2281 4) (p := e + 4) (n := 1) (by decide) (by omega) hb
    rw [hm0] at hm2
    have hm3 : 0 ≤ m ∧ m < 256 := hm2.2
    have a2 : av (S 2281 4) e 4 = e + 4 := if_neg (by omega)
    have a3 : av (S 2281 4) (e + 4) 1 = e + 5 := (if_neg (by omega)).trans (by omega)
    have hk := qFid_rng (P := P) (s := s) (c := c) v hs hc
    obtain ⟨k, hk0⟩ : ∃ k, qFid P s c v = k := ⟨_, rfl⟩
    rw [hk0] at hk ⊢
    rw [hp0, hm0]
    have hkr : k < 0 ∨ (96 * s ≤ k ∧ k < 96 * s + 96) := by omega
    obtain ⟨r, hr⟩ : ∃ r, qCre P s k p m (seg (S 2285) 13 y.toNat) = r := ⟨_, rfl⟩
    have hv := qCre_v P s k p m (seg (S 2285) 13 y.toNat)
    rw [hr] at hv ⊢
    have hh : e + 5 = S 2281 4 ∧ 0 ≤ e + 5 := by omega
    by_cases hr0 : r = 0
    · have hv := hv.resolve_right (by omega)
      obtain ⟨-, v1, v2, v3, v4, v5, v6, v7, v8, v9⟩ := hv
      have hk3 := hk.resolve_left (by omega)
      have hnew := qNew_ok hI.1 ⟨hs.1, by omega⟩ (hroot (by omega)) v9
      have hfi := hI.2 k (by omega) (by omega) hk3.2.2.1 v3
      rw [show k / 96 = s by omega] at hfi
      have bt : 0 ≤ P 2302 s ∧ P 2302 s ≤ 64 := IV.a hI.1.1 2302 0 2 rfl rfl rfl (by omega) (by omega)
      have bn : 0 ≤ P 2306 k ∧ P 2306 k ≤ (if k < 192 then 63 else 143) := IV.a hI.1.1 2306 0 288 rfl rfl rfl (by omega) (by omega)
      have bu : 0 ≤ P 2308 k ∧ P 2308 k ≤ 3 := IV.a hI.1.1 2308 0 288 rfl rfl rfl (by omega) (by omega)
      rw [if_pos (by omega)] at bn
      have hy12 : y ≤ 12 := by
        have := (nmOk_seg.mp v6).1
        omega
      rw [if_pos hr0, hr0]
      refine CL_in mL_279 rfl ?_
      show WP fb _ 279 0 [some (vR (some 2281)), some (vI s), some (vI c), none, none, none, none, none, none, none, none, none, none, none, none, none, none] [] σ _
      refine x_lr (z := some 2281) T_279_0 rfl ?_
      refine x_ic T_279_1 ?_
      refine x_cv2 T_279_2 mN_234 mL_234 (Nat.le_of_ble_eq_true rfl) mO_234 (PM.t hP) (Nat.le_of_ble_eq_true rfl) (r_num 4 rfl hP hR (by decide) hv1) ?_
      rintro _ σ ⟨rfl, S1, hP, hR⟩
      rw [a1] at hR
      refine cL ?_
      refine x_sl (ls1 := [some (vR (some 2281)), some (vI s), some (vI c), some (vL v), none, none, none, none, none, none, none, none, none, none, none, none, none]) T_279_5 rfl ?_
      refine x_lr (z := some 2281) T_279_6 rfl ?_
      refine x_cv1 T_279_7 mN_240 mL_240 (Nat.le_of_ble_eq_true rfl) mO_240 (PM.t hP) (Nat.le_of_ble_eq_true rfl) (r_string hP hR (by decide)) ?_
      rintro _ σ ⟨rfl, S1, hP, hR⟩
      rw [he, if_neg (by omega), hy] at hR
      refine cV ?_
      refine x_lr (z := some 2281) T_279_10 rfl ?_
      refine x_ic T_279_11 ?_
      refine x_cv2 T_279_12 mN_234 mL_234 (Nat.le_of_ble_eq_true rfl) mO_234 (PM.t hP) (Nat.le_of_ble_eq_true rfl) (r_num 4 rfl hP hR (by decide) hp1) ?_
      rintro _ σ ⟨rfl, S1, hP, hR⟩
      rw [a2] at hR
      refine cL ?_
      refine x_sl (ls1 := [some (vR (some 2281)), some (vI s), some (vI c), some (vL v), none, some (vL p), none, none, none, none, none, none, none, none, none, none, none]) T_279_15 rfl ?_
      refine x_lr (z := some 2281) T_279_17 rfl ?_
      refine x_ic T_279_18 ?_
      refine x_cv2 T_279_19 mN_234 mL_234 (Nat.le_of_ble_eq_true rfl) mO_234 (PM.t hP) (Nat.le_of_ble_eq_true rfl) (r_num 1 rfl hP hR (by decide) hm2.1) ?_
      rintro _ σ ⟨rfl, S1, hP, hR⟩
      rw [a3] at hR
      refine cL ?_
      refine x_l2i (w := m) T_279_22 (w32_id (by omega) (by omega)) ?_
      refine x_si (ls1 := [some (vR (some 2281)), some (vI s), some (vI c), some (vL v), none, some (vL p), none, some (vI m), none, none, none, none, none, none, none, none, none]) T_279_23 rfl ?_
      refine x_lr (z := some 2281) T_279_25 rfl ?_
      have hw := r_isWhole (fb := fb) (d := d + 3) hP hR
      rw [if_pos hh, if_pos hh] at hw
      refine x_cv1 T_279_26 mN_241 mL_241 (Nat.le_of_ble_eq_true rfl) mO_241 (PM.t hP) (Nat.le_of_ble_eq_true rfl) (hw) ?_
      rintro _ σ ⟨rfl, hP⟩
      refine cI ?_
      refine x_if T_279_29 (fun _ => ?_) (fun h => absurd (show ¬ (1 : Int) = 0 by decide) h)
      refine x_lr (z := some 2281) T_279_33 rfl ?_
      refine x_li (z := s) T_279_34 rfl ?_
      refine x_li (z := c) T_279_35 rfl ?_
      refine x_ll (z := v) T_279_36 rfl ?_
      refine x_cv4 T_279_37 mN_261 mL_261 (Nat.le_of_ble_eq_true rfl) mO_261 (PM.t hP) (Nat.le_of_ble_eq_true rfl) (CL_val (m_findFid hP (by omega) (by omega)) hk0) ?_
      rintro _ σ ⟨rfl, rfl⟩
      refine cI ?_
      refine x_si (ls1 := [some (vR (some 2281)), some (vI s), some (vI c), some (vL v), none, some (vL p), none, some (vI m), some (vI k), none, none, none, none, none, none, none, none]) T_279_40 rfl ?_
      refine x_lr (z := some 2281) T_279_42 rfl ?_
      refine x_li (z := s) T_279_43 rfl ?_
      refine x_li (z := k) T_279_44 rfl ?_
      refine x_ll (z := p) T_279_46 rfl ?_
      refine x_li (z := m) T_279_48 rfl ?_
      refine x_cv5 T_279_50 mN_280 mL_280 (Nat.le_of_ble_eq_true rfl) mO_280 (PM.t hP) (Nat.le_of_ble_eq_true rfl) (CL_val (k := 0) (m_creation hP hI.1.1 hR.iv hs hkr hR.st0.1 hR.st0.2 (by omega)) (by rw [hR.askf]; exact hr.trans hr0)) ?_
      rintro _ σ ⟨rfl, rfl⟩
      refine cI ?_
      refine x_si (ls1 := [some (vR (some 2281)), some (vI s), some (vI c), some (vL v), none, some (vL p), none, some (vI m), some (vI k), some (vI 0), none, none, none, none, none, none, none]) T_279_53 rfl ?_
      refine x_li (z := 0) T_279_55 rfl ?_
      refine x_if T_279_57 (fun _ => ?_) (fun h => absurd (show (0 : Int) ≤ 0 by decide) h)
      refine x_lr (z := some 2281) T_279_67 rfl ?_
      refine x_gR (z := some 2306) T_279_68 F_17_30 (PM.t hP) (PM.r hP 30 2306 rfl) ?_
      refine x_li (z := k) T_279_71 rfl ?_
      refine x_alI (z := P 2306 k) T_279_73 (by decide) (PM.ta hP 2306 0 288 rfl rfl) (by omega) (by omega) (PM.aP hP 2306 rfl rfl (by omega)) ?_
      refine x_si (ls1 := [some (vR (some 2281)), some (vI s), some (vI c), some (vL v), none, some (vL p), none, some (vI m), some (vI k), some (vI 0), some (vI (P 2306 k)), none, none, none, none, none, none]) T_279_74 rfl ?_
      refine x_lr (z := some 2281) T_279_76 rfl ?_
      refine x_gR (z := some 2308) T_279_77 F_17_32 (PM.t hP) (PM.r hP 32 2308 rfl) ?_
      refine x_li (z := k) T_279_80 rfl ?_
      refine x_alI (z := P 2308 k) T_279_82 (by decide) (PM.ta hP 2308 0 288 rfl rfl) (by omega) (by omega) (PM.aP hP 2308 rfl rfl (by omega)) ?_
      refine x_si (ls1 := [some (vR (some 2281)), some (vI s), some (vI c), some (vL v), none, some (vL p), none, some (vI m), some (vI k), some (vI 0), some (vI (P 2306 k)), some (vI (P 2308 k)), none, none, none, none, none]) T_279_83 rfl ?_
      refine x_ic T_279_85 ?_
      refine x_si (ls1 := [some (vR (some 2281)), some (vI s), some (vI c), some (vL v), none, some (vL p), none, some (vI m), some (vI k), some (vI 0), some (vI (P 2306 k)), some (vI (P 2308 k)), some (vI 1), none, none, none, none]) T_279_86 rfl ?_
      refine m_new_loop (d := d + 6) hP ⟨hs.1, by omega⟩ hnew.2.1 ?_ 63 1 (by omega) (by omega) rfl
      exact m_create_tail hP hR hI.1.1 hT ⟨hs.1, by omega⟩ ⟨hnew.1, hnew.2.1⟩ (by omega) (fun q => by rw [q] at hfi; omega) (by omega) bu (by omega) (by omega) h0
    · have hv := hv.resolve_left (fun q => hr0 q.1)
      rw [if_neg hr0]
      refine CL_in mL_279 rfl ?_
      show WP fb _ 279 0 [some (vR (some 2281)), some (vI s), some (vI c), none, none, none, none, none, none, none, none, none, none, none, none, none, none] [] σ _
      refine x_lr (z := some 2281) T_279_0 rfl ?_
      refine x_ic T_279_1 ?_
      refine x_cv2 T_279_2 mN_234 mL_234 (Nat.le_of_ble_eq_true rfl) mO_234 (PM.t hP) (Nat.le_of_ble_eq_true rfl) (r_num 4 rfl hP hR (by decide) hv1) ?_
      rintro _ σ ⟨rfl, S1, hP, hR⟩
      rw [a1] at hR
      refine cL ?_
      refine x_sl (ls1 := [some (vR (some 2281)), some (vI s), some (vI c), some (vL v), none, none, none, none, none, none, none, none, none, none, none, none, none]) T_279_5 rfl ?_
      refine x_lr (z := some 2281) T_279_6 rfl ?_
      refine x_cv1 T_279_7 mN_240 mL_240 (Nat.le_of_ble_eq_true rfl) mO_240 (PM.t hP) (Nat.le_of_ble_eq_true rfl) (r_string hP hR (by decide)) ?_
      rintro _ σ ⟨rfl, S1, hP, hR⟩
      rw [he, if_neg (by omega), hy] at hR
      refine cV ?_
      refine x_lr (z := some 2281) T_279_10 rfl ?_
      refine x_ic T_279_11 ?_
      refine x_cv2 T_279_12 mN_234 mL_234 (Nat.le_of_ble_eq_true rfl) mO_234 (PM.t hP) (Nat.le_of_ble_eq_true rfl) (r_num 4 rfl hP hR (by decide) hp1) ?_
      rintro _ σ ⟨rfl, S1, hP, hR⟩
      rw [a2] at hR
      refine cL ?_
      refine x_sl (ls1 := [some (vR (some 2281)), some (vI s), some (vI c), some (vL v), none, some (vL p), none, none, none, none, none, none, none, none, none, none, none]) T_279_15 rfl ?_
      refine x_lr (z := some 2281) T_279_17 rfl ?_
      refine x_ic T_279_18 ?_
      refine x_cv2 T_279_19 mN_234 mL_234 (Nat.le_of_ble_eq_true rfl) mO_234 (PM.t hP) (Nat.le_of_ble_eq_true rfl) (r_num 1 rfl hP hR (by decide) hm2.1) ?_
      rintro _ σ ⟨rfl, S1, hP, hR⟩
      rw [a3] at hR
      refine cL ?_
      refine x_l2i (w := m) T_279_22 (w32_id (by omega) (by omega)) ?_
      refine x_si (ls1 := [some (vR (some 2281)), some (vI s), some (vI c), some (vL v), none, some (vL p), none, some (vI m), none, none, none, none, none, none, none, none, none]) T_279_23 rfl ?_
      refine x_lr (z := some 2281) T_279_25 rfl ?_
      have hw := r_isWhole (fb := fb) (d := d + 3) hP hR
      rw [if_pos hh, if_pos hh] at hw
      refine x_cv1 T_279_26 mN_241 mL_241 (Nat.le_of_ble_eq_true rfl) mO_241 (PM.t hP) (Nat.le_of_ble_eq_true rfl) (hw) ?_
      rintro _ σ ⟨rfl, hP⟩
      refine cI ?_
      refine x_if T_279_29 (fun _ => ?_) (fun h => absurd (show ¬ (1 : Int) = 0 by decide) h)
      refine x_lr (z := some 2281) T_279_33 rfl ?_
      refine x_li (z := s) T_279_34 rfl ?_
      refine x_li (z := c) T_279_35 rfl ?_
      refine x_ll (z := v) T_279_36 rfl ?_
      refine x_cv4 T_279_37 mN_261 mL_261 (Nat.le_of_ble_eq_true rfl) mO_261 (PM.t hP) (Nat.le_of_ble_eq_true rfl) (CL_val (m_findFid hP (by omega) (by omega)) hk0) ?_
      rintro _ σ ⟨rfl, rfl⟩
      refine cI ?_
      refine x_si (ls1 := [some (vR (some 2281)), some (vI s), some (vI c), some (vL v), none, some (vL p), none, some (vI m), some (vI k), none, none, none, none, none, none, none, none]) T_279_40 rfl ?_
      refine x_lr (z := some 2281) T_279_42 rfl ?_
      refine x_li (z := s) T_279_43 rfl ?_
      refine x_li (z := k) T_279_44 rfl ?_
      refine x_ll (z := p) T_279_46 rfl ?_
      refine x_li (z := m) T_279_48 rfl ?_
      refine x_cv5 T_279_50 mN_280 mL_280 (Nat.le_of_ble_eq_true rfl) mO_280 (PM.t hP) (Nat.le_of_ble_eq_true rfl) (CL_val (k := r) (m_creation hP hI.1.1 hR.iv hs hkr hR.st0.1 hR.st0.2 (by omega)) (by rw [hR.askf]; exact hr)) ?_
      rintro _ σ ⟨rfl, rfl⟩
      refine cI ?_
      refine x_si (ls1 := [some (vR (some 2281)), some (vI s), some (vI c), some (vL v), none, some (vL p), none, some (vI m), some (vI k), some (vI r), none, none, none, none, none, none, none]) T_279_53 rfl ?_
      refine x_li (z := r) T_279_55 rfl ?_
      refine x_if T_279_57 (fun h => absurd (show r ≤ 0 from h) (by omega)) (fun _ => ?_)
      refine x_lr (z := some 2281) T_279_60 rfl ?_
      refine x_li (z := r) T_279_61 rfl ?_
      refine x_cv2 T_279_63 mN_235 mL_235 (Nat.le_of_ble_eq_true rfl) mO_235 (PM.t hP) (Nat.le_of_ble_eq_true rfl) (m_refuse hP (by omega)) ?_
      rintro _ σ ⟨rfl, hP⟩
      refine cV ?_
      refine x_rv T_279_66 ?_
      exact SV_no hP hR (by omega)
  · have hW : crE P s c (S 2285) (S 2281 4) = 14 := by
      unfold crE
      exact if_pos hw
    rw [hW, if_neg (show ¬ (14 : Int) = 0 by decide)]
    have hh : ¬ (av (S 2281 4) (av (S 2281 4) (sE (S 2285) (S 2281 4) (av (S 2281 4) 7 4)) 4) 1 = S 2281 4 ∧ 0 ≤ av (S 2281 4) (av (S 2281 4) (sE (S 2285) (S 2281 4) (av (S 2281 4) 7 4)) 4) 1) := by
      rw [e1]
      intro q
      apply hw
      unfold av at q
      (repeat' split at q) <;> omega
    refine CL_in mL_279 rfl ?_
    show WP fb _ 279 0 [some (vR (some 2281)), some (vI s), some (vI c), none, none, none, none, none, none, none, none, none, none, none, none, none, none] [] σ _
    refine x_lr (z := some 2281) T_279_0 rfl ?_
    refine x_ic T_279_1 ?_
    refine x_cv2 T_279_2 mN_234 mL_234 (Nat.le_of_ble_eq_true rfl) mO_234 (PM.t hP) (Nat.le_of_ble_eq_true rfl) (r_num 4 rfl hP hR (by decide) rfl) ?_
    rintro _ σ ⟨rfl, S1, hP, hR⟩
    refine cL ?_
    refine x_sl (ls1 := [some (vR (some 2281)), some (vI s), some (vI c), some (vL (nv (S 2285) (S 2281 4) 7 4)), none, none, none, none, none, none, none, none, none, none, none, none, none]) T_279_5 rfl ?_
    refine x_lr (z := some 2281) T_279_6 rfl ?_
    refine x_cv1 T_279_7 mN_240 mL_240 (Nat.le_of_ble_eq_true rfl) mO_240 (PM.t hP) (Nat.le_of_ble_eq_true rfl) (r_string hP hR (by decide)) ?_
    rintro _ σ ⟨rfl, S1, hP, hR⟩
    refine cV ?_
    refine x_lr (z := some 2281) T_279_10 rfl ?_
    refine x_ic T_279_11 ?_
    refine x_cv2 T_279_12 mN_234 mL_234 (Nat.le_of_ble_eq_true rfl) mO_234 (PM.t hP) (Nat.le_of_ble_eq_true rfl) (r_num 4 rfl hP hR (by decide) rfl) ?_
    rintro _ σ ⟨rfl, S1, hP, hR⟩
    refine cL ?_
    refine x_sl (ls1 := [some (vR (some 2281)), some (vI s), some (vI c), some (vL (nv (S 2285) (S 2281 4) 7 4)), none, some (vL (nv (S 2285) (S 2281 4) (sE (S 2285) (S 2281 4) (av (S 2281 4) 7 4)) 4)), none, none, none, none, none, none, none, none, none, none, none]) T_279_15 rfl ?_
    refine x_lr (z := some 2281) T_279_17 rfl ?_
    refine x_ic T_279_18 ?_
    obtain ⟨q1, hq⟩ : ∃ q1, nv (S 2285) (S 2281 4) (av (S 2281 4) (sE (S 2285) (S 2281 4) (av (S 2281 4) 7 4)) 4) 1 = q1 := ⟨_, rfl⟩
    have hq1 : 0 ≤ q1 ∧ q1 ≤ 255 := nv_one hb hq
    refine x_cv2 T_279_19 mN_234 mL_234 (Nat.le_of_ble_eq_true rfl) mO_234 (PM.t hP) (Nat.le_of_ble_eq_true rfl) (r_num 1 rfl hP hR (by decide) hq) ?_
    rintro _ σ ⟨rfl, S1, hP, hR⟩
    refine cL ?_
    refine x_l2i (w := q1) T_279_22 (w32_id (by omega) (by omega)) ?_
    refine x_si (ls1 := [some (vR (some 2281)), some (vI s), some (vI c), some (vL (nv (S 2285) (S 2281 4) 7 4)), none, some (vL (nv (S 2285) (S 2281 4) (sE (S 2285) (S 2281 4) (av (S 2281 4) 7 4)) 4)), none, some (vI q1), none, none, none, none, none, none, none, none, none]) T_279_23 rfl ?_
    refine x_lr (z := some 2281) T_279_25 rfl ?_
    have hw := r_isWhole (fb := fb) (d := d + 3) hP hR
    rw [if_neg hh, if_neg hh] at hw
    refine x_cv1 T_279_26 mN_241 mL_241 (Nat.le_of_ble_eq_true rfl) mO_241 (PM.t hP) (Nat.le_of_ble_eq_true rfl) (hw) ?_
    rintro _ σ ⟨rfl, hP⟩
    refine cI ?_
    refine x_if T_279_29 (fun h => absurd (show ¬ (0 : Int) = 0 from h) (by decide)) (fun _ => ?_)
    refine x_rv T_279_32 ?_
    exact SV_no hP hR (by decide)
end MSERVE7
