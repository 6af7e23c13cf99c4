/-! The class's commands: which one a line is. -/
theorem T_114_0 : hTab 114 0 = some ((3, 0, 2, []), 1) := rfl
theorem T_114_1 : hTab 114 1 = some ((24, 16, Int.ofNat 4, []), 4) := rfl
theorem T_114_4 : hTab 114 4 = some ((18, 1, Int.ofNat 11, []), 7) := rfl
theorem T_114_7 : hTab 114 7 = some ((0, 0, 0, []), 8) := rfl
theorem T_114_8 : hTab 114 8 = some ((22, 0, Int.ofNat 383, []), 11) := rfl
theorem T_114_11 : hTab 114 11 = some ((3, 0, 2, []), 12) := rfl
theorem T_114_12 : hTab 114 12 = some ((0, 0, 0, []), 13) := rfl
theorem T_114_13 : hTab 114 13 = some ((34, 26, 0, []), 15) := rfl
theorem T_114_15 : hTab 114 15 = some ((31, 115, 0, []), 18) := rfl
theorem T_114_18 : hTab 114 18 = some ((18, 0, Int.ofNat 25, []), 21) := rfl
theorem T_114_21 : hTab 114 21 = some ((0, 0, 1, []), 22) := rfl
theorem T_114_22 : hTab 114 22 = some ((22, 0, Int.ofNat 383, []), 25) := rfl
theorem T_114_25 : hTab 114 25 = some ((3, 0, 2, []), 26) := rfl
theorem T_114_26 : hTab 114 26 = some ((0, 0, 0, []), 27) := rfl
theorem T_114_27 : hTab 114 27 = some ((34, 27, 0, []), 29) := rfl
theorem T_114_29 : hTab 114 29 = some ((31, 115, 0, []), 32) := rfl
theorem T_114_32 : hTab 114 32 = some ((18, 0, Int.ofNat 39, []), 35) := rfl
theorem T_114_35 : hTab 114 35 = some ((0, 0, 2, []), 36) := rfl
theorem T_114_36 : hTab 114 36 = some ((22, 0, Int.ofNat 383, []), 39) := rfl
theorem T_114_39 : hTab 114 39 = some ((3, 0, 2, []), 40) := rfl
theorem T_114_40 : hTab 114 40 = some ((0, 0, 0, []), 41) := rfl
theorem T_114_41 : hTab 114 41 = some ((34, 28, 0, []), 43) := rfl
theorem T_114_43 : hTab 114 43 = some ((31, 115, 0, []), 46) := rfl
theorem T_114_46 : hTab 114 46 = some ((18, 0, Int.ofNat 53, []), 49) := rfl
theorem T_114_49 : hTab 114 49 = some ((0, 0, 3, []), 50) := rfl
theorem T_114_50 : hTab 114 50 = some ((22, 0, Int.ofNat 383, []), 53) := rfl
theorem T_114_53 : hTab 114 53 = some ((3, 0, 2, []), 54) := rfl
theorem T_114_54 : hTab 114 54 = some ((0, 0, 0, []), 55) := rfl
theorem T_114_55 : hTab 114 55 = some ((34, 29, 0, []), 57) := rfl
theorem T_114_57 : hTab 114 57 = some ((31, 115, 0, []), 60) := rfl
theorem T_114_60 : hTab 114 60 = some ((18, 0, Int.ofNat 67, []), 63) := rfl
theorem T_114_63 : hTab 114 63 = some ((0, 0, 4, []), 64) := rfl
theorem T_114_64 : hTab 114 64 = some ((22, 0, Int.ofNat 383, []), 67) := rfl
theorem T_114_67 : hTab 114 67 = some ((3, 0, 2, []), 68) := rfl
theorem T_114_68 : hTab 114 68 = some ((0, 0, 0, []), 69) := rfl
theorem T_114_69 : hTab 114 69 = some ((34, 30, 0, []), 71) := rfl
theorem T_114_71 : hTab 114 71 = some ((31, 115, 0, []), 74) := rfl
theorem T_114_74 : hTab 114 74 = some ((18, 0, Int.ofNat 81, []), 77) := rfl
theorem T_114_77 : hTab 114 77 = some ((0, 0, 5, []), 78) := rfl
theorem T_114_78 : hTab 114 78 = some ((22, 0, Int.ofNat 383, []), 81) := rfl
theorem T_114_81 : hTab 114 81 = some ((3, 0, 2, []), 82) := rfl
theorem T_114_82 : hTab 114 82 = some ((0, 0, 0, []), 83) := rfl
theorem T_114_83 : hTab 114 83 = some ((34, 31, 0, []), 85) := rfl
theorem T_114_85 : hTab 114 85 = some ((31, 115, 0, []), 88) := rfl
theorem T_114_88 : hTab 114 88 = some ((18, 0, Int.ofNat 96, []), 91) := rfl
theorem T_114_91 : hTab 114 91 = some ((0, 0, 6, []), 93) := rfl
theorem T_114_93 : hTab 114 93 = some ((22, 0, Int.ofNat 383, []), 96) := rfl
theorem T_114_96 : hTab 114 96 = some ((3, 0, 2, []), 97) := rfl
theorem T_114_97 : hTab 114 97 = some ((0, 0, 0, []), 98) := rfl
theorem T_114_98 : hTab 114 98 = some ((34, 32, 0, []), 100) := rfl
theorem T_114_100 : hTab 114 100 = some ((31, 115, 0, []), 103) := rfl
theorem T_114_103 : hTab 114 103 = some ((18, 0, Int.ofNat 111, []), 106) := rfl
theorem T_114_106 : hTab 114 106 = some ((0, 0, 7, []), 108) := rfl
theorem T_114_108 : hTab 114 108 = some ((22, 0, Int.ofNat 383, []), 111) := rfl
theorem T_114_111 : hTab 114 111 = some ((3, 0, 2, []), 112) := rfl
theorem T_114_112 : hTab 114 112 = some ((0, 0, 0, []), 113) := rfl
theorem T_114_113 : hTab 114 113 = some ((34, 33, 0, []), 115) := rfl
theorem T_114_115 : hTab 114 115 = some ((31, 115, 0, []), 118) := rfl
theorem T_114_118 : hTab 114 118 = some ((18, 0, Int.ofNat 126, []), 121) := rfl
theorem T_114_121 : hTab 114 121 = some ((0, 0, 8, []), 123) := rfl
theorem T_114_123 : hTab 114 123 = some ((22, 0, Int.ofNat 383, []), 126) := rfl
theorem T_114_126 : hTab 114 126 = some ((3, 0, 2, []), 127) := rfl
theorem T_114_127 : hTab 114 127 = some ((0, 0, 0, []), 128) := rfl
theorem T_114_128 : hTab 114 128 = some ((34, 34, 0, []), 130) := rfl
theorem T_114_130 : hTab 114 130 = some ((31, 115, 0, []), 133) := rfl
theorem T_114_133 : hTab 114 133 = some ((18, 0, Int.ofNat 141, []), 136) := rfl
theorem T_114_136 : hTab 114 136 = some ((0, 0, 9, []), 138) := rfl
theorem T_114_138 : hTab 114 138 = some ((22, 0, Int.ofNat 383, []), 141) := rfl
theorem T_114_141 : hTab 114 141 = some ((3, 0, 2, []), 142) := rfl
theorem T_114_142 : hTab 114 142 = some ((0, 0, 0, []), 143) := rfl
theorem T_114_143 : hTab 114 143 = some ((34, 35, 0, []), 145) := rfl
theorem T_114_145 : hTab 114 145 = some ((31, 115, 0, []), 148) := rfl
theorem T_114_148 : hTab 114 148 = some ((18, 0, Int.ofNat 156, []), 151) := rfl
theorem T_114_151 : hTab 114 151 = some ((0, 0, 10, []), 153) := rfl
theorem T_114_153 : hTab 114 153 = some ((22, 0, Int.ofNat 383, []), 156) := rfl
theorem T_114_156 : hTab 114 156 = some ((3, 0, 2, []), 157) := rfl
theorem T_114_157 : hTab 114 157 = some ((0, 0, 0, []), 158) := rfl
theorem T_114_158 : hTab 114 158 = some ((34, 36, 0, []), 160) := rfl
theorem T_114_160 : hTab 114 160 = some ((31, 115, 0, []), 163) := rfl
theorem T_114_163 : hTab 114 163 = some ((18, 0, Int.ofNat 171, []), 166) := rfl
theorem T_114_166 : hTab 114 166 = some ((0, 0, 11, []), 168) := rfl
theorem T_114_168 : hTab 114 168 = some ((22, 0, Int.ofNat 383, []), 171) := rfl
theorem T_114_171 : hTab 114 171 = some ((3, 0, 2, []), 172) := rfl
theorem T_114_172 : hTab 114 172 = some ((0, 0, 0, []), 173) := rfl
theorem T_114_173 : hTab 114 173 = some ((34, 37, 0, []), 175) := rfl
theorem T_114_175 : hTab 114 175 = some ((31, 115, 0, []), 178) := rfl
theorem T_114_178 : hTab 114 178 = some ((18, 0, Int.ofNat 186, []), 181) := rfl
theorem T_114_181 : hTab 114 181 = some ((0, 0, 12, []), 183) := rfl
theorem T_114_183 : hTab 114 183 = some ((22, 0, Int.ofNat 383, []), 186) := rfl
theorem T_114_186 : hTab 114 186 = some ((3, 0, 2, []), 187) := rfl
theorem T_114_187 : hTab 114 187 = some ((0, 0, 0, []), 188) := rfl
theorem T_114_188 : hTab 114 188 = some ((34, 38, 0, []), 190) := rfl
theorem T_114_190 : hTab 114 190 = some ((31, 115, 0, []), 193) := rfl
theorem T_114_193 : hTab 114 193 = some ((18, 0, Int.ofNat 201, []), 196) := rfl
theorem T_114_196 : hTab 114 196 = some ((0, 0, 13, []), 198) := rfl
theorem T_114_198 : hTab 114 198 = some ((22, 0, Int.ofNat 383, []), 201) := rfl
theorem T_114_201 : hTab 114 201 = some ((3, 0, 2, []), 202) := rfl
theorem T_114_202 : hTab 114 202 = some ((0, 0, 0, []), 203) := rfl
theorem T_114_203 : hTab 114 203 = some ((34, 39, 0, []), 205) := rfl
theorem T_114_205 : hTab 114 205 = some ((31, 115, 0, []), 208) := rfl
theorem T_114_208 : hTab 114 208 = some ((18, 0, Int.ofNat 216, []), 211) := rfl
theorem T_114_211 : hTab 114 211 = some ((0, 0, 14, []), 213) := rfl
theorem T_114_213 : hTab 114 213 = some ((22, 0, Int.ofNat 383, []), 216) := rfl
theorem T_114_216 : hTab 114 216 = some ((3, 0, 2, []), 217) := rfl
theorem T_114_217 : hTab 114 217 = some ((0, 0, 0, []), 218) := rfl
theorem T_114_218 : hTab 114 218 = some ((34, 40, 0, []), 220) := rfl
theorem T_114_220 : hTab 114 220 = some ((31, 115, 0, []), 223) := rfl
theorem T_114_223 : hTab 114 223 = some ((18, 0, Int.ofNat 231, []), 226) := rfl
theorem T_114_226 : hTab 114 226 = some ((0, 0, 15, []), 228) := rfl
theorem T_114_228 : hTab 114 228 = some ((22, 0, Int.ofNat 383, []), 231) := rfl
theorem T_114_231 : hTab 114 231 = some ((3, 0, 2, []), 232) := rfl
theorem T_114_232 : hTab 114 232 = some ((0, 0, 0, []), 233) := rfl
theorem T_114_233 : hTab 114 233 = some ((34, 41, 0, []), 235) := rfl
theorem T_114_235 : hTab 114 235 = some ((31, 115, 0, []), 238) := rfl
theorem T_114_238 : hTab 114 238 = some ((18, 0, Int.ofNat 246, []), 241) := rfl
theorem T_114_241 : hTab 114 241 = some ((0, 0, 16, []), 243) := rfl
theorem T_114_243 : hTab 114 243 = some ((22, 0, Int.ofNat 383, []), 246) := rfl
theorem T_114_246 : hTab 114 246 = some ((3, 0, 2, []), 247) := rfl
theorem T_114_247 : hTab 114 247 = some ((0, 0, 0, []), 248) := rfl
theorem T_114_248 : hTab 114 248 = some ((34, 42, 0, []), 250) := rfl
theorem T_114_250 : hTab 114 250 = some ((31, 115, 0, []), 253) := rfl
theorem T_114_253 : hTab 114 253 = some ((18, 0, Int.ofNat 261, []), 256) := rfl
theorem T_114_256 : hTab 114 256 = some ((0, 0, 17, []), 258) := rfl
theorem T_114_258 : hTab 114 258 = some ((22, 0, Int.ofNat 383, []), 261) := rfl
theorem T_114_261 : hTab 114 261 = some ((3, 0, 2, []), 262) := rfl
theorem T_114_262 : hTab 114 262 = some ((0, 0, 0, []), 263) := rfl
theorem T_114_263 : hTab 114 263 = some ((34, 43, 0, []), 265) := rfl
theorem T_114_265 : hTab 114 265 = some ((31, 115, 0, []), 268) := rfl
theorem T_114_268 : hTab 114 268 = some ((18, 0, Int.ofNat 276, []), 271) := rfl
theorem T_114_271 : hTab 114 271 = some ((0, 0, 18, []), 273) := rfl
theorem T_114_273 : hTab 114 273 = some ((22, 0, Int.ofNat 383, []), 276) := rfl
theorem T_114_276 : hTab 114 276 = some ((3, 0, 2, []), 277) := rfl
theorem T_114_277 : hTab 114 277 = some ((0, 0, 0, []), 278) := rfl
theorem T_114_278 : hTab 114 278 = some ((34, 44, 0, []), 280) := rfl
theorem T_114_280 : hTab 114 280 = some ((31, 115, 0, []), 283) := rfl
theorem T_114_283 : hTab 114 283 = some ((18, 0, Int.ofNat 291, []), 286) := rfl
theorem T_114_286 : hTab 114 286 = some ((0, 0, 19, []), 288) := rfl
theorem T_114_288 : hTab 114 288 = some ((22, 0, Int.ofNat 383, []), 291) := rfl
theorem T_114_291 : hTab 114 291 = some ((3, 0, 2, []), 292) := rfl
theorem T_114_292 : hTab 114 292 = some ((0, 0, 0, []), 293) := rfl
theorem T_114_293 : hTab 114 293 = some ((34, 45, 0, []), 295) := rfl
theorem T_114_295 : hTab 114 295 = some ((31, 115, 0, []), 298) := rfl
theorem T_114_298 : hTab 114 298 = some ((18, 0, Int.ofNat 306, []), 301) := rfl
theorem T_114_301 : hTab 114 301 = some ((0, 0, 20, []), 303) := rfl
theorem T_114_303 : hTab 114 303 = some ((22, 0, Int.ofNat 383, []), 306) := rfl
theorem T_114_306 : hTab 114 306 = some ((3, 0, 2, []), 307) := rfl
theorem T_114_307 : hTab 114 307 = some ((0, 0, 0, []), 308) := rfl
theorem T_114_308 : hTab 114 308 = some ((34, 46, 0, []), 310) := rfl
theorem T_114_310 : hTab 114 310 = some ((31, 115, 0, []), 313) := rfl
theorem T_114_313 : hTab 114 313 = some ((18, 0, Int.ofNat 321, []), 316) := rfl
theorem T_114_316 : hTab 114 316 = some ((0, 0, 21, []), 318) := rfl
theorem T_114_318 : hTab 114 318 = some ((22, 0, Int.ofNat 383, []), 321) := rfl
theorem T_114_321 : hTab 114 321 = some ((3, 0, 2, []), 322) := rfl
theorem T_114_322 : hTab 114 322 = some ((0, 0, 0, []), 323) := rfl
theorem T_114_323 : hTab 114 323 = some ((34, 47, 0, []), 325) := rfl
theorem T_114_325 : hTab 114 325 = some ((31, 115, 0, []), 328) := rfl
theorem T_114_328 : hTab 114 328 = some ((18, 0, Int.ofNat 336, []), 331) := rfl
theorem T_114_331 : hTab 114 331 = some ((0, 0, 22, []), 333) := rfl
theorem T_114_333 : hTab 114 333 = some ((22, 0, Int.ofNat 383, []), 336) := rfl
theorem T_114_336 : hTab 114 336 = some ((3, 0, 2, []), 337) := rfl
theorem T_114_337 : hTab 114 337 = some ((0, 0, 0, []), 338) := rfl
theorem T_114_338 : hTab 114 338 = some ((34, 48, 0, []), 340) := rfl
theorem T_114_340 : hTab 114 340 = some ((31, 115, 0, []), 343) := rfl
theorem T_114_343 : hTab 114 343 = some ((18, 0, Int.ofNat 351, []), 346) := rfl
theorem T_114_346 : hTab 114 346 = some ((0, 0, 23, []), 348) := rfl
theorem T_114_348 : hTab 114 348 = some ((22, 0, Int.ofNat 383, []), 351) := rfl
theorem T_114_351 : hTab 114 351 = some ((3, 0, 2, []), 352) := rfl
theorem T_114_352 : hTab 114 352 = some ((0, 0, 0, []), 353) := rfl
theorem T_114_353 : hTab 114 353 = some ((34, 49, 0, []), 355) := rfl
theorem T_114_355 : hTab 114 355 = some ((31, 115, 0, []), 358) := rfl
theorem T_114_358 : hTab 114 358 = some ((18, 0, Int.ofNat 366, []), 361) := rfl
theorem T_114_361 : hTab 114 361 = some ((0, 0, 24, []), 363) := rfl
theorem T_114_363 : hTab 114 363 = some ((22, 0, Int.ofNat 383, []), 366) := rfl
theorem T_114_366 : hTab 114 366 = some ((3, 0, 2, []), 367) := rfl
theorem T_114_367 : hTab 114 367 = some ((0, 0, 0, []), 368) := rfl
theorem T_114_368 : hTab 114 368 = some ((34, 50, 0, []), 370) := rfl
theorem T_114_370 : hTab 114 370 = some ((31, 115, 0, []), 373) := rfl
theorem T_114_373 : hTab 114 373 = some ((18, 0, Int.ofNat 381, []), 376) := rfl
theorem T_114_376 : hTab 114 376 = some ((0, 0, 25, []), 378) := rfl
theorem T_114_378 : hTab 114 378 = some ((22, 0, Int.ofNat 383, []), 381) := rfl
theorem T_114_381 : hTab 114 381 = some ((0, 0, 26, []), 383) := rfl
theorem T_114_383 : hTab 114 383 = some ((33, 1, 0, []), 384) := rfl
theorem T_115_0 : hTab 115 0 = some ((3, 1, 0, []), 1) := rfl
theorem T_115_1 : hTab 115 1 = some ((3, 0, 2, []), 2) := rfl
theorem T_115_2 : hTab 115 2 = some ((24, 16, Int.ofNat 4, []), 5) := rfl
theorem T_115_5 : hTab 115 5 = some ((19, 3, Int.ofNat 33, []), 8) := rfl
theorem T_115_8 : hTab 115 8 = some ((3, 0, 2, []), 9) := rfl
theorem T_115_9 : hTab 115 9 = some ((24, 16, Int.ofNat 0, []), 12) := rfl
theorem T_115_12 : hTab 115 12 = some ((3, 0, 2, []), 13) := rfl
theorem T_115_13 : hTab 115 13 = some ((3, 1, 0, []), 14) := rfl
theorem T_115_14 : hTab 115 14 = some ((31, 104, 0, []), 17) := rfl
theorem T_115_17 : hTab 115 17 = some ((3, 0, 2, []), 18) := rfl
theorem T_115_18 : hTab 115 18 = some ((3, 1, 0, []), 19) := rfl
theorem T_115_19 : hTab 115 19 = some ((31, 106, 0, []), 22) := rfl
theorem T_115_22 : hTab 115 22 = some ((3, 2, 2, []), 23) := rfl
theorem T_115_23 : hTab 115 23 = some ((31, 47, 0, []), 26) := rfl
theorem T_115_26 : hTab 115 26 = some ((18, 0, Int.ofNat 33, []), 29) := rfl
theorem T_115_29 : hTab 115 29 = some ((0, 0, 1, []), 30) := rfl
theorem T_115_30 : hTab 115 30 = some ((22, 0, Int.ofNat 34, []), 33) := rfl
theorem T_115_33 : hTab 115 33 = some ((0, 0, 0, []), 34) := rfl
theorem T_115_34 : hTab 115 34 = some ((33, 2, 0, []), 35) := rfl
theorem mN_114 : hmN 114 = 1 := by decide +kernel
theorem mL_114 : hmL 114 = 1 := by decide +kernel
theorem mK_114 : hmK 114 = 1 := by decide +kernel
theorem mO_114 : hmO 114 = 16 := by decide +kernel
theorem mN_115 : hmN 115 = 3 := by decide +kernel
theorem mL_115 : hmL 115 = 3 := by decide +kernel
theorem mK_115 : hmK 115 = 1 := by decide +kernel
theorem mO_115 : hmO 115 = 16 := by decide +kernel
section XVB
variable {fb : Bool} {d b q m k c n j : Nat} {σ0 σ : hM} {W W0 W1 W2 P Q : qR} {R R2 : rR} {i x z v s e w p K T U N : Int} {l l0 lo nm wd : List Int}
theorem x_is (hj : j < 58) (hP : PX σ0 W R σ) (h : CMD W k l) (hw : 0 ≤ w ∧ w < ((lnW l).length : Int)) : CL fb (d + 5) 115 [vR (some k), vI w, vR (some (4 + 2 * j))] σ (rP (if lnB l w = txt j then 1 else 0) σ) := by
  obtain ⟨-, a, e, ha, he, h1, h2, h3, h4⟩ := h.word hw
  have hB := h.2.2.2.1
  have hl := hB.2.2.2.2.1
  have hso := x_startOf (fb := fb) (d := d + 4) hP h hw ha
  have heo := x_endOf (fb := fb) (d := d + 4) hP h hw he
  have hsp := x_spells (fb := fb) (d := d) (s := a) (e := e) hj hP hB rfl ⟨by omega, by omega⟩ ⟨by omega, by omega⟩
  have h5 := h.2.2.2.2.1
  obtain ⟨n, hn⟩ : ∃ q : Int, ((lnW l).length : Int) = q := ⟨_, rfl⟩
  rw [hn] at h5 hw
  rw [← h4] at hsp
  obtain ⟨a4, ha4⟩ : ∃ q, 4 + 2 * j = q := ⟨_, rfl⟩
  rw [ha4] at hsp ⊢
  by_cases q : lnB l w = txt j
  · rw [if_pos ⟨⟨h1, h3⟩, by omega, q⟩] at hsp
    rw [if_pos q]
    refine CL_in mL_115 rfl ?_
    show WP fb _ 115 0 [some (vR (some k)), some (vI w), some (vR (some a4))] [] σ _
    refine x_li (z := w) T_115_0 rfl ?_
    refine x_lr (z := some k) T_115_1 rfl ?_
    refine x_gI (z := n) T_115_2 (Or.inl F_16_4) (hP.o h.1) (Eq.trans (hP.gi h.1 (key := 2516) rfl) h5) ?_
    refine x_ic2 T_115_5 (fun h => absurd (show n ≤ w from h) (by omega)) (fun _ => ?_)
    refine x_lr (z := some k) T_115_8 rfl ?_
    refine x_gR (z := some (k + 1)) T_115_9 F_16_0 (hP.o h.1) (hP.rc h.1 rfl rfl) ?_
    refine x_lr (z := some k) T_115_12 rfl ?_
    refine x_li (z := w) T_115_13 rfl ?_
    refine x_cv2 T_115_14 mN_104 mL_104 (Nat.le_of_ble_eq_true rfl) mO_104 (hP.o h.1) (Nat.le_of_ble_eq_true rfl) (hso) ?_
    rintro _ σ ⟨rfl, rfl⟩
    refine cI ?_
    refine x_lr (z := some k) T_115_17 rfl ?_
    refine x_li (z := w) T_115_18 rfl ?_
    refine x_cv2 T_115_19 mN_106 mL_106 (Nat.le_of_ble_eq_true rfl) mO_106 (hP.o h.1) (Nat.le_of_ble_eq_true rfl) (heo) ?_
    rintro _ σ ⟨rfl, rfl⟩
    refine cI ?_
    refine x_lr (z := some a4) T_115_22 rfl ?_
    refine x_cv4 T_115_23 mN_47 mL_47 (Nat.le_of_ble_eq_true rfl) mO_47 (hP.o hB.1) (Nat.le_of_ble_eq_true rfl) (hsp) ?_
    rintro _ σ ⟨rfl, rfl⟩
    refine cI ?_
    refine x_if T_115_26 (fun h => absurd (show (1 : Int) = 0 from h) (by decide)) (fun _ => ?_)
    refine x_ic T_115_29 ?_
    refine x_goto T_115_30 ?_
    refine x_rz T_115_34 rfl ?_
    exact ⟨rfl, rfl⟩
  · rw [if_neg (fun c => q c.2.2)] at hsp
    rw [if_neg q]
    refine CL_in mL_115 rfl ?_
    show WP fb _ 115 0 [some (vR (some k)), some (vI w), some (vR (some a4))] [] σ _
    refine x_li (z := w) T_115_0 rfl ?_
    refine x_lr (z := some k) T_115_1 rfl ?_
    refine x_gI (z := n) T_115_2 (Or.inl F_16_4) (hP.o h.1) (Eq.trans (hP.gi h.1 (key := 2516) rfl) h5) ?_
    refine x_ic2 T_115_5 (fun h => absurd (show n ≤ w from h) (by omega)) (fun _ => ?_)
    refine x_lr (z := some k) T_115_8 rfl ?_
    refine x_gR (z := some (k + 1)) T_115_9 F_16_0 (hP.o h.1) (hP.rc h.1 rfl rfl) ?_
    refine x_lr (z := some k) T_115_12 rfl ?_
    refine x_li (z := w) T_115_13 rfl ?_
    refine x_cv2 T_115_14 mN_104 mL_104 (Nat.le_of_ble_eq_true rfl) mO_104 (hP.o h.1) (Nat.le_of_ble_eq_true rfl) (hso) ?_
    rintro _ σ ⟨rfl, rfl⟩
    refine cI ?_
    refine x_lr (z := some k) T_115_17 rfl ?_
    refine x_li (z := w) T_115_18 rfl ?_
    refine x_cv2 T_115_19 mN_106 mL_106 (Nat.le_of_ble_eq_true rfl) mO_106 (hP.o h.1) (Nat.le_of_ble_eq_true rfl) (heo) ?_
    rintro _ σ ⟨rfl, rfl⟩
    refine cI ?_
    refine x_lr (z := some a4) T_115_22 rfl ?_
    refine x_cv4 T_115_23 mN_47 mL_47 (Nat.le_of_ble_eq_true rfl) mO_47 (hP.o hB.1) (Nat.le_of_ble_eq_true rfl) (hsp) ?_
    rintro _ σ ⟨rfl, rfl⟩
    refine cI ?_
    refine x_if T_115_26 (fun _ => ?_) (fun h => absurd (show (0 : Int) = 0 by rfl) h)
    refine x_ic T_115_33 ?_
    refine x_rz T_115_34 rfl ?_
    exact ⟨rfl, rfl⟩
def vbN (wd : List Int) : Int := if wd = txt 22 then 1 else if wd = txt 23 then 2 else if wd = txt 24 then 3 else if wd = txt 25 then 4 else if wd = txt 26 then 5 else if wd = txt 27 then 6 else if wd = txt 28 then 7 else if wd = txt 29 then 8 else if wd = txt 30 then 9 else if wd = txt 31 then 10 else if wd = txt 32 then 11 else if wd = txt 33 then 12 else if wd = txt 34 then 13 else if wd = txt 35 then 14 else if wd = txt 36 then 15 else if wd = txt 37 then 16 else if wd = txt 38 then 17 else if wd = txt 39 then 18 else if wd = txt 40 then 19 else if wd = txt 41 then 20 else if wd = txt 42 then 21 else if wd = txt 43 then 22 else if wd = txt 44 then 23 else if wd = txt 45 then 24 else if wd = txt 46 then 25 else 26
theorem x_verb0 (hP : PX σ0 W R σ) (h : CMD W k l) (hw : ((lnW l).length : Int) = 0) : CL fb d 114 [vR (some k)] σ (rP 0 σ) := by
  have h5 := h.2.2.2.2.1.trans hw
  refine CL_in mL_114 rfl ?_
  show WP fb _ 114 0 [some (vR (some k))] [] σ _
  refine x_lr (z := some k) T_114_0 rfl ?_
  refine x_gI (z := 0) T_114_1 (Or.inl F_16_4) (hP.o h.1) (Eq.trans (hP.gi h.1 (key := 2516) rfl) h5) ?_
  refine x_if T_114_4 (fun h => absurd (show ¬ (0 : Int) = 0 from h) (by decide)) (fun _ => ?_)
  refine x_ic T_114_7 ?_
  refine x_goto T_114_8 ?_
  refine x_ri T_114_383 ?_
  exact ⟨rfl, rfl⟩
theorem x_verb (hP : PX σ0 W R σ) (h : CMD W k l) (hw : 0 < ((lnW l).length : Int)) : CL fb (d + 6) 114 [vR (some k)] σ (rP (vbN (lnB l 0)) σ) := by
  have h5 := h.2.2.2.2.1
  have his := fun (j : Nat) (hj : j < 58) => x_is (fb := fb) (d := d) (w := 0) hj hP h ⟨by decide, hw⟩
  obtain ⟨n, hn⟩ : ∃ q : Int, ((lnW l).length : Int) = q := ⟨_, rfl⟩
  rw [hn] at h5 hw
  obtain ⟨wd, hwd⟩ : ∃ q, lnB l 0 = q := ⟨_, rfl⟩
  simp only [hwd] at his
  rw [hwd]
  unfold vbN
  have h22 := his 22 (by decide)
  by_cases q22 : wd = txt 22
  · rw [if_pos q22] at h22
    rw [if_pos q22]
    refine CL_in mL_114 rfl ?_
    show WP fb _ 114 0 [some (vR (some k))] [] σ _
    refine x_lr (z := some k) T_114_0 rfl ?_
    refine x_gI (z := n) T_114_1 (Or.inl F_16_4) (hP.o h.1) (Eq.trans (hP.gi h.1 (key := 2516) rfl) h5) ?_
    refine x_if T_114_4 (fun _ => ?_) (fun h => absurd (show ¬ n = 0 by omega) h)
    refine x_lr (z := some k) T_114_11 rfl ?_
    refine x_ic T_114_12 ?_
    refine x_sta T_114_13 rfl ?_
    refine x_cv3 T_114_15 mN_115 mL_115 (Nat.le_of_ble_eq_true rfl) mO_115 (hP.o h.1) (Nat.le_of_ble_eq_true rfl) (h22) ?_
    rintro _ σ ⟨rfl, rfl⟩
    refine cI ?_
    refine x_if T_114_18 (fun h => absurd (show (1 : Int) = 0 from h) (by decide)) (fun _ => ?_)
    refine x_ic T_114_21 ?_
    refine x_goto T_114_22 ?_
    refine x_ri T_114_383 ?_
    exact ⟨rfl, rfl⟩
  rw [if_neg q22] at h22
  rw [if_neg q22]
  have hn22 := h22
  have h23 := his 23 (by decide)
  by_cases q23 : wd = txt 23
  · rw [if_pos q23] at h23
    rw [if_pos q23]
    refine CL_in mL_114 rfl ?_
    show WP fb _ 114 0 [some (vR (some k))] [] σ _
    refine x_lr (z := some k) T_114_0 rfl ?_
    refine x_gI (z := n) T_114_1 (Or.inl F_16_4) (hP.o h.1) (Eq.trans (hP.gi h.1 (key := 2516) rfl) h5) ?_
    refine x_if T_114_4 (fun _ => ?_) (fun h => absurd (show ¬ n = 0 by omega) h)
    refine x_lr (z := some k) T_114_11 rfl ?_
    refine x_ic T_114_12 ?_
    refine x_sta T_114_13 rfl ?_
    refine x_cv3 T_114_15 mN_115 mL_115 (Nat.le_of_ble_eq_true rfl) mO_115 (hP.o h.1) (Nat.le_of_ble_eq_true rfl) (hn22) ?_
    rintro _ σ ⟨rfl, rfl⟩
    refine cI ?_
    refine x_if T_114_18 (fun _ => ?_) (fun h => absurd (show (0 : Int) = 0 by rfl) h)
    refine x_lr (z := some k) T_114_25 rfl ?_
    refine x_ic T_114_26 ?_
    refine x_sta T_114_27 rfl ?_
    refine x_cv3 T_114_29 mN_115 mL_115 (Nat.le_of_ble_eq_true rfl) mO_115 (hP.o h.1) (Nat.le_of_ble_eq_true rfl) (h23) ?_
    rintro _ σ ⟨rfl, rfl⟩
    refine cI ?_
    refine x_if T_114_32 (fun h => absurd (show (1 : Int) = 0 from h) (by decide)) (fun _ => ?_)
    refine x_ic T_114_35 ?_
    refine x_goto T_114_36 ?_
    refine x_ri T_114_383 ?_
    exact ⟨rfl, rfl⟩
  rw [if_neg q23] at h23
  rw [if_neg q23]
  have hn23 := h23
  have h24 := his 24 (by decide)
  by_cases q24 : wd = txt 24
  · rw [if_pos q24] at h24
    rw [if_pos q24]
    refine CL_in mL_114 rfl ?_
    show WP fb _ 114 0 [some (vR (some k))] [] σ _
    refine x_lr (z := some k) T_114_0 rfl ?_
    refine x_gI (z := n) T_114_1 (Or.inl F_16_4) (hP.o h.1) (Eq.trans (hP.gi h.1 (key := 2516) rfl) h5) ?_
    refine x_if T_114_4 (fun _ => ?_) (fun h => absurd (show ¬ n = 0 by omega) h)
    refine x_lr (z := some k) T_114_11 rfl ?_
    refine x_ic T_114_12 ?_
    refine x_sta T_114_13 rfl ?_
    refine x_cv3 T_114_15 mN_115 mL_115 (Nat.le_of_ble_eq_true rfl) mO_115 (hP.o h.1) (Nat.le_of_ble_eq_true rfl) (hn22) ?_
    rintro _ σ ⟨rfl, rfl⟩
    refine cI ?_
    refine x_if T_114_18 (fun _ => ?_) (fun h => absurd (show (0 : Int) = 0 by rfl) h)
    refine x_lr (z := some k) T_114_25 rfl ?_
    refine x_ic T_114_26 ?_
    refine x_sta T_114_27 rfl ?_
    refine x_cv3 T_114_29 mN_115 mL_115 (Nat.le_of_ble_eq_true rfl) mO_115 (hP.o h.1) (Nat.le_of_ble_eq_true rfl) (hn23) ?_
    rintro _ σ ⟨rfl, rfl⟩
    refine cI ?_
    refine x_if T_114_32 (fun _ => ?_) (fun h => absurd (show (0 : Int) = 0 by rfl) h)
    refine x_lr (z := some k) T_114_39 rfl ?_
    refine x_ic T_114_40 ?_
    refine x_sta T_114_41 rfl ?_
    refine x_cv3 T_114_43 mN_115 mL_115 (Nat.le_of_ble_eq_true rfl) mO_115 (hP.o h.1) (Nat.le_of_ble_eq_true rfl) (h24) ?_
    rintro _ σ ⟨rfl, rfl⟩
    refine cI ?_
    refine x_if T_114_46 (fun h => absurd (show (1 : Int) = 0 from h) (by decide)) (fun _ => ?_)
    refine x_ic T_114_49 ?_
    refine x_goto T_114_50 ?_
    refine x_ri T_114_383 ?_
    exact ⟨rfl, rfl⟩
  rw [if_neg q24] at h24
  rw [if_neg q24]
  have hn24 := h24
  have h25 := his 25 (by decide)
  by_cases q25 : wd = txt 25
  · rw [if_pos q25] at h25
    rw [if_pos q25]
    refine CL_in mL_114 rfl ?_
    show WP fb _ 114 0 [some (vR (some k))] [] σ _
    refine x_lr (z := some k) T_114_0 rfl ?_
    refine x_gI (z := n) T_114_1 (Or.inl F_16_4) (hP.o h.1) (Eq.trans (hP.gi h.1 (key := 2516) rfl) h5) ?_
    refine x_if T_114_4 (fun _ => ?_) (fun h => absurd (show ¬ n = 0 by omega) h)
    refine x_lr (z := some k) T_114_11 rfl ?_
    refine x_ic T_114_12 ?_
    refine x_sta T_114_13 rfl ?_
    refine x_cv3 T_114_15 mN_115 mL_115 (Nat.le_of_ble_eq_true rfl) mO_115 (hP.o h.1) (Nat.le_of_ble_eq_true rfl) (hn22) ?_
    rintro _ σ ⟨rfl, rfl⟩
    refine cI ?_
    refine x_if T_114_18 (fun _ => ?_) (fun h => absurd (show (0 : Int) = 0 by rfl) h)
    refine x_lr (z := some k) T_114_25 rfl ?_
    refine x_ic T_114_26 ?_
    refine x_sta T_114_27 rfl ?_
    refine x_cv3 T_114_29 mN_115 mL_115 (Nat.le_of_ble_eq_true rfl) mO_115 (hP.o h.1) (Nat.le_of_ble_eq_true rfl) (hn23) ?_
    rintro _ σ ⟨rfl, rfl⟩
    refine cI ?_
    refine x_if T_114_32 (fun _ => ?_) (fun h => absurd (show (0 : Int) = 0 by rfl) h)
    refine x_lr (z := some k) T_114_39 rfl ?_
    refine x_ic T_114_40 ?_
    refine x_sta T_114_41 rfl ?_
    refine x_cv3 T_114_43 mN_115 mL_115 (Nat.le_of_ble_eq_true rfl) mO_115 (hP.o h.1) (Nat.le_of_ble_eq_true rfl) (hn24) ?_
    rintro _ σ ⟨rfl, rfl⟩
    refine cI ?_
    refine x_if T_114_46 (fun _ => ?_) (fun h => absurd (show (0 : Int) = 0 by rfl) h)
    refine x_lr (z := some k) T_114_53 rfl ?_
    refine x_ic T_114_54 ?_
    refine x_sta T_114_55 rfl ?_
    refine x_cv3 T_114_57 mN_115 mL_115 (Nat.le_of_ble_eq_true rfl) mO_115 (hP.o h.1) (Nat.le_of_ble_eq_true rfl) (h25) ?_
    rintro _ σ ⟨rfl, rfl⟩
    refine cI ?_
    refine x_if T_114_60 (fun h => absurd (show (1 : Int) = 0 from h) (by decide)) (fun _ => ?_)
    refine x_ic T_114_63 ?_
    refine x_goto T_114_64 ?_
    refine x_ri T_114_383 ?_
    exact ⟨rfl, rfl⟩
  rw [if_neg q25] at h25
  rw [if_neg q25]
  have hn25 := h25
  have h26 := his 26 (by decide)
  by_cases q26 : wd = txt 26
  · rw [if_pos q26] at h26
    rw [if_pos q26]
    refine CL_in mL_114 rfl ?_
    show WP fb _ 114 0 [some (vR (some k))] [] σ _
    refine x_lr (z := some k) T_114_0 rfl ?_
    refine x_gI (z := n) T_114_1 (Or.inl F_16_4) (hP.o h.1) (Eq.trans (hP.gi h.1 (key := 2516) rfl) h5) ?_
    refine x_if T_114_4 (fun _ => ?_) (fun h => absurd (show ¬ n = 0 by omega) h)
    refine x_lr (z := some k) T_114_11 rfl ?_
    refine x_ic T_114_12 ?_
    refine x_sta T_114_13 rfl ?_
    refine x_cv3 T_114_15 mN_115 mL_115 (Nat.le_of_ble_eq_true rfl) mO_115 (hP.o h.1) (Nat.le_of_ble_eq_true rfl) (hn22) ?_
    rintro _ σ ⟨rfl, rfl⟩
    refine cI ?_
    refine x_if T_114_18 (fun _ => ?_) (fun h => absurd (show (0 : Int) = 0 by rfl) h)
    refine x_lr (z := some k) T_114_25 rfl ?_
    refine x_ic T_114_26 ?_
    refine x_sta T_114_27 rfl ?_
    refine x_cv3 T_114_29 mN_115 mL_115 (Nat.le_of_ble_eq_true rfl) mO_115 (hP.o h.1) (Nat.le_of_ble_eq_true rfl) (hn23) ?_
    rintro _ σ ⟨rfl, rfl⟩
    refine cI ?_
    refine x_if T_114_32 (fun _ => ?_) (fun h => absurd (show (0 : Int) = 0 by rfl) h)
    refine x_lr (z := some k) T_114_39 rfl ?_
    refine x_ic T_114_40 ?_
    refine x_sta T_114_41 rfl ?_
    refine x_cv3 T_114_43 mN_115 mL_115 (Nat.le_of_ble_eq_true rfl) mO_115 (hP.o h.1) (Nat.le_of_ble_eq_true rfl) (hn24) ?_
    rintro _ σ ⟨rfl, rfl⟩
    refine cI ?_
    refine x_if T_114_46 (fun _ => ?_) (fun h => absurd (show (0 : Int) = 0 by rfl) h)
    refine x_lr (z := some k) T_114_53 rfl ?_
    refine x_ic T_114_54 ?_
    refine x_sta T_114_55 rfl ?_
    refine x_cv3 T_114_57 mN_115 mL_115 (Nat.le_of_ble_eq_true rfl) mO_115 (hP.o h.1) (Nat.le_of_ble_eq_true rfl) (hn25) ?_
    rintro _ σ ⟨rfl, rfl⟩
    refine cI ?_
    refine x_if T_114_60 (fun _ => ?_) (fun h => absurd (show (0 : Int) = 0 by rfl) h)
    refine x_lr (z := some k) T_114_67 rfl ?_
    refine x_ic T_114_68 ?_
    refine x_sta T_114_69 rfl ?_
    refine x_cv3 T_114_71 mN_115 mL_115 (Nat.le_of_ble_eq_true rfl) mO_115 (hP.o h.1) (Nat.le_of_ble_eq_true rfl) (h26) ?_
    rintro _ σ ⟨rfl, rfl⟩
    refine cI ?_
    refine x_if T_114_74 (fun h => absurd (show (1 : Int) = 0 from h) (by decide)) (fun _ => ?_)
    refine x_ic T_114_77 ?_
    refine x_goto T_114_78 ?_
    refine x_ri T_114_383 ?_
    exact ⟨rfl, rfl⟩
  rw [if_neg q26] at h26
  rw [if_neg q26]
  have hn26 := h26
  have h27 := his 27 (by decide)
  by_cases q27 : wd = txt 27
  · rw [if_pos q27] at h27
    rw [if_pos q27]
    refine CL_in mL_114 rfl ?_
    show WP fb _ 114 0 [some (vR (some k))] [] σ _
    refine x_lr (z := some k) T_114_0 rfl ?_
    refine x_gI (z := n) T_114_1 (Or.inl F_16_4) (hP.o h.1) (Eq.trans (hP.gi h.1 (key := 2516) rfl) h5) ?_
    refine x_if T_114_4 (fun _ => ?_) (fun h => absurd (show ¬ n = 0 by omega) h)
    refine x_lr (z := some k) T_114_11 rfl ?_
    refine x_ic T_114_12 ?_
    refine x_sta T_114_13 rfl ?_
    refine x_cv3 T_114_15 mN_115 mL_115 (Nat.le_of_ble_eq_true rfl) mO_115 (hP.o h.1) (Nat.le_of_ble_eq_true rfl) (hn22) ?_
    rintro _ σ ⟨rfl, rfl⟩
    refine cI ?_
    refine x_if T_114_18 (fun _ => ?_) (fun h => absurd (show (0 : Int) = 0 by rfl) h)
    refine x_lr (z := some k) T_114_25 rfl ?_
    refine x_ic T_114_26 ?_
    refine x_sta T_114_27 rfl ?_
    refine x_cv3 T_114_29 mN_115 mL_115 (Nat.le_of_ble_eq_true rfl) mO_115 (hP.o h.1) (Nat.le_of_ble_eq_true rfl) (hn23) ?_
    rintro _ σ ⟨rfl, rfl⟩
    refine cI ?_
    refine x_if T_114_32 (fun _ => ?_) (fun h => absurd (show (0 : Int) = 0 by rfl) h)
    refine x_lr (z := some k) T_114_39 rfl ?_
    refine x_ic T_114_40 ?_
    refine x_sta T_114_41 rfl ?_
    refine x_cv3 T_114_43 mN_115 mL_115 (Nat.le_of_ble_eq_true rfl) mO_115 (hP.o h.1) (Nat.le_of_ble_eq_true rfl) (hn24) ?_
    rintro _ σ ⟨rfl, rfl⟩
    refine cI ?_
    refine x_if T_114_46 (fun _ => ?_) (fun h => absurd (show (0 : Int) = 0 by rfl) h)
    refine x_lr (z := some k) T_114_53 rfl ?_
    refine x_ic T_114_54 ?_
    refine x_sta T_114_55 rfl ?_
    refine x_cv3 T_114_57 mN_115 mL_115 (Nat.le_of_ble_eq_true rfl) mO_115 (hP.o h.1) (Nat.le_of_ble_eq_true rfl) (hn25) ?_
    rintro _ σ ⟨rfl, rfl⟩
    refine cI ?_
    refine x_if T_114_60 (fun _ => ?_) (fun h => absurd (show (0 : Int) = 0 by rfl) h)
    refine x_lr (z := some k) T_114_67 rfl ?_
    refine x_ic T_114_68 ?_
    refine x_sta T_114_69 rfl ?_
    refine x_cv3 T_114_71 mN_115 mL_115 (Nat.le_of_ble_eq_true rfl) mO_115 (hP.o h.1) (Nat.le_of_ble_eq_true rfl) (hn26) ?_
    rintro _ σ ⟨rfl, rfl⟩
    refine cI ?_
    refine x_if T_114_74 (fun _ => ?_) (fun h => absurd (show (0 : Int) = 0 by rfl) h)
    refine x_lr (z := some k) T_114_81 rfl ?_
    refine x_ic T_114_82 ?_
    refine x_sta T_114_83 rfl ?_
    refine x_cv3 T_114_85 mN_115 mL_115 (Nat.le_of_ble_eq_true rfl) mO_115 (hP.o h.1) (Nat.le_of_ble_eq_true rfl) (h27) ?_
    rintro _ σ ⟨rfl, rfl⟩
    refine cI ?_
    refine x_if T_114_88 (fun h => absurd (show (1 : Int) = 0 from h) (by decide)) (fun _ => ?_)
    refine x_ic T_114_91 ?_
    refine x_goto T_114_93 ?_
    refine x_ri T_114_383 ?_
    exact ⟨rfl, rfl⟩
  rw [if_neg q27] at h27
  rw [if_neg q27]
  have hn27 := h27
  have h28 := his 28 (by decide)
  by_cases q28 : wd = txt 28
  · rw [if_pos q28] at h28
    rw [if_pos q28]
    refine CL_in mL_114 rfl ?_
    show WP fb _ 114 0 [some (vR (some k))] [] σ _
    refine x_lr (z := some k) T_114_0 rfl ?_
    refine x_gI (z := n) T_114_1 (Or.inl F_16_4) (hP.o h.1) (Eq.trans (hP.gi h.1 (key := 2516) rfl) h5) ?_
    refine x_if T_114_4 (fun _ => ?_) (fun h => absurd (show ¬ n = 0 by omega) h)
    refine x_lr (z := some k) T_114_11 rfl ?_
    refine x_ic T_114_12 ?_
    refine x_sta T_114_13 rfl ?_
    refine x_cv3 T_114_15 mN_115 mL_115 (Nat.le_of_ble_eq_true rfl) mO_115 (hP.o h.1) (Nat.le_of_ble_eq_true rfl) (hn22) ?_
    rintro _ σ ⟨rfl, rfl⟩
    refine cI ?_
    refine x_if T_114_18 (fun _ => ?_) (fun h => absurd (show (0 : Int) = 0 by rfl) h)
    refine x_lr (z := some k) T_114_25 rfl ?_
    refine x_ic T_114_26 ?_
    refine x_sta T_114_27 rfl ?_
    refine x_cv3 T_114_29 mN_115 mL_115 (Nat.le_of_ble_eq_true rfl) mO_115 (hP.o h.1) (Nat.le_of_ble_eq_true rfl) (hn23) ?_
    rintro _ σ ⟨rfl, rfl⟩
    refine cI ?_
    refine x_if T_114_32 (fun _ => ?_) (fun h => absurd (show (0 : Int) = 0 by rfl) h)
    refine x_lr (z := some k) T_114_39 rfl ?_
    refine x_ic T_114_40 ?_
    refine x_sta T_114_41 rfl ?_
    refine x_cv3 T_114_43 mN_115 mL_115 (Nat.le_of_ble_eq_true rfl) mO_115 (hP.o h.1) (Nat.le_of_ble_eq_true rfl) (hn24) ?_
    rintro _ σ ⟨rfl, rfl⟩
    refine cI ?_
    refine x_if T_114_46 (fun _ => ?_) (fun h => absurd (show (0 : Int) = 0 by rfl) h)
    refine x_lr (z := some k) T_114_53 rfl ?_
    refine x_ic T_114_54 ?_
    refine x_sta T_114_55 rfl ?_
    refine x_cv3 T_114_57 mN_115 mL_115 (Nat.le_of_ble_eq_true rfl) mO_115 (hP.o h.1) (Nat.le_of_ble_eq_true rfl) (hn25) ?_
    rintro _ σ ⟨rfl, rfl⟩
    refine cI ?_
    refine x_if T_114_60 (fun _ => ?_) (fun h => absurd (show (0 : Int) = 0 by rfl) h)
    refine x_lr (z := some k) T_114_67 rfl ?_
    refine x_ic T_114_68 ?_
    refine x_sta T_114_69 rfl ?_
    refine x_cv3 T_114_71 mN_115 mL_115 (Nat.le_of_ble_eq_true rfl) mO_115 (hP.o h.1) (Nat.le_of_ble_eq_true rfl) (hn26) ?_
    rintro _ σ ⟨rfl, rfl⟩
    refine cI ?_
    refine x_if T_114_74 (fun _ => ?_) (fun h => absurd (show (0 : Int) = 0 by rfl) h)
    refine x_lr (z := some k) T_114_81 rfl ?_
    refine x_ic T_114_82 ?_
    refine x_sta T_114_83 rfl ?_
    refine x_cv3 T_114_85 mN_115 mL_115 (Nat.le_of_ble_eq_true rfl) mO_115 (hP.o h.1) (Nat.le_of_ble_eq_true rfl) (hn27) ?_
    rintro _ σ ⟨rfl, rfl⟩
    refine cI ?_
    refine x_if T_114_88 (fun _ => ?_) (fun h => absurd (show (0 : Int) = 0 by rfl) h)
    refine x_lr (z := some k) T_114_96 rfl ?_
    refine x_ic T_114_97 ?_
    refine x_sta T_114_98 rfl ?_
    refine x_cv3 T_114_100 mN_115 mL_115 (Nat.le_of_ble_eq_true rfl) mO_115 (hP.o h.1) (Nat.le_of_ble_eq_true rfl) (h28) ?_
    rintro _ σ ⟨rfl, rfl⟩
    refine cI ?_
    refine x_if T_114_103 (fun h => absurd (show (1 : Int) = 0 from h) (by decide)) (fun _ => ?_)
    refine x_ic T_114_106 ?_
    refine x_goto T_114_108 ?_
    refine x_ri T_114_383 ?_
    exact ⟨rfl, rfl⟩
  rw [if_neg q28] at h28
  rw [if_neg q28]
  have hn28 := h28
  have h29 := his 29 (by decide)
  by_cases q29 : wd = txt 29
  · rw [if_pos q29] at h29
    rw [if_pos q29]
    refine CL_in mL_114 rfl ?_
    show WP fb _ 114 0 [some (vR (some k))] [] σ _
    refine x_lr (z := some k) T_114_0 rfl ?_
    refine x_gI (z := n) T_114_1 (Or.inl F_16_4) (hP.o h.1) (Eq.trans (hP.gi h.1 (key := 2516) rfl) h5) ?_
    refine x_if T_114_4 (fun _ => ?_) (fun h => absurd (show ¬ n = 0 by omega) h)
    refine x_lr (z := some k) T_114_11 rfl ?_
    refine x_ic T_114_12 ?_
    refine x_sta T_114_13 rfl ?_
    refine x_cv3 T_114_15 mN_115 mL_115 (Nat.le_of_ble_eq_true rfl) mO_115 (hP.o h.1) (Nat.le_of_ble_eq_true rfl) (hn22) ?_
    rintro _ σ ⟨rfl, rfl⟩
    refine cI ?_
    refine x_if T_114_18 (fun _ => ?_) (fun h => absurd (show (0 : Int) = 0 by rfl) h)
    refine x_lr (z := some k) T_114_25 rfl ?_
    refine x_ic T_114_26 ?_
    refine x_sta T_114_27 rfl ?_
    refine x_cv3 T_114_29 mN_115 mL_115 (Nat.le_of_ble_eq_true rfl) mO_115 (hP.o h.1) (Nat.le_of_ble_eq_true rfl) (hn23) ?_
    rintro _ σ ⟨rfl, rfl⟩
    refine cI ?_
    refine x_if T_114_32 (fun _ => ?_) (fun h => absurd (show (0 : Int) = 0 by rfl) h)
    refine x_lr (z := some k) T_114_39 rfl ?_
    refine x_ic T_114_40 ?_
    refine x_sta T_114_41 rfl ?_
    refine x_cv3 T_114_43 mN_115 mL_115 (Nat.le_of_ble_eq_true rfl) mO_115 (hP.o h.1) (Nat.le_of_ble_eq_true rfl) (hn24) ?_
    rintro _ σ ⟨rfl, rfl⟩
    refine cI ?_
    refine x_if T_114_46 (fun _ => ?_) (fun h => absurd (show (0 : Int) = 0 by rfl) h)
    refine x_lr (z := some k) T_114_53 rfl ?_
    refine x_ic T_114_54 ?_
    refine x_sta T_114_55 rfl ?_
    refine x_cv3 T_114_57 mN_115 mL_115 (Nat.le_of_ble_eq_true rfl) mO_115 (hP.o h.1) (Nat.le_of_ble_eq_true rfl) (hn25) ?_
    rintro _ σ ⟨rfl, rfl⟩
    refine cI ?_
    refine x_if T_114_60 (fun _ => ?_) (fun h => absurd (show (0 : Int) = 0 by rfl) h)
    refine x_lr (z := some k) T_114_67 rfl ?_
    refine x_ic T_114_68 ?_
    refine x_sta T_114_69 rfl ?_
    refine x_cv3 T_114_71 mN_115 mL_115 (Nat.le_of_ble_eq_true rfl) mO_115 (hP.o h.1) (Nat.le_of_ble_eq_true rfl) (hn26) ?_
    rintro _ σ ⟨rfl, rfl⟩
    refine cI ?_
    refine x_if T_114_74 (fun _ => ?_) (fun h => absurd (show (0 : Int) = 0 by rfl) h)
    refine x_lr (z := some k) T_114_81 rfl ?_
    refine x_ic T_114_82 ?_
    refine x_sta T_114_83 rfl ?_
    refine x_cv3 T_114_85 mN_115 mL_115 (Nat.le_of_ble_eq_true rfl) mO_115 (hP.o h.1) (Nat.le_of_ble_eq_true rfl) (hn27) ?_
    rintro _ σ ⟨rfl, rfl⟩
    refine cI ?_
    refine x_if T_114_88 (fun _ => ?_) (fun h => absurd (show (0 : Int) = 0 by rfl) h)
    refine x_lr (z := some k) T_114_96 rfl ?_
    refine x_ic T_114_97 ?_
    refine x_sta T_114_98 rfl ?_
    refine x_cv3 T_114_100 mN_115 mL_115 (Nat.le_of_ble_eq_true rfl) mO_115 (hP.o h.1) (Nat.le_of_ble_eq_true rfl) (hn28) ?_
    rintro _ σ ⟨rfl, rfl⟩
    refine cI ?_
    refine x_if T_114_103 (fun _ => ?_) (fun h => absurd (show (0 : Int) = 0 by rfl) h)
    refine x_lr (z := some k) T_114_111 rfl ?_
    refine x_ic T_114_112 ?_
    refine x_sta T_114_113 rfl ?_
    refine x_cv3 T_114_115 mN_115 mL_115 (Nat.le_of_ble_eq_true rfl) mO_115 (hP.o h.1) (Nat.le_of_ble_eq_true rfl) (h29) ?_
    rintro _ σ ⟨rfl, rfl⟩
    refine cI ?_
    refine x_if T_114_118 (fun h => absurd (show (1 : Int) = 0 from h) (by decide)) (fun _ => ?_)
    refine x_ic T_114_121 ?_
    refine x_goto T_114_123 ?_
    refine x_ri T_114_383 ?_
    exact ⟨rfl, rfl⟩
  rw [if_neg q29] at h29
  rw [if_neg q29]
  have hn29 := h29
  have h30 := his 30 (by decide)
  by_cases q30 : wd = txt 30
  · rw [if_pos q30] at h30
    rw [if_pos q30]
    refine CL_in mL_114 rfl ?_
    show WP fb _ 114 0 [some (vR (some k))] [] σ _
    refine x_lr (z := some k) T_114_0 rfl ?_
    refine x_gI (z := n) T_114_1 (Or.inl F_16_4) (hP.o h.1) (Eq.trans (hP.gi h.1 (key := 2516) rfl) h5) ?_
    refine x_if T_114_4 (fun _ => ?_) (fun h => absurd (show ¬ n = 0 by omega) h)
    refine x_lr (z := some k) T_114_11 rfl ?_
    refine x_ic T_114_12 ?_
    refine x_sta T_114_13 rfl ?_
    refine x_cv3 T_114_15 mN_115 mL_115 (Nat.le_of_ble_eq_true rfl) mO_115 (hP.o h.1) (Nat.le_of_ble_eq_true rfl) (hn22) ?_
    rintro _ σ ⟨rfl, rfl⟩
    refine cI ?_
    refine x_if T_114_18 (fun _ => ?_) (fun h => absurd (show (0 : Int) = 0 by rfl) h)
    refine x_lr (z := some k) T_114_25 rfl ?_
    refine x_ic T_114_26 ?_
    refine x_sta T_114_27 rfl ?_
    refine x_cv3 T_114_29 mN_115 mL_115 (Nat.le_of_ble_eq_true rfl) mO_115 (hP.o h.1) (Nat.le_of_ble_eq_true rfl) (hn23) ?_
    rintro _ σ ⟨rfl, rfl⟩
    refine cI ?_
    refine x_if T_114_32 (fun _ => ?_) (fun h => absurd (show (0 : Int) = 0 by rfl) h)
    refine x_lr (z := some k) T_114_39 rfl ?_
    refine x_ic T_114_40 ?_
    refine x_sta T_114_41 rfl ?_
    refine x_cv3 T_114_43 mN_115 mL_115 (Nat.le_of_ble_eq_true rfl) mO_115 (hP.o h.1) (Nat.le_of_ble_eq_true rfl) (hn24) ?_
    rintro _ σ ⟨rfl, rfl⟩
    refine cI ?_
    refine x_if T_114_46 (fun _ => ?_) (fun h => absurd (show (0 : Int) = 0 by rfl) h)
    refine x_lr (z := some k) T_114_53 rfl ?_
    refine x_ic T_114_54 ?_
    refine x_sta T_114_55 rfl ?_
    refine x_cv3 T_114_57 mN_115 mL_115 (Nat.le_of_ble_eq_true rfl) mO_115 (hP.o h.1) (Nat.le_of_ble_eq_true rfl) (hn25) ?_
    rintro _ σ ⟨rfl, rfl⟩
    refine cI ?_
    refine x_if T_114_60 (fun _ => ?_) (fun h => absurd (show (0 : Int) = 0 by rfl) h)
    refine x_lr (z := some k) T_114_67 rfl ?_
    refine x_ic T_114_68 ?_
    refine x_sta T_114_69 rfl ?_
    refine x_cv3 T_114_71 mN_115 mL_115 (Nat.le_of_ble_eq_true rfl) mO_115 (hP.o h.1) (Nat.le_of_ble_eq_true rfl) (hn26) ?_
    rintro _ σ ⟨rfl, rfl⟩
    refine cI ?_
    refine x_if T_114_74 (fun _ => ?_) (fun h => absurd (show (0 : Int) = 0 by rfl) h)
    refine x_lr (z := some k) T_114_81 rfl ?_
    refine x_ic T_114_82 ?_
    refine x_sta T_114_83 rfl ?_
    refine x_cv3 T_114_85 mN_115 mL_115 (Nat.le_of_ble_eq_true rfl) mO_115 (hP.o h.1) (Nat.le_of_ble_eq_true rfl) (hn27) ?_
    rintro _ σ ⟨rfl, rfl⟩
    refine cI ?_
    refine x_if T_114_88 (fun _ => ?_) (fun h => absurd (show (0 : Int) = 0 by rfl) h)
    refine x_lr (z := some k) T_114_96 rfl ?_
    refine x_ic T_114_97 ?_
    refine x_sta T_114_98 rfl ?_
    refine x_cv3 T_114_100 mN_115 mL_115 (Nat.le_of_ble_eq_true rfl) mO_115 (hP.o h.1) (Nat.le_of_ble_eq_true rfl) (hn28) ?_
    rintro _ σ ⟨rfl, rfl⟩
    refine cI ?_
    refine x_if T_114_103 (fun _ => ?_) (fun h => absurd (show (0 : Int) = 0 by rfl) h)
    refine x_lr (z := some k) T_114_111 rfl ?_
    refine x_ic T_114_112 ?_
    refine x_sta T_114_113 rfl ?_
    refine x_cv3 T_114_115 mN_115 mL_115 (Nat.le_of_ble_eq_true rfl) mO_115 (hP.o h.1) (Nat.le_of_ble_eq_true rfl) (hn29) ?_
    rintro _ σ ⟨rfl, rfl⟩
    refine cI ?_
    refine x_if T_114_118 (fun _ => ?_) (fun h => absurd (show (0 : Int) = 0 by rfl) h)
    refine x_lr (z := some k) T_114_126 rfl ?_
    refine x_ic T_114_127 ?_
    refine x_sta T_114_128 rfl ?_
    refine x_cv3 T_114_130 mN_115 mL_115 (Nat.le_of_ble_eq_true rfl) mO_115 (hP.o h.1) (Nat.le_of_ble_eq_true rfl) (h30) ?_
    rintro _ σ ⟨rfl, rfl⟩
    refine cI ?_
    refine x_if T_114_133 (fun h => absurd (show (1 : Int) = 0 from h) (by decide)) (fun _ => ?_)
    refine x_ic T_114_136 ?_
    refine x_goto T_114_138 ?_
    refine x_ri T_114_383 ?_
    exact ⟨rfl, rfl⟩
  rw [if_neg q30] at h30
  rw [if_neg q30]
  have hn30 := h30
  have h31 := his 31 (by decide)
  by_cases q31 : wd = txt 31
  · rw [if_pos q31] at h31
    rw [if_pos q31]
    refine CL_in mL_114 rfl ?_
    show WP fb _ 114 0 [some (vR (some k))] [] σ _
    refine x_lr (z := some k) T_114_0 rfl ?_
    refine x_gI (z := n) T_114_1 (Or.inl F_16_4) (hP.o h.1) (Eq.trans (hP.gi h.1 (key := 2516) rfl) h5) ?_
    refine x_if T_114_4 (fun _ => ?_) (fun h => absurd (show ¬ n = 0 by omega) h)
    refine x_lr (z := some k) T_114_11 rfl ?_
    refine x_ic T_114_12 ?_
    refine x_sta T_114_13 rfl ?_
    refine x_cv3 T_114_15 mN_115 mL_115 (Nat.le_of_ble_eq_true rfl) mO_115 (hP.o h.1) (Nat.le_of_ble_eq_true rfl) (hn22) ?_
    rintro _ σ ⟨rfl, rfl⟩
    refine cI ?_
    refine x_if T_114_18 (fun _ => ?_) (fun h => absurd (show (0 : Int) = 0 by rfl) h)
    refine x_lr (z := some k) T_114_25 rfl ?_
    refine x_ic T_114_26 ?_
    refine x_sta T_114_27 rfl ?_
    refine x_cv3 T_114_29 mN_115 mL_115 (Nat.le_of_ble_eq_true rfl) mO_115 (hP.o h.1) (Nat.le_of_ble_eq_true rfl) (hn23) ?_
    rintro _ σ ⟨rfl, rfl⟩
    refine cI ?_
    refine x_if T_114_32 (fun _ => ?_) (fun h => absurd (show (0 : Int) = 0 by rfl) h)
    refine x_lr (z := some k) T_114_39 rfl ?_
    refine x_ic T_114_40 ?_
    refine x_sta T_114_41 rfl ?_
    refine x_cv3 T_114_43 mN_115 mL_115 (Nat.le_of_ble_eq_true rfl) mO_115 (hP.o h.1) (Nat.le_of_ble_eq_true rfl) (hn24) ?_
    rintro _ σ ⟨rfl, rfl⟩
    refine cI ?_
    refine x_if T_114_46 (fun _ => ?_) (fun h => absurd (show (0 : Int) = 0 by rfl) h)
    refine x_lr (z := some k) T_114_53 rfl ?_
    refine x_ic T_114_54 ?_
    refine x_sta T_114_55 rfl ?_
    refine x_cv3 T_114_57 mN_115 mL_115 (Nat.le_of_ble_eq_true rfl) mO_115 (hP.o h.1) (Nat.le_of_ble_eq_true rfl) (hn25) ?_
    rintro _ σ ⟨rfl, rfl⟩
    refine cI ?_
    refine x_if T_114_60 (fun _ => ?_) (fun h => absurd (show (0 : Int) = 0 by rfl) h)
    refine x_lr (z := some k) T_114_67 rfl ?_
    refine x_ic T_114_68 ?_
    refine x_sta T_114_69 rfl ?_
    refine x_cv3 T_114_71 mN_115 mL_115 (Nat.le_of_ble_eq_true rfl) mO_115 (hP.o h.1) (Nat.le_of_ble_eq_true rfl) (hn26) ?_
    rintro _ σ ⟨rfl, rfl⟩
    refine cI ?_
    refine x_if T_114_74 (fun _ => ?_) (fun h => absurd (show (0 : Int) = 0 by rfl) h)
    refine x_lr (z := some k) T_114_81 rfl ?_
    refine x_ic T_114_82 ?_
    refine x_sta T_114_83 rfl ?_
    refine x_cv3 T_114_85 mN_115 mL_115 (Nat.le_of_ble_eq_true rfl) mO_115 (hP.o h.1) (Nat.le_of_ble_eq_true rfl) (hn27) ?_
    rintro _ σ ⟨rfl, rfl⟩
    refine cI ?_
    refine x_if T_114_88 (fun _ => ?_) (fun h => absurd (show (0 : Int) = 0 by rfl) h)
    refine x_lr (z := some k) T_114_96 rfl ?_
    refine x_ic T_114_97 ?_
    refine x_sta T_114_98 rfl ?_
    refine x_cv3 T_114_100 mN_115 mL_115 (Nat.le_of_ble_eq_true rfl) mO_115 (hP.o h.1) (Nat.le_of_ble_eq_true rfl) (hn28) ?_
    rintro _ σ ⟨rfl, rfl⟩
    refine cI ?_
    refine x_if T_114_103 (fun _ => ?_) (fun h => absurd (show (0 : Int) = 0 by rfl) h)
    refine x_lr (z := some k) T_114_111 rfl ?_
    refine x_ic T_114_112 ?_
    refine x_sta T_114_113 rfl ?_
    refine x_cv3 T_114_115 mN_115 mL_115 (Nat.le_of_ble_eq_true rfl) mO_115 (hP.o h.1) (Nat.le_of_ble_eq_true rfl) (hn29) ?_
    rintro _ σ ⟨rfl, rfl⟩
    refine cI ?_
    refine x_if T_114_118 (fun _ => ?_) (fun h => absurd (show (0 : Int) = 0 by rfl) h)
    refine x_lr (z := some k) T_114_126 rfl ?_
    refine x_ic T_114_127 ?_
    refine x_sta T_114_128 rfl ?_
    refine x_cv3 T_114_130 mN_115 mL_115 (Nat.le_of_ble_eq_true rfl) mO_115 (hP.o h.1) (Nat.le_of_ble_eq_true rfl) (hn30) ?_
    rintro _ σ ⟨rfl, rfl⟩
    refine cI ?_
    refine x_if T_114_133 (fun _ => ?_) (fun h => absurd (show (0 : Int) = 0 by rfl) h)
    refine x_lr (z := some k) T_114_141 rfl ?_
    refine x_ic T_114_142 ?_
    refine x_sta T_114_143 rfl ?_
    refine x_cv3 T_114_145 mN_115 mL_115 (Nat.le_of_ble_eq_true rfl) mO_115 (hP.o h.1) (Nat.le_of_ble_eq_true rfl) (h31) ?_
    rintro _ σ ⟨rfl, rfl⟩
    refine cI ?_
    refine x_if T_114_148 (fun h => absurd (show (1 : Int) = 0 from h) (by decide)) (fun _ => ?_)
    refine x_ic T_114_151 ?_
    refine x_goto T_114_153 ?_
    refine x_ri T_114_383 ?_
    exact ⟨rfl, rfl⟩
  rw [if_neg q31] at h31
  rw [if_neg q31]
  have hn31 := h31
  have h32 := his 32 (by decide)
  by_cases q32 : wd = txt 32
  · rw [if_pos q32] at h32
    rw [if_pos q32]
    refine CL_in mL_114 rfl ?_
    show WP fb _ 114 0 [some (vR (some k))] [] σ _
    refine x_lr (z := some k) T_114_0 rfl ?_
    refine x_gI (z := n) T_114_1 (Or.inl F_16_4) (hP.o h.1) (Eq.trans (hP.gi h.1 (key := 2516) rfl) h5) ?_
    refine x_if T_114_4 (fun _ => ?_) (fun h => absurd (show ¬ n = 0 by omega) h)
    refine x_lr (z := some k) T_114_11 rfl ?_
    refine x_ic T_114_12 ?_
    refine x_sta T_114_13 rfl ?_
    refine x_cv3 T_114_15 mN_115 mL_115 (Nat.le_of_ble_eq_true rfl) mO_115 (hP.o h.1) (Nat.le_of_ble_eq_true rfl) (hn22) ?_
    rintro _ σ ⟨rfl, rfl⟩
    refine cI ?_
    refine x_if T_114_18 (fun _ => ?_) (fun h => absurd (show (0 : Int) = 0 by rfl) h)
    refine x_lr (z := some k) T_114_25 rfl ?_
    refine x_ic T_114_26 ?_
    refine x_sta T_114_27 rfl ?_
    refine x_cv3 T_114_29 mN_115 mL_115 (Nat.le_of_ble_eq_true rfl) mO_115 (hP.o h.1) (Nat.le_of_ble_eq_true rfl) (hn23) ?_
    rintro _ σ ⟨rfl, rfl⟩
    refine cI ?_
    refine x_if T_114_32 (fun _ => ?_) (fun h => absurd (show (0 : Int) = 0 by rfl) h)
    refine x_lr (z := some k) T_114_39 rfl ?_
    refine x_ic T_114_40 ?_
    refine x_sta T_114_41 rfl ?_
    refine x_cv3 T_114_43 mN_115 mL_115 (Nat.le_of_ble_eq_true rfl) mO_115 (hP.o h.1) (Nat.le_of_ble_eq_true rfl) (hn24) ?_
    rintro _ σ ⟨rfl, rfl⟩
    refine cI ?_
    refine x_if T_114_46 (fun _ => ?_) (fun h => absurd (show (0 : Int) = 0 by rfl) h)
    refine x_lr (z := some k) T_114_53 rfl ?_
    refine x_ic T_114_54 ?_
    refine x_sta T_114_55 rfl ?_
    refine x_cv3 T_114_57 mN_115 mL_115 (Nat.le_of_ble_eq_true rfl) mO_115 (hP.o h.1) (Nat.le_of_ble_eq_true rfl) (hn25) ?_
    rintro _ σ ⟨rfl, rfl⟩
    refine cI ?_
    refine x_if T_114_60 (fun _ => ?_) (fun h => absurd (show (0 : Int) = 0 by rfl) h)
    refine x_lr (z := some k) T_114_67 rfl ?_
    refine x_ic T_114_68 ?_
    refine x_sta T_114_69 rfl ?_
    refine x_cv3 T_114_71 mN_115 mL_115 (Nat.le_of_ble_eq_true rfl) mO_115 (hP.o h.1) (Nat.le_of_ble_eq_true rfl) (hn26) ?_
    rintro _ σ ⟨rfl, rfl⟩
    refine cI ?_
    refine x_if T_114_74 (fun _ => ?_) (fun h => absurd (show (0 : Int) = 0 by rfl) h)
    refine x_lr (z := some k) T_114_81 rfl ?_
    refine x_ic T_114_82 ?_
    refine x_sta T_114_83 rfl ?_
    refine x_cv3 T_114_85 mN_115 mL_115 (Nat.le_of_ble_eq_true rfl) mO_115 (hP.o h.1) (Nat.le_of_ble_eq_true rfl) (hn27) ?_
    rintro _ σ ⟨rfl, rfl⟩
    refine cI ?_
    refine x_if T_114_88 (fun _ => ?_) (fun h => absurd (show (0 : Int) = 0 by rfl) h)
    refine x_lr (z := some k) T_114_96 rfl ?_
    refine x_ic T_114_97 ?_
    refine x_sta T_114_98 rfl ?_
    refine x_cv3 T_114_100 mN_115 mL_115 (Nat.le_of_ble_eq_true rfl) mO_115 (hP.o h.1) (Nat.le_of_ble_eq_true rfl) (hn28) ?_
    rintro _ σ ⟨rfl, rfl⟩
    refine cI ?_
    refine x_if T_114_103 (fun _ => ?_) (fun h => absurd (show (0 : Int) = 0 by rfl) h)
    refine x_lr (z := some k) T_114_111 rfl ?_
    refine x_ic T_114_112 ?_
    refine x_sta T_114_113 rfl ?_
    refine x_cv3 T_114_115 mN_115 mL_115 (Nat.le_of_ble_eq_true rfl) mO_115 (hP.o h.1) (Nat.le_of_ble_eq_true rfl) (hn29) ?_
    rintro _ σ ⟨rfl, rfl⟩
    refine cI ?_
    refine x_if T_114_118 (fun _ => ?_) (fun h => absurd (show (0 : Int) = 0 by rfl) h)
    refine x_lr (z := some k) T_114_126 rfl ?_
    refine x_ic T_114_127 ?_
    refine x_sta T_114_128 rfl ?_
    refine x_cv3 T_114_130 mN_115 mL_115 (Nat.le_of_ble_eq_true rfl) mO_115 (hP.o h.1) (Nat.le_of_ble_eq_true rfl) (hn30) ?_
    rintro _ σ ⟨rfl, rfl⟩
    refine cI ?_
    refine x_if T_114_133 (fun _ => ?_) (fun h => absurd (show (0 : Int) = 0 by rfl) h)
    refine x_lr (z := some k) T_114_141 rfl ?_
    refine x_ic T_114_142 ?_
    refine x_sta T_114_143 rfl ?_
    refine x_cv3 T_114_145 mN_115 mL_115 (Nat.le_of_ble_eq_true rfl) mO_115 (hP.o h.1) (Nat.le_of_ble_eq_true rfl) (hn31) ?_
    rintro _ σ ⟨rfl, rfl⟩
    refine cI ?_
    refine x_if T_114_148 (fun _ => ?_) (fun h => absurd (show (0 : Int) = 0 by rfl) h)
    refine x_lr (z := some k) T_114_156 rfl ?_
    refine x_ic T_114_157 ?_
    refine x_sta T_114_158 rfl ?_
    refine x_cv3 T_114_160 mN_115 mL_115 (Nat.le_of_ble_eq_true rfl) mO_115 (hP.o h.1) (Nat.le_of_ble_eq_true rfl) (h32) ?_
    rintro _ σ ⟨rfl, rfl⟩
    refine cI ?_
    refine x_if T_114_163 (fun h => absurd (show (1 : Int) = 0 from h) (by decide)) (fun _ => ?_)
    refine x_ic T_114_166 ?_
    refine x_goto T_114_168 ?_
    refine x_ri T_114_383 ?_
    exact ⟨rfl, rfl⟩
  rw [if_neg q32] at h32
  rw [if_neg q32]
  have hn32 := h32
  have h33 := his 33 (by decide)
  by_cases q33 : wd = txt 33
  · rw [if_pos q33] at h33
    rw [if_pos q33]
    refine CL_in mL_114 rfl ?_
    show WP fb _ 114 0 [some (vR (some k))] [] σ _
    refine x_lr (z := some k) T_114_0 rfl ?_
    refine x_gI (z := n) T_114_1 (Or.inl F_16_4) (hP.o h.1) (Eq.trans (hP.gi h.1 (key := 2516) rfl) h5) ?_
    refine x_if T_114_4 (fun _ => ?_) (fun h => absurd (show ¬ n = 0 by omega) h)
    refine x_lr (z := some k) T_114_11 rfl ?_
    refine x_ic T_114_12 ?_
    refine x_sta T_114_13 rfl ?_
    refine x_cv3 T_114_15 mN_115 mL_115 (Nat.le_of_ble_eq_true rfl) mO_115 (hP.o h.1) (Nat.le_of_ble_eq_true rfl) (hn22) ?_
    rintro _ σ ⟨rfl, rfl⟩
    refine cI ?_
    refine x_if T_114_18 (fun _ => ?_) (fun h => absurd (show (0 : Int) = 0 by rfl) h)
    refine x_lr (z := some k) T_114_25 rfl ?_
    refine x_ic T_114_26 ?_
    refine x_sta T_114_27 rfl ?_
    refine x_cv3 T_114_29 mN_115 mL_115 (Nat.le_of_ble_eq_true rfl) mO_115 (hP.o h.1) (Nat.le_of_ble_eq_true rfl) (hn23) ?_
    rintro _ σ ⟨rfl, rfl⟩
    refine cI ?_
    refine x_if T_114_32 (fun _ => ?_) (fun h => absurd (show (0 : Int) = 0 by rfl) h)
    refine x_lr (z := some k) T_114_39 rfl ?_
    refine x_ic T_114_40 ?_
    refine x_sta T_114_41 rfl ?_
    refine x_cv3 T_114_43 mN_115 mL_115 (Nat.le_of_ble_eq_true rfl) mO_115 (hP.o h.1) (Nat.le_of_ble_eq_true rfl) (hn24) ?_
    rintro _ σ ⟨rfl, rfl⟩
    refine cI ?_
    refine x_if T_114_46 (fun _ => ?_) (fun h => absurd (show (0 : Int) = 0 by rfl) h)
    refine x_lr (z := some k) T_114_53 rfl ?_
    refine x_ic T_114_54 ?_
    refine x_sta T_114_55 rfl ?_
    refine x_cv3 T_114_57 mN_115 mL_115 (Nat.le_of_ble_eq_true rfl) mO_115 (hP.o h.1) (Nat.le_of_ble_eq_true rfl) (hn25) ?_
    rintro _ σ ⟨rfl, rfl⟩
    refine cI ?_
    refine x_if T_114_60 (fun _ => ?_) (fun h => absurd (show (0 : Int) = 0 by rfl) h)
    refine x_lr (z := some k) T_114_67 rfl ?_
    refine x_ic T_114_68 ?_
    refine x_sta T_114_69 rfl ?_
    refine x_cv3 T_114_71 mN_115 mL_115 (Nat.le_of_ble_eq_true rfl) mO_115 (hP.o h.1) (Nat.le_of_ble_eq_true rfl) (hn26) ?_
    rintro _ σ ⟨rfl, rfl⟩
    refine cI ?_
    refine x_if T_114_74 (fun _ => ?_) (fun h => absurd (show (0 : Int) = 0 by rfl) h)
    refine x_lr (z := some k) T_114_81 rfl ?_
    refine x_ic T_114_82 ?_
    refine x_sta T_114_83 rfl ?_
    refine x_cv3 T_114_85 mN_115 mL_115 (Nat.le_of_ble_eq_true rfl) mO_115 (hP.o h.1) (Nat.le_of_ble_eq_true rfl) (hn27) ?_
    rintro _ σ ⟨rfl, rfl⟩
    refine cI ?_
    refine x_if T_114_88 (fun _ => ?_) (fun h => absurd (show (0 : Int) = 0 by rfl) h)
    refine x_lr (z := some k) T_114_96 rfl ?_
    refine x_ic T_114_97 ?_
    refine x_sta T_114_98 rfl ?_
    refine x_cv3 T_114_100 mN_115 mL_115 (Nat.le_of_ble_eq_true rfl) mO_115 (hP.o h.1) (Nat.le_of_ble_eq_true rfl) (hn28) ?_
    rintro _ σ ⟨rfl, rfl⟩
    refine cI ?_
    refine x_if T_114_103 (fun _ => ?_) (fun h => absurd (show (0 : Int) = 0 by rfl) h)
    refine x_lr (z := some k) T_114_111 rfl ?_
    refine x_ic T_114_112 ?_
    refine x_sta T_114_113 rfl ?_
    refine x_cv3 T_114_115 mN_115 mL_115 (Nat.le_of_ble_eq_true rfl) mO_115 (hP.o h.1) (Nat.le_of_ble_eq_true rfl) (hn29) ?_
    rintro _ σ ⟨rfl, rfl⟩
    refine cI ?_
    refine x_if T_114_118 (fun _ => ?_) (fun h => absurd (show (0 : Int) = 0 by rfl) h)
    refine x_lr (z := some k) T_114_126 rfl ?_
    refine x_ic T_114_127 ?_
    refine x_sta T_114_128 rfl ?_
    refine x_cv3 T_114_130 mN_115 mL_115 (Nat.le_of_ble_eq_true rfl) mO_115 (hP.o h.1) (Nat.le_of_ble_eq_true rfl) (hn30) ?_
    rintro _ σ ⟨rfl, rfl⟩
    refine cI ?_
    refine x_if T_114_133 (fun _ => ?_) (fun h => absurd (show (0 : Int) = 0 by rfl) h)
    refine x_lr (z := some k) T_114_141 rfl ?_
    refine x_ic T_114_142 ?_
    refine x_sta T_114_143 rfl ?_
    refine x_cv3 T_114_145 mN_115 mL_115 (Nat.le_of_ble_eq_true rfl) mO_115 (hP.o h.1) (Nat.le_of_ble_eq_true rfl) (hn31) ?_
    rintro _ σ ⟨rfl, rfl⟩
    refine cI ?_
    refine x_if T_114_148 (fun _ => ?_) (fun h => absurd (show (0 : Int) = 0 by rfl) h)
    refine x_lr (z := some k) T_114_156 rfl ?_
    refine x_ic T_114_157 ?_
    refine x_sta T_114_158 rfl ?_
    refine x_cv3 T_114_160 mN_115 mL_115 (Nat.le_of_ble_eq_true rfl) mO_115 (hP.o h.1) (Nat.le_of_ble_eq_true rfl) (hn32) ?_
    rintro _ σ ⟨rfl, rfl⟩
    refine cI ?_
    refine x_if T_114_163 (fun _ => ?_) (fun h => absurd (show (0 : Int) = 0 by rfl) h)
    refine x_lr (z := some k) T_114_171 rfl ?_
    refine x_ic T_114_172 ?_
    refine x_sta T_114_173 rfl ?_
    refine x_cv3 T_114_175 mN_115 mL_115 (Nat.le_of_ble_eq_true rfl) mO_115 (hP.o h.1) (Nat.le_of_ble_eq_true rfl) (h33) ?_
    rintro _ σ ⟨rfl, rfl⟩
    refine cI ?_
    refine x_if T_114_178 (fun h => absurd (show (1 : Int) = 0 from h) (by decide)) (fun _ => ?_)
    refine x_ic T_114_181 ?_
    refine x_goto T_114_183 ?_
    refine x_ri T_114_383 ?_
    exact ⟨rfl, rfl⟩
  rw [if_neg q33] at h33
  rw [if_neg q33]
  have hn33 := h33
  have h34 := his 34 (by decide)
  by_cases q34 : wd = txt 34
  · rw [if_pos q34] at h34
    rw [if_pos q34]
    refine CL_in mL_114 rfl ?_
    show WP fb _ 114 0 [some (vR (some k))] [] σ _
    refine x_lr (z := some k) T_114_0 rfl ?_
    refine x_gI (z := n) T_114_1 (Or.inl F_16_4) (hP.o h.1) (Eq.trans (hP.gi h.1 (key := 2516) rfl) h5) ?_
    refine x_if T_114_4 (fun _ => ?_) (fun h => absurd (show ¬ n = 0 by omega) h)
    refine x_lr (z := some k) T_114_11 rfl ?_
    refine x_ic T_114_12 ?_
    refine x_sta T_114_13 rfl ?_
    refine x_cv3 T_114_15 mN_115 mL_115 (Nat.le_of_ble_eq_true rfl) mO_115 (hP.o h.1) (Nat.le_of_ble_eq_true rfl) (hn22) ?_
    rintro _ σ ⟨rfl, rfl⟩
    refine cI ?_
    refine x_if T_114_18 (fun _ => ?_) (fun h => absurd (show (0 : Int) = 0 by rfl) h)
    refine x_lr (z := some k) T_114_25 rfl ?_
    refine x_ic T_114_26 ?_
    refine x_sta T_114_27 rfl ?_
    refine x_cv3 T_114_29 mN_115 mL_115 (Nat.le_of_ble_eq_true rfl) mO_115 (hP.o h.1) (Nat.le_of_ble_eq_true rfl) (hn23) ?_
    rintro _ σ ⟨rfl, rfl⟩
    refine cI ?_
    refine x_if T_114_32 (fun _ => ?_) (fun h => absurd (show (0 : Int) = 0 by rfl) h)
    refine x_lr (z := some k) T_114_39 rfl ?_
    refine x_ic T_114_40 ?_
    refine x_sta T_114_41 rfl ?_
    refine x_cv3 T_114_43 mN_115 mL_115 (Nat.le_of_ble_eq_true rfl) mO_115 (hP.o h.1) (Nat.le_of_ble_eq_true rfl) (hn24) ?_
    rintro _ σ ⟨rfl, rfl⟩
    refine cI ?_
    refine x_if T_114_46 (fun _ => ?_) (fun h => absurd (show (0 : Int) = 0 by rfl) h)
    refine x_lr (z := some k) T_114_53 rfl ?_
    refine x_ic T_114_54 ?_
    refine x_sta T_114_55 rfl ?_
    refine x_cv3 T_114_57 mN_115 mL_115 (Nat.le_of_ble_eq_true rfl) mO_115 (hP.o h.1) (Nat.le_of_ble_eq_true rfl) (hn25) ?_
    rintro _ σ ⟨rfl, rfl⟩
    refine cI ?_
    refine x_if T_114_60 (fun _ => ?_) (fun h => absurd (show (0 : Int) = 0 by rfl) h)
    refine x_lr (z := some k) T_114_67 rfl ?_
    refine x_ic T_114_68 ?_
    refine x_sta T_114_69 rfl ?_
    refine x_cv3 T_114_71 mN_115 mL_115 (Nat.le_of_ble_eq_true rfl) mO_115 (hP.o h.1) (Nat.le_of_ble_eq_true rfl) (hn26) ?_
    rintro _ σ ⟨rfl, rfl⟩
    refine cI ?_
    refine x_if T_114_74 (fun _ => ?_) (fun h => absurd (show (0 : Int) = 0 by rfl) h)
    refine x_lr (z := some k) T_114_81 rfl ?_
    refine x_ic T_114_82 ?_
    refine x_sta T_114_83 rfl ?_
    refine x_cv3 T_114_85 mN_115 mL_115 (Nat.le_of_ble_eq_true rfl) mO_115 (hP.o h.1) (Nat.le_of_ble_eq_true rfl) (hn27) ?_
    rintro _ σ ⟨rfl, rfl⟩
    refine cI ?_
    refine x_if T_114_88 (fun _ => ?_) (fun h => absurd (show (0 : Int) = 0 by rfl) h)
    refine x_lr (z := some k) T_114_96 rfl ?_
    refine x_ic T_114_97 ?_
    refine x_sta T_114_98 rfl ?_
    refine x_cv3 T_114_100 mN_115 mL_115 (Nat.le_of_ble_eq_true rfl) mO_115 (hP.o h.1) (Nat.le_of_ble_eq_true rfl) (hn28) ?_
    rintro _ σ ⟨rfl, rfl⟩
    refine cI ?_
    refine x_if T_114_103 (fun _ => ?_) (fun h => absurd (show (0 : Int) = 0 by rfl) h)
    refine x_lr (z := some k) T_114_111 rfl ?_
    refine x_ic T_114_112 ?_
    refine x_sta T_114_113 rfl ?_
    refine x_cv3 T_114_115 mN_115 mL_115 (Nat.le_of_ble_eq_true rfl) mO_115 (hP.o h.1) (Nat.le_of_ble_eq_true rfl) (hn29) ?_
    rintro _ σ ⟨rfl, rfl⟩
    refine cI ?_
    refine x_if T_114_118 (fun _ => ?_) (fun h => absurd (show (0 : Int) = 0 by rfl) h)
    refine x_lr (z := some k) T_114_126 rfl ?_
    refine x_ic T_114_127 ?_
    refine x_sta T_114_128 rfl ?_
    refine x_cv3 T_114_130 mN_115 mL_115 (Nat.le_of_ble_eq_true rfl) mO_115 (hP.o h.1) (Nat.le_of_ble_eq_true rfl) (hn30) ?_
    rintro _ σ ⟨rfl, rfl⟩
    refine cI ?_
    refine x_if T_114_133 (fun _ => ?_) (fun h => absurd (show (0 : Int) = 0 by rfl) h)
    refine x_lr (z := some k) T_114_141 rfl ?_
    refine x_ic T_114_142 ?_
    refine x_sta T_114_143 rfl ?_
    refine x_cv3 T_114_145 mN_115 mL_115 (Nat.le_of_ble_eq_true rfl) mO_115 (hP.o h.1) (Nat.le_of_ble_eq_true rfl) (hn31) ?_
    rintro _ σ ⟨rfl, rfl⟩
    refine cI ?_
    refine x_if T_114_148 (fun _ => ?_) (fun h => absurd (show (0 : Int) = 0 by rfl) h)
    refine x_lr (z := some k) T_114_156 rfl ?_
    refine x_ic T_114_157 ?_
    refine x_sta T_114_158 rfl ?_
    refine x_cv3 T_114_160 mN_115 mL_115 (Nat.le_of_ble_eq_true rfl) mO_115 (hP.o h.1) (Nat.le_of_ble_eq_true rfl) (hn32) ?_
    rintro _ σ ⟨rfl, rfl⟩
    refine cI ?_
    refine x_if T_114_163 (fun _ => ?_) (fun h => absurd (show (0 : Int) = 0 by rfl) h)
    refine x_lr (z := some k) T_114_171 rfl ?_
    refine x_ic T_114_172 ?_
    refine x_sta T_114_173 rfl ?_
    refine x_cv3 T_114_175 mN_115 mL_115 (Nat.le_of_ble_eq_true rfl) mO_115 (hP.o h.1) (Nat.le_of_ble_eq_true rfl) (hn33) ?_
    rintro _ σ ⟨rfl, rfl⟩
    refine cI ?_
    refine x_if T_114_178 (fun _ => ?_) (fun h => absurd (show (0 : Int) = 0 by rfl) h)
    refine x_lr (z := some k) T_114_186 rfl ?_
    refine x_ic T_114_187 ?_
    refine x_sta T_114_188 rfl ?_
    refine x_cv3 T_114_190 mN_115 mL_115 (Nat.le_of_ble_eq_true rfl) mO_115 (hP.o h.1) (Nat.le_of_ble_eq_true rfl) (h34) ?_
    rintro _ σ ⟨rfl, rfl⟩
    refine cI ?_
    refine x_if T_114_193 (fun h => absurd (show (1 : Int) = 0 from h) (by decide)) (fun _ => ?_)
    refine x_ic T_114_196 ?_
    refine x_goto T_114_198 ?_
    refine x_ri T_114_383 ?_
    exact ⟨rfl, rfl⟩
  rw [if_neg q34] at h34
  rw [if_neg q34]
  have hn34 := h34
  have h35 := his 35 (by decide)
  by_cases q35 : wd = txt 35
  · rw [if_pos q35] at h35
    rw [if_pos q35]
    refine CL_in mL_114 rfl ?_
    show WP fb _ 114 0 [some (vR (some k))] [] σ _
    refine x_lr (z := some k) T_114_0 rfl ?_
    refine x_gI (z := n) T_114_1 (Or.inl F_16_4) (hP.o h.1) (Eq.trans (hP.gi h.1 (key := 2516) rfl) h5) ?_
    refine x_if T_114_4 (fun _ => ?_) (fun h => absurd (show ¬ n = 0 by omega) h)
    refine x_lr (z := some k) T_114_11 rfl ?_
    refine x_ic T_114_12 ?_
    refine x_sta T_114_13 rfl ?_
    refine x_cv3 T_114_15 mN_115 mL_115 (Nat.le_of_ble_eq_true rfl) mO_115 (hP.o h.1) (Nat.le_of_ble_eq_true rfl) (hn22) ?_
    rintro _ σ ⟨rfl, rfl⟩
    refine cI ?_
    refine x_if T_114_18 (fun _ => ?_) (fun h => absurd (show (0 : Int) = 0 by rfl) h)
    refine x_lr (z := some k) T_114_25 rfl ?_
    refine x_ic T_114_26 ?_
    refine x_sta T_114_27 rfl ?_
    refine x_cv3 T_114_29 mN_115 mL_115 (Nat.le_of_ble_eq_true rfl) mO_115 (hP.o h.1) (Nat.le_of_ble_eq_true rfl) (hn23) ?_
    rintro _ σ ⟨rfl, rfl⟩
    refine cI ?_
    refine x_if T_114_32 (fun _ => ?_) (fun h => absurd (show (0 : Int) = 0 by rfl) h)
    refine x_lr (z := some k) T_114_39 rfl ?_
    refine x_ic T_114_40 ?_
    refine x_sta T_114_41 rfl ?_
    refine x_cv3 T_114_43 mN_115 mL_115 (Nat.le_of_ble_eq_true rfl) mO_115 (hP.o h.1) (Nat.le_of_ble_eq_true rfl) (hn24) ?_
    rintro _ σ ⟨rfl, rfl⟩
    refine cI ?_
    refine x_if T_114_46 (fun _ => ?_) (fun h => absurd (show (0 : Int) = 0 by rfl) h)
    refine x_lr (z := some k) T_114_53 rfl ?_
    refine x_ic T_114_54 ?_
    refine x_sta T_114_55 rfl ?_
    refine x_cv3 T_114_57 mN_115 mL_115 (Nat.le_of_ble_eq_true rfl) mO_115 (hP.o h.1) (Nat.le_of_ble_eq_true rfl) (hn25) ?_
    rintro _ σ ⟨rfl, rfl⟩
    refine cI ?_
    refine x_if T_114_60 (fun _ => ?_) (fun h => absurd (show (0 : Int) = 0 by rfl) h)
    refine x_lr (z := some k) T_114_67 rfl ?_
    refine x_ic T_114_68 ?_
    refine x_sta T_114_69 rfl ?_
    refine x_cv3 T_114_71 mN_115 mL_115 (Nat.le_of_ble_eq_true rfl) mO_115 (hP.o h.1) (Nat.le_of_ble_eq_true rfl) (hn26) ?_
    rintro _ σ ⟨rfl, rfl⟩
    refine cI ?_
    refine x_if T_114_74 (fun _ => ?_) (fun h => absurd (show (0 : Int) = 0 by rfl) h)
    refine x_lr (z := some k) T_114_81 rfl ?_
    refine x_ic T_114_82 ?_
    refine x_sta T_114_83 rfl ?_
    refine x_cv3 T_114_85 mN_115 mL_115 (Nat.le_of_ble_eq_true rfl) mO_115 (hP.o h.1) (Nat.le_of_ble_eq_true rfl) (hn27) ?_
    rintro _ σ ⟨rfl, rfl⟩
    refine cI ?_
    refine x_if T_114_88 (fun _ => ?_) (fun h => absurd (show (0 : Int) = 0 by rfl) h)
    refine x_lr (z := some k) T_114_96 rfl ?_
    refine x_ic T_114_97 ?_
    refine x_sta T_114_98 rfl ?_
    refine x_cv3 T_114_100 mN_115 mL_115 (Nat.le_of_ble_eq_true rfl) mO_115 (hP.o h.1) (Nat.le_of_ble_eq_true rfl) (hn28) ?_
    rintro _ σ ⟨rfl, rfl⟩
    refine cI ?_
    refine x_if T_114_103 (fun _ => ?_) (fun h => absurd (show (0 : Int) = 0 by rfl) h)
    refine x_lr (z := some k) T_114_111 rfl ?_
    refine x_ic T_114_112 ?_
    refine x_sta T_114_113 rfl ?_
    refine x_cv3 T_114_115 mN_115 mL_115 (Nat.le_of_ble_eq_true rfl) mO_115 (hP.o h.1) (Nat.le_of_ble_eq_true rfl) (hn29) ?_
    rintro _ σ ⟨rfl, rfl⟩
    refine cI ?_
    refine x_if T_114_118 (fun _ => ?_) (fun h => absurd (show (0 : Int) = 0 by rfl) h)
    refine x_lr (z := some k) T_114_126 rfl ?_
    refine x_ic T_114_127 ?_
    refine x_sta T_114_128 rfl ?_
    refine x_cv3 T_114_130 mN_115 mL_115 (Nat.le_of_ble_eq_true rfl) mO_115 (hP.o h.1) (Nat.le_of_ble_eq_true rfl) (hn30) ?_
    rintro _ σ ⟨rfl, rfl⟩
    refine cI ?_
    refine x_if T_114_133 (fun _ => ?_) (fun h => absurd (show (0 : Int) = 0 by rfl) h)
    refine x_lr (z := some k) T_114_141 rfl ?_
    refine x_ic T_114_142 ?_
    refine x_sta T_114_143 rfl ?_
    refine x_cv3 T_114_145 mN_115 mL_115 (Nat.le_of_ble_eq_true rfl) mO_115 (hP.o h.1) (Nat.le_of_ble_eq_true rfl) (hn31) ?_
    rintro _ σ ⟨rfl, rfl⟩
    refine cI ?_
    refine x_if T_114_148 (fun _ => ?_) (fun h => absurd (show (0 : Int) = 0 by rfl) h)
    refine x_lr (z := some k) T_114_156 rfl ?_
    refine x_ic T_114_157 ?_
    refine x_sta T_114_158 rfl ?_
    refine x_cv3 T_114_160 mN_115 mL_115 (Nat.le_of_ble_eq_true rfl) mO_115 (hP.o h.1) (Nat.le_of_ble_eq_true rfl) (hn32) ?_
    rintro _ σ ⟨rfl, rfl⟩
    refine cI ?_
    refine x_if T_114_163 (fun _ => ?_) (fun h => absurd (show (0 : Int) = 0 by rfl) h)
    refine x_lr (z := some k) T_114_171 rfl ?_
    refine x_ic T_114_172 ?_
    refine x_sta T_114_173 rfl ?_
    refine x_cv3 T_114_175 mN_115 mL_115 (Nat.le_of_ble_eq_true rfl) mO_115 (hP.o h.1) (Nat.le_of_ble_eq_true rfl) (hn33) ?_
    rintro _ σ ⟨rfl, rfl⟩
    refine cI ?_
    refine x_if T_114_178 (fun _ => ?_) (fun h => absurd (show (0 : Int) = 0 by rfl) h)
    refine x_lr (z := some k) T_114_186 rfl ?_
    refine x_ic T_114_187 ?_
    refine x_sta T_114_188 rfl ?_
    refine x_cv3 T_114_190 mN_115 mL_115 (Nat.le_of_ble_eq_true rfl) mO_115 (hP.o h.1) (Nat.le_of_ble_eq_true rfl) (hn34) ?_
    rintro _ σ ⟨rfl, rfl⟩
    refine cI ?_
    refine x_if T_114_193 (fun _ => ?_) (fun h => absurd (show (0 : Int) = 0 by rfl) h)
    refine x_lr (z := some k) T_114_201 rfl ?_
    refine x_ic T_114_202 ?_
    refine x_sta T_114_203 rfl ?_
    refine x_cv3 T_114_205 mN_115 mL_115 (Nat.le_of_ble_eq_true rfl) mO_115 (hP.o h.1) (Nat.le_of_ble_eq_true rfl) (h35) ?_
    rintro _ σ ⟨rfl, rfl⟩
    refine cI ?_
    refine x_if T_114_208 (fun h => absurd (show (1 : Int) = 0 from h) (by decide)) (fun _ => ?_)
    refine x_ic T_114_211 ?_
    refine x_goto T_114_213 ?_
    refine x_ri T_114_383 ?_
    exact ⟨rfl, rfl⟩
  rw [if_neg q35] at h35
  rw [if_neg q35]
  have hn35 := h35
  have h36 := his 36 (by decide)
  by_cases q36 : wd = txt 36
  · rw [if_pos q36] at h36
    rw [if_pos q36]
    refine CL_in mL_114 rfl ?_
    show WP fb _ 114 0 [some (vR (some k))] [] σ _
    refine x_lr (z := some k) T_114_0 rfl ?_
    refine x_gI (z := n) T_114_1 (Or.inl F_16_4) (hP.o h.1) (Eq.trans (hP.gi h.1 (key := 2516) rfl) h5) ?_
    refine x_if T_114_4 (fun _ => ?_) (fun h => absurd (show ¬ n = 0 by omega) h)
    refine x_lr (z := some k) T_114_11 rfl ?_
    refine x_ic T_114_12 ?_
    refine x_sta T_114_13 rfl ?_
    refine x_cv3 T_114_15 mN_115 mL_115 (Nat.le_of_ble_eq_true rfl) mO_115 (hP.o h.1) (Nat.le_of_ble_eq_true rfl) (hn22) ?_
    rintro _ σ ⟨rfl, rfl⟩
    refine cI ?_
    refine x_if T_114_18 (fun _ => ?_) (fun h => absurd (show (0 : Int) = 0 by rfl) h)
    refine x_lr (z := some k) T_114_25 rfl ?_
    refine x_ic T_114_26 ?_
    refine x_sta T_114_27 rfl ?_
    refine x_cv3 T_114_29 mN_115 mL_115 (Nat.le_of_ble_eq_true rfl) mO_115 (hP.o h.1) (Nat.le_of_ble_eq_true rfl) (hn23) ?_
    rintro _ σ ⟨rfl, rfl⟩
    refine cI ?_
    refine x_if T_114_32 (fun _ => ?_) (fun h => absurd (show (0 : Int) = 0 by rfl) h)
    refine x_lr (z := some k) T_114_39 rfl ?_
    refine x_ic T_114_40 ?_
    refine x_sta T_114_41 rfl ?_
    refine x_cv3 T_114_43 mN_115 mL_115 (Nat.le_of_ble_eq_true rfl) mO_115 (hP.o h.1) (Nat.le_of_ble_eq_true rfl) (hn24) ?_
    rintro _ σ ⟨rfl, rfl⟩
    refine cI ?_
    refine x_if T_114_46 (fun _ => ?_) (fun h => absurd (show (0 : Int) = 0 by rfl) h)
    refine x_lr (z := some k) T_114_53 rfl ?_
    refine x_ic T_114_54 ?_
    refine x_sta T_114_55 rfl ?_
    refine x_cv3 T_114_57 mN_115 mL_115 (Nat.le_of_ble_eq_true rfl) mO_115 (hP.o h.1) (Nat.le_of_ble_eq_true rfl) (hn25) ?_
    rintro _ σ ⟨rfl, rfl⟩
    refine cI ?_
    refine x_if T_114_60 (fun _ => ?_) (fun h => absurd (show (0 : Int) = 0 by rfl) h)
    refine x_lr (z := some k) T_114_67 rfl ?_
    refine x_ic T_114_68 ?_
    refine x_sta T_114_69 rfl ?_
    refine x_cv3 T_114_71 mN_115 mL_115 (Nat.le_of_ble_eq_true rfl) mO_115 (hP.o h.1) (Nat.le_of_ble_eq_true rfl) (hn26) ?_
    rintro _ σ ⟨rfl, rfl⟩
    refine cI ?_
    refine x_if T_114_74 (fun _ => ?_) (fun h => absurd (show (0 : Int) = 0 by rfl) h)
    refine x_lr (z := some k) T_114_81 rfl ?_
    refine x_ic T_114_82 ?_
    refine x_sta T_114_83 rfl ?_
    refine x_cv3 T_114_85 mN_115 mL_115 (Nat.le_of_ble_eq_true rfl) mO_115 (hP.o h.1) (Nat.le_of_ble_eq_true rfl) (hn27) ?_
    rintro _ σ ⟨rfl, rfl⟩
    refine cI ?_
    refine x_if T_114_88 (fun _ => ?_) (fun h => absurd (show (0 : Int) = 0 by rfl) h)
    refine x_lr (z := some k) T_114_96 rfl ?_
    refine x_ic T_114_97 ?_
    refine x_sta T_114_98 rfl ?_
    refine x_cv3 T_114_100 mN_115 mL_115 (Nat.le_of_ble_eq_true rfl) mO_115 (hP.o h.1) (Nat.le_of_ble_eq_true rfl) (hn28) ?_
    rintro _ σ ⟨rfl, rfl⟩
    refine cI ?_
    refine x_if T_114_103 (fun _ => ?_) (fun h => absurd (show (0 : Int) = 0 by rfl) h)
    refine x_lr (z := some k) T_114_111 rfl ?_
    refine x_ic T_114_112 ?_
    refine x_sta T_114_113 rfl ?_
    refine x_cv3 T_114_115 mN_115 mL_115 (Nat.le_of_ble_eq_true rfl) mO_115 (hP.o h.1) (Nat.le_of_ble_eq_true rfl) (hn29) ?_
    rintro _ σ ⟨rfl, rfl⟩
    refine cI ?_
    refine x_if T_114_118 (fun _ => ?_) (fun h => absurd (show (0 : Int) = 0 by rfl) h)
    refine x_lr (z := some k) T_114_126 rfl ?_
    refine x_ic T_114_127 ?_
    refine x_sta T_114_128 rfl ?_
    refine x_cv3 T_114_130 mN_115 mL_115 (Nat.le_of_ble_eq_true rfl) mO_115 (hP.o h.1) (Nat.le_of_ble_eq_true rfl) (hn30) ?_
    rintro _ σ ⟨rfl, rfl⟩
    refine cI ?_
    refine x_if T_114_133 (fun _ => ?_) (fun h => absurd (show (0 : Int) = 0 by rfl) h)
    refine x_lr (z := some k) T_114_141 rfl ?_
    refine x_ic T_114_142 ?_
    refine x_sta T_114_143 rfl ?_
    refine x_cv3 T_114_145 mN_115 mL_115 (Nat.le_of_ble_eq_true rfl) mO_115 (hP.o h.1) (Nat.le_of_ble_eq_true rfl) (hn31) ?_
    rintro _ σ ⟨rfl, rfl⟩
    refine cI ?_
    refine x_if T_114_148 (fun _ => ?_) (fun h => absurd (show (0 : Int) = 0 by rfl) h)
    refine x_lr (z := some k) T_114_156 rfl ?_
    refine x_ic T_114_157 ?_
    refine x_sta T_114_158 rfl ?_
    refine x_cv3 T_114_160 mN_115 mL_115 (Nat.le_of_ble_eq_true rfl) mO_115 (hP.o h.1) (Nat.le_of_ble_eq_true rfl) (hn32) ?_
    rintro _ σ ⟨rfl, rfl⟩
    refine cI ?_
    refine x_if T_114_163 (fun _ => ?_) (fun h => absurd (show (0 : Int) = 0 by rfl) h)
    refine x_lr (z := some k) T_114_171 rfl ?_
    refine x_ic T_114_172 ?_
    refine x_sta T_114_173 rfl ?_
    refine x_cv3 T_114_175 mN_115 mL_115 (Nat.le_of_ble_eq_true rfl) mO_115 (hP.o h.1) (Nat.le_of_ble_eq_true rfl) (hn33) ?_
    rintro _ σ ⟨rfl, rfl⟩
    refine cI ?_
    refine x_if T_114_178 (fun _ => ?_) (fun h => absurd (show (0 : Int) = 0 by rfl) h)
    refine x_lr (z := some k) T_114_186 rfl ?_
    refine x_ic T_114_187 ?_
    refine x_sta T_114_188 rfl ?_
    refine x_cv3 T_114_190 mN_115 mL_115 (Nat.le_of_ble_eq_true rfl) mO_115 (hP.o h.1) (Nat.le_of_ble_eq_true rfl) (hn34) ?_
    rintro _ σ ⟨rfl, rfl⟩
    refine cI ?_
    refine x_if T_114_193 (fun _ => ?_) (fun h => absurd (show (0 : Int) = 0 by rfl) h)
    refine x_lr (z := some k) T_114_201 rfl ?_
    refine x_ic T_114_202 ?_
    refine x_sta T_114_203 rfl ?_
    refine x_cv3 T_114_205 mN_115 mL_115 (Nat.le_of_ble_eq_true rfl) mO_115 (hP.o h.1) (Nat.le_of_ble_eq_true rfl) (hn35) ?_
    rintro _ σ ⟨rfl, rfl⟩
    refine cI ?_
    refine x_if T_114_208 (fun _ => ?_) (fun h => absurd (show (0 : Int) = 0 by rfl) h)
    refine x_lr (z := some k) T_114_216 rfl ?_
    refine x_ic T_114_217 ?_
    refine x_sta T_114_218 rfl ?_
    refine x_cv3 T_114_220 mN_115 mL_115 (Nat.le_of_ble_eq_true rfl) mO_115 (hP.o h.1) (Nat.le_of_ble_eq_true rfl) (h36) ?_
    rintro _ σ ⟨rfl, rfl⟩
    refine cI ?_
    refine x_if T_114_223 (fun h => absurd (show (1 : Int) = 0 from h) (by decide)) (fun _ => ?_)
    refine x_ic T_114_226 ?_
    refine x_goto T_114_228 ?_
    refine x_ri T_114_383 ?_
    exact ⟨rfl, rfl⟩
  rw [if_neg q36] at h36
  rw [if_neg q36]
  have hn36 := h36
  have h37 := his 37 (by decide)
  by_cases q37 : wd = txt 37
  · rw [if_pos q37] at h37
    rw [if_pos q37]
    refine CL_in mL_114 rfl ?_
    show WP fb _ 114 0 [some (vR (some k))] [] σ _
    refine x_lr (z := some k) T_114_0 rfl ?_
    refine x_gI (z := n) T_114_1 (Or.inl F_16_4) (hP.o h.1) (Eq.trans (hP.gi h.1 (key := 2516) rfl) h5) ?_
    refine x_if T_114_4 (fun _ => ?_) (fun h => absurd (show ¬ n = 0 by omega) h)
    refine x_lr (z := some k) T_114_11 rfl ?_
    refine x_ic T_114_12 ?_
    refine x_sta T_114_13 rfl ?_
    refine x_cv3 T_114_15 mN_115 mL_115 (Nat.le_of_ble_eq_true rfl) mO_115 (hP.o h.1) (Nat.le_of_ble_eq_true rfl) (hn22) ?_
    rintro _ σ ⟨rfl, rfl⟩
    refine cI ?_
    refine x_if T_114_18 (fun _ => ?_) (fun h => absurd (show (0 : Int) = 0 by rfl) h)
    refine x_lr (z := some k) T_114_25 rfl ?_
    refine x_ic T_114_26 ?_
    refine x_sta T_114_27 rfl ?_
    refine x_cv3 T_114_29 mN_115 mL_115 (Nat.le_of_ble_eq_true rfl) mO_115 (hP.o h.1) (Nat.le_of_ble_eq_true rfl) (hn23) ?_
    rintro _ σ ⟨rfl, rfl⟩
    refine cI ?_
    refine x_if T_114_32 (fun _ => ?_) (fun h => absurd (show (0 : Int) = 0 by rfl) h)
    refine x_lr (z := some k) T_114_39 rfl ?_
    refine x_ic T_114_40 ?_
    refine x_sta T_114_41 rfl ?_
    refine x_cv3 T_114_43 mN_115 mL_115 (Nat.le_of_ble_eq_true rfl) mO_115 (hP.o h.1) (Nat.le_of_ble_eq_true rfl) (hn24) ?_
    rintro _ σ ⟨rfl, rfl⟩
    refine cI ?_
    refine x_if T_114_46 (fun _ => ?_) (fun h => absurd (show (0 : Int) = 0 by rfl) h)
    refine x_lr (z := some k) T_114_53 rfl ?_
    refine x_ic T_114_54 ?_
    refine x_sta T_114_55 rfl ?_
    refine x_cv3 T_114_57 mN_115 mL_115 (Nat.le_of_ble_eq_true rfl) mO_115 (hP.o h.1) (Nat.le_of_ble_eq_true rfl) (hn25) ?_
    rintro _ σ ⟨rfl, rfl⟩
    refine cI ?_
    refine x_if T_114_60 (fun _ => ?_) (fun h => absurd (show (0 : Int) = 0 by rfl) h)
    refine x_lr (z := some k) T_114_67 rfl ?_
    refine x_ic T_114_68 ?_
    refine x_sta T_114_69 rfl ?_
    refine x_cv3 T_114_71 mN_115 mL_115 (Nat.le_of_ble_eq_true rfl) mO_115 (hP.o h.1) (Nat.le_of_ble_eq_true rfl) (hn26) ?_
    rintro _ σ ⟨rfl, rfl⟩
    refine cI ?_
    refine x_if T_114_74 (fun _ => ?_) (fun h => absurd (show (0 : Int) = 0 by rfl) h)
    refine x_lr (z := some k) T_114_81 rfl ?_
    refine x_ic T_114_82 ?_
    refine x_sta T_114_83 rfl ?_
    refine x_cv3 T_114_85 mN_115 mL_115 (Nat.le_of_ble_eq_true rfl) mO_115 (hP.o h.1) (Nat.le_of_ble_eq_true rfl) (hn27) ?_
    rintro _ σ ⟨rfl, rfl⟩
    refine cI ?_
    refine x_if T_114_88 (fun _ => ?_) (fun h => absurd (show (0 : Int) = 0 by rfl) h)
    refine x_lr (z := some k) T_114_96 rfl ?_
    refine x_ic T_114_97 ?_
    refine x_sta T_114_98 rfl ?_
    refine x_cv3 T_114_100 mN_115 mL_115 (Nat.le_of_ble_eq_true rfl) mO_115 (hP.o h.1) (Nat.le_of_ble_eq_true rfl) (hn28) ?_
    rintro _ σ ⟨rfl, rfl⟩
    refine cI ?_
    refine x_if T_114_103 (fun _ => ?_) (fun h => absurd (show (0 : Int) = 0 by rfl) h)
    refine x_lr (z := some k) T_114_111 rfl ?_
    refine x_ic T_114_112 ?_
    refine x_sta T_114_113 rfl ?_
    refine x_cv3 T_114_115 mN_115 mL_115 (Nat.le_of_ble_eq_true rfl) mO_115 (hP.o h.1) (Nat.le_of_ble_eq_true rfl) (hn29) ?_
    rintro _ σ ⟨rfl, rfl⟩
    refine cI ?_
    refine x_if T_114_118 (fun _ => ?_) (fun h => absurd (show (0 : Int) = 0 by rfl) h)
    refine x_lr (z := some k) T_114_126 rfl ?_
    refine x_ic T_114_127 ?_
    refine x_sta T_114_128 rfl ?_
    refine x_cv3 T_114_130 mN_115 mL_115 (Nat.le_of_ble_eq_true rfl) mO_115 (hP.o h.1) (Nat.le_of_ble_eq_true rfl) (hn30) ?_
    rintro _ σ ⟨rfl, rfl⟩
    refine cI ?_
    refine x_if T_114_133 (fun _ => ?_) (fun h => absurd (show (0 : Int) = 0 by rfl) h)
    refine x_lr (z := some k) T_114_141 rfl ?_
    refine x_ic T_114_142 ?_
    refine x_sta T_114_143 rfl ?_
    refine x_cv3 T_114_145 mN_115 mL_115 (Nat.le_of_ble_eq_true rfl) mO_115 (hP.o h.1) (Nat.le_of_ble_eq_true rfl) (hn31) ?_
    rintro _ σ ⟨rfl, rfl⟩
    refine cI ?_
    refine x_if T_114_148 (fun _ => ?_) (fun h => absurd (show (0 : Int) = 0 by rfl) h)
    refine x_lr (z := some k) T_114_156 rfl ?_
    refine x_ic T_114_157 ?_
    refine x_sta T_114_158 rfl ?_
    refine x_cv3 T_114_160 mN_115 mL_115 (Nat.le_of_ble_eq_true rfl) mO_115 (hP.o h.1) (Nat.le_of_ble_eq_true rfl) (hn32) ?_
    rintro _ σ ⟨rfl, rfl⟩
    refine cI ?_
    refine x_if T_114_163 (fun _ => ?_) (fun h => absurd (show (0 : Int) = 0 by rfl) h)
    refine x_lr (z := some k) T_114_171 rfl ?_
    refine x_ic T_114_172 ?_
    refine x_sta T_114_173 rfl ?_
    refine x_cv3 T_114_175 mN_115 mL_115 (Nat.le_of_ble_eq_true rfl) mO_115 (hP.o h.1) (Nat.le_of_ble_eq_true rfl) (hn33) ?_
    rintro _ σ ⟨rfl, rfl⟩
    refine cI ?_
    refine x_if T_114_178 (fun _ => ?_) (fun h => absurd (show (0 : Int) = 0 by rfl) h)
    refine x_lr (z := some k) T_114_186 rfl ?_
    refine x_ic T_114_187 ?_
    refine x_sta T_114_188 rfl ?_
    refine x_cv3 T_114_190 mN_115 mL_115 (Nat.le_of_ble_eq_true rfl) mO_115 (hP.o h.1) (Nat.le_of_ble_eq_true rfl) (hn34) ?_
    rintro _ σ ⟨rfl, rfl⟩
    refine cI ?_
    refine x_if T_114_193 (fun _ => ?_) (fun h => absurd (show (0 : Int) = 0 by rfl) h)
    refine x_lr (z := some k) T_114_201 rfl ?_
    refine x_ic T_114_202 ?_
    refine x_sta T_114_203 rfl ?_
    refine x_cv3 T_114_205 mN_115 mL_115 (Nat.le_of_ble_eq_true rfl) mO_115 (hP.o h.1) (Nat.le_of_ble_eq_true rfl) (hn35) ?_
    rintro _ σ ⟨rfl, rfl⟩
    refine cI ?_
    refine x_if T_114_208 (fun _ => ?_) (fun h => absurd (show (0 : Int) = 0 by rfl) h)
    refine x_lr (z := some k) T_114_216 rfl ?_
    refine x_ic T_114_217 ?_
    refine x_sta T_114_218 rfl ?_
    refine x_cv3 T_114_220 mN_115 mL_115 (Nat.le_of_ble_eq_true rfl) mO_115 (hP.o h.1) (Nat.le_of_ble_eq_true rfl) (hn36) ?_
    rintro _ σ ⟨rfl, rfl⟩
    refine cI ?_
    refine x_if T_114_223 (fun _ => ?_) (fun h => absurd (show (0 : Int) = 0 by rfl) h)
    refine x_lr (z := some k) T_114_231 rfl ?_
    refine x_ic T_114_232 ?_
    refine x_sta T_114_233 rfl ?_
    refine x_cv3 T_114_235 mN_115 mL_115 (Nat.le_of_ble_eq_true rfl) mO_115 (hP.o h.1) (Nat.le_of_ble_eq_true rfl) (h37) ?_
    rintro _ σ ⟨rfl, rfl⟩
    refine cI ?_
    refine x_if T_114_238 (fun h => absurd (show (1 : Int) = 0 from h) (by decide)) (fun _ => ?_)
    refine x_ic T_114_241 ?_
    refine x_goto T_114_243 ?_
    refine x_ri T_114_383 ?_
    exact ⟨rfl, rfl⟩
  rw [if_neg q37] at h37
  rw [if_neg q37]
  have hn37 := h37
  have h38 := his 38 (by decide)
  by_cases q38 : wd = txt 38
  · rw [if_pos q38] at h38
    rw [if_pos q38]
    refine CL_in mL_114 rfl ?_
    show WP fb _ 114 0 [some (vR (some k))] [] σ _
    refine x_lr (z := some k) T_114_0 rfl ?_
    refine x_gI (z := n) T_114_1 (Or.inl F_16_4) (hP.o h.1) (Eq.trans (hP.gi h.1 (key := 2516) rfl) h5) ?_
    refine x_if T_114_4 (fun _ => ?_) (fun h => absurd (show ¬ n = 0 by omega) h)
    refine x_lr (z := some k) T_114_11 rfl ?_
    refine x_ic T_114_12 ?_
    refine x_sta T_114_13 rfl ?_
    refine x_cv3 T_114_15 mN_115 mL_115 (Nat.le_of_ble_eq_true rfl) mO_115 (hP.o h.1) (Nat.le_of_ble_eq_true rfl) (hn22) ?_
    rintro _ σ ⟨rfl, rfl⟩
    refine cI ?_
    refine x_if T_114_18 (fun _ => ?_) (fun h => absurd (show (0 : Int) = 0 by rfl) h)
    refine x_lr (z := some k) T_114_25 rfl ?_
    refine x_ic T_114_26 ?_
    refine x_sta T_114_27 rfl ?_
    refine x_cv3 T_114_29 mN_115 mL_115 (Nat.le_of_ble_eq_true rfl) mO_115 (hP.o h.1) (Nat.le_of_ble_eq_true rfl) (hn23) ?_
    rintro _ σ ⟨rfl, rfl⟩
    refine cI ?_
    refine x_if T_114_32 (fun _ => ?_) (fun h => absurd (show (0 : Int) = 0 by rfl) h)
    refine x_lr (z := some k) T_114_39 rfl ?_
    refine x_ic T_114_40 ?_
    refine x_sta T_114_41 rfl ?_
    refine x_cv3 T_114_43 mN_115 mL_115 (Nat.le_of_ble_eq_true rfl) mO_115 (hP.o h.1) (Nat.le_of_ble_eq_true rfl) (hn24) ?_
    rintro _ σ ⟨rfl, rfl⟩
    refine cI ?_
    refine x_if T_114_46 (fun _ => ?_) (fun h => absurd (show (0 : Int) = 0 by rfl) h)
    refine x_lr (z := some k) T_114_53 rfl ?_
    refine x_ic T_114_54 ?_
    refine x_sta T_114_55 rfl ?_
    refine x_cv3 T_114_57 mN_115 mL_115 (Nat.le_of_ble_eq_true rfl) mO_115 (hP.o h.1) (Nat.le_of_ble_eq_true rfl) (hn25) ?_
    rintro _ σ ⟨rfl, rfl⟩
    refine cI ?_
    refine x_if T_114_60 (fun _ => ?_) (fun h => absurd (show (0 : Int) = 0 by rfl) h)
    refine x_lr (z := some k) T_114_67 rfl ?_
    refine x_ic T_114_68 ?_
    refine x_sta T_114_69 rfl ?_
    refine x_cv3 T_114_71 mN_115 mL_115 (Nat.le_of_ble_eq_true rfl) mO_115 (hP.o h.1) (Nat.le_of_ble_eq_true rfl) (hn26) ?_
    rintro _ σ ⟨rfl, rfl⟩
    refine cI ?_
    refine x_if T_114_74 (fun _ => ?_) (fun h => absurd (show (0 : Int) = 0 by rfl) h)
    refine x_lr (z := some k) T_114_81 rfl ?_
    refine x_ic T_114_82 ?_
    refine x_sta T_114_83 rfl ?_
    refine x_cv3 T_114_85 mN_115 mL_115 (Nat.le_of_ble_eq_true rfl) mO_115 (hP.o h.1) (Nat.le_of_ble_eq_true rfl) (hn27) ?_
    rintro _ σ ⟨rfl, rfl⟩
    refine cI ?_
    refine x_if T_114_88 (fun _ => ?_) (fun h => absurd (show (0 : Int) = 0 by rfl) h)
    refine x_lr (z := some k) T_114_96 rfl ?_
    refine x_ic T_114_97 ?_
    refine x_sta T_114_98 rfl ?_
    refine x_cv3 T_114_100 mN_115 mL_115 (Nat.le_of_ble_eq_true rfl) mO_115 (hP.o h.1) (Nat.le_of_ble_eq_true rfl) (hn28) ?_
    rintro _ σ ⟨rfl, rfl⟩
    refine cI ?_
    refine x_if T_114_103 (fun _ => ?_) (fun h => absurd (show (0 : Int) = 0 by rfl) h)
    refine x_lr (z := some k) T_114_111 rfl ?_
    refine x_ic T_114_112 ?_
    refine x_sta T_114_113 rfl ?_
    refine x_cv3 T_114_115 mN_115 mL_115 (Nat.le_of_ble_eq_true rfl) mO_115 (hP.o h.1) (Nat.le_of_ble_eq_true rfl) (hn29) ?_
    rintro _ σ ⟨rfl, rfl⟩
    refine cI ?_
    refine x_if T_114_118 (fun _ => ?_) (fun h => absurd (show (0 : Int) = 0 by rfl) h)
    refine x_lr (z := some k) T_114_126 rfl ?_
    refine x_ic T_114_127 ?_
    refine x_sta T_114_128 rfl ?_
    refine x_cv3 T_114_130 mN_115 mL_115 (Nat.le_of_ble_eq_true rfl) mO_115 (hP.o h.1) (Nat.le_of_ble_eq_true rfl) (hn30) ?_
    rintro _ σ ⟨rfl, rfl⟩
    refine cI ?_
    refine x_if T_114_133 (fun _ => ?_) (fun h => absurd (show (0 : Int) = 0 by rfl) h)
    refine x_lr (z := some k) T_114_141 rfl ?_
    refine x_ic T_114_142 ?_
    refine x_sta T_114_143 rfl ?_
    refine x_cv3 T_114_145 mN_115 mL_115 (Nat.le_of_ble_eq_true rfl) mO_115 (hP.o h.1) (Nat.le_of_ble_eq_true rfl) (hn31) ?_
    rintro _ σ ⟨rfl, rfl⟩
    refine cI ?_
    refine x_if T_114_148 (fun _ => ?_) (fun h => absurd (show (0 : Int) = 0 by rfl) h)
    refine x_lr (z := some k) T_114_156 rfl ?_
    refine x_ic T_114_157 ?_
    refine x_sta T_114_158 rfl ?_
    refine x_cv3 T_114_160 mN_115 mL_115 (Nat.le_of_ble_eq_true rfl) mO_115 (hP.o h.1) (Nat.le_of_ble_eq_true rfl) (hn32) ?_
    rintro _ σ ⟨rfl, rfl⟩
    refine cI ?_
    refine x_if T_114_163 (fun _ => ?_) (fun h => absurd (show (0 : Int) = 0 by rfl) h)
    refine x_lr (z := some k) T_114_171 rfl ?_
    refine x_ic T_114_172 ?_
    refine x_sta T_114_173 rfl ?_
    refine x_cv3 T_114_175 mN_115 mL_115 (Nat.le_of_ble_eq_true rfl) mO_115 (hP.o h.1) (Nat.le_of_ble_eq_true rfl) (hn33) ?_
    rintro _ σ ⟨rfl, rfl⟩
    refine cI ?_
    refine x_if T_114_178 (fun _ => ?_) (fun h => absurd (show (0 : Int) = 0 by rfl) h)
    refine x_lr (z := some k) T_114_186 rfl ?_
    refine x_ic T_114_187 ?_
    refine x_sta T_114_188 rfl ?_
    refine x_cv3 T_114_190 mN_115 mL_115 (Nat.le_of_ble_eq_true rfl) mO_115 (hP.o h.1) (Nat.le_of_ble_eq_true rfl) (hn34) ?_
    rintro _ σ ⟨rfl, rfl⟩
    refine cI ?_
    refine x_if T_114_193 (fun _ => ?_) (fun h => absurd (show (0 : Int) = 0 by rfl) h)
    refine x_lr (z := some k) T_114_201 rfl ?_
    refine x_ic T_114_202 ?_
    refine x_sta T_114_203 rfl ?_
    refine x_cv3 T_114_205 mN_115 mL_115 (Nat.le_of_ble_eq_true rfl) mO_115 (hP.o h.1) (Nat.le_of_ble_eq_true rfl) (hn35) ?_
    rintro _ σ ⟨rfl, rfl⟩
    refine cI ?_
    refine x_if T_114_208 (fun _ => ?_) (fun h => absurd (show (0 : Int) = 0 by rfl) h)
    refine x_lr (z := some k) T_114_216 rfl ?_
    refine x_ic T_114_217 ?_
    refine x_sta T_114_218 rfl ?_
    refine x_cv3 T_114_220 mN_115 mL_115 (Nat.le_of_ble_eq_true rfl) mO_115 (hP.o h.1) (Nat.le_of_ble_eq_true rfl) (hn36) ?_
    rintro _ σ ⟨rfl, rfl⟩
    refine cI ?_
    refine x_if T_114_223 (fun _ => ?_) (fun h => absurd (show (0 : Int) = 0 by rfl) h)
    refine x_lr (z := some k) T_114_231 rfl ?_
    refine x_ic T_114_232 ?_
    refine x_sta T_114_233 rfl ?_
    refine x_cv3 T_114_235 mN_115 mL_115 (Nat.le_of_ble_eq_true rfl) mO_115 (hP.o h.1) (Nat.le_of_ble_eq_true rfl) (hn37) ?_
    rintro _ σ ⟨rfl, rfl⟩
    refine cI ?_
    refine x_if T_114_238 (fun _ => ?_) (fun h => absurd (show (0 : Int) = 0 by rfl) h)
    refine x_lr (z := some k) T_114_246 rfl ?_
    refine x_ic T_114_247 ?_
    refine x_sta T_114_248 rfl ?_
    refine x_cv3 T_114_250 mN_115 mL_115 (Nat.le_of_ble_eq_true rfl) mO_115 (hP.o h.1) (Nat.le_of_ble_eq_true rfl) (h38) ?_
    rintro _ σ ⟨rfl, rfl⟩
    refine cI ?_
    refine x_if T_114_253 (fun h => absurd (show (1 : Int) = 0 from h) (by decide)) (fun _ => ?_)
    refine x_ic T_114_256 ?_
    refine x_goto T_114_258 ?_
    refine x_ri T_114_383 ?_
    exact ⟨rfl, rfl⟩
  rw [if_neg q38] at h38
  rw [if_neg q38]
  have hn38 := h38
  have h39 := his 39 (by decide)
  by_cases q39 : wd = txt 39
  · rw [if_pos q39] at h39
    rw [if_pos q39]
    refine CL_in mL_114 rfl ?_
    show WP fb _ 114 0 [some (vR (some k))] [] σ _
    refine x_lr (z := some k) T_114_0 rfl ?_
    refine x_gI (z := n) T_114_1 (Or.inl F_16_4) (hP.o h.1) (Eq.trans (hP.gi h.1 (key := 2516) rfl) h5) ?_
    refine x_if T_114_4 (fun _ => ?_) (fun h => absurd (show ¬ n = 0 by omega) h)
    refine x_lr (z := some k) T_114_11 rfl ?_
    refine x_ic T_114_12 ?_
    refine x_sta T_114_13 rfl ?_
    refine x_cv3 T_114_15 mN_115 mL_115 (Nat.le_of_ble_eq_true rfl) mO_115 (hP.o h.1) (Nat.le_of_ble_eq_true rfl) (hn22) ?_
    rintro _ σ ⟨rfl, rfl⟩
    refine cI ?_
    refine x_if T_114_18 (fun _ => ?_) (fun h => absurd (show (0 : Int) = 0 by rfl) h)
    refine x_lr (z := some k) T_114_25 rfl ?_
    refine x_ic T_114_26 ?_
    refine x_sta T_114_27 rfl ?_
    refine x_cv3 T_114_29 mN_115 mL_115 (Nat.le_of_ble_eq_true rfl) mO_115 (hP.o h.1) (Nat.le_of_ble_eq_true rfl) (hn23) ?_
    rintro _ σ ⟨rfl, rfl⟩
    refine cI ?_
    refine x_if T_114_32 (fun _ => ?_) (fun h => absurd (show (0 : Int) = 0 by rfl) h)
    refine x_lr (z := some k) T_114_39 rfl ?_
    refine x_ic T_114_40 ?_
    refine x_sta T_114_41 rfl ?_
    refine x_cv3 T_114_43 mN_115 mL_115 (Nat.le_of_ble_eq_true rfl) mO_115 (hP.o h.1) (Nat.le_of_ble_eq_true rfl) (hn24) ?_
    rintro _ σ ⟨rfl, rfl⟩
    refine cI ?_
    refine x_if T_114_46 (fun _ => ?_) (fun h => absurd (show (0 : Int) = 0 by rfl) h)
    refine x_lr (z := some k) T_114_53 rfl ?_
    refine x_ic T_114_54 ?_
    refine x_sta T_114_55 rfl ?_
    refine x_cv3 T_114_57 mN_115 mL_115 (Nat.le_of_ble_eq_true rfl) mO_115 (hP.o h.1) (Nat.le_of_ble_eq_true rfl) (hn25) ?_
    rintro _ σ ⟨rfl, rfl⟩
    refine cI ?_
    refine x_if T_114_60 (fun _ => ?_) (fun h => absurd (show (0 : Int) = 0 by rfl) h)
    refine x_lr (z := some k) T_114_67 rfl ?_
    refine x_ic T_114_68 ?_
    refine x_sta T_114_69 rfl ?_
    refine x_cv3 T_114_71 mN_115 mL_115 (Nat.le_of_ble_eq_true rfl) mO_115 (hP.o h.1) (Nat.le_of_ble_eq_true rfl) (hn26) ?_
    rintro _ σ ⟨rfl, rfl⟩
    refine cI ?_
    refine x_if T_114_74 (fun _ => ?_) (fun h => absurd (show (0 : Int) = 0 by rfl) h)
    refine x_lr (z := some k) T_114_81 rfl ?_
    refine x_ic T_114_82 ?_
    refine x_sta T_114_83 rfl ?_
    refine x_cv3 T_114_85 mN_115 mL_115 (Nat.le_of_ble_eq_true rfl) mO_115 (hP.o h.1) (Nat.le_of_ble_eq_true rfl) (hn27) ?_
    rintro _ σ ⟨rfl, rfl⟩
    refine cI ?_
    refine x_if T_114_88 (fun _ => ?_) (fun h => absurd (show (0 : Int) = 0 by rfl) h)
    refine x_lr (z := some k) T_114_96 rfl ?_
    refine x_ic T_114_97 ?_
    refine x_sta T_114_98 rfl ?_
    refine x_cv3 T_114_100 mN_115 mL_115 (Nat.le_of_ble_eq_true rfl) mO_115 (hP.o h.1) (Nat.le_of_ble_eq_true rfl) (hn28) ?_
    rintro _ σ ⟨rfl, rfl⟩
    refine cI ?_
    refine x_if T_114_103 (fun _ => ?_) (fun h => absurd (show (0 : Int) = 0 by rfl) h)
    refine x_lr (z := some k) T_114_111 rfl ?_
    refine x_ic T_114_112 ?_
    refine x_sta T_114_113 rfl ?_
    refine x_cv3 T_114_115 mN_115 mL_115 (Nat.le_of_ble_eq_true rfl) mO_115 (hP.o h.1) (Nat.le_of_ble_eq_true rfl) (hn29) ?_
    rintro _ σ ⟨rfl, rfl⟩
    refine cI ?_
    refine x_if T_114_118 (fun _ => ?_) (fun h => absurd (show (0 : Int) = 0 by rfl) h)
    refine x_lr (z := some k) T_114_126 rfl ?_
    refine x_ic T_114_127 ?_
    refine x_sta T_114_128 rfl ?_
    refine x_cv3 T_114_130 mN_115 mL_115 (Nat.le_of_ble_eq_true rfl) mO_115 (hP.o h.1) (Nat.le_of_ble_eq_true rfl) (hn30) ?_
    rintro _ σ ⟨rfl, rfl⟩
    refine cI ?_
    refine x_if T_114_133 (fun _ => ?_) (fun h => absurd (show (0 : Int) = 0 by rfl) h)
    refine x_lr (z := some k) T_114_141 rfl ?_
    refine x_ic T_114_142 ?_
    refine x_sta T_114_143 rfl ?_
    refine x_cv3 T_114_145 mN_115 mL_115 (Nat.le_of_ble_eq_true rfl) mO_115 (hP.o h.1) (Nat.le_of_ble_eq_true rfl) (hn31) ?_
    rintro _ σ ⟨rfl, rfl⟩
    refine cI ?_
    refine x_if T_114_148 (fun _ => ?_) (fun h => absurd (show (0 : Int) = 0 by rfl) h)
    refine x_lr (z := some k) T_114_156 rfl ?_
    refine x_ic T_114_157 ?_
    refine x_sta T_114_158 rfl ?_
    refine x_cv3 T_114_160 mN_115 mL_115 (Nat.le_of_ble_eq_true rfl) mO_115 (hP.o h.1) (Nat.le_of_ble_eq_true rfl) (hn32) ?_
    rintro _ σ ⟨rfl, rfl⟩
    refine cI ?_
    refine x_if T_114_163 (fun _ => ?_) (fun h => absurd (show (0 : Int) = 0 by rfl) h)
    refine x_lr (z := some k) T_114_171 rfl ?_
    refine x_ic T_114_172 ?_
    refine x_sta T_114_173 rfl ?_
    refine x_cv3 T_114_175 mN_115 mL_115 (Nat.le_of_ble_eq_true rfl) mO_115 (hP.o h.1) (Nat.le_of_ble_eq_true rfl) (hn33) ?_
    rintro _ σ ⟨rfl, rfl⟩
    refine cI ?_
    refine x_if T_114_178 (fun _ => ?_) (fun h => absurd (show (0 : Int) = 0 by rfl) h)
    refine x_lr (z := some k) T_114_186 rfl ?_
    refine x_ic T_114_187 ?_
    refine x_sta T_114_188 rfl ?_
    refine x_cv3 T_114_190 mN_115 mL_115 (Nat.le_of_ble_eq_true rfl) mO_115 (hP.o h.1) (Nat.le_of_ble_eq_true rfl) (hn34) ?_
    rintro _ σ ⟨rfl, rfl⟩
    refine cI ?_
    refine x_if T_114_193 (fun _ => ?_) (fun h => absurd (show (0 : Int) = 0 by rfl) h)
    refine x_lr (z := some k) T_114_201 rfl ?_
    refine x_ic T_114_202 ?_
    refine x_sta T_114_203 rfl ?_
    refine x_cv3 T_114_205 mN_115 mL_115 (Nat.le_of_ble_eq_true rfl) mO_115 (hP.o h.1) (Nat.le_of_ble_eq_true rfl) (hn35) ?_
    rintro _ σ ⟨rfl, rfl⟩
    refine cI ?_
    refine x_if T_114_208 (fun _ => ?_) (fun h => absurd (show (0 : Int) = 0 by rfl) h)
    refine x_lr (z := some k) T_114_216 rfl ?_
    refine x_ic T_114_217 ?_
    refine x_sta T_114_218 rfl ?_
    refine x_cv3 T_114_220 mN_115 mL_115 (Nat.le_of_ble_eq_true rfl) mO_115 (hP.o h.1) (Nat.le_of_ble_eq_true rfl) (hn36) ?_
    rintro _ σ ⟨rfl, rfl⟩
    refine cI ?_
    refine x_if T_114_223 (fun _ => ?_) (fun h => absurd (show (0 : Int) = 0 by rfl) h)
    refine x_lr (z := some k) T_114_231 rfl ?_
    refine x_ic T_114_232 ?_
    refine x_sta T_114_233 rfl ?_
    refine x_cv3 T_114_235 mN_115 mL_115 (Nat.le_of_ble_eq_true rfl) mO_115 (hP.o h.1) (Nat.le_of_ble_eq_true rfl) (hn37) ?_
    rintro _ σ ⟨rfl, rfl⟩
    refine cI ?_
    refine x_if T_114_238 (fun _ => ?_) (fun h => absurd (show (0 : Int) = 0 by rfl) h)
    refine x_lr (z := some k) T_114_246 rfl ?_
    refine x_ic T_114_247 ?_
    refine x_sta T_114_248 rfl ?_
    refine x_cv3 T_114_250 mN_115 mL_115 (Nat.le_of_ble_eq_true rfl) mO_115 (hP.o h.1) (Nat.le_of_ble_eq_true rfl) (hn38) ?_
    rintro _ σ ⟨rfl, rfl⟩
    refine cI ?_
    refine x_if T_114_253 (fun _ => ?_) (fun h => absurd (show (0 : Int) = 0 by rfl) h)
    refine x_lr (z := some k) T_114_261 rfl ?_
    refine x_ic T_114_262 ?_
    refine x_sta T_114_263 rfl ?_
    refine x_cv3 T_114_265 mN_115 mL_115 (Nat.le_of_ble_eq_true rfl) mO_115 (hP.o h.1) (Nat.le_of_ble_eq_true rfl) (h39) ?_
    rintro _ σ ⟨rfl, rfl⟩
    refine cI ?_
    refine x_if T_114_268 (fun h => absurd (show (1 : Int) = 0 from h) (by decide)) (fun _ => ?_)
    refine x_ic T_114_271 ?_
    refine x_goto T_114_273 ?_
    refine x_ri T_114_383 ?_
    exact ⟨rfl, rfl⟩
  rw [if_neg q39] at h39
  rw [if_neg q39]
  have hn39 := h39
  have h40 := his 40 (by decide)
  by_cases q40 : wd = txt 40
  · rw [if_pos q40] at h40
    rw [if_pos q40]
    refine CL_in mL_114 rfl ?_
    show WP fb _ 114 0 [some (vR (some k))] [] σ _
    refine x_lr (z := some k) T_114_0 rfl ?_
    refine x_gI (z := n) T_114_1 (Or.inl F_16_4) (hP.o h.1) (Eq.trans (hP.gi h.1 (key := 2516) rfl) h5) ?_
    refine x_if T_114_4 (fun _ => ?_) (fun h => absurd (show ¬ n = 0 by omega) h)
    refine x_lr (z := some k) T_114_11 rfl ?_
    refine x_ic T_114_12 ?_
    refine x_sta T_114_13 rfl ?_
    refine x_cv3 T_114_15 mN_115 mL_115 (Nat.le_of_ble_eq_true rfl) mO_115 (hP.o h.1) (Nat.le_of_ble_eq_true rfl) (hn22) ?_
    rintro _ σ ⟨rfl, rfl⟩
    refine cI ?_
    refine x_if T_114_18 (fun _ => ?_) (fun h => absurd (show (0 : Int) = 0 by rfl) h)
    refine x_lr (z := some k) T_114_25 rfl ?_
    refine x_ic T_114_26 ?_
    refine x_sta T_114_27 rfl ?_
    refine x_cv3 T_114_29 mN_115 mL_115 (Nat.le_of_ble_eq_true rfl) mO_115 (hP.o h.1) (Nat.le_of_ble_eq_true rfl) (hn23) ?_
    rintro _ σ ⟨rfl, rfl⟩
    refine cI ?_
    refine x_if T_114_32 (fun _ => ?_) (fun h => absurd (show (0 : Int) = 0 by rfl) h)
    refine x_lr (z := some k) T_114_39 rfl ?_
    refine x_ic T_114_40 ?_
    refine x_sta T_114_41 rfl ?_
    refine x_cv3 T_114_43 mN_115 mL_115 (Nat.le_of_ble_eq_true rfl) mO_115 (hP.o h.1) (Nat.le_of_ble_eq_true rfl) (hn24) ?_
    rintro _ σ ⟨rfl, rfl⟩
    refine cI ?_
    refine x_if T_114_46 (fun _ => ?_) (fun h => absurd (show (0 : Int) = 0 by rfl) h)
    refine x_lr (z := some k) T_114_53 rfl ?_
    refine x_ic T_114_54 ?_
    refine x_sta T_114_55 rfl ?_
    refine x_cv3 T_114_57 mN_115 mL_115 (Nat.le_of_ble_eq_true rfl) mO_115 (hP.o h.1) (Nat.le_of_ble_eq_true rfl) (hn25) ?_
    rintro _ σ ⟨rfl, rfl⟩
    refine cI ?_
    refine x_if T_114_60 (fun _ => ?_) (fun h => absurd (show (0 : Int) = 0 by rfl) h)
    refine x_lr (z := some k) T_114_67 rfl ?_
    refine x_ic T_114_68 ?_
    refine x_sta T_114_69 rfl ?_
    refine x_cv3 T_114_71 mN_115 mL_115 (Nat.le_of_ble_eq_true rfl) mO_115 (hP.o h.1) (Nat.le_of_ble_eq_true rfl) (hn26) ?_
    rintro _ σ ⟨rfl, rfl⟩
    refine cI ?_
    refine x_if T_114_74 (fun _ => ?_) (fun h => absurd (show (0 : Int) = 0 by rfl) h)
    refine x_lr (z := some k) T_114_81 rfl ?_
    refine x_ic T_114_82 ?_
    refine x_sta T_114_83 rfl ?_
    refine x_cv3 T_114_85 mN_115 mL_115 (Nat.le_of_ble_eq_true rfl) mO_115 (hP.o h.1) (Nat.le_of_ble_eq_true rfl) (hn27) ?_
    rintro _ σ ⟨rfl, rfl⟩
    refine cI ?_
    refine x_if T_114_88 (fun _ => ?_) (fun h => absurd (show (0 : Int) = 0 by rfl) h)
    refine x_lr (z := some k) T_114_96 rfl ?_
    refine x_ic T_114_97 ?_
    refine x_sta T_114_98 rfl ?_
    refine x_cv3 T_114_100 mN_115 mL_115 (Nat.le_of_ble_eq_true rfl) mO_115 (hP.o h.1) (Nat.le_of_ble_eq_true rfl) (hn28) ?_
    rintro _ σ ⟨rfl, rfl⟩
    refine cI ?_
    refine x_if T_114_103 (fun _ => ?_) (fun h => absurd (show (0 : Int) = 0 by rfl) h)
    refine x_lr (z := some k) T_114_111 rfl ?_
    refine x_ic T_114_112 ?_
    refine x_sta T_114_113 rfl ?_
    refine x_cv3 T_114_115 mN_115 mL_115 (Nat.le_of_ble_eq_true rfl) mO_115 (hP.o h.1) (Nat.le_of_ble_eq_true rfl) (hn29) ?_
    rintro _ σ ⟨rfl, rfl⟩
    refine cI ?_
    refine x_if T_114_118 (fun _ => ?_) (fun h => absurd (show (0 : Int) = 0 by rfl) h)
    refine x_lr (z := some k) T_114_126 rfl ?_
    refine x_ic T_114_127 ?_
    refine x_sta T_114_128 rfl ?_
    refine x_cv3 T_114_130 mN_115 mL_115 (Nat.le_of_ble_eq_true rfl) mO_115 (hP.o h.1) (Nat.le_of_ble_eq_true rfl) (hn30) ?_
    rintro _ σ ⟨rfl, rfl⟩
    refine cI ?_
    refine x_if T_114_133 (fun _ => ?_) (fun h => absurd (show (0 : Int) = 0 by rfl) h)
    refine x_lr (z := some k) T_114_141 rfl ?_
    refine x_ic T_114_142 ?_
    refine x_sta T_114_143 rfl ?_
    refine x_cv3 T_114_145 mN_115 mL_115 (Nat.le_of_ble_eq_true rfl) mO_115 (hP.o h.1) (Nat.le_of_ble_eq_true rfl) (hn31) ?_
    rintro _ σ ⟨rfl, rfl⟩
    refine cI ?_
    refine x_if T_114_148 (fun _ => ?_) (fun h => absurd (show (0 : Int) = 0 by rfl) h)
    refine x_lr (z := some k) T_114_156 rfl ?_
    refine x_ic T_114_157 ?_
    refine x_sta T_114_158 rfl ?_
    refine x_cv3 T_114_160 mN_115 mL_115 (Nat.le_of_ble_eq_true rfl) mO_115 (hP.o h.1) (Nat.le_of_ble_eq_true rfl) (hn32) ?_
    rintro _ σ ⟨rfl, rfl⟩
    refine cI ?_
    refine x_if T_114_163 (fun _ => ?_) (fun h => absurd (show (0 : Int) = 0 by rfl) h)
    refine x_lr (z := some k) T_114_171 rfl ?_
    refine x_ic T_114_172 ?_
    refine x_sta T_114_173 rfl ?_
    refine x_cv3 T_114_175 mN_115 mL_115 (Nat.le_of_ble_eq_true rfl) mO_115 (hP.o h.1) (Nat.le_of_ble_eq_true rfl) (hn33) ?_
    rintro _ σ ⟨rfl, rfl⟩
    refine cI ?_
    refine x_if T_114_178 (fun _ => ?_) (fun h => absurd (show (0 : Int) = 0 by rfl) h)
    refine x_lr (z := some k) T_114_186 rfl ?_
    refine x_ic T_114_187 ?_
    refine x_sta T_114_188 rfl ?_
    refine x_cv3 T_114_190 mN_115 mL_115 (Nat.le_of_ble_eq_true rfl) mO_115 (hP.o h.1) (Nat.le_of_ble_eq_true rfl) (hn34) ?_
    rintro _ σ ⟨rfl, rfl⟩
    refine cI ?_
    refine x_if T_114_193 (fun _ => ?_) (fun h => absurd (show (0 : Int) = 0 by rfl) h)
    refine x_lr (z := some k) T_114_201 rfl ?_
    refine x_ic T_114_202 ?_
    refine x_sta T_114_203 rfl ?_
    refine x_cv3 T_114_205 mN_115 mL_115 (Nat.le_of_ble_eq_true rfl) mO_115 (hP.o h.1) (Nat.le_of_ble_eq_true rfl) (hn35) ?_
    rintro _ σ ⟨rfl, rfl⟩
    refine cI ?_
    refine x_if T_114_208 (fun _ => ?_) (fun h => absurd (show (0 : Int) = 0 by rfl) h)
    refine x_lr (z := some k) T_114_216 rfl ?_
    refine x_ic T_114_217 ?_
    refine x_sta T_114_218 rfl ?_
    refine x_cv3 T_114_220 mN_115 mL_115 (Nat.le_of_ble_eq_true rfl) mO_115 (hP.o h.1) (Nat.le_of_ble_eq_true rfl) (hn36) ?_
    rintro _ σ ⟨rfl, rfl⟩
    refine cI ?_
    refine x_if T_114_223 (fun _ => ?_) (fun h => absurd (show (0 : Int) = 0 by rfl) h)
    refine x_lr (z := some k) T_114_231 rfl ?_
    refine x_ic T_114_232 ?_
    refine x_sta T_114_233 rfl ?_
    refine x_cv3 T_114_235 mN_115 mL_115 (Nat.le_of_ble_eq_true rfl) mO_115 (hP.o h.1) (Nat.le_of_ble_eq_true rfl) (hn37) ?_
    rintro _ σ ⟨rfl, rfl⟩
    refine cI ?_
    refine x_if T_114_238 (fun _ => ?_) (fun h => absurd (show (0 : Int) = 0 by rfl) h)
    refine x_lr (z := some k) T_114_246 rfl ?_
    refine x_ic T_114_247 ?_
    refine x_sta T_114_248 rfl ?_
    refine x_cv3 T_114_250 mN_115 mL_115 (Nat.le_of_ble_eq_true rfl) mO_115 (hP.o h.1) (Nat.le_of_ble_eq_true rfl) (hn38) ?_
    rintro _ σ ⟨rfl, rfl⟩
    refine cI ?_
    refine x_if T_114_253 (fun _ => ?_) (fun h => absurd (show (0 : Int) = 0 by rfl) h)
    refine x_lr (z := some k) T_114_261 rfl ?_
    refine x_ic T_114_262 ?_
    refine x_sta T_114_263 rfl ?_
    refine x_cv3 T_114_265 mN_115 mL_115 (Nat.le_of_ble_eq_true rfl) mO_115 (hP.o h.1) (Nat.le_of_ble_eq_true rfl) (hn39) ?_
    rintro _ σ ⟨rfl, rfl⟩
    refine cI ?_
    refine x_if T_114_268 (fun _ => ?_) (fun h => absurd (show (0 : Int) = 0 by rfl) h)
    refine x_lr (z := some k) T_114_276 rfl ?_
    refine x_ic T_114_277 ?_
    refine x_sta T_114_278 rfl ?_
    refine x_cv3 T_114_280 mN_115 mL_115 (Nat.le_of_ble_eq_true rfl) mO_115 (hP.o h.1) (Nat.le_of_ble_eq_true rfl) (h40) ?_
    rintro _ σ ⟨rfl, rfl⟩
    refine cI ?_
    refine x_if T_114_283 (fun h => absurd (show (1 : Int) = 0 from h) (by decide)) (fun _ => ?_)
    refine x_ic T_114_286 ?_
    refine x_goto T_114_288 ?_
    refine x_ri T_114_383 ?_
    exact ⟨rfl, rfl⟩
  rw [if_neg q40] at h40
  rw [if_neg q40]
  have hn40 := h40
  have h41 := his 41 (by decide)
  by_cases q41 : wd = txt 41
  · rw [if_pos q41] at h41
    rw [if_pos q41]
    refine CL_in mL_114 rfl ?_
    show WP fb _ 114 0 [some (vR (some k))] [] σ _
    refine x_lr (z := some k) T_114_0 rfl ?_
    refine x_gI (z := n) T_114_1 (Or.inl F_16_4) (hP.o h.1) (Eq.trans (hP.gi h.1 (key := 2516) rfl) h5) ?_
    refine x_if T_114_4 (fun _ => ?_) (fun h => absurd (show ¬ n = 0 by omega) h)
    refine x_lr (z := some k) T_114_11 rfl ?_
    refine x_ic T_114_12 ?_
    refine x_sta T_114_13 rfl ?_
    refine x_cv3 T_114_15 mN_115 mL_115 (Nat.le_of_ble_eq_true rfl) mO_115 (hP.o h.1) (Nat.le_of_ble_eq_true rfl) (hn22) ?_
    rintro _ σ ⟨rfl, rfl⟩
    refine cI ?_
    refine x_if T_114_18 (fun _ => ?_) (fun h => absurd (show (0 : Int) = 0 by rfl) h)
    refine x_lr (z := some k) T_114_25 rfl ?_
    refine x_ic T_114_26 ?_
    refine x_sta T_114_27 rfl ?_
    refine x_cv3 T_114_29 mN_115 mL_115 (Nat.le_of_ble_eq_true rfl) mO_115 (hP.o h.1) (Nat.le_of_ble_eq_true rfl) (hn23) ?_
    rintro _ σ ⟨rfl, rfl⟩
    refine cI ?_
    refine x_if T_114_32 (fun _ => ?_) (fun h => absurd (show (0 : Int) = 0 by rfl) h)
    refine x_lr (z := some k) T_114_39 rfl ?_
    refine x_ic T_114_40 ?_
    refine x_sta T_114_41 rfl ?_
    refine x_cv3 T_114_43 mN_115 mL_115 (Nat.le_of_ble_eq_true rfl) mO_115 (hP.o h.1) (Nat.le_of_ble_eq_true rfl) (hn24) ?_
    rintro _ σ ⟨rfl, rfl⟩
    refine cI ?_
    refine x_if T_114_46 (fun _ => ?_) (fun h => absurd (show (0 : Int) = 0 by rfl) h)
    refine x_lr (z := some k) T_114_53 rfl ?_
    refine x_ic T_114_54 ?_
    refine x_sta T_114_55 rfl ?_
    refine x_cv3 T_114_57 mN_115 mL_115 (Nat.le_of_ble_eq_true rfl) mO_115 (hP.o h.1) (Nat.le_of_ble_eq_true rfl) (hn25) ?_
    rintro _ σ ⟨rfl, rfl⟩
    refine cI ?_
    refine x_if T_114_60 (fun _ => ?_) (fun h => absurd (show (0 : Int) = 0 by rfl) h)
    refine x_lr (z := some k) T_114_67 rfl ?_
    refine x_ic T_114_68 ?_
    refine x_sta T_114_69 rfl ?_
    refine x_cv3 T_114_71 mN_115 mL_115 (Nat.le_of_ble_eq_true rfl) mO_115 (hP.o h.1) (Nat.le_of_ble_eq_true rfl) (hn26) ?_
    rintro _ σ ⟨rfl, rfl⟩
    refine cI ?_
    refine x_if T_114_74 (fun _ => ?_) (fun h => absurd (show (0 : Int) = 0 by rfl) h)
    refine x_lr (z := some k) T_114_81 rfl ?_
    refine x_ic T_114_82 ?_
    refine x_sta T_114_83 rfl ?_
    refine x_cv3 T_114_85 mN_115 mL_115 (Nat.le_of_ble_eq_true rfl) mO_115 (hP.o h.1) (Nat.le_of_ble_eq_true rfl) (hn27) ?_
    rintro _ σ ⟨rfl, rfl⟩
    refine cI ?_
    refine x_if T_114_88 (fun _ => ?_) (fun h => absurd (show (0 : Int) = 0 by rfl) h)
    refine x_lr (z := some k) T_114_96 rfl ?_
    refine x_ic T_114_97 ?_
    refine x_sta T_114_98 rfl ?_
    refine x_cv3 T_114_100 mN_115 mL_115 (Nat.le_of_ble_eq_true rfl) mO_115 (hP.o h.1) (Nat.le_of_ble_eq_true rfl) (hn28) ?_
    rintro _ σ ⟨rfl, rfl⟩
    refine cI ?_
    refine x_if T_114_103 (fun _ => ?_) (fun h => absurd (show (0 : Int) = 0 by rfl) h)
    refine x_lr (z := some k) T_114_111 rfl ?_
    refine x_ic T_114_112 ?_
    refine x_sta T_114_113 rfl ?_
    refine x_cv3 T_114_115 mN_115 mL_115 (Nat.le_of_ble_eq_true rfl) mO_115 (hP.o h.1) (Nat.le_of_ble_eq_true rfl) (hn29) ?_
    rintro _ σ ⟨rfl, rfl⟩
    refine cI ?_
    refine x_if T_114_118 (fun _ => ?_) (fun h => absurd (show (0 : Int) = 0 by rfl) h)
    refine x_lr (z := some k) T_114_126 rfl ?_
    refine x_ic T_114_127 ?_
    refine x_sta T_114_128 rfl ?_
    refine x_cv3 T_114_130 mN_115 mL_115 (Nat.le_of_ble_eq_true rfl) mO_115 (hP.o h.1) (Nat.le_of_ble_eq_true rfl) (hn30) ?_
    rintro _ σ ⟨rfl, rfl⟩
    refine cI ?_
    refine x_if T_114_133 (fun _ => ?_) (fun h => absurd (show (0 : Int) = 0 by rfl) h)
    refine x_lr (z := some k) T_114_141 rfl ?_
    refine x_ic T_114_142 ?_
    refine x_sta T_114_143 rfl ?_
    refine x_cv3 T_114_145 mN_115 mL_115 (Nat.le_of_ble_eq_true rfl) mO_115 (hP.o h.1) (Nat.le_of_ble_eq_true rfl) (hn31) ?_
    rintro _ σ ⟨rfl, rfl⟩
    refine cI ?_
    refine x_if T_114_148 (fun _ => ?_) (fun h => absurd (show (0 : Int) = 0 by rfl) h)
    refine x_lr (z := some k) T_114_156 rfl ?_
    refine x_ic T_114_157 ?_
    refine x_sta T_114_158 rfl ?_
    refine x_cv3 T_114_160 mN_115 mL_115 (Nat.le_of_ble_eq_true rfl) mO_115 (hP.o h.1) (Nat.le_of_ble_eq_true rfl) (hn32) ?_
    rintro _ σ ⟨rfl, rfl⟩
    refine cI ?_
    refine x_if T_114_163 (fun _ => ?_) (fun h => absurd (show (0 : Int) = 0 by rfl) h)
    refine x_lr (z := some k) T_114_171 rfl ?_
    refine x_ic T_114_172 ?_
    refine x_sta T_114_173 rfl ?_
    refine x_cv3 T_114_175 mN_115 mL_115 (Nat.le_of_ble_eq_true rfl) mO_115 (hP.o h.1) (Nat.le_of_ble_eq_true rfl) (hn33) ?_
    rintro _ σ ⟨rfl, rfl⟩
    refine cI ?_
    refine x_if T_114_178 (fun _ => ?_) (fun h => absurd (show (0 : Int) = 0 by rfl) h)
    refine x_lr (z := some k) T_114_186 rfl ?_
    refine x_ic T_114_187 ?_
    refine x_sta T_114_188 rfl ?_
    refine x_cv3 T_114_190 mN_115 mL_115 (Nat.le_of_ble_eq_true rfl) mO_115 (hP.o h.1) (Nat.le_of_ble_eq_true rfl) (hn34) ?_
    rintro _ σ ⟨rfl, rfl⟩
    refine cI ?_
    refine x_if T_114_193 (fun _ => ?_) (fun h => absurd (show (0 : Int) = 0 by rfl) h)
    refine x_lr (z := some k) T_114_201 rfl ?_
    refine x_ic T_114_202 ?_
    refine x_sta T_114_203 rfl ?_
    refine x_cv3 T_114_205 mN_115 mL_115 (Nat.le_of_ble_eq_true rfl) mO_115 (hP.o h.1) (Nat.le_of_ble_eq_true rfl) (hn35) ?_
    rintro _ σ ⟨rfl, rfl⟩
    refine cI ?_
    refine x_if T_114_208 (fun _ => ?_) (fun h => absurd (show (0 : Int) = 0 by rfl) h)
    refine x_lr (z := some k) T_114_216 rfl ?_
    refine x_ic T_114_217 ?_
    refine x_sta T_114_218 rfl ?_
    refine x_cv3 T_114_220 mN_115 mL_115 (Nat.le_of_ble_eq_true rfl) mO_115 (hP.o h.1) (Nat.le_of_ble_eq_true rfl) (hn36) ?_
    rintro _ σ ⟨rfl, rfl⟩
    refine cI ?_
    refine x_if T_114_223 (fun _ => ?_) (fun h => absurd (show (0 : Int) = 0 by rfl) h)
    refine x_lr (z := some k) T_114_231 rfl ?_
    refine x_ic T_114_232 ?_
    refine x_sta T_114_233 rfl ?_
    refine x_cv3 T_114_235 mN_115 mL_115 (Nat.le_of_ble_eq_true rfl) mO_115 (hP.o h.1) (Nat.le_of_ble_eq_true rfl) (hn37) ?_
    rintro _ σ ⟨rfl, rfl⟩
    refine cI ?_
    refine x_if T_114_238 (fun _ => ?_) (fun h => absurd (show (0 : Int) = 0 by rfl) h)
    refine x_lr (z := some k) T_114_246 rfl ?_
    refine x_ic T_114_247 ?_
    refine x_sta T_114_248 rfl ?_
    refine x_cv3 T_114_250 mN_115 mL_115 (Nat.le_of_ble_eq_true rfl) mO_115 (hP.o h.1) (Nat.le_of_ble_eq_true rfl) (hn38) ?_
    rintro _ σ ⟨rfl, rfl⟩
    refine cI ?_
    refine x_if T_114_253 (fun _ => ?_) (fun h => absurd (show (0 : Int) = 0 by rfl) h)
    refine x_lr (z := some k) T_114_261 rfl ?_
    refine x_ic T_114_262 ?_
    refine x_sta T_114_263 rfl ?_
    refine x_cv3 T_114_265 mN_115 mL_115 (Nat.le_of_ble_eq_true rfl) mO_115 (hP.o h.1) (Nat.le_of_ble_eq_true rfl) (hn39) ?_
    rintro _ σ ⟨rfl, rfl⟩
    refine cI ?_
    refine x_if T_114_268 (fun _ => ?_) (fun h => absurd (show (0 : Int) = 0 by rfl) h)
    refine x_lr (z := some k) T_114_276 rfl ?_
    refine x_ic T_114_277 ?_
    refine x_sta T_114_278 rfl ?_
    refine x_cv3 T_114_280 mN_115 mL_115 (Nat.le_of_ble_eq_true rfl) mO_115 (hP.o h.1) (Nat.le_of_ble_eq_true rfl) (hn40) ?_
    rintro _ σ ⟨rfl, rfl⟩
    refine cI ?_
    refine x_if T_114_283 (fun _ => ?_) (fun h => absurd (show (0 : Int) = 0 by rfl) h)
    refine x_lr (z := some k) T_114_291 rfl ?_
    refine x_ic T_114_292 ?_
    refine x_sta T_114_293 rfl ?_
    refine x_cv3 T_114_295 mN_115 mL_115 (Nat.le_of_ble_eq_true rfl) mO_115 (hP.o h.1) (Nat.le_of_ble_eq_true rfl) (h41) ?_
    rintro _ σ ⟨rfl, rfl⟩
    refine cI ?_
    refine x_if T_114_298 (fun h => absurd (show (1 : Int) = 0 from h) (by decide)) (fun _ => ?_)
    refine x_ic T_114_301 ?_
    refine x_goto T_114_303 ?_
    refine x_ri T_114_383 ?_
    exact ⟨rfl, rfl⟩
  rw [if_neg q41] at h41
  rw [if_neg q41]
  have hn41 := h41
  have h42 := his 42 (by decide)
  by_cases q42 : wd = txt 42
  · rw [if_pos q42] at h42
    rw [if_pos q42]
    refine CL_in mL_114 rfl ?_
    show WP fb _ 114 0 [some (vR (some k))] [] σ _
    refine x_lr (z := some k) T_114_0 rfl ?_
    refine x_gI (z := n) T_114_1 (Or.inl F_16_4) (hP.o h.1) (Eq.trans (hP.gi h.1 (key := 2516) rfl) h5) ?_
    refine x_if T_114_4 (fun _ => ?_) (fun h => absurd (show ¬ n = 0 by omega) h)
    refine x_lr (z := some k) T_114_11 rfl ?_
    refine x_ic T_114_12 ?_
    refine x_sta T_114_13 rfl ?_
    refine x_cv3 T_114_15 mN_115 mL_115 (Nat.le_of_ble_eq_true rfl) mO_115 (hP.o h.1) (Nat.le_of_ble_eq_true rfl) (hn22) ?_
    rintro _ σ ⟨rfl, rfl⟩
    refine cI ?_
    refine x_if T_114_18 (fun _ => ?_) (fun h => absurd (show (0 : Int) = 0 by rfl) h)
    refine x_lr (z := some k) T_114_25 rfl ?_
    refine x_ic T_114_26 ?_
    refine x_sta T_114_27 rfl ?_
    refine x_cv3 T_114_29 mN_115 mL_115 (Nat.le_of_ble_eq_true rfl) mO_115 (hP.o h.1) (Nat.le_of_ble_eq_true rfl) (hn23) ?_
    rintro _ σ ⟨rfl, rfl⟩
    refine cI ?_
    refine x_if T_114_32 (fun _ => ?_) (fun h => absurd (show (0 : Int) = 0 by rfl) h)
    refine x_lr (z := some k) T_114_39 rfl ?_
    refine x_ic T_114_40 ?_
    refine x_sta T_114_41 rfl ?_
    refine x_cv3 T_114_43 mN_115 mL_115 (Nat.le_of_ble_eq_true rfl) mO_115 (hP.o h.1) (Nat.le_of_ble_eq_true rfl) (hn24) ?_
    rintro _ σ ⟨rfl, rfl⟩
    refine cI ?_
    refine x_if T_114_46 (fun _ => ?_) (fun h => absurd (show (0 : Int) = 0 by rfl) h)
    refine x_lr (z := some k) T_114_53 rfl ?_
    refine x_ic T_114_54 ?_
    refine x_sta T_114_55 rfl ?_
    refine x_cv3 T_114_57 mN_115 mL_115 (Nat.le_of_ble_eq_true rfl) mO_115 (hP.o h.1) (Nat.le_of_ble_eq_true rfl) (hn25) ?_
    rintro _ σ ⟨rfl, rfl⟩
    refine cI ?_
    refine x_if T_114_60 (fun _ => ?_) (fun h => absurd (show (0 : Int) = 0 by rfl) h)
    refine x_lr (z := some k) T_114_67 rfl ?_
    refine x_ic T_114_68 ?_
    refine x_sta T_114_69 rfl ?_
    refine x_cv3 T_114_71 mN_115 mL_115 (Nat.le_of_ble_eq_true rfl) mO_115 (hP.o h.1) (Nat.le_of_ble_eq_true rfl) (hn26) ?_
    rintro _ σ ⟨rfl, rfl⟩
    refine cI ?_
    refine x_if T_114_74 (fun _ => ?_) (fun h => absurd (show (0 : Int) = 0 by rfl) h)
    refine x_lr (z := some k) T_114_81 rfl ?_
    refine x_ic T_114_82 ?_
    refine x_sta T_114_83 rfl ?_
    refine x_cv3 T_114_85 mN_115 mL_115 (Nat.le_of_ble_eq_true rfl) mO_115 (hP.o h.1) (Nat.le_of_ble_eq_true rfl) (hn27) ?_
    rintro _ σ ⟨rfl, rfl⟩
    refine cI ?_
    refine x_if T_114_88 (fun _ => ?_) (fun h => absurd (show (0 : Int) = 0 by rfl) h)
    refine x_lr (z := some k) T_114_96 rfl ?_
    refine x_ic T_114_97 ?_
    refine x_sta T_114_98 rfl ?_
    refine x_cv3 T_114_100 mN_115 mL_115 (Nat.le_of_ble_eq_true rfl) mO_115 (hP.o h.1) (Nat.le_of_ble_eq_true rfl) (hn28) ?_
    rintro _ σ ⟨rfl, rfl⟩
    refine cI ?_
    refine x_if T_114_103 (fun _ => ?_) (fun h => absurd (show (0 : Int) = 0 by rfl) h)
    refine x_lr (z := some k) T_114_111 rfl ?_
    refine x_ic T_114_112 ?_
    refine x_sta T_114_113 rfl ?_
    refine x_cv3 T_114_115 mN_115 mL_115 (Nat.le_of_ble_eq_true rfl) mO_115 (hP.o h.1) (Nat.le_of_ble_eq_true rfl) (hn29) ?_
    rintro _ σ ⟨rfl, rfl⟩
    refine cI ?_
    refine x_if T_114_118 (fun _ => ?_) (fun h => absurd (show (0 : Int) = 0 by rfl) h)
    refine x_lr (z := some k) T_114_126 rfl ?_
    refine x_ic T_114_127 ?_
    refine x_sta T_114_128 rfl ?_
    refine x_cv3 T_114_130 mN_115 mL_115 (Nat.le_of_ble_eq_true rfl) mO_115 (hP.o h.1) (Nat.le_of_ble_eq_true rfl) (hn30) ?_
    rintro _ σ ⟨rfl, rfl⟩
    refine cI ?_
    refine x_if T_114_133 (fun _ => ?_) (fun h => absurd (show (0 : Int) = 0 by rfl) h)
    refine x_lr (z := some k) T_114_141 rfl ?_
    refine x_ic T_114_142 ?_
    refine x_sta T_114_143 rfl ?_
    refine x_cv3 T_114_145 mN_115 mL_115 (Nat.le_of_ble_eq_true rfl) mO_115 (hP.o h.1) (Nat.le_of_ble_eq_true rfl) (hn31) ?_
    rintro _ σ ⟨rfl, rfl⟩
    refine cI ?_
    refine x_if T_114_148 (fun _ => ?_) (fun h => absurd (show (0 : Int) = 0 by rfl) h)
    refine x_lr (z := some k) T_114_156 rfl ?_
    refine x_ic T_114_157 ?_
    refine x_sta T_114_158 rfl ?_
    refine x_cv3 T_114_160 mN_115 mL_115 (Nat.le_of_ble_eq_true rfl) mO_115 (hP.o h.1) (Nat.le_of_ble_eq_true rfl) (hn32) ?_
    rintro _ σ ⟨rfl, rfl⟩
    refine cI ?_
    refine x_if T_114_163 (fun _ => ?_) (fun h => absurd (show (0 : Int) = 0 by rfl) h)
    refine x_lr (z := some k) T_114_171 rfl ?_
    refine x_ic T_114_172 ?_
    refine x_sta T_114_173 rfl ?_
    refine x_cv3 T_114_175 mN_115 mL_115 (Nat.le_of_ble_eq_true rfl) mO_115 (hP.o h.1) (Nat.le_of_ble_eq_true rfl) (hn33) ?_
    rintro _ σ ⟨rfl, rfl⟩
    refine cI ?_
    refine x_if T_114_178 (fun _ => ?_) (fun h => absurd (show (0 : Int) = 0 by rfl) h)
    refine x_lr (z := some k) T_114_186 rfl ?_
    refine x_ic T_114_187 ?_
    refine x_sta T_114_188 rfl ?_
    refine x_cv3 T_114_190 mN_115 mL_115 (Nat.le_of_ble_eq_true rfl) mO_115 (hP.o h.1) (Nat.le_of_ble_eq_true rfl) (hn34) ?_
    rintro _ σ ⟨rfl, rfl⟩
    refine cI ?_
    refine x_if T_114_193 (fun _ => ?_) (fun h => absurd (show (0 : Int) = 0 by rfl) h)
    refine x_lr (z := some k) T_114_201 rfl ?_
    refine x_ic T_114_202 ?_
    refine x_sta T_114_203 rfl ?_
    refine x_cv3 T_114_205 mN_115 mL_115 (Nat.le_of_ble_eq_true rfl) mO_115 (hP.o h.1) (Nat.le_of_ble_eq_true rfl) (hn35) ?_
    rintro _ σ ⟨rfl, rfl⟩
    refine cI ?_
    refine x_if T_114_208 (fun _ => ?_) (fun h => absurd (show (0 : Int) = 0 by rfl) h)
    refine x_lr (z := some k) T_114_216 rfl ?_
    refine x_ic T_114_217 ?_
    refine x_sta T_114_218 rfl ?_
    refine x_cv3 T_114_220 mN_115 mL_115 (Nat.le_of_ble_eq_true rfl) mO_115 (hP.o h.1) (Nat.le_of_ble_eq_true rfl) (hn36) ?_
    rintro _ σ ⟨rfl, rfl⟩
    refine cI ?_
    refine x_if T_114_223 (fun _ => ?_) (fun h => absurd (show (0 : Int) = 0 by rfl) h)
    refine x_lr (z := some k) T_114_231 rfl ?_
    refine x_ic T_114_232 ?_
    refine x_sta T_114_233 rfl ?_
    refine x_cv3 T_114_235 mN_115 mL_115 (Nat.le_of_ble_eq_true rfl) mO_115 (hP.o h.1) (Nat.le_of_ble_eq_true rfl) (hn37) ?_
    rintro _ σ ⟨rfl, rfl⟩
    refine cI ?_
    refine x_if T_114_238 (fun _ => ?_) (fun h => absurd (show (0 : Int) = 0 by rfl) h)
    refine x_lr (z := some k) T_114_246 rfl ?_
    refine x_ic T_114_247 ?_
    refine x_sta T_114_248 rfl ?_
    refine x_cv3 T_114_250 mN_115 mL_115 (Nat.le_of_ble_eq_true rfl) mO_115 (hP.o h.1) (Nat.le_of_ble_eq_true rfl) (hn38) ?_
    rintro _ σ ⟨rfl, rfl⟩
    refine cI ?_
    refine x_if T_114_253 (fun _ => ?_) (fun h => absurd (show (0 : Int) = 0 by rfl) h)
    refine x_lr (z := some k) T_114_261 rfl ?_
    refine x_ic T_114_262 ?_
    refine x_sta T_114_263 rfl ?_
    refine x_cv3 T_114_265 mN_115 mL_115 (Nat.le_of_ble_eq_true rfl) mO_115 (hP.o h.1) (Nat.le_of_ble_eq_true rfl) (hn39) ?_
    rintro _ σ ⟨rfl, rfl⟩
    refine cI ?_
    refine x_if T_114_268 (fun _ => ?_) (fun h => absurd (show (0 : Int) = 0 by rfl) h)
    refine x_lr (z := some k) T_114_276 rfl ?_
    refine x_ic T_114_277 ?_
    refine x_sta T_114_278 rfl ?_
    refine x_cv3 T_114_280 mN_115 mL_115 (Nat.le_of_ble_eq_true rfl) mO_115 (hP.o h.1) (Nat.le_of_ble_eq_true rfl) (hn40) ?_
    rintro _ σ ⟨rfl, rfl⟩
    refine cI ?_
    refine x_if T_114_283 (fun _ => ?_) (fun h => absurd (show (0 : Int) = 0 by rfl) h)
    refine x_lr (z := some k) T_114_291 rfl ?_
    refine x_ic T_114_292 ?_
    refine x_sta T_114_293 rfl ?_
    refine x_cv3 T_114_295 mN_115 mL_115 (Nat.le_of_ble_eq_true rfl) mO_115 (hP.o h.1) (Nat.le_of_ble_eq_true rfl) (hn41) ?_
    rintro _ σ ⟨rfl, rfl⟩
    refine cI ?_
    refine x_if T_114_298 (fun _ => ?_) (fun h => absurd (show (0 : Int) = 0 by rfl) h)
    refine x_lr (z := some k) T_114_306 rfl ?_
    refine x_ic T_114_307 ?_
    refine x_sta T_114_308 rfl ?_
    refine x_cv3 T_114_310 mN_115 mL_115 (Nat.le_of_ble_eq_true rfl) mO_115 (hP.o h.1) (Nat.le_of_ble_eq_true rfl) (h42) ?_
    rintro _ σ ⟨rfl, rfl⟩
    refine cI ?_
    refine x_if T_114_313 (fun h => absurd (show (1 : Int) = 0 from h) (by decide)) (fun _ => ?_)
    refine x_ic T_114_316 ?_
    refine x_goto T_114_318 ?_
    refine x_ri T_114_383 ?_
    exact ⟨rfl, rfl⟩
  rw [if_neg q42] at h42
  rw [if_neg q42]
  have hn42 := h42
  have h43 := his 43 (by decide)
  by_cases q43 : wd = txt 43
  · rw [if_pos q43] at h43
    rw [if_pos q43]
    refine CL_in mL_114 rfl ?_
    show WP fb _ 114 0 [some (vR (some k))] [] σ _
    refine x_lr (z := some k) T_114_0 rfl ?_
    refine x_gI (z := n) T_114_1 (Or.inl F_16_4) (hP.o h.1) (Eq.trans (hP.gi h.1 (key := 2516) rfl) h5) ?_
    refine x_if T_114_4 (fun _ => ?_) (fun h => absurd (show ¬ n = 0 by omega) h)
    refine x_lr (z := some k) T_114_11 rfl ?_
    refine x_ic T_114_12 ?_
    refine x_sta T_114_13 rfl ?_
    refine x_cv3 T_114_15 mN_115 mL_115 (Nat.le_of_ble_eq_true rfl) mO_115 (hP.o h.1) (Nat.le_of_ble_eq_true rfl) (hn22) ?_
    rintro _ σ ⟨rfl, rfl⟩
    refine cI ?_
    refine x_if T_114_18 (fun _ => ?_) (fun h => absurd (show (0 : Int) = 0 by rfl) h)
    refine x_lr (z := some k) T_114_25 rfl ?_
    refine x_ic T_114_26 ?_
    refine x_sta T_114_27 rfl ?_
    refine x_cv3 T_114_29 mN_115 mL_115 (Nat.le_of_ble_eq_true rfl) mO_115 (hP.o h.1) (Nat.le_of_ble_eq_true rfl) (hn23) ?_
    rintro _ σ ⟨rfl, rfl⟩
    refine cI ?_
    refine x_if T_114_32 (fun _ => ?_) (fun h => absurd (show (0 : Int) = 0 by rfl) h)
    refine x_lr (z := some k) T_114_39 rfl ?_
    refine x_ic T_114_40 ?_
    refine x_sta T_114_41 rfl ?_
    refine x_cv3 T_114_43 mN_115 mL_115 (Nat.le_of_ble_eq_true rfl) mO_115 (hP.o h.1) (Nat.le_of_ble_eq_true rfl) (hn24) ?_
    rintro _ σ ⟨rfl, rfl⟩
    refine cI ?_
    refine x_if T_114_46 (fun _ => ?_) (fun h => absurd (show (0 : Int) = 0 by rfl) h)
    refine x_lr (z := some k) T_114_53 rfl ?_
    refine x_ic T_114_54 ?_
    refine x_sta T_114_55 rfl ?_
    refine x_cv3 T_114_57 mN_115 mL_115 (Nat.le_of_ble_eq_true rfl) mO_115 (hP.o h.1) (Nat.le_of_ble_eq_true rfl) (hn25) ?_
    rintro _ σ ⟨rfl, rfl⟩
    refine cI ?_
    refine x_if T_114_60 (fun _ => ?_) (fun h => absurd (show (0 : Int) = 0 by rfl) h)
    refine x_lr (z := some k) T_114_67 rfl ?_
    refine x_ic T_114_68 ?_
    refine x_sta T_114_69 rfl ?_
    refine x_cv3 T_114_71 mN_115 mL_115 (Nat.le_of_ble_eq_true rfl) mO_115 (hP.o h.1) (Nat.le_of_ble_eq_true rfl) (hn26) ?_
    rintro _ σ ⟨rfl, rfl⟩
    refine cI ?_
    refine x_if T_114_74 (fun _ => ?_) (fun h => absurd (show (0 : Int) = 0 by rfl) h)
    refine x_lr (z := some k) T_114_81 rfl ?_
    refine x_ic T_114_82 ?_
    refine x_sta T_114_83 rfl ?_
    refine x_cv3 T_114_85 mN_115 mL_115 (Nat.le_of_ble_eq_true rfl) mO_115 (hP.o h.1) (Nat.le_of_ble_eq_true rfl) (hn27) ?_
    rintro _ σ ⟨rfl, rfl⟩
    refine cI ?_
    refine x_if T_114_88 (fun _ => ?_) (fun h => absurd (show (0 : Int) = 0 by rfl) h)
    refine x_lr (z := some k) T_114_96 rfl ?_
    refine x_ic T_114_97 ?_
    refine x_sta T_114_98 rfl ?_
    refine x_cv3 T_114_100 mN_115 mL_115 (Nat.le_of_ble_eq_true rfl) mO_115 (hP.o h.1) (Nat.le_of_ble_eq_true rfl) (hn28) ?_
    rintro _ σ ⟨rfl, rfl⟩
    refine cI ?_
    refine x_if T_114_103 (fun _ => ?_) (fun h => absurd (show (0 : Int) = 0 by rfl) h)
    refine x_lr (z := some k) T_114_111 rfl ?_
    refine x_ic T_114_112 ?_
    refine x_sta T_114_113 rfl ?_
    refine x_cv3 T_114_115 mN_115 mL_115 (Nat.le_of_ble_eq_true rfl) mO_115 (hP.o h.1) (Nat.le_of_ble_eq_true rfl) (hn29) ?_
    rintro _ σ ⟨rfl, rfl⟩
    refine cI ?_
    refine x_if T_114_118 (fun _ => ?_) (fun h => absurd (show (0 : Int) = 0 by rfl) h)
    refine x_lr (z := some k) T_114_126 rfl ?_
    refine x_ic T_114_127 ?_
    refine x_sta T_114_128 rfl ?_
    refine x_cv3 T_114_130 mN_115 mL_115 (Nat.le_of_ble_eq_true rfl) mO_115 (hP.o h.1) (Nat.le_of_ble_eq_true rfl) (hn30) ?_
    rintro _ σ ⟨rfl, rfl⟩
    refine cI ?_
    refine x_if T_114_133 (fun _ => ?_) (fun h => absurd (show (0 : Int) = 0 by rfl) h)
    refine x_lr (z := some k) T_114_141 rfl ?_
    refine x_ic T_114_142 ?_
    refine x_sta T_114_143 rfl ?_
    refine x_cv3 T_114_145 mN_115 mL_115 (Nat.le_of_ble_eq_true rfl) mO_115 (hP.o h.1) (Nat.le_of_ble_eq_true rfl) (hn31) ?_
    rintro _ σ ⟨rfl, rfl⟩
    refine cI ?_
    refine x_if T_114_148 (fun _ => ?_) (fun h => absurd (show (0 : Int) = 0 by rfl) h)
    refine x_lr (z := some k) T_114_156 rfl ?_
    refine x_ic T_114_157 ?_
    refine x_sta T_114_158 rfl ?_
    refine x_cv3 T_114_160 mN_115 mL_115 (Nat.le_of_ble_eq_true rfl) mO_115 (hP.o h.1) (Nat.le_of_ble_eq_true rfl) (hn32) ?_
    rintro _ σ ⟨rfl, rfl⟩
    refine cI ?_
    refine x_if T_114_163 (fun _ => ?_) (fun h => absurd (show (0 : Int) = 0 by rfl) h)
    refine x_lr (z := some k) T_114_171 rfl ?_
    refine x_ic T_114_172 ?_
    refine x_sta T_114_173 rfl ?_
    refine x_cv3 T_114_175 mN_115 mL_115 (Nat.le_of_ble_eq_true rfl) mO_115 (hP.o h.1) (Nat.le_of_ble_eq_true rfl) (hn33) ?_
    rintro _ σ ⟨rfl, rfl⟩
    refine cI ?_
    refine x_if T_114_178 (fun _ => ?_) (fun h => absurd (show (0 : Int) = 0 by rfl) h)
    refine x_lr (z := some k) T_114_186 rfl ?_
    refine x_ic T_114_187 ?_
    refine x_sta T_114_188 rfl ?_
    refine x_cv3 T_114_190 mN_115 mL_115 (Nat.le_of_ble_eq_true rfl) mO_115 (hP.o h.1) (Nat.le_of_ble_eq_true rfl) (hn34) ?_
    rintro _ σ ⟨rfl, rfl⟩
    refine cI ?_
    refine x_if T_114_193 (fun _ => ?_) (fun h => absurd (show (0 : Int) = 0 by rfl) h)
    refine x_lr (z := some k) T_114_201 rfl ?_
    refine x_ic T_114_202 ?_
    refine x_sta T_114_203 rfl ?_
    refine x_cv3 T_114_205 mN_115 mL_115 (Nat.le_of_ble_eq_true rfl) mO_115 (hP.o h.1) (Nat.le_of_ble_eq_true rfl) (hn35) ?_
    rintro _ σ ⟨rfl, rfl⟩
    refine cI ?_
    refine x_if T_114_208 (fun _ => ?_) (fun h => absurd (show (0 : Int) = 0 by rfl) h)
    refine x_lr (z := some k) T_114_216 rfl ?_
    refine x_ic T_114_217 ?_
    refine x_sta T_114_218 rfl ?_
    refine x_cv3 T_114_220 mN_115 mL_115 (Nat.le_of_ble_eq_true rfl) mO_115 (hP.o h.1) (Nat.le_of_ble_eq_true rfl) (hn36) ?_
    rintro _ σ ⟨rfl, rfl⟩
    refine cI ?_
    refine x_if T_114_223 (fun _ => ?_) (fun h => absurd (show (0 : Int) = 0 by rfl) h)
    refine x_lr (z := some k) T_114_231 rfl ?_
    refine x_ic T_114_232 ?_
    refine x_sta T_114_233 rfl ?_
    refine x_cv3 T_114_235 mN_115 mL_115 (Nat.le_of_ble_eq_true rfl) mO_115 (hP.o h.1) (Nat.le_of_ble_eq_true rfl) (hn37) ?_
    rintro _ σ ⟨rfl, rfl⟩
    refine cI ?_
    refine x_if T_114_238 (fun _ => ?_) (fun h => absurd (show (0 : Int) = 0 by rfl) h)
    refine x_lr (z := some k) T_114_246 rfl ?_
    refine x_ic T_114_247 ?_
    refine x_sta T_114_248 rfl ?_
    refine x_cv3 T_114_250 mN_115 mL_115 (Nat.le_of_ble_eq_true rfl) mO_115 (hP.o h.1) (Nat.le_of_ble_eq_true rfl) (hn38) ?_
    rintro _ σ ⟨rfl, rfl⟩
    refine cI ?_
    refine x_if T_114_253 (fun _ => ?_) (fun h => absurd (show (0 : Int) = 0 by rfl) h)
    refine x_lr (z := some k) T_114_261 rfl ?_
    refine x_ic T_114_262 ?_
    refine x_sta T_114_263 rfl ?_
    refine x_cv3 T_114_265 mN_115 mL_115 (Nat.le_of_ble_eq_true rfl) mO_115 (hP.o h.1) (Nat.le_of_ble_eq_true rfl) (hn39) ?_
    rintro _ σ ⟨rfl, rfl⟩
    refine cI ?_
    refine x_if T_114_268 (fun _ => ?_) (fun h => absurd (show (0 : Int) = 0 by rfl) h)
    refine x_lr (z := some k) T_114_276 rfl ?_
    refine x_ic T_114_277 ?_
    refine x_sta T_114_278 rfl ?_
    refine x_cv3 T_114_280 mN_115 mL_115 (Nat.le_of_ble_eq_true rfl) mO_115 (hP.o h.1) (Nat.le_of_ble_eq_true rfl) (hn40) ?_
    rintro _ σ ⟨rfl, rfl⟩
    refine cI ?_
    refine x_if T_114_283 (fun _ => ?_) (fun h => absurd (show (0 : Int) = 0 by rfl) h)
    refine x_lr (z := some k) T_114_291 rfl ?_
    refine x_ic T_114_292 ?_
    refine x_sta T_114_293 rfl ?_
    refine x_cv3 T_114_295 mN_115 mL_115 (Nat.le_of_ble_eq_true rfl) mO_115 (hP.o h.1) (Nat.le_of_ble_eq_true rfl) (hn41) ?_
    rintro _ σ ⟨rfl, rfl⟩
    refine cI ?_
    refine x_if T_114_298 (fun _ => ?_) (fun h => absurd (show (0 : Int) = 0 by rfl) h)
    refine x_lr (z := some k) T_114_306 rfl ?_
    refine x_ic T_114_307 ?_
    refine x_sta T_114_308 rfl ?_
    refine x_cv3 T_114_310 mN_115 mL_115 (Nat.le_of_ble_eq_true rfl) mO_115 (hP.o h.1) (Nat.le_of_ble_eq_true rfl) (hn42) ?_
    rintro _ σ ⟨rfl, rfl⟩
    refine cI ?_
    refine x_if T_114_313 (fun _ => ?_) (fun h => absurd (show (0 : Int) = 0 by rfl) h)
    refine x_lr (z := some k) T_114_321 rfl ?_
    refine x_ic T_114_322 ?_
    refine x_sta T_114_323 rfl ?_
    refine x_cv3 T_114_325 mN_115 mL_115 (Nat.le_of_ble_eq_true rfl) mO_115 (hP.o h.1) (Nat.le_of_ble_eq_true rfl) (h43) ?_
    rintro _ σ ⟨rfl, rfl⟩
    refine cI ?_
    refine x_if T_114_328 (fun h => absurd (show (1 : Int) = 0 from h) (by decide)) (fun _ => ?_)
    refine x_ic T_114_331 ?_
    refine x_goto T_114_333 ?_
    refine x_ri T_114_383 ?_
    exact ⟨rfl, rfl⟩
  rw [if_neg q43] at h43
  rw [if_neg q43]
  have hn43 := h43
  have h44 := his 44 (by decide)
  by_cases q44 : wd = txt 44
  · rw [if_pos q44] at h44
    rw [if_pos q44]
    refine CL_in mL_114 rfl ?_
    show WP fb _ 114 0 [some (vR (some k))] [] σ _
    refine x_lr (z := some k) T_114_0 rfl ?_
    refine x_gI (z := n) T_114_1 (Or.inl F_16_4) (hP.o h.1) (Eq.trans (hP.gi h.1 (key := 2516) rfl) h5) ?_
    refine x_if T_114_4 (fun _ => ?_) (fun h => absurd (show ¬ n = 0 by omega) h)
    refine x_lr (z := some k) T_114_11 rfl ?_
    refine x_ic T_114_12 ?_
    refine x_sta T_114_13 rfl ?_
    refine x_cv3 T_114_15 mN_115 mL_115 (Nat.le_of_ble_eq_true rfl) mO_115 (hP.o h.1) (Nat.le_of_ble_eq_true rfl) (hn22) ?_
    rintro _ σ ⟨rfl, rfl⟩
    refine cI ?_
    refine x_if T_114_18 (fun _ => ?_) (fun h => absurd (show (0 : Int) = 0 by rfl) h)
    refine x_lr (z := some k) T_114_25 rfl ?_
    refine x_ic T_114_26 ?_
    refine x_sta T_114_27 rfl ?_
    refine x_cv3 T_114_29 mN_115 mL_115 (Nat.le_of_ble_eq_true rfl) mO_115 (hP.o h.1) (Nat.le_of_ble_eq_true rfl) (hn23) ?_
    rintro _ σ ⟨rfl, rfl⟩
    refine cI ?_
    refine x_if T_114_32 (fun _ => ?_) (fun h => absurd (show (0 : Int) = 0 by rfl) h)
    refine x_lr (z := some k) T_114_39 rfl ?_
    refine x_ic T_114_40 ?_
    refine x_sta T_114_41 rfl ?_
    refine x_cv3 T_114_43 mN_115 mL_115 (Nat.le_of_ble_eq_true rfl) mO_115 (hP.o h.1) (Nat.le_of_ble_eq_true rfl) (hn24) ?_
    rintro _ σ ⟨rfl, rfl⟩
    refine cI ?_
    refine x_if T_114_46 (fun _ => ?_) (fun h => absurd (show (0 : Int) = 0 by rfl) h)
    refine x_lr (z := some k) T_114_53 rfl ?_
    refine x_ic T_114_54 ?_
    refine x_sta T_114_55 rfl ?_
    refine x_cv3 T_114_57 mN_115 mL_115 (Nat.le_of_ble_eq_true rfl) mO_115 (hP.o h.1) (Nat.le_of_ble_eq_true rfl) (hn25) ?_
    rintro _ σ ⟨rfl, rfl⟩
    refine cI ?_
    refine x_if T_114_60 (fun _ => ?_) (fun h => absurd (show (0 : Int) = 0 by rfl) h)
    refine x_lr (z := some k) T_114_67 rfl ?_
    refine x_ic T_114_68 ?_
    refine x_sta T_114_69 rfl ?_
    refine x_cv3 T_114_71 mN_115 mL_115 (Nat.le_of_ble_eq_true rfl) mO_115 (hP.o h.1) (Nat.le_of_ble_eq_true rfl) (hn26) ?_
    rintro _ σ ⟨rfl, rfl⟩
    refine cI ?_
    refine x_if T_114_74 (fun _ => ?_) (fun h => absurd (show (0 : Int) = 0 by rfl) h)
    refine x_lr (z := some k) T_114_81 rfl ?_
    refine x_ic T_114_82 ?_
    refine x_sta T_114_83 rfl ?_
    refine x_cv3 T_114_85 mN_115 mL_115 (Nat.le_of_ble_eq_true rfl) mO_115 (hP.o h.1) (Nat.le_of_ble_eq_true rfl) (hn27) ?_
    rintro _ σ ⟨rfl, rfl⟩
    refine cI ?_
    refine x_if T_114_88 (fun _ => ?_) (fun h => absurd (show (0 : Int) = 0 by rfl) h)
    refine x_lr (z := some k) T_114_96 rfl ?_
    refine x_ic T_114_97 ?_
    refine x_sta T_114_98 rfl ?_
    refine x_cv3 T_114_100 mN_115 mL_115 (Nat.le_of_ble_eq_true rfl) mO_115 (hP.o h.1) (Nat.le_of_ble_eq_true rfl) (hn28) ?_
    rintro _ σ ⟨rfl, rfl⟩
    refine cI ?_
    refine x_if T_114_103 (fun _ => ?_) (fun h => absurd (show (0 : Int) = 0 by rfl) h)
    refine x_lr (z := some k) T_114_111 rfl ?_
    refine x_ic T_114_112 ?_
    refine x_sta T_114_113 rfl ?_
    refine x_cv3 T_114_115 mN_115 mL_115 (Nat.le_of_ble_eq_true rfl) mO_115 (hP.o h.1) (Nat.le_of_ble_eq_true rfl) (hn29) ?_
    rintro _ σ ⟨rfl, rfl⟩
    refine cI ?_
    refine x_if T_114_118 (fun _ => ?_) (fun h => absurd (show (0 : Int) = 0 by rfl) h)
    refine x_lr (z := some k) T_114_126 rfl ?_
    refine x_ic T_114_127 ?_
    refine x_sta T_114_128 rfl ?_
    refine x_cv3 T_114_130 mN_115 mL_115 (Nat.le_of_ble_eq_true rfl) mO_115 (hP.o h.1) (Nat.le_of_ble_eq_true rfl) (hn30) ?_
    rintro _ σ ⟨rfl, rfl⟩
    refine cI ?_
    refine x_if T_114_133 (fun _ => ?_) (fun h => absurd (show (0 : Int) = 0 by rfl) h)
    refine x_lr (z := some k) T_114_141 rfl ?_
    refine x_ic T_114_142 ?_
    refine x_sta T_114_143 rfl ?_
    refine x_cv3 T_114_145 mN_115 mL_115 (Nat.le_of_ble_eq_true rfl) mO_115 (hP.o h.1) (Nat.le_of_ble_eq_true rfl) (hn31) ?_
    rintro _ σ ⟨rfl, rfl⟩
    refine cI ?_
    refine x_if T_114_148 (fun _ => ?_) (fun h => absurd (show (0 : Int) = 0 by rfl) h)
    refine x_lr (z := some k) T_114_156 rfl ?_
    refine x_ic T_114_157 ?_
    refine x_sta T_114_158 rfl ?_
    refine x_cv3 T_114_160 mN_115 mL_115 (Nat.le_of_ble_eq_true rfl) mO_115 (hP.o h.1) (Nat.le_of_ble_eq_true rfl) (hn32) ?_
    rintro _ σ ⟨rfl, rfl⟩
    refine cI ?_
    refine x_if T_114_163 (fun _ => ?_) (fun h => absurd (show (0 : Int) = 0 by rfl) h)
    refine x_lr (z := some k) T_114_171 rfl ?_
    refine x_ic T_114_172 ?_
    refine x_sta T_114_173 rfl ?_
    refine x_cv3 T_114_175 mN_115 mL_115 (Nat.le_of_ble_eq_true rfl) mO_115 (hP.o h.1) (Nat.le_of_ble_eq_true rfl) (hn33) ?_
    rintro _ σ ⟨rfl, rfl⟩
    refine cI ?_
    refine x_if T_114_178 (fun _ => ?_) (fun h => absurd (show (0 : Int) = 0 by rfl) h)
    refine x_lr (z := some k) T_114_186 rfl ?_
    refine x_ic T_114_187 ?_
    refine x_sta T_114_188 rfl ?_
    refine x_cv3 T_114_190 mN_115 mL_115 (Nat.le_of_ble_eq_true rfl) mO_115 (hP.o h.1) (Nat.le_of_ble_eq_true rfl) (hn34) ?_
    rintro _ σ ⟨rfl, rfl⟩
    refine cI ?_
    refine x_if T_114_193 (fun _ => ?_) (fun h => absurd (show (0 : Int) = 0 by rfl) h)
    refine x_lr (z := some k) T_114_201 rfl ?_
    refine x_ic T_114_202 ?_
    refine x_sta T_114_203 rfl ?_
    refine x_cv3 T_114_205 mN_115 mL_115 (Nat.le_of_ble_eq_true rfl) mO_115 (hP.o h.1) (Nat.le_of_ble_eq_true rfl) (hn35) ?_
    rintro _ σ ⟨rfl, rfl⟩
    refine cI ?_
    refine x_if T_114_208 (fun _ => ?_) (fun h => absurd (show (0 : Int) = 0 by rfl) h)
    refine x_lr (z := some k) T_114_216 rfl ?_
    refine x_ic T_114_217 ?_
    refine x_sta T_114_218 rfl ?_
    refine x_cv3 T_114_220 mN_115 mL_115 (Nat.le_of_ble_eq_true rfl) mO_115 (hP.o h.1) (Nat.le_of_ble_eq_true rfl) (hn36) ?_
    rintro _ σ ⟨rfl, rfl⟩
    refine cI ?_
    refine x_if T_114_223 (fun _ => ?_) (fun h => absurd (show (0 : Int) = 0 by rfl) h)
    refine x_lr (z := some k) T_114_231 rfl ?_
    refine x_ic T_114_232 ?_
    refine x_sta T_114_233 rfl ?_
    refine x_cv3 T_114_235 mN_115 mL_115 (Nat.le_of_ble_eq_true rfl) mO_115 (hP.o h.1) (Nat.le_of_ble_eq_true rfl) (hn37) ?_
    rintro _ σ ⟨rfl, rfl⟩
    refine cI ?_
    refine x_if T_114_238 (fun _ => ?_) (fun h => absurd (show (0 : Int) = 0 by rfl) h)
    refine x_lr (z := some k) T_114_246 rfl ?_
    refine x_ic T_114_247 ?_
    refine x_sta T_114_248 rfl ?_
    refine x_cv3 T_114_250 mN_115 mL_115 (Nat.le_of_ble_eq_true rfl) mO_115 (hP.o h.1) (Nat.le_of_ble_eq_true rfl) (hn38) ?_
    rintro _ σ ⟨rfl, rfl⟩
    refine cI ?_
    refine x_if T_114_253 (fun _ => ?_) (fun h => absurd (show (0 : Int) = 0 by rfl) h)
    refine x_lr (z := some k) T_114_261 rfl ?_
    refine x_ic T_114_262 ?_
    refine x_sta T_114_263 rfl ?_
    refine x_cv3 T_114_265 mN_115 mL_115 (Nat.le_of_ble_eq_true rfl) mO_115 (hP.o h.1) (Nat.le_of_ble_eq_true rfl) (hn39) ?_
    rintro _ σ ⟨rfl, rfl⟩
    refine cI ?_
    refine x_if T_114_268 (fun _ => ?_) (fun h => absurd (show (0 : Int) = 0 by rfl) h)
    refine x_lr (z := some k) T_114_276 rfl ?_
    refine x_ic T_114_277 ?_
    refine x_sta T_114_278 rfl ?_
    refine x_cv3 T_114_280 mN_115 mL_115 (Nat.le_of_ble_eq_true rfl) mO_115 (hP.o h.1) (Nat.le_of_ble_eq_true rfl) (hn40) ?_
    rintro _ σ ⟨rfl, rfl⟩
    refine cI ?_
    refine x_if T_114_283 (fun _ => ?_) (fun h => absurd (show (0 : Int) = 0 by rfl) h)
    refine x_lr (z := some k) T_114_291 rfl ?_
    refine x_ic T_114_292 ?_
    refine x_sta T_114_293 rfl ?_
    refine x_cv3 T_114_295 mN_115 mL_115 (Nat.le_of_ble_eq_true rfl) mO_115 (hP.o h.1) (Nat.le_of_ble_eq_true rfl) (hn41) ?_
    rintro _ σ ⟨rfl, rfl⟩
    refine cI ?_
    refine x_if T_114_298 (fun _ => ?_) (fun h => absurd (show (0 : Int) = 0 by rfl) h)
    refine x_lr (z := some k) T_114_306 rfl ?_
    refine x_ic T_114_307 ?_
    refine x_sta T_114_308 rfl ?_
    refine x_cv3 T_114_310 mN_115 mL_115 (Nat.le_of_ble_eq_true rfl) mO_115 (hP.o h.1) (Nat.le_of_ble_eq_true rfl) (hn42) ?_
    rintro _ σ ⟨rfl, rfl⟩
    refine cI ?_
    refine x_if T_114_313 (fun _ => ?_) (fun h => absurd (show (0 : Int) = 0 by rfl) h)
    refine x_lr (z := some k) T_114_321 rfl ?_
    refine x_ic T_114_322 ?_
    refine x_sta T_114_323 rfl ?_
    refine x_cv3 T_114_325 mN_115 mL_115 (Nat.le_of_ble_eq_true rfl) mO_115 (hP.o h.1) (Nat.le_of_ble_eq_true rfl) (hn43) ?_
    rintro _ σ ⟨rfl, rfl⟩
    refine cI ?_
    refine x_if T_114_328 (fun _ => ?_) (fun h => absurd (show (0 : Int) = 0 by rfl) h)
    refine x_lr (z := some k) T_114_336 rfl ?_
    refine x_ic T_114_337 ?_
    refine x_sta T_114_338 rfl ?_
    refine x_cv3 T_114_340 mN_115 mL_115 (Nat.le_of_ble_eq_true rfl) mO_115 (hP.o h.1) (Nat.le_of_ble_eq_true rfl) (h44) ?_
    rintro _ σ ⟨rfl, rfl⟩
    refine cI ?_
    refine x_if T_114_343 (fun h => absurd (show (1 : Int) = 0 from h) (by decide)) (fun _ => ?_)
    refine x_ic T_114_346 ?_
    refine x_goto T_114_348 ?_
    refine x_ri T_114_383 ?_
    exact ⟨rfl, rfl⟩
  rw [if_neg q44] at h44
  rw [if_neg q44]
  have hn44 := h44
  have h45 := his 45 (by decide)
  by_cases q45 : wd = txt 45
  · rw [if_pos q45] at h45
    rw [if_pos q45]
    refine CL_in mL_114 rfl ?_
    show WP fb _ 114 0 [some (vR (some k))] [] σ _
    refine x_lr (z := some k) T_114_0 rfl ?_
    refine x_gI (z := n) T_114_1 (Or.inl F_16_4) (hP.o h.1) (Eq.trans (hP.gi h.1 (key := 2516) rfl) h5) ?_
    refine x_if T_114_4 (fun _ => ?_) (fun h => absurd (show ¬ n = 0 by omega) h)
    refine x_lr (z := some k) T_114_11 rfl ?_
    refine x_ic T_114_12 ?_
    refine x_sta T_114_13 rfl ?_
    refine x_cv3 T_114_15 mN_115 mL_115 (Nat.le_of_ble_eq_true rfl) mO_115 (hP.o h.1) (Nat.le_of_ble_eq_true rfl) (hn22) ?_
    rintro _ σ ⟨rfl, rfl⟩
    refine cI ?_
    refine x_if T_114_18 (fun _ => ?_) (fun h => absurd (show (0 : Int) = 0 by rfl) h)
    refine x_lr (z := some k) T_114_25 rfl ?_
    refine x_ic T_114_26 ?_
    refine x_sta T_114_27 rfl ?_
    refine x_cv3 T_114_29 mN_115 mL_115 (Nat.le_of_ble_eq_true rfl) mO_115 (hP.o h.1) (Nat.le_of_ble_eq_true rfl) (hn23) ?_
    rintro _ σ ⟨rfl, rfl⟩
    refine cI ?_
    refine x_if T_114_32 (fun _ => ?_) (fun h => absurd (show (0 : Int) = 0 by rfl) h)
    refine x_lr (z := some k) T_114_39 rfl ?_
    refine x_ic T_114_40 ?_
    refine x_sta T_114_41 rfl ?_
    refine x_cv3 T_114_43 mN_115 mL_115 (Nat.le_of_ble_eq_true rfl) mO_115 (hP.o h.1) (Nat.le_of_ble_eq_true rfl) (hn24) ?_
    rintro _ σ ⟨rfl, rfl⟩
    refine cI ?_
    refine x_if T_114_46 (fun _ => ?_) (fun h => absurd (show (0 : Int) = 0 by rfl) h)
    refine x_lr (z := some k) T_114_53 rfl ?_
    refine x_ic T_114_54 ?_
    refine x_sta T_114_55 rfl ?_
    refine x_cv3 T_114_57 mN_115 mL_115 (Nat.le_of_ble_eq_true rfl) mO_115 (hP.o h.1) (Nat.le_of_ble_eq_true rfl) (hn25) ?_
    rintro _ σ ⟨rfl, rfl⟩
    refine cI ?_
    refine x_if T_114_60 (fun _ => ?_) (fun h => absurd (show (0 : Int) = 0 by rfl) h)
    refine x_lr (z := some k) T_114_67 rfl ?_
    refine x_ic T_114_68 ?_
    refine x_sta T_114_69 rfl ?_
    refine x_cv3 T_114_71 mN_115 mL_115 (Nat.le_of_ble_eq_true rfl) mO_115 (hP.o h.1) (Nat.le_of_ble_eq_true rfl) (hn26) ?_
    rintro _ σ ⟨rfl, rfl⟩
    refine cI ?_
    refine x_if T_114_74 (fun _ => ?_) (fun h => absurd (show (0 : Int) = 0 by rfl) h)
    refine x_lr (z := some k) T_114_81 rfl ?_
    refine x_ic T_114_82 ?_
    refine x_sta T_114_83 rfl ?_
    refine x_cv3 T_114_85 mN_115 mL_115 (Nat.le_of_ble_eq_true rfl) mO_115 (hP.o h.1) (Nat.le_of_ble_eq_true rfl) (hn27) ?_
    rintro _ σ ⟨rfl, rfl⟩
    refine cI ?_
    refine x_if T_114_88 (fun _ => ?_) (fun h => absurd (show (0 : Int) = 0 by rfl) h)
    refine x_lr (z := some k) T_114_96 rfl ?_
    refine x_ic T_114_97 ?_
    refine x_sta T_114_98 rfl ?_
    refine x_cv3 T_114_100 mN_115 mL_115 (Nat.le_of_ble_eq_true rfl) mO_115 (hP.o h.1) (Nat.le_of_ble_eq_true rfl) (hn28) ?_
    rintro _ σ ⟨rfl, rfl⟩
    refine cI ?_
    refine x_if T_114_103 (fun _ => ?_) (fun h => absurd (show (0 : Int) = 0 by rfl) h)
    refine x_lr (z := some k) T_114_111 rfl ?_
    refine x_ic T_114_112 ?_
    refine x_sta T_114_113 rfl ?_
    refine x_cv3 T_114_115 mN_115 mL_115 (Nat.le_of_ble_eq_true rfl) mO_115 (hP.o h.1) (Nat.le_of_ble_eq_true rfl) (hn29) ?_
    rintro _ σ ⟨rfl, rfl⟩
    refine cI ?_
    refine x_if T_114_118 (fun _ => ?_) (fun h => absurd (show (0 : Int) = 0 by rfl) h)
    refine x_lr (z := some k) T_114_126 rfl ?_
    refine x_ic T_114_127 ?_
    refine x_sta T_114_128 rfl ?_
    refine x_cv3 T_114_130 mN_115 mL_115 (Nat.le_of_ble_eq_true rfl) mO_115 (hP.o h.1) (Nat.le_of_ble_eq_true rfl) (hn30) ?_
    rintro _ σ ⟨rfl, rfl⟩
    refine cI ?_
    refine x_if T_114_133 (fun _ => ?_) (fun h => absurd (show (0 : Int) = 0 by rfl) h)
    refine x_lr (z := some k) T_114_141 rfl ?_
    refine x_ic T_114_142 ?_
    refine x_sta T_114_143 rfl ?_
    refine x_cv3 T_114_145 mN_115 mL_115 (Nat.le_of_ble_eq_true rfl) mO_115 (hP.o h.1) (Nat.le_of_ble_eq_true rfl) (hn31) ?_
    rintro _ σ ⟨rfl, rfl⟩
    refine cI ?_
    refine x_if T_114_148 (fun _ => ?_) (fun h => absurd (show (0 : Int) = 0 by rfl) h)
    refine x_lr (z := some k) T_114_156 rfl ?_
    refine x_ic T_114_157 ?_
    refine x_sta T_114_158 rfl ?_
    refine x_cv3 T_114_160 mN_115 mL_115 (Nat.le_of_ble_eq_true rfl) mO_115 (hP.o h.1) (Nat.le_of_ble_eq_true rfl) (hn32) ?_
    rintro _ σ ⟨rfl, rfl⟩
    refine cI ?_
    refine x_if T_114_163 (fun _ => ?_) (fun h => absurd (show (0 : Int) = 0 by rfl) h)
    refine x_lr (z := some k) T_114_171 rfl ?_
    refine x_ic T_114_172 ?_
    refine x_sta T_114_173 rfl ?_
    refine x_cv3 T_114_175 mN_115 mL_115 (Nat.le_of_ble_eq_true rfl) mO_115 (hP.o h.1) (Nat.le_of_ble_eq_true rfl) (hn33) ?_
    rintro _ σ ⟨rfl, rfl⟩
    refine cI ?_
    refine x_if T_114_178 (fun _ => ?_) (fun h => absurd (show (0 : Int) = 0 by rfl) h)
    refine x_lr (z := some k) T_114_186 rfl ?_
    refine x_ic T_114_187 ?_
    refine x_sta T_114_188 rfl ?_
    refine x_cv3 T_114_190 mN_115 mL_115 (Nat.le_of_ble_eq_true rfl) mO_115 (hP.o h.1) (Nat.le_of_ble_eq_true rfl) (hn34) ?_
    rintro _ σ ⟨rfl, rfl⟩
    refine cI ?_
    refine x_if T_114_193 (fun _ => ?_) (fun h => absurd (show (0 : Int) = 0 by rfl) h)
    refine x_lr (z := some k) T_114_201 rfl ?_
    refine x_ic T_114_202 ?_
    refine x_sta T_114_203 rfl ?_
    refine x_cv3 T_114_205 mN_115 mL_115 (Nat.le_of_ble_eq_true rfl) mO_115 (hP.o h.1) (Nat.le_of_ble_eq_true rfl) (hn35) ?_
    rintro _ σ ⟨rfl, rfl⟩
    refine cI ?_
    refine x_if T_114_208 (fun _ => ?_) (fun h => absurd (show (0 : Int) = 0 by rfl) h)
    refine x_lr (z := some k) T_114_216 rfl ?_
    refine x_ic T_114_217 ?_
    refine x_sta T_114_218 rfl ?_
    refine x_cv3 T_114_220 mN_115 mL_115 (Nat.le_of_ble_eq_true rfl) mO_115 (hP.o h.1) (Nat.le_of_ble_eq_true rfl) (hn36) ?_
    rintro _ σ ⟨rfl, rfl⟩
    refine cI ?_
    refine x_if T_114_223 (fun _ => ?_) (fun h => absurd (show (0 : Int) = 0 by rfl) h)
    refine x_lr (z := some k) T_114_231 rfl ?_
    refine x_ic T_114_232 ?_
    refine x_sta T_114_233 rfl ?_
    refine x_cv3 T_114_235 mN_115 mL_115 (Nat.le_of_ble_eq_true rfl) mO_115 (hP.o h.1) (Nat.le_of_ble_eq_true rfl) (hn37) ?_
    rintro _ σ ⟨rfl, rfl⟩
    refine cI ?_
    refine x_if T_114_238 (fun _ => ?_) (fun h => absurd (show (0 : Int) = 0 by rfl) h)
    refine x_lr (z := some k) T_114_246 rfl ?_
    refine x_ic T_114_247 ?_
    refine x_sta T_114_248 rfl ?_
    refine x_cv3 T_114_250 mN_115 mL_115 (Nat.le_of_ble_eq_true rfl) mO_115 (hP.o h.1) (Nat.le_of_ble_eq_true rfl) (hn38) ?_
    rintro _ σ ⟨rfl, rfl⟩
    refine cI ?_
    refine x_if T_114_253 (fun _ => ?_) (fun h => absurd (show (0 : Int) = 0 by rfl) h)
    refine x_lr (z := some k) T_114_261 rfl ?_
    refine x_ic T_114_262 ?_
    refine x_sta T_114_263 rfl ?_
    refine x_cv3 T_114_265 mN_115 mL_115 (Nat.le_of_ble_eq_true rfl) mO_115 (hP.o h.1) (Nat.le_of_ble_eq_true rfl) (hn39) ?_
    rintro _ σ ⟨rfl, rfl⟩
    refine cI ?_
    refine x_if T_114_268 (fun _ => ?_) (fun h => absurd (show (0 : Int) = 0 by rfl) h)
    refine x_lr (z := some k) T_114_276 rfl ?_
    refine x_ic T_114_277 ?_
    refine x_sta T_114_278 rfl ?_
    refine x_cv3 T_114_280 mN_115 mL_115 (Nat.le_of_ble_eq_true rfl) mO_115 (hP.o h.1) (Nat.le_of_ble_eq_true rfl) (hn40) ?_
    rintro _ σ ⟨rfl, rfl⟩
    refine cI ?_
    refine x_if T_114_283 (fun _ => ?_) (fun h => absurd (show (0 : Int) = 0 by rfl) h)
    refine x_lr (z := some k) T_114_291 rfl ?_
    refine x_ic T_114_292 ?_
    refine x_sta T_114_293 rfl ?_
    refine x_cv3 T_114_295 mN_115 mL_115 (Nat.le_of_ble_eq_true rfl) mO_115 (hP.o h.1) (Nat.le_of_ble_eq_true rfl) (hn41) ?_
    rintro _ σ ⟨rfl, rfl⟩
    refine cI ?_
    refine x_if T_114_298 (fun _ => ?_) (fun h => absurd (show (0 : Int) = 0 by rfl) h)
    refine x_lr (z := some k) T_114_306 rfl ?_
    refine x_ic T_114_307 ?_
    refine x_sta T_114_308 rfl ?_
    refine x_cv3 T_114_310 mN_115 mL_115 (Nat.le_of_ble_eq_true rfl) mO_115 (hP.o h.1) (Nat.le_of_ble_eq_true rfl) (hn42) ?_
    rintro _ σ ⟨rfl, rfl⟩
    refine cI ?_
    refine x_if T_114_313 (fun _ => ?_) (fun h => absurd (show (0 : Int) = 0 by rfl) h)
    refine x_lr (z := some k) T_114_321 rfl ?_
    refine x_ic T_114_322 ?_
    refine x_sta T_114_323 rfl ?_
    refine x_cv3 T_114_325 mN_115 mL_115 (Nat.le_of_ble_eq_true rfl) mO_115 (hP.o h.1) (Nat.le_of_ble_eq_true rfl) (hn43) ?_
    rintro _ σ ⟨rfl, rfl⟩
    refine cI ?_
    refine x_if T_114_328 (fun _ => ?_) (fun h => absurd (show (0 : Int) = 0 by rfl) h)
    refine x_lr (z := some k) T_114_336 rfl ?_
    refine x_ic T_114_337 ?_
    refine x_sta T_114_338 rfl ?_
    refine x_cv3 T_114_340 mN_115 mL_115 (Nat.le_of_ble_eq_true rfl) mO_115 (hP.o h.1) (Nat.le_of_ble_eq_true rfl) (hn44) ?_
    rintro _ σ ⟨rfl, rfl⟩
    refine cI ?_
    refine x_if T_114_343 (fun _ => ?_) (fun h => absurd (show (0 : Int) = 0 by rfl) h)
    refine x_lr (z := some k) T_114_351 rfl ?_
    refine x_ic T_114_352 ?_
    refine x_sta T_114_353 rfl ?_
    refine x_cv3 T_114_355 mN_115 mL_115 (Nat.le_of_ble_eq_true rfl) mO_115 (hP.o h.1) (Nat.le_of_ble_eq_true rfl) (h45) ?_
    rintro _ σ ⟨rfl, rfl⟩
    refine cI ?_
    refine x_if T_114_358 (fun h => absurd (show (1 : Int) = 0 from h) (by decide)) (fun _ => ?_)
    refine x_ic T_114_361 ?_
    refine x_goto T_114_363 ?_
    refine x_ri T_114_383 ?_
    exact ⟨rfl, rfl⟩
  rw [if_neg q45] at h45
  rw [if_neg q45]
  have hn45 := h45
  have h46 := his 46 (by decide)
  by_cases q46 : wd = txt 46
  · rw [if_pos q46] at h46
    rw [if_pos q46]
    refine CL_in mL_114 rfl ?_
    show WP fb _ 114 0 [some (vR (some k))] [] σ _
    refine x_lr (z := some k) T_114_0 rfl ?_
    refine x_gI (z := n) T_114_1 (Or.inl F_16_4) (hP.o h.1) (Eq.trans (hP.gi h.1 (key := 2516) rfl) h5) ?_
    refine x_if T_114_4 (fun _ => ?_) (fun h => absurd (show ¬ n = 0 by omega) h)
    refine x_lr (z := some k) T_114_11 rfl ?_
    refine x_ic T_114_12 ?_
    refine x_sta T_114_13 rfl ?_
    refine x_cv3 T_114_15 mN_115 mL_115 (Nat.le_of_ble_eq_true rfl) mO_115 (hP.o h.1) (Nat.le_of_ble_eq_true rfl) (hn22) ?_
    rintro _ σ ⟨rfl, rfl⟩
    refine cI ?_
    refine x_if T_114_18 (fun _ => ?_) (fun h => absurd (show (0 : Int) = 0 by rfl) h)
    refine x_lr (z := some k) T_114_25 rfl ?_
    refine x_ic T_114_26 ?_
    refine x_sta T_114_27 rfl ?_
    refine x_cv3 T_114_29 mN_115 mL_115 (Nat.le_of_ble_eq_true rfl) mO_115 (hP.o h.1) (Nat.le_of_ble_eq_true rfl) (hn23) ?_
    rintro _ σ ⟨rfl, rfl⟩
    refine cI ?_
    refine x_if T_114_32 (fun _ => ?_) (fun h => absurd (show (0 : Int) = 0 by rfl) h)
    refine x_lr (z := some k) T_114_39 rfl ?_
    refine x_ic T_114_40 ?_
    refine x_sta T_114_41 rfl ?_
    refine x_cv3 T_114_43 mN_115 mL_115 (Nat.le_of_ble_eq_true rfl) mO_115 (hP.o h.1) (Nat.le_of_ble_eq_true rfl) (hn24) ?_
    rintro _ σ ⟨rfl, rfl⟩
    refine cI ?_
    refine x_if T_114_46 (fun _ => ?_) (fun h => absurd (show (0 : Int) = 0 by rfl) h)
    refine x_lr (z := some k) T_114_53 rfl ?_
    refine x_ic T_114_54 ?_
    refine x_sta T_114_55 rfl ?_
    refine x_cv3 T_114_57 mN_115 mL_115 (Nat.le_of_ble_eq_true rfl) mO_115 (hP.o h.1) (Nat.le_of_ble_eq_true rfl) (hn25) ?_
    rintro _ σ ⟨rfl, rfl⟩
    refine cI ?_
    refine x_if T_114_60 (fun _ => ?_) (fun h => absurd (show (0 : Int) = 0 by rfl) h)
    refine x_lr (z := some k) T_114_67 rfl ?_
    refine x_ic T_114_68 ?_
    refine x_sta T_114_69 rfl ?_
    refine x_cv3 T_114_71 mN_115 mL_115 (Nat.le_of_ble_eq_true rfl) mO_115 (hP.o h.1) (Nat.le_of_ble_eq_true rfl) (hn26) ?_
    rintro _ σ ⟨rfl, rfl⟩
    refine cI ?_
    refine x_if T_114_74 (fun _ => ?_) (fun h => absurd (show (0 : Int) = 0 by rfl) h)
    refine x_lr (z := some k) T_114_81 rfl ?_
    refine x_ic T_114_82 ?_
    refine x_sta T_114_83 rfl ?_
    refine x_cv3 T_114_85 mN_115 mL_115 (Nat.le_of_ble_eq_true rfl) mO_115 (hP.o h.1) (Nat.le_of_ble_eq_true rfl) (hn27) ?_
    rintro _ σ ⟨rfl, rfl⟩
    refine cI ?_
    refine x_if T_114_88 (fun _ => ?_) (fun h => absurd (show (0 : Int) = 0 by rfl) h)
    refine x_lr (z := some k) T_114_96 rfl ?_
    refine x_ic T_114_97 ?_
    refine x_sta T_114_98 rfl ?_
    refine x_cv3 T_114_100 mN_115 mL_115 (Nat.le_of_ble_eq_true rfl) mO_115 (hP.o h.1) (Nat.le_of_ble_eq_true rfl) (hn28) ?_
    rintro _ σ ⟨rfl, rfl⟩
    refine cI ?_
    refine x_if T_114_103 (fun _ => ?_) (fun h => absurd (show (0 : Int) = 0 by rfl) h)
    refine x_lr (z := some k) T_114_111 rfl ?_
    refine x_ic T_114_112 ?_
    refine x_sta T_114_113 rfl ?_
    refine x_cv3 T_114_115 mN_115 mL_115 (Nat.le_of_ble_eq_true rfl) mO_115 (hP.o h.1) (Nat.le_of_ble_eq_true rfl) (hn29) ?_
    rintro _ σ ⟨rfl, rfl⟩
    refine cI ?_
    refine x_if T_114_118 (fun _ => ?_) (fun h => absurd (show (0 : Int) = 0 by rfl) h)
    refine x_lr (z := some k) T_114_126 rfl ?_
    refine x_ic T_114_127 ?_
    refine x_sta T_114_128 rfl ?_
    refine x_cv3 T_114_130 mN_115 mL_115 (Nat.le_of_ble_eq_true rfl) mO_115 (hP.o h.1) (Nat.le_of_ble_eq_true rfl) (hn30) ?_
    rintro _ σ ⟨rfl, rfl⟩
    refine cI ?_
    refine x_if T_114_133 (fun _ => ?_) (fun h => absurd (show (0 : Int) = 0 by rfl) h)
    refine x_lr (z := some k) T_114_141 rfl ?_
    refine x_ic T_114_142 ?_
    refine x_sta T_114_143 rfl ?_
    refine x_cv3 T_114_145 mN_115 mL_115 (Nat.le_of_ble_eq_true rfl) mO_115 (hP.o h.1) (Nat.le_of_ble_eq_true rfl) (hn31) ?_
    rintro _ σ ⟨rfl, rfl⟩
    refine cI ?_
    refine x_if T_114_148 (fun _ => ?_) (fun h => absurd (show (0 : Int) = 0 by rfl) h)
    refine x_lr (z := some k) T_114_156 rfl ?_
    refine x_ic T_114_157 ?_
    refine x_sta T_114_158 rfl ?_
    refine x_cv3 T_114_160 mN_115 mL_115 (Nat.le_of_ble_eq_true rfl) mO_115 (hP.o h.1) (Nat.le_of_ble_eq_true rfl) (hn32) ?_
    rintro _ σ ⟨rfl, rfl⟩
    refine cI ?_
    refine x_if T_114_163 (fun _ => ?_) (fun h => absurd (show (0 : Int) = 0 by rfl) h)
    refine x_lr (z := some k) T_114_171 rfl ?_
    refine x_ic T_114_172 ?_
    refine x_sta T_114_173 rfl ?_
    refine x_cv3 T_114_175 mN_115 mL_115 (Nat.le_of_ble_eq_true rfl) mO_115 (hP.o h.1) (Nat.le_of_ble_eq_true rfl) (hn33) ?_
    rintro _ σ ⟨rfl, rfl⟩
    refine cI ?_
    refine x_if T_114_178 (fun _ => ?_) (fun h => absurd (show (0 : Int) = 0 by rfl) h)
    refine x_lr (z := some k) T_114_186 rfl ?_
    refine x_ic T_114_187 ?_
    refine x_sta T_114_188 rfl ?_
    refine x_cv3 T_114_190 mN_115 mL_115 (Nat.le_of_ble_eq_true rfl) mO_115 (hP.o h.1) (Nat.le_of_ble_eq_true rfl) (hn34) ?_
    rintro _ σ ⟨rfl, rfl⟩
    refine cI ?_
    refine x_if T_114_193 (fun _ => ?_) (fun h => absurd (show (0 : Int) = 0 by rfl) h)
    refine x_lr (z := some k) T_114_201 rfl ?_
    refine x_ic T_114_202 ?_
    refine x_sta T_114_203 rfl ?_
    refine x_cv3 T_114_205 mN_115 mL_115 (Nat.le_of_ble_eq_true rfl) mO_115 (hP.o h.1) (Nat.le_of_ble_eq_true rfl) (hn35) ?_
    rintro _ σ ⟨rfl, rfl⟩
    refine cI ?_
    refine x_if T_114_208 (fun _ => ?_) (fun h => absurd (show (0 : Int) = 0 by rfl) h)
    refine x_lr (z := some k) T_114_216 rfl ?_
    refine x_ic T_114_217 ?_
    refine x_sta T_114_218 rfl ?_
    refine x_cv3 T_114_220 mN_115 mL_115 (Nat.le_of_ble_eq_true rfl) mO_115 (hP.o h.1) (Nat.le_of_ble_eq_true rfl) (hn36) ?_
    rintro _ σ ⟨rfl, rfl⟩
    refine cI ?_
    refine x_if T_114_223 (fun _ => ?_) (fun h => absurd (show (0 : Int) = 0 by rfl) h)
    refine x_lr (z := some k) T_114_231 rfl ?_
    refine x_ic T_114_232 ?_
    refine x_sta T_114_233 rfl ?_
    refine x_cv3 T_114_235 mN_115 mL_115 (Nat.le_of_ble_eq_true rfl) mO_115 (hP.o h.1) (Nat.le_of_ble_eq_true rfl) (hn37) ?_
    rintro _ σ ⟨rfl, rfl⟩
    refine cI ?_
    refine x_if T_114_238 (fun _ => ?_) (fun h => absurd (show (0 : Int) = 0 by rfl) h)
    refine x_lr (z := some k) T_114_246 rfl ?_
    refine x_ic T_114_247 ?_
    refine x_sta T_114_248 rfl ?_
    refine x_cv3 T_114_250 mN_115 mL_115 (Nat.le_of_ble_eq_true rfl) mO_115 (hP.o h.1) (Nat.le_of_ble_eq_true rfl) (hn38) ?_
    rintro _ σ ⟨rfl, rfl⟩
    refine cI ?_
    refine x_if T_114_253 (fun _ => ?_) (fun h => absurd (show (0 : Int) = 0 by rfl) h)
    refine x_lr (z := some k) T_114_261 rfl ?_
    refine x_ic T_114_262 ?_
    refine x_sta T_114_263 rfl ?_
    refine x_cv3 T_114_265 mN_115 mL_115 (Nat.le_of_ble_eq_true rfl) mO_115 (hP.o h.1) (Nat.le_of_ble_eq_true rfl) (hn39) ?_
    rintro _ σ ⟨rfl, rfl⟩
    refine cI ?_
    refine x_if T_114_268 (fun _ => ?_) (fun h => absurd (show (0 : Int) = 0 by rfl) h)
    refine x_lr (z := some k) T_114_276 rfl ?_
    refine x_ic T_114_277 ?_
    refine x_sta T_114_278 rfl ?_
    refine x_cv3 T_114_280 mN_115 mL_115 (Nat.le_of_ble_eq_true rfl) mO_115 (hP.o h.1) (Nat.le_of_ble_eq_true rfl) (hn40) ?_
    rintro _ σ ⟨rfl, rfl⟩
    refine cI ?_
    refine x_if T_114_283 (fun _ => ?_) (fun h => absurd (show (0 : Int) = 0 by rfl) h)
    refine x_lr (z := some k) T_114_291 rfl ?_
    refine x_ic T_114_292 ?_
    refine x_sta T_114_293 rfl ?_
    refine x_cv3 T_114_295 mN_115 mL_115 (Nat.le_of_ble_eq_true rfl) mO_115 (hP.o h.1) (Nat.le_of_ble_eq_true rfl) (hn41) ?_
    rintro _ σ ⟨rfl, rfl⟩
    refine cI ?_
    refine x_if T_114_298 (fun _ => ?_) (fun h => absurd (show (0 : Int) = 0 by rfl) h)
    refine x_lr (z := some k) T_114_306 rfl ?_
    refine x_ic T_114_307 ?_
    refine x_sta T_114_308 rfl ?_
    refine x_cv3 T_114_310 mN_115 mL_115 (Nat.le_of_ble_eq_true rfl) mO_115 (hP.o h.1) (Nat.le_of_ble_eq_true rfl) (hn42) ?_
    rintro _ σ ⟨rfl, rfl⟩
    refine cI ?_
    refine x_if T_114_313 (fun _ => ?_) (fun h => absurd (show (0 : Int) = 0 by rfl) h)
    refine x_lr (z := some k) T_114_321 rfl ?_
    refine x_ic T_114_322 ?_
    refine x_sta T_114_323 rfl ?_
    refine x_cv3 T_114_325 mN_115 mL_115 (Nat.le_of_ble_eq_true rfl) mO_115 (hP.o h.1) (Nat.le_of_ble_eq_true rfl) (hn43) ?_
    rintro _ σ ⟨rfl, rfl⟩
    refine cI ?_
    refine x_if T_114_328 (fun _ => ?_) (fun h => absurd (show (0 : Int) = 0 by rfl) h)
    refine x_lr (z := some k) T_114_336 rfl ?_
    refine x_ic T_114_337 ?_
    refine x_sta T_114_338 rfl ?_
    refine x_cv3 T_114_340 mN_115 mL_115 (Nat.le_of_ble_eq_true rfl) mO_115 (hP.o h.1) (Nat.le_of_ble_eq_true rfl) (hn44) ?_
    rintro _ σ ⟨rfl, rfl⟩
    refine cI ?_
    refine x_if T_114_343 (fun _ => ?_) (fun h => absurd (show (0 : Int) = 0 by rfl) h)
    refine x_lr (z := some k) T_114_351 rfl ?_
    refine x_ic T_114_352 ?_
    refine x_sta T_114_353 rfl ?_
    refine x_cv3 T_114_355 mN_115 mL_115 (Nat.le_of_ble_eq_true rfl) mO_115 (hP.o h.1) (Nat.le_of_ble_eq_true rfl) (hn45) ?_
    rintro _ σ ⟨rfl, rfl⟩
    refine cI ?_
    refine x_if T_114_358 (fun _ => ?_) (fun h => absurd (show (0 : Int) = 0 by rfl) h)
    refine x_lr (z := some k) T_114_366 rfl ?_
    refine x_ic T_114_367 ?_
    refine x_sta T_114_368 rfl ?_
    refine x_cv3 T_114_370 mN_115 mL_115 (Nat.le_of_ble_eq_true rfl) mO_115 (hP.o h.1) (Nat.le_of_ble_eq_true rfl) (h46) ?_
    rintro _ σ ⟨rfl, rfl⟩
    refine cI ?_
    refine x_if T_114_373 (fun h => absurd (show (1 : Int) = 0 from h) (by decide)) (fun _ => ?_)
    refine x_ic T_114_376 ?_
    refine x_goto T_114_378 ?_
    refine x_ri T_114_383 ?_
    exact ⟨rfl, rfl⟩
  rw [if_neg q46] at h46
  rw [if_neg q46]
  have hn46 := h46
  refine CL_in mL_114 rfl ?_
  show WP fb _ 114 0 [some (vR (some k))] [] σ _
  refine x_lr (z := some k) T_114_0 rfl ?_
  refine x_gI (z := n) T_114_1 (Or.inl F_16_4) (hP.o h.1) (Eq.trans (hP.gi h.1 (key := 2516) rfl) h5) ?_
  refine x_if T_114_4 (fun _ => ?_) (fun h => absurd (show ¬ n = 0 by omega) h)
  refine x_lr (z := some k) T_114_11 rfl ?_
  refine x_ic T_114_12 ?_
  refine x_sta T_114_13 rfl ?_
  refine x_cv3 T_114_15 mN_115 mL_115 (Nat.le_of_ble_eq_true rfl) mO_115 (hP.o h.1) (Nat.le_of_ble_eq_true rfl) (hn22) ?_
  rintro _ σ ⟨rfl, rfl⟩
  refine cI ?_
  refine x_if T_114_18 (fun _ => ?_) (fun h => absurd (show (0 : Int) = 0 by rfl) h)
  refine x_lr (z := some k) T_114_25 rfl ?_
  refine x_ic T_114_26 ?_
  refine x_sta T_114_27 rfl ?_
  refine x_cv3 T_114_29 mN_115 mL_115 (Nat.le_of_ble_eq_true rfl) mO_115 (hP.o h.1) (Nat.le_of_ble_eq_true rfl) (hn23) ?_
  rintro _ σ ⟨rfl, rfl⟩
  refine cI ?_
  refine x_if T_114_32 (fun _ => ?_) (fun h => absurd (show (0 : Int) = 0 by rfl) h)
  refine x_lr (z := some k) T_114_39 rfl ?_
  refine x_ic T_114_40 ?_
  refine x_sta T_114_41 rfl ?_
  refine x_cv3 T_114_43 mN_115 mL_115 (Nat.le_of_ble_eq_true rfl) mO_115 (hP.o h.1) (Nat.le_of_ble_eq_true rfl) (hn24) ?_
  rintro _ σ ⟨rfl, rfl⟩
  refine cI ?_
  refine x_if T_114_46 (fun _ => ?_) (fun h => absurd (show (0 : Int) = 0 by rfl) h)
  refine x_lr (z := some k) T_114_53 rfl ?_
  refine x_ic T_114_54 ?_
  refine x_sta T_114_55 rfl ?_
  refine x_cv3 T_114_57 mN_115 mL_115 (Nat.le_of_ble_eq_true rfl) mO_115 (hP.o h.1) (Nat.le_of_ble_eq_true rfl) (hn25) ?_
  rintro _ σ ⟨rfl, rfl⟩
  refine cI ?_
  refine x_if T_114_60 (fun _ => ?_) (fun h => absurd (show (0 : Int) = 0 by rfl) h)
  refine x_lr (z := some k) T_114_67 rfl ?_
  refine x_ic T_114_68 ?_
  refine x_sta T_114_69 rfl ?_
  refine x_cv3 T_114_71 mN_115 mL_115 (Nat.le_of_ble_eq_true rfl) mO_115 (hP.o h.1) (Nat.le_of_ble_eq_true rfl) (hn26) ?_
  rintro _ σ ⟨rfl, rfl⟩
  refine cI ?_
  refine x_if T_114_74 (fun _ => ?_) (fun h => absurd (show (0 : Int) = 0 by rfl) h)
  refine x_lr (z := some k) T_114_81 rfl ?_
  refine x_ic T_114_82 ?_
  refine x_sta T_114_83 rfl ?_
  refine x_cv3 T_114_85 mN_115 mL_115 (Nat.le_of_ble_eq_true rfl) mO_115 (hP.o h.1) (Nat.le_of_ble_eq_true rfl) (hn27) ?_
  rintro _ σ ⟨rfl, rfl⟩
  refine cI ?_
  refine x_if T_114_88 (fun _ => ?_) (fun h => absurd (show (0 : Int) = 0 by rfl) h)
  refine x_lr (z := some k) T_114_96 rfl ?_
  refine x_ic T_114_97 ?_
  refine x_sta T_114_98 rfl ?_
  refine x_cv3 T_114_100 mN_115 mL_115 (Nat.le_of_ble_eq_true rfl) mO_115 (hP.o h.1) (Nat.le_of_ble_eq_true rfl) (hn28) ?_
  rintro _ σ ⟨rfl, rfl⟩
  refine cI ?_
  refine x_if T_114_103 (fun _ => ?_) (fun h => absurd (show (0 : Int) = 0 by rfl) h)
  refine x_lr (z := some k) T_114_111 rfl ?_
  refine x_ic T_114_112 ?_
  refine x_sta T_114_113 rfl ?_
  refine x_cv3 T_114_115 mN_115 mL_115 (Nat.le_of_ble_eq_true rfl) mO_115 (hP.o h.1) (Nat.le_of_ble_eq_true rfl) (hn29) ?_
  rintro _ σ ⟨rfl, rfl⟩
  refine cI ?_
  refine x_if T_114_118 (fun _ => ?_) (fun h => absurd (show (0 : Int) = 0 by rfl) h)
  refine x_lr (z := some k) T_114_126 rfl ?_
  refine x_ic T_114_127 ?_
  refine x_sta T_114_128 rfl ?_
  refine x_cv3 T_114_130 mN_115 mL_115 (Nat.le_of_ble_eq_true rfl) mO_115 (hP.o h.1) (Nat.le_of_ble_eq_true rfl) (hn30) ?_
  rintro _ σ ⟨rfl, rfl⟩
  refine cI ?_
  refine x_if T_114_133 (fun _ => ?_) (fun h => absurd (show (0 : Int) = 0 by rfl) h)
  refine x_lr (z := some k) T_114_141 rfl ?_
  refine x_ic T_114_142 ?_
  refine x_sta T_114_143 rfl ?_
  refine x_cv3 T_114_145 mN_115 mL_115 (Nat.le_of_ble_eq_true rfl) mO_115 (hP.o h.1) (Nat.le_of_ble_eq_true rfl) (hn31) ?_
  rintro _ σ ⟨rfl, rfl⟩
  refine cI ?_
  refine x_if T_114_148 (fun _ => ?_) (fun h => absurd (show (0 : Int) = 0 by rfl) h)
  refine x_lr (z := some k) T_114_156 rfl ?_
  refine x_ic T_114_157 ?_
  refine x_sta T_114_158 rfl ?_
  refine x_cv3 T_114_160 mN_115 mL_115 (Nat.le_of_ble_eq_true rfl) mO_115 (hP.o h.1) (Nat.le_of_ble_eq_true rfl) (hn32) ?_
  rintro _ σ ⟨rfl, rfl⟩
  refine cI ?_
  refine x_if T_114_163 (fun _ => ?_) (fun h => absurd (show (0 : Int) = 0 by rfl) h)
  refine x_lr (z := some k) T_114_171 rfl ?_
  refine x_ic T_114_172 ?_
  refine x_sta T_114_173 rfl ?_
  refine x_cv3 T_114_175 mN_115 mL_115 (Nat.le_of_ble_eq_true rfl) mO_115 (hP.o h.1) (Nat.le_of_ble_eq_true rfl) (hn33) ?_
  rintro _ σ ⟨rfl, rfl⟩
  refine cI ?_
  refine x_if T_114_178 (fun _ => ?_) (fun h => absurd (show (0 : Int) = 0 by rfl) h)
  refine x_lr (z := some k) T_114_186 rfl ?_
  refine x_ic T_114_187 ?_
  refine x_sta T_114_188 rfl ?_
  refine x_cv3 T_114_190 mN_115 mL_115 (Nat.le_of_ble_eq_true rfl) mO_115 (hP.o h.1) (Nat.le_of_ble_eq_true rfl) (hn34) ?_
  rintro _ σ ⟨rfl, rfl⟩
  refine cI ?_
  refine x_if T_114_193 (fun _ => ?_) (fun h => absurd (show (0 : Int) = 0 by rfl) h)
  refine x_lr (z := some k) T_114_201 rfl ?_
  refine x_ic T_114_202 ?_
  refine x_sta T_114_203 rfl ?_
  refine x_cv3 T_114_205 mN_115 mL_115 (Nat.le_of_ble_eq_true rfl) mO_115 (hP.o h.1) (Nat.le_of_ble_eq_true rfl) (hn35) ?_
  rintro _ σ ⟨rfl, rfl⟩
  refine cI ?_
  refine x_if T_114_208 (fun _ => ?_) (fun h => absurd (show (0 : Int) = 0 by rfl) h)
  refine x_lr (z := some k) T_114_216 rfl ?_
  refine x_ic T_114_217 ?_
  refine x_sta T_114_218 rfl ?_
  refine x_cv3 T_114_220 mN_115 mL_115 (Nat.le_of_ble_eq_true rfl) mO_115 (hP.o h.1) (Nat.le_of_ble_eq_true rfl) (hn36) ?_
  rintro _ σ ⟨rfl, rfl⟩
  refine cI ?_
  refine x_if T_114_223 (fun _ => ?_) (fun h => absurd (show (0 : Int) = 0 by rfl) h)
  refine x_lr (z := some k) T_114_231 rfl ?_
  refine x_ic T_114_232 ?_
  refine x_sta T_114_233 rfl ?_
  refine x_cv3 T_114_235 mN_115 mL_115 (Nat.le_of_ble_eq_true rfl) mO_115 (hP.o h.1) (Nat.le_of_ble_eq_true rfl) (hn37) ?_
  rintro _ σ ⟨rfl, rfl⟩
  refine cI ?_
  refine x_if T_114_238 (fun _ => ?_) (fun h => absurd (show (0 : Int) = 0 by rfl) h)
  refine x_lr (z := some k) T_114_246 rfl ?_
  refine x_ic T_114_247 ?_
  refine x_sta T_114_248 rfl ?_
  refine x_cv3 T_114_250 mN_115 mL_115 (Nat.le_of_ble_eq_true rfl) mO_115 (hP.o h.1) (Nat.le_of_ble_eq_true rfl) (hn38) ?_
  rintro _ σ ⟨rfl, rfl⟩
  refine cI ?_
  refine x_if T_114_253 (fun _ => ?_) (fun h => absurd (show (0 : Int) = 0 by rfl) h)
  refine x_lr (z := some k) T_114_261 rfl ?_
  refine x_ic T_114_262 ?_
  refine x_sta T_114_263 rfl ?_
  refine x_cv3 T_114_265 mN_115 mL_115 (Nat.le_of_ble_eq_true rfl) mO_115 (hP.o h.1) (Nat.le_of_ble_eq_true rfl) (hn39) ?_
  rintro _ σ ⟨rfl, rfl⟩
  refine cI ?_
  refine x_if T_114_268 (fun _ => ?_) (fun h => absurd (show (0 : Int) = 0 by rfl) h)
  refine x_lr (z := some k) T_114_276 rfl ?_
  refine x_ic T_114_277 ?_
  refine x_sta T_114_278 rfl ?_
  refine x_cv3 T_114_280 mN_115 mL_115 (Nat.le_of_ble_eq_true rfl) mO_115 (hP.o h.1) (Nat.le_of_ble_eq_true rfl) (hn40) ?_
  rintro _ σ ⟨rfl, rfl⟩
  refine cI ?_
  refine x_if T_114_283 (fun _ => ?_) (fun h => absurd (show (0 : Int) = 0 by rfl) h)
  refine x_lr (z := some k) T_114_291 rfl ?_
  refine x_ic T_114_292 ?_
  refine x_sta T_114_293 rfl ?_
  refine x_cv3 T_114_295 mN_115 mL_115 (Nat.le_of_ble_eq_true rfl) mO_115 (hP.o h.1) (Nat.le_of_ble_eq_true rfl) (hn41) ?_
  rintro _ σ ⟨rfl, rfl⟩
  refine cI ?_
  refine x_if T_114_298 (fun _ => ?_) (fun h => absurd (show (0 : Int) = 0 by rfl) h)
  refine x_lr (z := some k) T_114_306 rfl ?_
  refine x_ic T_114_307 ?_
  refine x_sta T_114_308 rfl ?_
  refine x_cv3 T_114_310 mN_115 mL_115 (Nat.le_of_ble_eq_true rfl) mO_115 (hP.o h.1) (Nat.le_of_ble_eq_true rfl) (hn42) ?_
  rintro _ σ ⟨rfl, rfl⟩
  refine cI ?_
  refine x_if T_114_313 (fun _ => ?_) (fun h => absurd (show (0 : Int) = 0 by rfl) h)
  refine x_lr (z := some k) T_114_321 rfl ?_
  refine x_ic T_114_322 ?_
  refine x_sta T_114_323 rfl ?_
  refine x_cv3 T_114_325 mN_115 mL_115 (Nat.le_of_ble_eq_true rfl) mO_115 (hP.o h.1) (Nat.le_of_ble_eq_true rfl) (hn43) ?_
  rintro _ σ ⟨rfl, rfl⟩
  refine cI ?_
  refine x_if T_114_328 (fun _ => ?_) (fun h => absurd (show (0 : Int) = 0 by rfl) h)
  refine x_lr (z := some k) T_114_336 rfl ?_
  refine x_ic T_114_337 ?_
  refine x_sta T_114_338 rfl ?_
  refine x_cv3 T_114_340 mN_115 mL_115 (Nat.le_of_ble_eq_true rfl) mO_115 (hP.o h.1) (Nat.le_of_ble_eq_true rfl) (hn44) ?_
  rintro _ σ ⟨rfl, rfl⟩
  refine cI ?_
  refine x_if T_114_343 (fun _ => ?_) (fun h => absurd (show (0 : Int) = 0 by rfl) h)
  refine x_lr (z := some k) T_114_351 rfl ?_
  refine x_ic T_114_352 ?_
  refine x_sta T_114_353 rfl ?_
  refine x_cv3 T_114_355 mN_115 mL_115 (Nat.le_of_ble_eq_true rfl) mO_115 (hP.o h.1) (Nat.le_of_ble_eq_true rfl) (hn45) ?_
  rintro _ σ ⟨rfl, rfl⟩
  refine cI ?_
  refine x_if T_114_358 (fun _ => ?_) (fun h => absurd (show (0 : Int) = 0 by rfl) h)
  refine x_lr (z := some k) T_114_366 rfl ?_
  refine x_ic T_114_367 ?_
  refine x_sta T_114_368 rfl ?_
  refine x_cv3 T_114_370 mN_115 mL_115 (Nat.le_of_ble_eq_true rfl) mO_115 (hP.o h.1) (Nat.le_of_ble_eq_true rfl) (hn46) ?_
  rintro _ σ ⟨rfl, rfl⟩
  refine cI ?_
  refine x_if T_114_373 (fun _ => ?_) (fun h => absurd (show (0 : Int) = 0 by rfl) h)
  refine x_ic T_114_381 ?_
  refine x_ri T_114_383 ?_
  exact ⟨rfl, rfl⟩
end XVB
