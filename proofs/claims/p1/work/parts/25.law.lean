/-! The law's loop, from pairs: a method of the class and its fellow of the reference answer alike. -/
/-- the script stands -/
def Scr (L : Nat) (xs : Nat → Int) (σ : hM) : Prop := mT σ 0 = some (Sum.inr (0, L)) ∧ (∀ k, mI σ 0 k = xs k) ∧ mT σ 128 = some (Sum.inl 0) ∧ mT σ 2281 = some (Sum.inl 17)
/-- both methods, one after the other, answer the same number; what holds behind them -/
def PairI (fb : Bool) (y1 y2 : Nat) (as : List AV) (L : Nat) (xs : Nat → Int) (σ : hM) (Q : hM → Prop) : Prop :=
  ∃ v : Int, CL fb 21 y1 (vR (some 128) :: as) σ (fun r σ1 => r = some (vI v) ∧ Scr L xs σ1 ∧ CL fb 21 y2 (vR (some 2281) :: as) σ1 (fun r2 σ2 => r2 = some (vI v) ∧ Scr L xs σ2 ∧ Q σ2))
def PairL (fb : Bool) (y1 y2 : Nat) (as : List AV) (L : Nat) (xs : Nat → Int) (σ : hM) (Q : hM → Prop) : Prop :=
  ∃ v : Int, CL fb 21 y1 (vR (some 128) :: as) σ (fun r σ1 => r = some (vL v) ∧ Scr L xs σ1 ∧ CL fb 21 y2 (vR (some 2281) :: as) σ1 (fun r2 σ2 => r2 = some (vL v) ∧ Scr L xs σ2 ∧ Q σ2))
theorem T_423_18 : hTab 423 18 = some ((3, 3, 0, []), 19) := rfl
theorem T_423_19 : hTab 423 19 = some ((3, 0, 2, []), 20) := rfl
theorem T_423_20 : hTab 423 20 = some ((28, 0, 0, []), 21) := rfl
theorem T_423_21 : hTab 423 21 = some ((0, 0, 5, []), 22) := rfl
theorem T_423_22 : hTab 423 22 = some ((10, 1, 0, []), 23) := rfl
theorem T_423_23 : hTab 423 23 = some ((19, 4, Int.ofNat 802, []), 26) := rfl
theorem T_423_26 : hTab 423 26 = some ((3, 0, 2, []), 27) := rfl
theorem T_423_27 : hTab 423 27 = some ((3, 3, 0, []), 28) := rfl
theorem T_423_28 : hTab 423 28 = some ((26, 0, 0, []), 29) := rfl
theorem T_423_29 : hTab 423 29 = some ((0, 0, 31, []), 31) := rfl
theorem T_423_31 : hTab 423 31 = some ((10, 5, 0, []), 32) := rfl
theorem T_423_32 : hTab 423 32 = some ((23, 796, 0, [132, 195, 218, 241, 274, 297, 320, 343, 356, 389, 403, 426, 449, 472, 505, 548, 581, 624, 677, 720, 753]), 132) := rfl
theorem T_423_132 : hTab 423 132 = some ((3, 1, 2, []), 133) := rfl
theorem T_423_133 : hTab 423 133 = some ((3, 0, 2, []), 134) := rfl
theorem T_423_134 : hTab 423 134 = some ((3, 3, 0, []), 135) := rfl
theorem T_423_135 : hTab 423 135 = some ((0, 0, 1, []), 136) := rfl
theorem T_423_136 : hTab 423 136 = some ((10, 0, 0, []), 137) := rfl
theorem T_423_137 : hTab 423 137 = some ((26, 0, 0, []), 138) := rfl
theorem T_423_138 : hTab 423 138 = some ((14, 0, 0, []), 139) := rfl
theorem T_423_139 : hTab 423 139 = some ((0, 0, 32, []), 141) := rfl
theorem T_423_141 : hTab 423 141 = some ((12, 0, 0, []), 142) := rfl
theorem T_423_142 : hTab 423 142 = some ((3, 0, 2, []), 143) := rfl
theorem T_423_143 : hTab 423 143 = some ((3, 3, 0, []), 144) := rfl
theorem T_423_144 : hTab 423 144 = some ((0, 0, 2, []), 145) := rfl
theorem T_423_145 : hTab 423 145 = some ((10, 0, 0, []), 146) := rfl
theorem T_423_146 : hTab 423 146 = some ((26, 0, 0, []), 147) := rfl
theorem T_423_147 : hTab 423 147 = some ((14, 0, 0, []), 148) := rfl
theorem T_423_148 : hTab 423 148 = some ((1, 0, 4294967295, []), 151) := rfl
theorem T_423_151 : hTab 423 151 = some ((11, 5, 0, []), 152) := rfl
theorem T_423_152 : hTab 423 152 = some ((11, 6, 0, []), 153) := rfl
theorem T_423_153 : hTab 423 153 = some ((3, 0, 2, []), 154) := rfl
theorem T_423_154 : hTab 423 154 = some ((3, 3, 0, []), 155) := rfl
theorem T_423_155 : hTab 423 155 = some ((0, 0, 3, []), 156) := rfl
theorem T_423_156 : hTab 423 156 = some ((10, 0, 0, []), 157) := rfl
theorem T_423_157 : hTab 423 157 = some ((26, 0, 0, []), 158) := rfl
theorem T_423_158 : hTab 423 158 = some ((31, 95, 0, []), 161) := rfl
theorem T_423_161 : hTab 423 161 = some ((3, 2, 2, []), 162) := rfl
theorem T_423_162 : hTab 423 162 = some ((3, 0, 2, []), 163) := rfl
theorem T_423_163 : hTab 423 163 = some ((3, 3, 0, []), 164) := rfl
theorem T_423_164 : hTab 423 164 = some ((0, 0, 1, []), 165) := rfl
theorem T_423_165 : hTab 423 165 = some ((10, 0, 0, []), 166) := rfl
theorem T_423_166 : hTab 423 166 = some ((26, 0, 0, []), 167) := rfl
theorem T_423_167 : hTab 423 167 = some ((14, 0, 0, []), 168) := rfl
theorem T_423_168 : hTab 423 168 = some ((0, 0, 32, []), 170) := rfl
theorem T_423_170 : hTab 423 170 = some ((12, 0, 0, []), 171) := rfl
theorem T_423_171 : hTab 423 171 = some ((3, 0, 2, []), 172) := rfl
theorem T_423_172 : hTab 423 172 = some ((3, 3, 0, []), 173) := rfl
theorem T_423_173 : hTab 423 173 = some ((0, 0, 2, []), 174) := rfl
theorem T_423_174 : hTab 423 174 = some ((10, 0, 0, []), 175) := rfl
theorem T_423_175 : hTab 423 175 = some ((26, 0, 0, []), 176) := rfl
theorem T_423_176 : hTab 423 176 = some ((14, 0, 0, []), 177) := rfl
theorem T_423_177 : hTab 423 177 = some ((1, 0, 4294967295, []), 180) := rfl
theorem T_423_180 : hTab 423 180 = some ((11, 5, 0, []), 181) := rfl
theorem T_423_181 : hTab 423 181 = some ((11, 6, 0, []), 182) := rfl
theorem T_423_182 : hTab 423 182 = some ((3, 0, 2, []), 183) := rfl
theorem T_423_183 : hTab 423 183 = some ((3, 3, 0, []), 184) := rfl
theorem T_423_184 : hTab 423 184 = some ((0, 0, 3, []), 185) := rfl
theorem T_423_185 : hTab 423 185 = some ((10, 0, 0, []), 186) := rfl
theorem T_423_186 : hTab 423 186 = some ((26, 0, 0, []), 187) := rfl
theorem T_423_187 : hTab 423 187 = some ((31, 306, 0, []), 190) := rfl
theorem T_423_190 : hTab 423 190 = some ((19, 0, Int.ofNat 796, []), 193) := rfl
theorem T_423_195 : hTab 423 195 = some ((3, 1, 2, []), 196) := rfl
theorem T_423_196 : hTab 423 196 = some ((3, 0, 2, []), 197) := rfl
theorem T_423_197 : hTab 423 197 = some ((3, 3, 0, []), 198) := rfl
theorem T_423_198 : hTab 423 198 = some ((0, 0, 1, []), 199) := rfl
theorem T_423_199 : hTab 423 199 = some ((10, 0, 0, []), 200) := rfl
theorem T_423_200 : hTab 423 200 = some ((26, 0, 0, []), 201) := rfl
theorem T_423_201 : hTab 423 201 = some ((31, 96, 0, []), 204) := rfl
theorem T_423_204 : hTab 423 204 = some ((3, 2, 2, []), 205) := rfl
theorem T_423_205 : hTab 423 205 = some ((3, 0, 2, []), 206) := rfl
theorem T_423_206 : hTab 423 206 = some ((3, 3, 0, []), 207) := rfl
theorem T_423_207 : hTab 423 207 = some ((0, 0, 1, []), 208) := rfl
theorem T_423_208 : hTab 423 208 = some ((10, 0, 0, []), 209) := rfl
theorem T_423_209 : hTab 423 209 = some ((26, 0, 0, []), 210) := rfl
theorem T_423_210 : hTab 423 210 = some ((31, 307, 0, []), 213) := rfl
theorem T_423_213 : hTab 423 213 = some ((19, 0, Int.ofNat 796, []), 216) := rfl
theorem T_423_218 : hTab 423 218 = some ((3, 1, 2, []), 219) := rfl
theorem T_423_219 : hTab 423 219 = some ((3, 0, 2, []), 220) := rfl
theorem T_423_220 : hTab 423 220 = some ((3, 3, 0, []), 221) := rfl
theorem T_423_221 : hTab 423 221 = some ((0, 0, 1, []), 222) := rfl
theorem T_423_222 : hTab 423 222 = some ((10, 0, 0, []), 223) := rfl
theorem T_423_223 : hTab 423 223 = some ((26, 0, 0, []), 224) := rfl
theorem T_423_224 : hTab 423 224 = some ((31, 204, 0, []), 227) := rfl
theorem T_423_227 : hTab 423 227 = some ((3, 2, 2, []), 228) := rfl
theorem T_423_228 : hTab 423 228 = some ((3, 0, 2, []), 229) := rfl
theorem T_423_229 : hTab 423 229 = some ((3, 3, 0, []), 230) := rfl
theorem T_423_230 : hTab 423 230 = some ((0, 0, 1, []), 231) := rfl
theorem T_423_231 : hTab 423 231 = some ((10, 0, 0, []), 232) := rfl
theorem T_423_232 : hTab 423 232 = some ((26, 0, 0, []), 233) := rfl
theorem T_423_233 : hTab 423 233 = some ((31, 403, 0, []), 236) := rfl
theorem T_423_236 : hTab 423 236 = some ((19, 0, Int.ofNat 796, []), 239) := rfl
theorem T_423_241 : hTab 423 241 = some ((3, 1, 2, []), 242) := rfl
theorem T_423_242 : hTab 423 242 = some ((3, 0, 2, []), 243) := rfl
theorem T_423_243 : hTab 423 243 = some ((3, 3, 0, []), 244) := rfl
theorem T_423_244 : hTab 423 244 = some ((0, 0, 1, []), 245) := rfl
theorem T_423_245 : hTab 423 245 = some ((10, 0, 0, []), 246) := rfl
theorem T_423_246 : hTab 423 246 = some ((26, 0, 0, []), 247) := rfl
theorem T_423_247 : hTab 423 247 = some ((3, 0, 2, []), 248) := rfl
theorem T_423_248 : hTab 423 248 = some ((3, 3, 0, []), 249) := rfl
theorem T_423_249 : hTab 423 249 = some ((0, 0, 2, []), 250) := rfl
theorem T_423_250 : hTab 423 250 = some ((10, 0, 0, []), 251) := rfl
theorem T_423_251 : hTab 423 251 = some ((26, 0, 0, []), 252) := rfl
theorem T_423_252 : hTab 423 252 = some ((31, 206, 0, []), 255) := rfl
theorem T_423_255 : hTab 423 255 = some ((3, 2, 2, []), 256) := rfl
theorem T_423_256 : hTab 423 256 = some ((3, 0, 2, []), 257) := rfl
theorem T_423_257 : hTab 423 257 = some ((3, 3, 0, []), 258) := rfl
theorem T_423_258 : hTab 423 258 = some ((0, 0, 1, []), 259) := rfl
theorem T_423_259 : hTab 423 259 = some ((10, 0, 0, []), 260) := rfl
theorem T_423_260 : hTab 423 260 = some ((26, 0, 0, []), 261) := rfl
theorem T_423_261 : hTab 423 261 = some ((3, 0, 2, []), 262) := rfl
theorem T_423_262 : hTab 423 262 = some ((3, 3, 0, []), 263) := rfl
theorem T_423_263 : hTab 423 263 = some ((0, 0, 2, []), 264) := rfl
theorem T_423_264 : hTab 423 264 = some ((10, 0, 0, []), 265) := rfl
theorem T_423_265 : hTab 423 265 = some ((26, 0, 0, []), 266) := rfl
theorem T_423_266 : hTab 423 266 = some ((31, 404, 0, []), 269) := rfl
theorem T_423_269 : hTab 423 269 = some ((19, 0, Int.ofNat 796, []), 272) := rfl
theorem T_423_274 : hTab 423 274 = some ((3, 1, 2, []), 275) := rfl
theorem T_423_275 : hTab 423 275 = some ((3, 0, 2, []), 276) := rfl
theorem T_423_276 : hTab 423 276 = some ((3, 3, 0, []), 277) := rfl
theorem T_423_277 : hTab 423 277 = some ((0, 0, 1, []), 278) := rfl
theorem T_423_278 : hTab 423 278 = some ((10, 0, 0, []), 279) := rfl
theorem T_423_279 : hTab 423 279 = some ((26, 0, 0, []), 280) := rfl
theorem T_423_280 : hTab 423 280 = some ((31, 207, 0, []), 283) := rfl
theorem T_423_283 : hTab 423 283 = some ((3, 2, 2, []), 284) := rfl
theorem T_423_284 : hTab 423 284 = some ((3, 0, 2, []), 285) := rfl
theorem T_423_285 : hTab 423 285 = some ((3, 3, 0, []), 286) := rfl
theorem T_423_286 : hTab 423 286 = some ((0, 0, 1, []), 287) := rfl
theorem T_423_287 : hTab 423 287 = some ((10, 0, 0, []), 288) := rfl
theorem T_423_288 : hTab 423 288 = some ((26, 0, 0, []), 289) := rfl
theorem T_423_289 : hTab 423 289 = some ((31, 405, 0, []), 292) := rfl
theorem T_423_292 : hTab 423 292 = some ((19, 0, Int.ofNat 796, []), 295) := rfl
theorem T_423_297 : hTab 423 297 = some ((3, 1, 2, []), 298) := rfl
theorem T_423_298 : hTab 423 298 = some ((3, 0, 2, []), 299) := rfl
theorem T_423_299 : hTab 423 299 = some ((3, 3, 0, []), 300) := rfl
theorem T_423_300 : hTab 423 300 = some ((0, 0, 1, []), 301) := rfl
theorem T_423_301 : hTab 423 301 = some ((10, 0, 0, []), 302) := rfl
theorem T_423_302 : hTab 423 302 = some ((26, 0, 0, []), 303) := rfl
theorem T_423_303 : hTab 423 303 = some ((31, 208, 0, []), 306) := rfl
theorem T_423_306 : hTab 423 306 = some ((3, 2, 2, []), 307) := rfl
theorem T_423_307 : hTab 423 307 = some ((3, 0, 2, []), 308) := rfl
theorem T_423_308 : hTab 423 308 = some ((3, 3, 0, []), 309) := rfl
theorem T_423_309 : hTab 423 309 = some ((0, 0, 1, []), 310) := rfl
theorem T_423_310 : hTab 423 310 = some ((10, 0, 0, []), 311) := rfl
theorem T_423_311 : hTab 423 311 = some ((26, 0, 0, []), 312) := rfl
theorem T_423_312 : hTab 423 312 = some ((31, 406, 0, []), 315) := rfl
theorem T_423_315 : hTab 423 315 = some ((19, 0, Int.ofNat 796, []), 318) := rfl
theorem T_423_320 : hTab 423 320 = some ((3, 1, 2, []), 321) := rfl
theorem T_423_321 : hTab 423 321 = some ((3, 0, 2, []), 322) := rfl
theorem T_423_322 : hTab 423 322 = some ((3, 3, 0, []), 323) := rfl
theorem T_423_323 : hTab 423 323 = some ((0, 0, 1, []), 324) := rfl
theorem T_423_324 : hTab 423 324 = some ((10, 0, 0, []), 325) := rfl
theorem T_423_325 : hTab 423 325 = some ((26, 0, 0, []), 326) := rfl
theorem T_423_326 : hTab 423 326 = some ((31, 210, 0, []), 329) := rfl
theorem T_423_329 : hTab 423 329 = some ((3, 2, 2, []), 330) := rfl
theorem T_423_330 : hTab 423 330 = some ((3, 0, 2, []), 331) := rfl
theorem T_423_331 : hTab 423 331 = some ((3, 3, 0, []), 332) := rfl
theorem T_423_332 : hTab 423 332 = some ((0, 0, 1, []), 333) := rfl
theorem T_423_333 : hTab 423 333 = some ((10, 0, 0, []), 334) := rfl
theorem T_423_334 : hTab 423 334 = some ((26, 0, 0, []), 335) := rfl
theorem T_423_335 : hTab 423 335 = some ((31, 407, 0, []), 338) := rfl
theorem T_423_338 : hTab 423 338 = some ((19, 0, Int.ofNat 796, []), 341) := rfl
theorem T_423_343 : hTab 423 343 = some ((3, 1, 2, []), 344) := rfl
theorem T_423_344 : hTab 423 344 = some ((31, 211, 0, []), 347) := rfl
theorem T_423_347 : hTab 423 347 = some ((3, 2, 2, []), 348) := rfl
theorem T_423_348 : hTab 423 348 = some ((31, 408, 0, []), 351) := rfl
theorem T_423_351 : hTab 423 351 = some ((19, 0, Int.ofNat 796, []), 354) := rfl
theorem T_423_356 : hTab 423 356 = some ((3, 1, 2, []), 357) := rfl
theorem T_423_357 : hTab 423 357 = some ((3, 0, 2, []), 358) := rfl
theorem T_423_358 : hTab 423 358 = some ((3, 3, 0, []), 359) := rfl
theorem T_423_359 : hTab 423 359 = some ((0, 0, 1, []), 360) := rfl
theorem T_423_360 : hTab 423 360 = some ((10, 0, 0, []), 361) := rfl
theorem T_423_361 : hTab 423 361 = some ((26, 0, 0, []), 362) := rfl
theorem T_423_362 : hTab 423 362 = some ((3, 0, 2, []), 363) := rfl
theorem T_423_363 : hTab 423 363 = some ((3, 3, 0, []), 364) := rfl
theorem T_423_364 : hTab 423 364 = some ((0, 0, 2, []), 365) := rfl
theorem T_423_365 : hTab 423 365 = some ((10, 0, 0, []), 366) := rfl
theorem T_423_366 : hTab 423 366 = some ((26, 0, 0, []), 367) := rfl
theorem T_423_367 : hTab 423 367 = some ((31, 212, 0, []), 370) := rfl
theorem T_423_370 : hTab 423 370 = some ((3, 2, 2, []), 371) := rfl
theorem T_423_371 : hTab 423 371 = some ((3, 0, 2, []), 372) := rfl
theorem T_423_372 : hTab 423 372 = some ((3, 3, 0, []), 373) := rfl
theorem T_423_373 : hTab 423 373 = some ((0, 0, 1, []), 374) := rfl
theorem T_423_374 : hTab 423 374 = some ((10, 0, 0, []), 375) := rfl
theorem T_423_375 : hTab 423 375 = some ((26, 0, 0, []), 376) := rfl
theorem T_423_376 : hTab 423 376 = some ((3, 0, 2, []), 377) := rfl
theorem T_423_377 : hTab 423 377 = some ((3, 3, 0, []), 378) := rfl
theorem T_423_378 : hTab 423 378 = some ((0, 0, 2, []), 379) := rfl
theorem T_423_379 : hTab 423 379 = some ((10, 0, 0, []), 380) := rfl
theorem T_423_380 : hTab 423 380 = some ((26, 0, 0, []), 381) := rfl
theorem T_423_381 : hTab 423 381 = some ((31, 409, 0, []), 384) := rfl
theorem T_423_384 : hTab 423 384 = some ((19, 0, Int.ofNat 796, []), 387) := rfl
theorem T_423_389 : hTab 423 389 = some ((3, 1, 2, []), 390) := rfl
theorem T_423_390 : hTab 423 390 = some ((31, 214, 0, []), 393) := rfl
theorem T_423_393 : hTab 423 393 = some ((3, 2, 2, []), 394) := rfl
theorem T_423_394 : hTab 423 394 = some ((31, 410, 0, []), 397) := rfl
theorem T_423_397 : hTab 423 397 = some ((17, 0, 0, []), 398) := rfl
theorem T_423_398 : hTab 423 398 = some ((18, 0, Int.ofNat 796, []), 401) := rfl
theorem T_423_403 : hTab 423 403 = some ((3, 1, 2, []), 404) := rfl
theorem T_423_404 : hTab 423 404 = some ((3, 0, 2, []), 405) := rfl
theorem T_423_405 : hTab 423 405 = some ((3, 3, 0, []), 406) := rfl
theorem T_423_406 : hTab 423 406 = some ((0, 0, 1, []), 407) := rfl
theorem T_423_407 : hTab 423 407 = some ((10, 0, 0, []), 408) := rfl
theorem T_423_408 : hTab 423 408 = some ((26, 0, 0, []), 409) := rfl
theorem T_423_409 : hTab 423 409 = some ((31, 215, 0, []), 412) := rfl
theorem T_423_412 : hTab 423 412 = some ((3, 2, 2, []), 413) := rfl
theorem T_423_413 : hTab 423 413 = some ((3, 0, 2, []), 414) := rfl
theorem T_423_414 : hTab 423 414 = some ((3, 3, 0, []), 415) := rfl
theorem T_423_415 : hTab 423 415 = some ((0, 0, 1, []), 416) := rfl
theorem T_423_416 : hTab 423 416 = some ((10, 0, 0, []), 417) := rfl
theorem T_423_417 : hTab 423 417 = some ((26, 0, 0, []), 418) := rfl
theorem T_423_418 : hTab 423 418 = some ((31, 411, 0, []), 421) := rfl
theorem T_423_421 : hTab 423 421 = some ((19, 0, Int.ofNat 796, []), 424) := rfl
theorem T_423_426 : hTab 423 426 = some ((3, 1, 2, []), 427) := rfl
theorem T_423_427 : hTab 423 427 = some ((3, 0, 2, []), 428) := rfl
theorem T_423_428 : hTab 423 428 = some ((3, 3, 0, []), 429) := rfl
theorem T_423_429 : hTab 423 429 = some ((0, 0, 1, []), 430) := rfl
theorem T_423_430 : hTab 423 430 = some ((10, 0, 0, []), 431) := rfl
theorem T_423_431 : hTab 423 431 = some ((26, 0, 0, []), 432) := rfl
theorem T_423_432 : hTab 423 432 = some ((31, 216, 0, []), 435) := rfl
theorem T_423_435 : hTab 423 435 = some ((3, 2, 2, []), 436) := rfl
theorem T_423_436 : hTab 423 436 = some ((3, 0, 2, []), 437) := rfl
theorem T_423_437 : hTab 423 437 = some ((3, 3, 0, []), 438) := rfl
theorem T_423_438 : hTab 423 438 = some ((0, 0, 1, []), 439) := rfl
theorem T_423_439 : hTab 423 439 = some ((10, 0, 0, []), 440) := rfl
theorem T_423_440 : hTab 423 440 = some ((26, 0, 0, []), 441) := rfl
theorem T_423_441 : hTab 423 441 = some ((31, 412, 0, []), 444) := rfl
theorem T_423_444 : hTab 423 444 = some ((19, 0, Int.ofNat 796, []), 447) := rfl
theorem T_423_449 : hTab 423 449 = some ((3, 1, 2, []), 450) := rfl
theorem T_423_450 : hTab 423 450 = some ((3, 0, 2, []), 451) := rfl
theorem T_423_451 : hTab 423 451 = some ((3, 3, 0, []), 452) := rfl
theorem T_423_452 : hTab 423 452 = some ((0, 0, 1, []), 453) := rfl
theorem T_423_453 : hTab 423 453 = some ((10, 0, 0, []), 454) := rfl
theorem T_423_454 : hTab 423 454 = some ((26, 0, 0, []), 455) := rfl
theorem T_423_455 : hTab 423 455 = some ((31, 217, 0, []), 458) := rfl
theorem T_423_458 : hTab 423 458 = some ((3, 2, 2, []), 459) := rfl
theorem T_423_459 : hTab 423 459 = some ((3, 0, 2, []), 460) := rfl
theorem T_423_460 : hTab 423 460 = some ((3, 3, 0, []), 461) := rfl
theorem T_423_461 : hTab 423 461 = some ((0, 0, 1, []), 462) := rfl
theorem T_423_462 : hTab 423 462 = some ((10, 0, 0, []), 463) := rfl
theorem T_423_463 : hTab 423 463 = some ((26, 0, 0, []), 464) := rfl
theorem T_423_464 : hTab 423 464 = some ((31, 413, 0, []), 467) := rfl
theorem T_423_467 : hTab 423 467 = some ((19, 0, Int.ofNat 796, []), 470) := rfl
theorem T_423_472 : hTab 423 472 = some ((3, 1, 2, []), 473) := rfl
theorem T_423_473 : hTab 423 473 = some ((3, 0, 2, []), 474) := rfl
theorem T_423_474 : hTab 423 474 = some ((3, 3, 0, []), 475) := rfl
theorem T_423_475 : hTab 423 475 = some ((0, 0, 1, []), 476) := rfl
theorem T_423_476 : hTab 423 476 = some ((10, 0, 0, []), 477) := rfl
theorem T_423_477 : hTab 423 477 = some ((26, 0, 0, []), 478) := rfl
theorem T_423_478 : hTab 423 478 = some ((3, 0, 2, []), 479) := rfl
theorem T_423_479 : hTab 423 479 = some ((3, 3, 0, []), 480) := rfl
theorem T_423_480 : hTab 423 480 = some ((0, 0, 2, []), 481) := rfl
theorem T_423_481 : hTab 423 481 = some ((10, 0, 0, []), 482) := rfl
theorem T_423_482 : hTab 423 482 = some ((26, 0, 0, []), 483) := rfl
theorem T_423_483 : hTab 423 483 = some ((31, 218, 0, []), 486) := rfl
theorem T_423_486 : hTab 423 486 = some ((3, 2, 2, []), 487) := rfl
theorem T_423_487 : hTab 423 487 = some ((3, 0, 2, []), 488) := rfl
theorem T_423_488 : hTab 423 488 = some ((3, 3, 0, []), 489) := rfl
theorem T_423_489 : hTab 423 489 = some ((0, 0, 1, []), 490) := rfl
theorem T_423_490 : hTab 423 490 = some ((10, 0, 0, []), 491) := rfl
theorem T_423_491 : hTab 423 491 = some ((26, 0, 0, []), 492) := rfl
theorem T_423_492 : hTab 423 492 = some ((3, 0, 2, []), 493) := rfl
theorem T_423_493 : hTab 423 493 = some ((3, 3, 0, []), 494) := rfl
theorem T_423_494 : hTab 423 494 = some ((0, 0, 2, []), 495) := rfl
theorem T_423_495 : hTab 423 495 = some ((10, 0, 0, []), 496) := rfl
theorem T_423_496 : hTab 423 496 = some ((26, 0, 0, []), 497) := rfl
theorem T_423_497 : hTab 423 497 = some ((31, 414, 0, []), 500) := rfl
theorem T_423_500 : hTab 423 500 = some ((19, 0, Int.ofNat 796, []), 503) := rfl
theorem T_423_505 : hTab 423 505 = some ((3, 1, 2, []), 506) := rfl
theorem T_423_506 : hTab 423 506 = some ((3, 0, 2, []), 507) := rfl
theorem T_423_507 : hTab 423 507 = some ((3, 3, 0, []), 508) := rfl
theorem T_423_508 : hTab 423 508 = some ((0, 0, 1, []), 509) := rfl
theorem T_423_509 : hTab 423 509 = some ((10, 0, 0, []), 510) := rfl
theorem T_423_510 : hTab 423 510 = some ((26, 0, 0, []), 511) := rfl
theorem T_423_511 : hTab 423 511 = some ((3, 0, 2, []), 512) := rfl
theorem T_423_512 : hTab 423 512 = some ((3, 3, 0, []), 513) := rfl
theorem T_423_513 : hTab 423 513 = some ((0, 0, 2, []), 514) := rfl
theorem T_423_514 : hTab 423 514 = some ((10, 0, 0, []), 515) := rfl
theorem T_423_515 : hTab 423 515 = some ((26, 0, 0, []), 516) := rfl
theorem T_423_516 : hTab 423 516 = some ((3, 0, 2, []), 517) := rfl
theorem T_423_517 : hTab 423 517 = some ((3, 3, 0, []), 518) := rfl
theorem T_423_518 : hTab 423 518 = some ((0, 0, 3, []), 519) := rfl
theorem T_423_519 : hTab 423 519 = some ((10, 0, 0, []), 520) := rfl
theorem T_423_520 : hTab 423 520 = some ((26, 0, 0, []), 521) := rfl
theorem T_423_521 : hTab 423 521 = some ((31, 219, 0, []), 524) := rfl
theorem T_423_524 : hTab 423 524 = some ((3, 2, 2, []), 525) := rfl
theorem T_423_525 : hTab 423 525 = some ((3, 0, 2, []), 526) := rfl
theorem T_423_526 : hTab 423 526 = some ((3, 3, 0, []), 527) := rfl
theorem T_423_527 : hTab 423 527 = some ((0, 0, 1, []), 528) := rfl
theorem T_423_528 : hTab 423 528 = some ((10, 0, 0, []), 529) := rfl
theorem T_423_529 : hTab 423 529 = some ((26, 0, 0, []), 530) := rfl
theorem T_423_530 : hTab 423 530 = some ((3, 0, 2, []), 531) := rfl
theorem T_423_531 : hTab 423 531 = some ((3, 3, 0, []), 532) := rfl
theorem T_423_532 : hTab 423 532 = some ((0, 0, 2, []), 533) := rfl
theorem T_423_533 : hTab 423 533 = some ((10, 0, 0, []), 534) := rfl
theorem T_423_534 : hTab 423 534 = some ((26, 0, 0, []), 535) := rfl
theorem T_423_535 : hTab 423 535 = some ((3, 0, 2, []), 536) := rfl
theorem T_423_536 : hTab 423 536 = some ((3, 3, 0, []), 537) := rfl
theorem T_423_537 : hTab 423 537 = some ((0, 0, 3, []), 538) := rfl
theorem T_423_538 : hTab 423 538 = some ((10, 0, 0, []), 539) := rfl
theorem T_423_539 : hTab 423 539 = some ((26, 0, 0, []), 540) := rfl
theorem T_423_540 : hTab 423 540 = some ((31, 415, 0, []), 543) := rfl
theorem T_423_543 : hTab 423 543 = some ((19, 0, Int.ofNat 796, []), 546) := rfl
theorem T_423_548 : hTab 423 548 = some ((3, 1, 2, []), 549) := rfl
theorem T_423_549 : hTab 423 549 = some ((3, 0, 2, []), 550) := rfl
theorem T_423_550 : hTab 423 550 = some ((3, 3, 0, []), 551) := rfl
theorem T_423_551 : hTab 423 551 = some ((0, 0, 1, []), 552) := rfl
theorem T_423_552 : hTab 423 552 = some ((10, 0, 0, []), 553) := rfl
theorem T_423_553 : hTab 423 553 = some ((26, 0, 0, []), 554) := rfl
theorem T_423_554 : hTab 423 554 = some ((3, 0, 2, []), 555) := rfl
theorem T_423_555 : hTab 423 555 = some ((3, 3, 0, []), 556) := rfl
theorem T_423_556 : hTab 423 556 = some ((0, 0, 2, []), 557) := rfl
theorem T_423_557 : hTab 423 557 = some ((10, 0, 0, []), 558) := rfl
theorem T_423_558 : hTab 423 558 = some ((26, 0, 0, []), 559) := rfl
theorem T_423_559 : hTab 423 559 = some ((31, 220, 0, []), 562) := rfl
theorem T_423_562 : hTab 423 562 = some ((3, 2, 2, []), 563) := rfl
theorem T_423_563 : hTab 423 563 = some ((3, 0, 2, []), 564) := rfl
theorem T_423_564 : hTab 423 564 = some ((3, 3, 0, []), 565) := rfl
theorem T_423_565 : hTab 423 565 = some ((0, 0, 1, []), 566) := rfl
theorem T_423_566 : hTab 423 566 = some ((10, 0, 0, []), 567) := rfl
theorem T_423_567 : hTab 423 567 = some ((26, 0, 0, []), 568) := rfl
theorem T_423_568 : hTab 423 568 = some ((3, 0, 2, []), 569) := rfl
theorem T_423_569 : hTab 423 569 = some ((3, 3, 0, []), 570) := rfl
theorem T_423_570 : hTab 423 570 = some ((0, 0, 2, []), 571) := rfl
theorem T_423_571 : hTab 423 571 = some ((10, 0, 0, []), 572) := rfl
theorem T_423_572 : hTab 423 572 = some ((26, 0, 0, []), 573) := rfl
theorem T_423_573 : hTab 423 573 = some ((31, 416, 0, []), 576) := rfl
theorem T_423_576 : hTab 423 576 = some ((19, 0, Int.ofNat 796, []), 579) := rfl
theorem T_423_581 : hTab 423 581 = some ((3, 1, 2, []), 582) := rfl
theorem T_423_582 : hTab 423 582 = some ((3, 0, 2, []), 583) := rfl
theorem T_423_583 : hTab 423 583 = some ((3, 3, 0, []), 584) := rfl
theorem T_423_584 : hTab 423 584 = some ((0, 0, 1, []), 585) := rfl
theorem T_423_585 : hTab 423 585 = some ((10, 0, 0, []), 586) := rfl
theorem T_423_586 : hTab 423 586 = some ((26, 0, 0, []), 587) := rfl
theorem T_423_587 : hTab 423 587 = some ((3, 0, 2, []), 588) := rfl
theorem T_423_588 : hTab 423 588 = some ((3, 3, 0, []), 589) := rfl
theorem T_423_589 : hTab 423 589 = some ((0, 0, 2, []), 590) := rfl
theorem T_423_590 : hTab 423 590 = some ((10, 0, 0, []), 591) := rfl
theorem T_423_591 : hTab 423 591 = some ((26, 0, 0, []), 592) := rfl
theorem T_423_592 : hTab 423 592 = some ((3, 0, 2, []), 593) := rfl
theorem T_423_593 : hTab 423 593 = some ((3, 3, 0, []), 594) := rfl
theorem T_423_594 : hTab 423 594 = some ((0, 0, 3, []), 595) := rfl
theorem T_423_595 : hTab 423 595 = some ((10, 0, 0, []), 596) := rfl
theorem T_423_596 : hTab 423 596 = some ((26, 0, 0, []), 597) := rfl
theorem T_423_597 : hTab 423 597 = some ((31, 221, 0, []), 600) := rfl
theorem T_423_600 : hTab 423 600 = some ((3, 2, 2, []), 601) := rfl
theorem T_423_601 : hTab 423 601 = some ((3, 0, 2, []), 602) := rfl
theorem T_423_602 : hTab 423 602 = some ((3, 3, 0, []), 603) := rfl
theorem T_423_603 : hTab 423 603 = some ((0, 0, 1, []), 604) := rfl
theorem T_423_604 : hTab 423 604 = some ((10, 0, 0, []), 605) := rfl
theorem T_423_605 : hTab 423 605 = some ((26, 0, 0, []), 606) := rfl
theorem T_423_606 : hTab 423 606 = some ((3, 0, 2, []), 607) := rfl
theorem T_423_607 : hTab 423 607 = some ((3, 3, 0, []), 608) := rfl
theorem T_423_608 : hTab 423 608 = some ((0, 0, 2, []), 609) := rfl
theorem T_423_609 : hTab 423 609 = some ((10, 0, 0, []), 610) := rfl
theorem T_423_610 : hTab 423 610 = some ((26, 0, 0, []), 611) := rfl
theorem T_423_611 : hTab 423 611 = some ((3, 0, 2, []), 612) := rfl
theorem T_423_612 : hTab 423 612 = some ((3, 3, 0, []), 613) := rfl
theorem T_423_613 : hTab 423 613 = some ((0, 0, 3, []), 614) := rfl
theorem T_423_614 : hTab 423 614 = some ((10, 0, 0, []), 615) := rfl
theorem T_423_615 : hTab 423 615 = some ((26, 0, 0, []), 616) := rfl
theorem T_423_616 : hTab 423 616 = some ((31, 417, 0, []), 619) := rfl
theorem T_423_619 : hTab 423 619 = some ((19, 0, Int.ofNat 796, []), 622) := rfl
theorem T_423_624 : hTab 423 624 = some ((3, 1, 2, []), 625) := rfl
theorem T_423_625 : hTab 423 625 = some ((3, 0, 2, []), 626) := rfl
theorem T_423_626 : hTab 423 626 = some ((3, 3, 0, []), 627) := rfl
theorem T_423_627 : hTab 423 627 = some ((0, 0, 1, []), 628) := rfl
theorem T_423_628 : hTab 423 628 = some ((10, 0, 0, []), 629) := rfl
theorem T_423_629 : hTab 423 629 = some ((26, 0, 0, []), 630) := rfl
theorem T_423_630 : hTab 423 630 = some ((3, 0, 2, []), 631) := rfl
theorem T_423_631 : hTab 423 631 = some ((3, 3, 0, []), 632) := rfl
theorem T_423_632 : hTab 423 632 = some ((0, 0, 2, []), 633) := rfl
theorem T_423_633 : hTab 423 633 = some ((10, 0, 0, []), 634) := rfl
theorem T_423_634 : hTab 423 634 = some ((26, 0, 0, []), 635) := rfl
theorem T_423_635 : hTab 423 635 = some ((3, 0, 2, []), 636) := rfl
theorem T_423_636 : hTab 423 636 = some ((3, 3, 0, []), 637) := rfl
theorem T_423_637 : hTab 423 637 = some ((0, 0, 3, []), 638) := rfl
theorem T_423_638 : hTab 423 638 = some ((10, 0, 0, []), 639) := rfl
theorem T_423_639 : hTab 423 639 = some ((26, 0, 0, []), 640) := rfl
theorem T_423_640 : hTab 423 640 = some ((3, 0, 2, []), 641) := rfl
theorem T_423_641 : hTab 423 641 = some ((3, 3, 0, []), 642) := rfl
theorem T_423_642 : hTab 423 642 = some ((0, 0, 4, []), 643) := rfl
theorem T_423_643 : hTab 423 643 = some ((10, 0, 0, []), 644) := rfl
theorem T_423_644 : hTab 423 644 = some ((26, 0, 0, []), 645) := rfl
theorem T_423_645 : hTab 423 645 = some ((31, 222, 0, []), 648) := rfl
theorem T_423_648 : hTab 423 648 = some ((3, 2, 2, []), 649) := rfl
theorem T_423_649 : hTab 423 649 = some ((3, 0, 2, []), 650) := rfl
theorem T_423_650 : hTab 423 650 = some ((3, 3, 0, []), 651) := rfl
theorem T_423_651 : hTab 423 651 = some ((0, 0, 1, []), 652) := rfl
theorem T_423_652 : hTab 423 652 = some ((10, 0, 0, []), 653) := rfl
theorem T_423_653 : hTab 423 653 = some ((26, 0, 0, []), 654) := rfl
theorem T_423_654 : hTab 423 654 = some ((3, 0, 2, []), 655) := rfl
theorem T_423_655 : hTab 423 655 = some ((3, 3, 0, []), 656) := rfl
theorem T_423_656 : hTab 423 656 = some ((0, 0, 2, []), 657) := rfl
theorem T_423_657 : hTab 423 657 = some ((10, 0, 0, []), 658) := rfl
theorem T_423_658 : hTab 423 658 = some ((26, 0, 0, []), 659) := rfl
theorem T_423_659 : hTab 423 659 = some ((3, 0, 2, []), 660) := rfl
theorem T_423_660 : hTab 423 660 = some ((3, 3, 0, []), 661) := rfl
theorem T_423_661 : hTab 423 661 = some ((0, 0, 3, []), 662) := rfl
theorem T_423_662 : hTab 423 662 = some ((10, 0, 0, []), 663) := rfl
theorem T_423_663 : hTab 423 663 = some ((26, 0, 0, []), 664) := rfl
theorem T_423_664 : hTab 423 664 = some ((3, 0, 2, []), 665) := rfl
theorem T_423_665 : hTab 423 665 = some ((3, 3, 0, []), 666) := rfl
theorem T_423_666 : hTab 423 666 = some ((0, 0, 4, []), 667) := rfl
theorem T_423_667 : hTab 423 667 = some ((10, 0, 0, []), 668) := rfl
theorem T_423_668 : hTab 423 668 = some ((26, 0, 0, []), 669) := rfl
theorem T_423_669 : hTab 423 669 = some ((31, 418, 0, []), 672) := rfl
theorem T_423_672 : hTab 423 672 = some ((19, 0, Int.ofNat 796, []), 675) := rfl
theorem T_423_677 : hTab 423 677 = some ((3, 1, 2, []), 678) := rfl
theorem T_423_678 : hTab 423 678 = some ((3, 0, 2, []), 679) := rfl
theorem T_423_679 : hTab 423 679 = some ((3, 3, 0, []), 680) := rfl
theorem T_423_680 : hTab 423 680 = some ((0, 0, 1, []), 681) := rfl
theorem T_423_681 : hTab 423 681 = some ((10, 0, 0, []), 682) := rfl
theorem T_423_682 : hTab 423 682 = some ((26, 0, 0, []), 683) := rfl
theorem T_423_683 : hTab 423 683 = some ((3, 0, 2, []), 684) := rfl
theorem T_423_684 : hTab 423 684 = some ((3, 3, 0, []), 685) := rfl
theorem T_423_685 : hTab 423 685 = some ((0, 0, 2, []), 686) := rfl
theorem T_423_686 : hTab 423 686 = some ((10, 0, 0, []), 687) := rfl
theorem T_423_687 : hTab 423 687 = some ((26, 0, 0, []), 688) := rfl
theorem T_423_688 : hTab 423 688 = some ((3, 0, 2, []), 689) := rfl
theorem T_423_689 : hTab 423 689 = some ((3, 3, 0, []), 690) := rfl
theorem T_423_690 : hTab 423 690 = some ((0, 0, 3, []), 691) := rfl
theorem T_423_691 : hTab 423 691 = some ((10, 0, 0, []), 692) := rfl
theorem T_423_692 : hTab 423 692 = some ((26, 0, 0, []), 693) := rfl
theorem T_423_693 : hTab 423 693 = some ((31, 223, 0, []), 696) := rfl
theorem T_423_696 : hTab 423 696 = some ((3, 2, 2, []), 697) := rfl
theorem T_423_697 : hTab 423 697 = some ((3, 0, 2, []), 698) := rfl
theorem T_423_698 : hTab 423 698 = some ((3, 3, 0, []), 699) := rfl
theorem T_423_699 : hTab 423 699 = some ((0, 0, 1, []), 700) := rfl
theorem T_423_700 : hTab 423 700 = some ((10, 0, 0, []), 701) := rfl
theorem T_423_701 : hTab 423 701 = some ((26, 0, 0, []), 702) := rfl
theorem T_423_702 : hTab 423 702 = some ((3, 0, 2, []), 703) := rfl
theorem T_423_703 : hTab 423 703 = some ((3, 3, 0, []), 704) := rfl
theorem T_423_704 : hTab 423 704 = some ((0, 0, 2, []), 705) := rfl
theorem T_423_705 : hTab 423 705 = some ((10, 0, 0, []), 706) := rfl
theorem T_423_706 : hTab 423 706 = some ((26, 0, 0, []), 707) := rfl
theorem T_423_707 : hTab 423 707 = some ((3, 0, 2, []), 708) := rfl
theorem T_423_708 : hTab 423 708 = some ((3, 3, 0, []), 709) := rfl
theorem T_423_709 : hTab 423 709 = some ((0, 0, 3, []), 710) := rfl
theorem T_423_710 : hTab 423 710 = some ((10, 0, 0, []), 711) := rfl
theorem T_423_711 : hTab 423 711 = some ((26, 0, 0, []), 712) := rfl
theorem T_423_712 : hTab 423 712 = some ((31, 419, 0, []), 715) := rfl
theorem T_423_715 : hTab 423 715 = some ((19, 0, Int.ofNat 796, []), 718) := rfl
theorem T_423_720 : hTab 423 720 = some ((3, 1, 2, []), 721) := rfl
theorem T_423_721 : hTab 423 721 = some ((3, 0, 2, []), 722) := rfl
theorem T_423_722 : hTab 423 722 = some ((3, 3, 0, []), 723) := rfl
theorem T_423_723 : hTab 423 723 = some ((0, 0, 1, []), 724) := rfl
theorem T_423_724 : hTab 423 724 = some ((10, 0, 0, []), 725) := rfl
theorem T_423_725 : hTab 423 725 = some ((26, 0, 0, []), 726) := rfl
theorem T_423_726 : hTab 423 726 = some ((3, 0, 2, []), 727) := rfl
theorem T_423_727 : hTab 423 727 = some ((3, 3, 0, []), 728) := rfl
theorem T_423_728 : hTab 423 728 = some ((0, 0, 2, []), 729) := rfl
theorem T_423_729 : hTab 423 729 = some ((10, 0, 0, []), 730) := rfl
theorem T_423_730 : hTab 423 730 = some ((26, 0, 0, []), 731) := rfl
theorem T_423_731 : hTab 423 731 = some ((31, 224, 0, []), 734) := rfl
theorem T_423_734 : hTab 423 734 = some ((3, 2, 2, []), 735) := rfl
theorem T_423_735 : hTab 423 735 = some ((3, 0, 2, []), 736) := rfl
theorem T_423_736 : hTab 423 736 = some ((3, 3, 0, []), 737) := rfl
theorem T_423_737 : hTab 423 737 = some ((0, 0, 1, []), 738) := rfl
theorem T_423_738 : hTab 423 738 = some ((10, 0, 0, []), 739) := rfl
theorem T_423_739 : hTab 423 739 = some ((26, 0, 0, []), 740) := rfl
theorem T_423_740 : hTab 423 740 = some ((3, 0, 2, []), 741) := rfl
theorem T_423_741 : hTab 423 741 = some ((3, 3, 0, []), 742) := rfl
theorem T_423_742 : hTab 423 742 = some ((0, 0, 2, []), 743) := rfl
theorem T_423_743 : hTab 423 743 = some ((10, 0, 0, []), 744) := rfl
theorem T_423_744 : hTab 423 744 = some ((26, 0, 0, []), 745) := rfl
theorem T_423_745 : hTab 423 745 = some ((31, 420, 0, []), 748) := rfl
theorem T_423_748 : hTab 423 748 = some ((19, 0, Int.ofNat 796, []), 751) := rfl
theorem T_423_753 : hTab 423 753 = some ((3, 1, 2, []), 754) := rfl
theorem T_423_754 : hTab 423 754 = some ((3, 0, 2, []), 755) := rfl
theorem T_423_755 : hTab 423 755 = some ((3, 3, 0, []), 756) := rfl
theorem T_423_756 : hTab 423 756 = some ((0, 0, 1, []), 757) := rfl
theorem T_423_757 : hTab 423 757 = some ((10, 0, 0, []), 758) := rfl
theorem T_423_758 : hTab 423 758 = some ((26, 0, 0, []), 759) := rfl
theorem T_423_759 : hTab 423 759 = some ((3, 0, 2, []), 760) := rfl
theorem T_423_760 : hTab 423 760 = some ((3, 3, 0, []), 761) := rfl
theorem T_423_761 : hTab 423 761 = some ((0, 0, 2, []), 762) := rfl
theorem T_423_762 : hTab 423 762 = some ((10, 0, 0, []), 763) := rfl
theorem T_423_763 : hTab 423 763 = some ((26, 0, 0, []), 764) := rfl
theorem T_423_764 : hTab 423 764 = some ((3, 0, 2, []), 765) := rfl
theorem T_423_765 : hTab 423 765 = some ((3, 3, 0, []), 766) := rfl
theorem T_423_766 : hTab 423 766 = some ((0, 0, 3, []), 767) := rfl
theorem T_423_767 : hTab 423 767 = some ((10, 0, 0, []), 768) := rfl
theorem T_423_768 : hTab 423 768 = some ((26, 0, 0, []), 769) := rfl
theorem T_423_769 : hTab 423 769 = some ((31, 226, 0, []), 772) := rfl
theorem T_423_772 : hTab 423 772 = some ((3, 2, 2, []), 773) := rfl
theorem T_423_773 : hTab 423 773 = some ((3, 0, 2, []), 774) := rfl
theorem T_423_774 : hTab 423 774 = some ((3, 3, 0, []), 775) := rfl
theorem T_423_775 : hTab 423 775 = some ((0, 0, 1, []), 776) := rfl
theorem T_423_776 : hTab 423 776 = some ((10, 0, 0, []), 777) := rfl
theorem T_423_777 : hTab 423 777 = some ((26, 0, 0, []), 778) := rfl
theorem T_423_778 : hTab 423 778 = some ((3, 0, 2, []), 779) := rfl
theorem T_423_779 : hTab 423 779 = some ((3, 3, 0, []), 780) := rfl
theorem T_423_780 : hTab 423 780 = some ((0, 0, 2, []), 781) := rfl
theorem T_423_781 : hTab 423 781 = some ((10, 0, 0, []), 782) := rfl
theorem T_423_782 : hTab 423 782 = some ((26, 0, 0, []), 783) := rfl
theorem T_423_783 : hTab 423 783 = some ((3, 0, 2, []), 784) := rfl
theorem T_423_784 : hTab 423 784 = some ((3, 3, 0, []), 785) := rfl
theorem T_423_785 : hTab 423 785 = some ((0, 0, 3, []), 786) := rfl
theorem T_423_786 : hTab 423 786 = some ((10, 0, 0, []), 787) := rfl
theorem T_423_787 : hTab 423 787 = some ((26, 0, 0, []), 788) := rfl
theorem T_423_788 : hTab 423 788 = some ((31, 422, 0, []), 791) := rfl
theorem T_423_791 : hTab 423 791 = some ((19, 0, Int.ofNat 796, []), 794) := rfl
theorem T_423_796 : hTab 423 796 = some ((5, 3, 5, []), 799) := rfl
theorem T_423_799 : hTab 423 799 = some ((22, 0, Int.ofNat 18, []), 802) := rfl
theorem T_423_802 : hTab 423 802 = some ((0, 0, 1, []), 803) := rfl
theorem T_423_803 : hTab 423 803 = some ((33, 2, 0, []), 804) := rfl
theorem mN_95 : hmN 95 = 3 := by decide +kernel
theorem mL_95 : hmL 95 = 4 := by decide +kernel
theorem mK_95 : hmK 95 = 1 := by decide +kernel
theorem mO_95 : hmO 95 = 0 := by decide +kernel
theorem mN_96 : hmN 96 = 2 := by decide +kernel
theorem mL_96 : hmL 96 = 6 := by decide +kernel
theorem mK_96 : hmK 96 = 1 := by decide +kernel
theorem mO_96 : hmO 96 = 0 := by decide +kernel
theorem mN_204 : hmN 204 = 2 := by decide +kernel
theorem mL_204 : hmL 204 = 2 := by decide +kernel
theorem mK_204 : hmK 204 = 1 := by decide +kernel
theorem mO_204 : hmO 204 = 0 := by decide +kernel
theorem mN_206 : hmN 206 = 3 := by decide +kernel
theorem mL_206 : hmL 206 = 4 := by decide +kernel
theorem mK_206 : hmK 206 = 1 := by decide +kernel
theorem mO_206 : hmO 206 = 0 := by decide +kernel
theorem mN_207 : hmN 207 = 2 := by decide +kernel
theorem mL_207 : hmL 207 = 4 := by decide +kernel
theorem mK_207 : hmK 207 = 1 := by decide +kernel
theorem mO_207 : hmO 207 = 0 := by decide +kernel
theorem mN_208 : hmN 208 = 2 := by decide +kernel
theorem mL_208 : hmL 208 = 2 := by decide +kernel
theorem mK_208 : hmK 208 = 1 := by decide +kernel
theorem mO_208 : hmO 208 = 0 := by decide +kernel
theorem mN_210 : hmN 210 = 2 := by decide +kernel
theorem mL_210 : hmL 210 = 2 := by decide +kernel
theorem mK_210 : hmK 210 = 1 := by decide +kernel
theorem mO_210 : hmO 210 = 0 := by decide +kernel
theorem mN_211 : hmN 211 = 1 := by decide +kernel
theorem mL_211 : hmL 211 = 1 := by decide +kernel
theorem mK_211 : hmK 211 = 1 := by decide +kernel
theorem mO_211 : hmO 211 = 0 := by decide +kernel
theorem mN_212 : hmN 212 = 3 := by decide +kernel
theorem mL_212 : hmL 212 = 4 := by decide +kernel
theorem mK_212 : hmK 212 = 1 := by decide +kernel
theorem mO_212 : hmO 212 = 0 := by decide +kernel
theorem mN_214 : hmN 214 = 1 := by decide +kernel
theorem mL_214 : hmL 214 = 1 := by decide +kernel
theorem mK_214 : hmK 214 = 1 := by decide +kernel
theorem mO_214 : hmO 214 = 0 := by decide +kernel
theorem mN_215 : hmN 215 = 2 := by decide +kernel
theorem mL_215 : hmL 215 = 2 := by decide +kernel
theorem mK_215 : hmK 215 = 1 := by decide +kernel
theorem mO_215 : hmO 215 = 0 := by decide +kernel
theorem mN_216 : hmN 216 = 2 := by decide +kernel
theorem mL_216 : hmL 216 = 2 := by decide +kernel
theorem mK_216 : hmK 216 = 1 := by decide +kernel
theorem mO_216 : hmO 216 = 0 := by decide +kernel
theorem mN_217 : hmN 217 = 2 := by decide +kernel
theorem mL_217 : hmL 217 = 2 := by decide +kernel
theorem mK_217 : hmK 217 = 1 := by decide +kernel
theorem mO_217 : hmO 217 = 0 := by decide +kernel
theorem mN_218 : hmN 218 = 3 := by decide +kernel
theorem mL_218 : hmL 218 = 5 := by decide +kernel
theorem mK_218 : hmK 218 = 1 := by decide +kernel
theorem mO_218 : hmO 218 = 0 := by decide +kernel
theorem mN_219 : hmN 219 = 4 := by decide +kernel
theorem mL_219 : hmL 219 = 6 := by decide +kernel
theorem mK_219 : hmK 219 = 1 := by decide +kernel
theorem mO_219 : hmO 219 = 0 := by decide +kernel
theorem mN_220 : hmN 220 = 3 := by decide +kernel
theorem mL_220 : hmL 220 = 4 := by decide +kernel
theorem mK_220 : hmK 220 = 1 := by decide +kernel
theorem mO_220 : hmO 220 = 0 := by decide +kernel
theorem mN_221 : hmN 221 = 4 := by decide +kernel
theorem mL_221 : hmL 221 = 6 := by decide +kernel
theorem mK_221 : hmK 221 = 1 := by decide +kernel
theorem mO_221 : hmO 221 = 0 := by decide +kernel
theorem mN_222 : hmN 222 = 5 := by decide +kernel
theorem mL_222 : hmL 222 = 8 := by decide +kernel
theorem mK_222 : hmK 222 = 1 := by decide +kernel
theorem mO_222 : hmO 222 = 0 := by decide +kernel
theorem mN_223 : hmN 223 = 4 := by decide +kernel
theorem mL_223 : hmL 223 = 6 := by decide +kernel
theorem mK_223 : hmK 223 = 1 := by decide +kernel
theorem mO_223 : hmO 223 = 0 := by decide +kernel
theorem mN_224 : hmN 224 = 3 := by decide +kernel
theorem mL_224 : hmL 224 = 4 := by decide +kernel
theorem mK_224 : hmK 224 = 1 := by decide +kernel
theorem mO_224 : hmO 224 = 0 := by decide +kernel
theorem mN_226 : hmN 226 = 4 := by decide +kernel
theorem mL_226 : hmL 226 = 5 := by decide +kernel
theorem mK_226 : hmK 226 = 1 := by decide +kernel
theorem mO_226 : hmO 226 = 0 := by decide +kernel
theorem mN_306 : hmN 306 = 3 := by decide +kernel
theorem mL_306 : hmL 306 = 5 := by decide +kernel
theorem mK_306 : hmK 306 = 1 := by decide +kernel
theorem mO_306 : hmO 306 = 17 := by decide +kernel
theorem mN_307 : hmN 307 = 2 := by decide +kernel
theorem mL_307 : hmL 307 = 3 := by decide +kernel
theorem mK_307 : hmK 307 = 1 := by decide +kernel
theorem mO_307 : hmO 307 = 17 := by decide +kernel
theorem mN_403 : hmN 403 = 2 := by decide +kernel
theorem mL_403 : hmL 403 = 4 := by decide +kernel
theorem mK_403 : hmK 403 = 1 := by decide +kernel
theorem mO_403 : hmO 403 = 17 := by decide +kernel
theorem mN_404 : hmN 404 = 3 := by decide +kernel
theorem mL_404 : hmL 404 = 3 := by decide +kernel
theorem mK_404 : hmK 404 = 1 := by decide +kernel
theorem mO_404 : hmO 404 = 17 := by decide +kernel
theorem mN_405 : hmN 405 = 2 := by decide +kernel
theorem mL_405 : hmL 405 = 3 := by decide +kernel
theorem mK_405 : hmK 405 = 1 := by decide +kernel
theorem mO_405 : hmO 405 = 17 := by decide +kernel
theorem mN_406 : hmN 406 = 2 := by decide +kernel
theorem mL_406 : hmL 406 = 2 := by decide +kernel
theorem mK_406 : hmK 406 = 1 := by decide +kernel
theorem mO_406 : hmO 406 = 17 := by decide +kernel
theorem mN_407 : hmN 407 = 2 := by decide +kernel
theorem mL_407 : hmL 407 = 2 := by decide +kernel
theorem mK_407 : hmK 407 = 1 := by decide +kernel
theorem mO_407 : hmO 407 = 17 := by decide +kernel
theorem mN_408 : hmN 408 = 1 := by decide +kernel
theorem mL_408 : hmL 408 = 1 := by decide +kernel
theorem mK_408 : hmK 408 = 1 := by decide +kernel
theorem mO_408 : hmO 408 = 17 := by decide +kernel
theorem mN_409 : hmN 409 = 3 := by decide +kernel
theorem mL_409 : hmL 409 = 4 := by decide +kernel
theorem mK_409 : hmK 409 = 1 := by decide +kernel
theorem mO_409 : hmO 409 = 17 := by decide +kernel
theorem mN_410 : hmN 410 = 1 := by decide +kernel
theorem mL_410 : hmL 410 = 1 := by decide +kernel
theorem mK_410 : hmK 410 = 1 := by decide +kernel
theorem mO_410 : hmO 410 = 17 := by decide +kernel
theorem mN_411 : hmN 411 = 2 := by decide +kernel
theorem mL_411 : hmL 411 = 2 := by decide +kernel
theorem mK_411 : hmK 411 = 1 := by decide +kernel
theorem mO_411 : hmO 411 = 17 := by decide +kernel
theorem mN_412 : hmN 412 = 2 := by decide +kernel
theorem mL_412 : hmL 412 = 3 := by decide +kernel
theorem mK_412 : hmK 412 = 1 := by decide +kernel
theorem mO_412 : hmO 412 = 17 := by decide +kernel
theorem mN_413 : hmN 413 = 2 := by decide +kernel
theorem mL_413 : hmL 413 = 2 := by decide +kernel
theorem mK_413 : hmK 413 = 1 := by decide +kernel
theorem mO_413 : hmO 413 = 17 := by decide +kernel
theorem mN_414 : hmN 414 = 3 := by decide +kernel
theorem mL_414 : hmL 414 = 3 := by decide +kernel
theorem mK_414 : hmK 414 = 1 := by decide +kernel
theorem mO_414 : hmO 414 = 17 := by decide +kernel
theorem mN_415 : hmN 415 = 4 := by decide +kernel
theorem mL_415 : hmL 415 = 5 := by decide +kernel
theorem mK_415 : hmK 415 = 1 := by decide +kernel
theorem mO_415 : hmO 415 = 17 := by decide +kernel
theorem mN_416 : hmN 416 = 3 := by decide +kernel
theorem mL_416 : hmL 416 = 3 := by decide +kernel
theorem mK_416 : hmK 416 = 1 := by decide +kernel
theorem mO_416 : hmO 416 = 17 := by decide +kernel
theorem mN_417 : hmN 417 = 4 := by decide +kernel
theorem mL_417 : hmL 417 = 5 := by decide +kernel
theorem mK_417 : hmK 417 = 1 := by decide +kernel
theorem mO_417 : hmO 417 = 17 := by decide +kernel
theorem mN_418 : hmN 418 = 5 := by decide +kernel
theorem mL_418 : hmL 418 = 7 := by decide +kernel
theorem mK_418 : hmK 418 = 1 := by decide +kernel
theorem mO_418 : hmO 418 = 17 := by decide +kernel
theorem mN_419 : hmN 419 = 4 := by decide +kernel
theorem mL_419 : hmL 419 = 5 := by decide +kernel
theorem mK_419 : hmK 419 = 1 := by decide +kernel
theorem mO_419 : hmO 419 = 17 := by decide +kernel
theorem mN_420 : hmN 420 = 3 := by decide +kernel
theorem mL_420 : hmL 420 = 5 := by decide +kernel
theorem mK_420 : hmK 420 = 1 := by decide +kernel
theorem mO_420 : hmO 420 = 17 := by decide +kernel
theorem mN_422 : hmN 422 = 4 := by decide +kernel
theorem mL_422 : hmL 422 = 5 := by decide +kernel
theorem mK_422 : hmK 422 = 1 := by decide +kernel
theorem mO_422 : hmO 422 = 17 := by decide +kernel
section LAW
variable {fb : Bool} {L : Nat} {xs : Nat → Int} {σ : hM} {Q : Option AV → hM → Prop} {P : hM → Prop} {i : Int}
theorem law_0 (hS : Scr L xs σ) (hi : 0 ≤ i) (hL : L ≤ 2560) (hiL : i + 5 ≤ L) (h : PairI fb 95 306 [vL (hLB 6 (hLH 0 (xs (i + 1).toNat) 32) (hLB 5 (xs (i + 2).toNat) 4294967295)), vI (xs (i + 3).toNat)] L xs σ P) (k : ∀ σ2, Scr L xs σ2 → P σ2 → WP fb 22 423 796 [some (vR (some 0)), some (vR (some 128)), some (vR (some 2281)), some (vI i)] [] σ2 Q) : WP fb 22 423 132 [some (vR (some 0)), some (vR (some 128)), some (vR (some 2281)), some (vI i)] [] σ Q := by
  obtain ⟨hST, hSI, hSx, hSm⟩ := hS
  obtain ⟨v, h⟩ := h
  refine x_lr T_423_132 rfl ?_
  refine x_lr T_423_133 rfl ?_
  refine x_li T_423_134 rfl ?_
  refine x_ic T_423_135 ?_
  refine x_ib T_423_136 (fun h => absurd h.1 (by decide)) (w32_id (by omega) (by omega)) ?_
  refine x_alI T_423_137 (by decide) hST (by omega) (by omega) (hSI _) ?_
  refine x_i2l T_423_138 ?_
  refine x_ic T_423_139 ?_
  refine x_lh T_423_141 rfl ?_
  refine x_lr T_423_142 rfl ?_
  refine x_li T_423_143 rfl ?_
  refine x_ic T_423_144 ?_
  refine x_ib T_423_145 (fun h => absurd h.1 (by decide)) (w32_id (by omega) (by omega)) ?_
  refine x_alI T_423_146 (by decide) hST (by omega) (by omega) (hSI _) ?_
  refine x_i2l T_423_147 ?_
  refine x_lc T_423_148 ?_
  refine x_lb T_423_151 (fun h => absurd h.1 (by decide)) rfl ?_
  refine x_lb T_423_152 (fun h => absurd h.1 (by decide)) rfl ?_
  refine x_lr T_423_153 rfl ?_
  refine x_li T_423_154 rfl ?_
  refine x_ic T_423_155 ?_
  refine x_ib T_423_156 (fun h => absurd h.1 (by decide)) (w32_id (by omega) (by omega)) ?_
  refine x_alI T_423_157 (by decide) hST (by omega) (by omega) (hSI _) ?_
  refine x_cv3 T_423_158 mN_95 mL_95 (Nat.le_of_ble_eq_true rfl) mO_95 hSx (Nat.le_of_ble_eq_true rfl) h ?_
  rintro _ σ1 ⟨rfl, ⟨hUT, hUI, hUx, hUm⟩, h2⟩
  refine cI ?_
  refine x_lr T_423_161 rfl ?_
  refine x_lr T_423_162 rfl ?_
  refine x_li T_423_163 rfl ?_
  refine x_ic T_423_164 ?_
  refine x_ib T_423_165 (fun h => absurd h.1 (by decide)) (w32_id (by omega) (by omega)) ?_
  refine x_alI T_423_166 (by decide) hUT (by omega) (by omega) (hUI _) ?_
  refine x_i2l T_423_167 ?_
  refine x_ic T_423_168 ?_
  refine x_lh T_423_170 rfl ?_
  refine x_lr T_423_171 rfl ?_
  refine x_li T_423_172 rfl ?_
  refine x_ic T_423_173 ?_
  refine x_ib T_423_174 (fun h => absurd h.1 (by decide)) (w32_id (by omega) (by omega)) ?_
  refine x_alI T_423_175 (by decide) hUT (by omega) (by omega) (hUI _) ?_
  refine x_i2l T_423_176 ?_
  refine x_lc T_423_177 ?_
  refine x_lb T_423_180 (fun h => absurd h.1 (by decide)) rfl ?_
  refine x_lb T_423_181 (fun h => absurd h.1 (by decide)) rfl ?_
  refine x_lr T_423_182 rfl ?_
  refine x_li T_423_183 rfl ?_
  refine x_ic T_423_184 ?_
  refine x_ib T_423_185 (fun h => absurd h.1 (by decide)) (w32_id (by omega) (by omega)) ?_
  refine x_alI T_423_186 (by decide) hUT (by omega) (by omega) (hUI _) ?_
  refine x_cv3 T_423_187 mN_306 mL_306 (Nat.le_of_ble_eq_true rfl) mO_306 hUm (Nat.le_of_ble_eq_true rfl) h2 ?_
  rintro _ σ2 ⟨rfl, hS2, hP⟩
  refine cI ?_
  refine x_ic2 T_423_190 (fun _ => ?_) (fun h => absurd rfl h)
  exact k σ2 hS2 hP
theorem law_1 (hS : Scr L xs σ) (hi : 0 ≤ i) (hL : L ≤ 2560) (hiL : i + 5 ≤ L) (h : PairI fb 96 307 [vI (xs (i + 1).toNat)] L xs σ P) (k : ∀ σ2, Scr L xs σ2 → P σ2 → WP fb 22 423 796 [some (vR (some 0)), some (vR (some 128)), some (vR (some 2281)), some (vI i)] [] σ2 Q) : WP fb 22 423 195 [some (vR (some 0)), some (vR (some 128)), some (vR (some 2281)), some (vI i)] [] σ Q := by
  obtain ⟨hST, hSI, hSx, hSm⟩ := hS
  obtain ⟨v, h⟩ := h
  refine x_lr T_423_195 rfl ?_
  refine x_lr T_423_196 rfl ?_
  refine x_li T_423_197 rfl ?_
  refine x_ic T_423_198 ?_
  refine x_ib T_423_199 (fun h => absurd h.1 (by decide)) (w32_id (by omega) (by omega)) ?_
  refine x_alI T_423_200 (by decide) hST (by omega) (by omega) (hSI _) ?_
  refine x_cv2 T_423_201 mN_96 mL_96 (Nat.le_of_ble_eq_true rfl) mO_96 hSx (Nat.le_of_ble_eq_true rfl) h ?_
  rintro _ σ1 ⟨rfl, ⟨hUT, hUI, hUx, hUm⟩, h2⟩
  refine cI ?_
  refine x_lr T_423_204 rfl ?_
  refine x_lr T_423_205 rfl ?_
  refine x_li T_423_206 rfl ?_
  refine x_ic T_423_207 ?_
  refine x_ib T_423_208 (fun h => absurd h.1 (by decide)) (w32_id (by omega) (by omega)) ?_
  refine x_alI T_423_209 (by decide) hUT (by omega) (by omega) (hUI _) ?_
  refine x_cv2 T_423_210 mN_307 mL_307 (Nat.le_of_ble_eq_true rfl) mO_307 hUm (Nat.le_of_ble_eq_true rfl) h2 ?_
  rintro _ σ2 ⟨rfl, hS2, hP⟩
  refine cI ?_
  refine x_ic2 T_423_213 (fun _ => ?_) (fun h => absurd rfl h)
  exact k σ2 hS2 hP
theorem law_2 (hS : Scr L xs σ) (hi : 0 ≤ i) (hL : L ≤ 2560) (hiL : i + 5 ≤ L) (h : PairI fb 204 403 [vI (xs (i + 1).toNat)] L xs σ P) (k : ∀ σ2, Scr L xs σ2 → P σ2 → WP fb 22 423 796 [some (vR (some 0)), some (vR (some 128)), some (vR (some 2281)), some (vI i)] [] σ2 Q) : WP fb 22 423 218 [some (vR (some 0)), some (vR (some 128)), some (vR (some 2281)), some (vI i)] [] σ Q := by
  obtain ⟨hST, hSI, hSx, hSm⟩ := hS
  obtain ⟨v, h⟩ := h
  refine x_lr T_423_218 rfl ?_
  refine x_lr T_423_219 rfl ?_
  refine x_li T_423_220 rfl ?_
  refine x_ic T_423_221 ?_
  refine x_ib T_423_222 (fun h => absurd h.1 (by decide)) (w32_id (by omega) (by omega)) ?_
  refine x_alI T_423_223 (by decide) hST (by omega) (by omega) (hSI _) ?_
  refine x_cv2 T_423_224 mN_204 mL_204 (Nat.le_of_ble_eq_true rfl) mO_204 hSx (Nat.le_of_ble_eq_true rfl) h ?_
  rintro _ σ1 ⟨rfl, ⟨hUT, hUI, hUx, hUm⟩, h2⟩
  refine cI ?_
  refine x_lr T_423_227 rfl ?_
  refine x_lr T_423_228 rfl ?_
  refine x_li T_423_229 rfl ?_
  refine x_ic T_423_230 ?_
  refine x_ib T_423_231 (fun h => absurd h.1 (by decide)) (w32_id (by omega) (by omega)) ?_
  refine x_alI T_423_232 (by decide) hUT (by omega) (by omega) (hUI _) ?_
  refine x_cv2 T_423_233 mN_403 mL_403 (Nat.le_of_ble_eq_true rfl) mO_403 hUm (Nat.le_of_ble_eq_true rfl) h2 ?_
  rintro _ σ2 ⟨rfl, hS2, hP⟩
  refine cI ?_
  refine x_ic2 T_423_236 (fun _ => ?_) (fun h => absurd rfl h)
  exact k σ2 hS2 hP
theorem law_3 (hS : Scr L xs σ) (hi : 0 ≤ i) (hL : L ≤ 2560) (hiL : i + 5 ≤ L) (h : PairI fb 206 404 [vI (xs (i + 1).toNat), vI (xs (i + 2).toNat)] L xs σ P) (k : ∀ σ2, Scr L xs σ2 → P σ2 → WP fb 22 423 796 [some (vR (some 0)), some (vR (some 128)), some (vR (some 2281)), some (vI i)] [] σ2 Q) : WP fb 22 423 241 [some (vR (some 0)), some (vR (some 128)), some (vR (some 2281)), some (vI i)] [] σ Q := by
  obtain ⟨hST, hSI, hSx, hSm⟩ := hS
  obtain ⟨v, h⟩ := h
  refine x_lr T_423_241 rfl ?_
  refine x_lr T_423_242 rfl ?_
  refine x_li T_423_243 rfl ?_
  refine x_ic T_423_244 ?_
  refine x_ib T_423_245 (fun h => absurd h.1 (by decide)) (w32_id (by omega) (by omega)) ?_
  refine x_alI T_423_246 (by decide) hST (by omega) (by omega) (hSI _) ?_
  refine x_lr T_423_247 rfl ?_
  refine x_li T_423_248 rfl ?_
  refine x_ic T_423_249 ?_
  refine x_ib T_423_250 (fun h => absurd h.1 (by decide)) (w32_id (by omega) (by omega)) ?_
  refine x_alI T_423_251 (by decide) hST (by omega) (by omega) (hSI _) ?_
  refine x_cv3 T_423_252 mN_206 mL_206 (Nat.le_of_ble_eq_true rfl) mO_206 hSx (Nat.le_of_ble_eq_true rfl) h ?_
  rintro _ σ1 ⟨rfl, ⟨hUT, hUI, hUx, hUm⟩, h2⟩
  refine cI ?_
  refine x_lr T_423_255 rfl ?_
  refine x_lr T_423_256 rfl ?_
  refine x_li T_423_257 rfl ?_
  refine x_ic T_423_258 ?_
  refine x_ib T_423_259 (fun h => absurd h.1 (by decide)) (w32_id (by omega) (by omega)) ?_
  refine x_alI T_423_260 (by decide) hUT (by omega) (by omega) (hUI _) ?_
  refine x_lr T_423_261 rfl ?_
  refine x_li T_423_262 rfl ?_
  refine x_ic T_423_263 ?_
  refine x_ib T_423_264 (fun h => absurd h.1 (by decide)) (w32_id (by omega) (by omega)) ?_
  refine x_alI T_423_265 (by decide) hUT (by omega) (by omega) (hUI _) ?_
  refine x_cv3 T_423_266 mN_404 mL_404 (Nat.le_of_ble_eq_true rfl) mO_404 hUm (Nat.le_of_ble_eq_true rfl) h2 ?_
  rintro _ σ2 ⟨rfl, hS2, hP⟩
  refine cI ?_
  refine x_ic2 T_423_269 (fun _ => ?_) (fun h => absurd rfl h)
  exact k σ2 hS2 hP
theorem law_4 (hS : Scr L xs σ) (hi : 0 ≤ i) (hL : L ≤ 2560) (hiL : i + 5 ≤ L) (h : PairI fb 207 405 [vI (xs (i + 1).toNat)] L xs σ P) (k : ∀ σ2, Scr L xs σ2 → P σ2 → WP fb 22 423 796 [some (vR (some 0)), some (vR (some 128)), some (vR (some 2281)), some (vI i)] [] σ2 Q) : WP fb 22 423 274 [some (vR (some 0)), some (vR (some 128)), some (vR (some 2281)), some (vI i)] [] σ Q := by
  obtain ⟨hST, hSI, hSx, hSm⟩ := hS
  obtain ⟨v, h⟩ := h
  refine x_lr T_423_274 rfl ?_
  refine x_lr T_423_275 rfl ?_
  refine x_li T_423_276 rfl ?_
  refine x_ic T_423_277 ?_
  refine x_ib T_423_278 (fun h => absurd h.1 (by decide)) (w32_id (by omega) (by omega)) ?_
  refine x_alI T_423_279 (by decide) hST (by omega) (by omega) (hSI _) ?_
  refine x_cv2 T_423_280 mN_207 mL_207 (Nat.le_of_ble_eq_true rfl) mO_207 hSx (Nat.le_of_ble_eq_true rfl) h ?_
  rintro _ σ1 ⟨rfl, ⟨hUT, hUI, hUx, hUm⟩, h2⟩
  refine cI ?_
  refine x_lr T_423_283 rfl ?_
  refine x_lr T_423_284 rfl ?_
  refine x_li T_423_285 rfl ?_
  refine x_ic T_423_286 ?_
  refine x_ib T_423_287 (fun h => absurd h.1 (by decide)) (w32_id (by omega) (by omega)) ?_
  refine x_alI T_423_288 (by decide) hUT (by omega) (by omega) (hUI _) ?_
  refine x_cv2 T_423_289 mN_405 mL_405 (Nat.le_of_ble_eq_true rfl) mO_405 hUm (Nat.le_of_ble_eq_true rfl) h2 ?_
  rintro _ σ2 ⟨rfl, hS2, hP⟩
  refine cI ?_
  refine x_ic2 T_423_292 (fun _ => ?_) (fun h => absurd rfl h)
  exact k σ2 hS2 hP
theorem law_5 (hS : Scr L xs σ) (hi : 0 ≤ i) (hL : L ≤ 2560) (hiL : i + 5 ≤ L) (h : PairI fb 208 406 [vI (xs (i + 1).toNat)] L xs σ P) (k : ∀ σ2, Scr L xs σ2 → P σ2 → WP fb 22 423 796 [some (vR (some 0)), some (vR (some 128)), some (vR (some 2281)), some (vI i)] [] σ2 Q) : WP fb 22 423 297 [some (vR (some 0)), some (vR (some 128)), some (vR (some 2281)), some (vI i)] [] σ Q := by
  obtain ⟨hST, hSI, hSx, hSm⟩ := hS
  obtain ⟨v, h⟩ := h
  refine x_lr T_423_297 rfl ?_
  refine x_lr T_423_298 rfl ?_
  refine x_li T_423_299 rfl ?_
  refine x_ic T_423_300 ?_
  refine x_ib T_423_301 (fun h => absurd h.1 (by decide)) (w32_id (by omega) (by omega)) ?_
  refine x_alI T_423_302 (by decide) hST (by omega) (by omega) (hSI _) ?_
  refine x_cv2 T_423_303 mN_208 mL_208 (Nat.le_of_ble_eq_true rfl) mO_208 hSx (Nat.le_of_ble_eq_true rfl) h ?_
  rintro _ σ1 ⟨rfl, ⟨hUT, hUI, hUx, hUm⟩, h2⟩
  refine cI ?_
  refine x_lr T_423_306 rfl ?_
  refine x_lr T_423_307 rfl ?_
  refine x_li T_423_308 rfl ?_
  refine x_ic T_423_309 ?_
  refine x_ib T_423_310 (fun h => absurd h.1 (by decide)) (w32_id (by omega) (by omega)) ?_
  refine x_alI T_423_311 (by decide) hUT (by omega) (by omega) (hUI _) ?_
  refine x_cv2 T_423_312 mN_406 mL_406 (Nat.le_of_ble_eq_true rfl) mO_406 hUm (Nat.le_of_ble_eq_true rfl) h2 ?_
  rintro _ σ2 ⟨rfl, hS2, hP⟩
  refine cI ?_
  refine x_ic2 T_423_315 (fun _ => ?_) (fun h => absurd rfl h)
  exact k σ2 hS2 hP
theorem law_6 (hS : Scr L xs σ) (hi : 0 ≤ i) (hL : L ≤ 2560) (hiL : i + 5 ≤ L) (h : PairI fb 210 407 [vI (xs (i + 1).toNat)] L xs σ P) (k : ∀ σ2, Scr L xs σ2 → P σ2 → WP fb 22 423 796 [some (vR (some 0)), some (vR (some 128)), some (vR (some 2281)), some (vI i)] [] σ2 Q) : WP fb 22 423 320 [some (vR (some 0)), some (vR (some 128)), some (vR (some 2281)), some (vI i)] [] σ Q := by
  obtain ⟨hST, hSI, hSx, hSm⟩ := hS
  obtain ⟨v, h⟩ := h
  refine x_lr T_423_320 rfl ?_
  refine x_lr T_423_321 rfl ?_
  refine x_li T_423_322 rfl ?_
  refine x_ic T_423_323 ?_
  refine x_ib T_423_324 (fun h => absurd h.1 (by decide)) (w32_id (by omega) (by omega)) ?_
  refine x_alI T_423_325 (by decide) hST (by omega) (by omega) (hSI _) ?_
  refine x_cv2 T_423_326 mN_210 mL_210 (Nat.le_of_ble_eq_true rfl) mO_210 hSx (Nat.le_of_ble_eq_true rfl) h ?_
  rintro _ σ1 ⟨rfl, ⟨hUT, hUI, hUx, hUm⟩, h2⟩
  refine cI ?_
  refine x_lr T_423_329 rfl ?_
  refine x_lr T_423_330 rfl ?_
  refine x_li T_423_331 rfl ?_
  refine x_ic T_423_332 ?_
  refine x_ib T_423_333 (fun h => absurd h.1 (by decide)) (w32_id (by omega) (by omega)) ?_
  refine x_alI T_423_334 (by decide) hUT (by omega) (by omega) (hUI _) ?_
  refine x_cv2 T_423_335 mN_407 mL_407 (Nat.le_of_ble_eq_true rfl) mO_407 hUm (Nat.le_of_ble_eq_true rfl) h2 ?_
  rintro _ σ2 ⟨rfl, hS2, hP⟩
  refine cI ?_
  refine x_ic2 T_423_338 (fun _ => ?_) (fun h => absurd rfl h)
  exact k σ2 hS2 hP
theorem law_7 (hS : Scr L xs σ) (hi : 0 ≤ i) (hL : L ≤ 2560) (hiL : i + 5 ≤ L) (h : PairI fb 211 408 [] L xs σ P) (k : ∀ σ2, Scr L xs σ2 → P σ2 → WP fb 22 423 796 [some (vR (some 0)), some (vR (some 128)), some (vR (some 2281)), some (vI i)] [] σ2 Q) : WP fb 22 423 343 [some (vR (some 0)), some (vR (some 128)), some (vR (some 2281)), some (vI i)] [] σ Q := by
  obtain ⟨hST, hSI, hSx, hSm⟩ := hS
  obtain ⟨v, h⟩ := h
  refine x_lr T_423_343 rfl ?_
  refine x_cv1 T_423_344 mN_211 mL_211 (Nat.le_of_ble_eq_true rfl) mO_211 hSx (Nat.le_of_ble_eq_true rfl) h ?_
  rintro _ σ1 ⟨rfl, ⟨hUT, hUI, hUx, hUm⟩, h2⟩
  refine cI ?_
  refine x_lr T_423_347 rfl ?_
  refine x_cv1 T_423_348 mN_408 mL_408 (Nat.le_of_ble_eq_true rfl) mO_408 hUm (Nat.le_of_ble_eq_true rfl) h2 ?_
  rintro _ σ2 ⟨rfl, hS2, hP⟩
  refine cI ?_
  refine x_ic2 T_423_351 (fun _ => ?_) (fun h => absurd rfl h)
  exact k σ2 hS2 hP
theorem law_8 (hS : Scr L xs σ) (hi : 0 ≤ i) (hL : L ≤ 2560) (hiL : i + 5 ≤ L) (h : PairI fb 212 409 [vI (xs (i + 1).toNat), vI (xs (i + 2).toNat)] L xs σ P) (k : ∀ σ2, Scr L xs σ2 → P σ2 → WP fb 22 423 796 [some (vR (some 0)), some (vR (some 128)), some (vR (some 2281)), some (vI i)] [] σ2 Q) : WP fb 22 423 356 [some (vR (some 0)), some (vR (some 128)), some (vR (some 2281)), some (vI i)] [] σ Q := by
  obtain ⟨hST, hSI, hSx, hSm⟩ := hS
  obtain ⟨v, h⟩ := h
  refine x_lr T_423_356 rfl ?_
  refine x_lr T_423_357 rfl ?_
  refine x_li T_423_358 rfl ?_
  refine x_ic T_423_359 ?_
  refine x_ib T_423_360 (fun h => absurd h.1 (by decide)) (w32_id (by omega) (by omega)) ?_
  refine x_alI T_423_361 (by decide) hST (by omega) (by omega) (hSI _) ?_
  refine x_lr T_423_362 rfl ?_
  refine x_li T_423_363 rfl ?_
  refine x_ic T_423_364 ?_
  refine x_ib T_423_365 (fun h => absurd h.1 (by decide)) (w32_id (by omega) (by omega)) ?_
  refine x_alI T_423_366 (by decide) hST (by omega) (by omega) (hSI _) ?_
  refine x_cv3 T_423_367 mN_212 mL_212 (Nat.le_of_ble_eq_true rfl) mO_212 hSx (Nat.le_of_ble_eq_true rfl) h ?_
  rintro _ σ1 ⟨rfl, ⟨hUT, hUI, hUx, hUm⟩, h2⟩
  refine cI ?_
  refine x_lr T_423_370 rfl ?_
  refine x_lr T_423_371 rfl ?_
  refine x_li T_423_372 rfl ?_
  refine x_ic T_423_373 ?_
  refine x_ib T_423_374 (fun h => absurd h.1 (by decide)) (w32_id (by omega) (by omega)) ?_
  refine x_alI T_423_375 (by decide) hUT (by omega) (by omega) (hUI _) ?_
  refine x_lr T_423_376 rfl ?_
  refine x_li T_423_377 rfl ?_
  refine x_ic T_423_378 ?_
  refine x_ib T_423_379 (fun h => absurd h.1 (by decide)) (w32_id (by omega) (by omega)) ?_
  refine x_alI T_423_380 (by decide) hUT (by omega) (by omega) (hUI _) ?_
  refine x_cv3 T_423_381 mN_409 mL_409 (Nat.le_of_ble_eq_true rfl) mO_409 hUm (Nat.le_of_ble_eq_true rfl) h2 ?_
  rintro _ σ2 ⟨rfl, hS2, hP⟩
  refine cI ?_
  refine x_ic2 T_423_384 (fun _ => ?_) (fun h => absurd rfl h)
  exact k σ2 hS2 hP
theorem law_9 (hS : Scr L xs σ) (hi : 0 ≤ i) (hL : L ≤ 2560) (hiL : i + 5 ≤ L) (h : PairL fb 214 410 [] L xs σ P) (k : ∀ σ2, Scr L xs σ2 → P σ2 → WP fb 22 423 796 [some (vR (some 0)), some (vR (some 128)), some (vR (some 2281)), some (vI i)] [] σ2 Q) : WP fb 22 423 389 [some (vR (some 0)), some (vR (some 128)), some (vR (some 2281)), some (vI i)] [] σ Q := by
  obtain ⟨hST, hSI, hSx, hSm⟩ := hS
  obtain ⟨v, h⟩ := h
  refine x_lr T_423_389 rfl ?_
  refine x_cv1 T_423_390 mN_214 mL_214 (Nat.le_of_ble_eq_true rfl) mO_214 hSx (Nat.le_of_ble_eq_true rfl) h ?_
  rintro _ σ1 ⟨rfl, ⟨hUT, hUI, hUx, hUm⟩, h2⟩
  refine cL ?_
  refine x_lr T_423_393 rfl ?_
  refine x_cv1 T_423_394 mN_410 mL_410 (Nat.le_of_ble_eq_true rfl) mO_410 hUm (Nat.le_of_ble_eq_true rfl) h2 ?_
  rintro _ σ2 ⟨rfl, hS2, hP⟩
  refine cL ?_
  refine x_lcmp T_423_397 ?_
  refine x_if T_423_398 (fun _ => ?_) (fun h => absurd (show cmp64 v v = 0 by unfold cmp64; rw [if_neg (by omega), if_pos rfl]) h)
  exact k σ2 hS2 hP
theorem law_10 (hS : Scr L xs σ) (hi : 0 ≤ i) (hL : L ≤ 2560) (hiL : i + 5 ≤ L) (h : PairI fb 215 411 [vI (xs (i + 1).toNat)] L xs σ P) (k : ∀ σ2, Scr L xs σ2 → P σ2 → WP fb 22 423 796 [some (vR (some 0)), some (vR (some 128)), some (vR (some 2281)), some (vI i)] [] σ2 Q) : WP fb 22 423 403 [some (vR (some 0)), some (vR (some 128)), some (vR (some 2281)), some (vI i)] [] σ Q := by
  obtain ⟨hST, hSI, hSx, hSm⟩ := hS
  obtain ⟨v, h⟩ := h
  refine x_lr T_423_403 rfl ?_
  refine x_lr T_423_404 rfl ?_
  refine x_li T_423_405 rfl ?_
  refine x_ic T_423_406 ?_
  refine x_ib T_423_407 (fun h => absurd h.1 (by decide)) (w32_id (by omega) (by omega)) ?_
  refine x_alI T_423_408 (by decide) hST (by omega) (by omega) (hSI _) ?_
  refine x_cv2 T_423_409 mN_215 mL_215 (Nat.le_of_ble_eq_true rfl) mO_215 hSx (Nat.le_of_ble_eq_true rfl) h ?_
  rintro _ σ1 ⟨rfl, ⟨hUT, hUI, hUx, hUm⟩, h2⟩
  refine cI ?_
  refine x_lr T_423_412 rfl ?_
  refine x_lr T_423_413 rfl ?_
  refine x_li T_423_414 rfl ?_
  refine x_ic T_423_415 ?_
  refine x_ib T_423_416 (fun h => absurd h.1 (by decide)) (w32_id (by omega) (by omega)) ?_
  refine x_alI T_423_417 (by decide) hUT (by omega) (by omega) (hUI _) ?_
  refine x_cv2 T_423_418 mN_411 mL_411 (Nat.le_of_ble_eq_true rfl) mO_411 hUm (Nat.le_of_ble_eq_true rfl) h2 ?_
  rintro _ σ2 ⟨rfl, hS2, hP⟩
  refine cI ?_
  refine x_ic2 T_423_421 (fun _ => ?_) (fun h => absurd rfl h)
  exact k σ2 hS2 hP
theorem law_11 (hS : Scr L xs σ) (hi : 0 ≤ i) (hL : L ≤ 2560) (hiL : i + 5 ≤ L) (h : PairI fb 216 412 [vI (xs (i + 1).toNat)] L xs σ P) (k : ∀ σ2, Scr L xs σ2 → P σ2 → WP fb 22 423 796 [some (vR (some 0)), some (vR (some 128)), some (vR (some 2281)), some (vI i)] [] σ2 Q) : WP fb 22 423 426 [some (vR (some 0)), some (vR (some 128)), some (vR (some 2281)), some (vI i)] [] σ Q := by
  obtain ⟨hST, hSI, hSx, hSm⟩ := hS
  obtain ⟨v, h⟩ := h
  refine x_lr T_423_426 rfl ?_
  refine x_lr T_423_427 rfl ?_
  refine x_li T_423_428 rfl ?_
  refine x_ic T_423_429 ?_
  refine x_ib T_423_430 (fun h => absurd h.1 (by decide)) (w32_id (by omega) (by omega)) ?_
  refine x_alI T_423_431 (by decide) hST (by omega) (by omega) (hSI _) ?_
  refine x_cv2 T_423_432 mN_216 mL_216 (Nat.le_of_ble_eq_true rfl) mO_216 hSx (Nat.le_of_ble_eq_true rfl) h ?_
  rintro _ σ1 ⟨rfl, ⟨hUT, hUI, hUx, hUm⟩, h2⟩
  refine cI ?_
  refine x_lr T_423_435 rfl ?_
  refine x_lr T_423_436 rfl ?_
  refine x_li T_423_437 rfl ?_
  refine x_ic T_423_438 ?_
  refine x_ib T_423_439 (fun h => absurd h.1 (by decide)) (w32_id (by omega) (by omega)) ?_
  refine x_alI T_423_440 (by decide) hUT (by omega) (by omega) (hUI _) ?_
  refine x_cv2 T_423_441 mN_412 mL_412 (Nat.le_of_ble_eq_true rfl) mO_412 hUm (Nat.le_of_ble_eq_true rfl) h2 ?_
  rintro _ σ2 ⟨rfl, hS2, hP⟩
  refine cI ?_
  refine x_ic2 T_423_444 (fun _ => ?_) (fun h => absurd rfl h)
  exact k σ2 hS2 hP
theorem law_12 (hS : Scr L xs σ) (hi : 0 ≤ i) (hL : L ≤ 2560) (hiL : i + 5 ≤ L) (h : PairI fb 217 413 [vI (xs (i + 1).toNat)] L xs σ P) (k : ∀ σ2, Scr L xs σ2 → P σ2 → WP fb 22 423 796 [some (vR (some 0)), some (vR (some 128)), some (vR (some 2281)), some (vI i)] [] σ2 Q) : WP fb 22 423 449 [some (vR (some 0)), some (vR (some 128)), some (vR (some 2281)), some (vI i)] [] σ Q := by
  obtain ⟨hST, hSI, hSx, hSm⟩ := hS
  obtain ⟨v, h⟩ := h
  refine x_lr T_423_449 rfl ?_
  refine x_lr T_423_450 rfl ?_
  refine x_li T_423_451 rfl ?_
  refine x_ic T_423_452 ?_
  refine x_ib T_423_453 (fun h => absurd h.1 (by decide)) (w32_id (by omega) (by omega)) ?_
  refine x_alI T_423_454 (by decide) hST (by omega) (by omega) (hSI _) ?_
  refine x_cv2 T_423_455 mN_217 mL_217 (Nat.le_of_ble_eq_true rfl) mO_217 hSx (Nat.le_of_ble_eq_true rfl) h ?_
  rintro _ σ1 ⟨rfl, ⟨hUT, hUI, hUx, hUm⟩, h2⟩
  refine cI ?_
  refine x_lr T_423_458 rfl ?_
  refine x_lr T_423_459 rfl ?_
  refine x_li T_423_460 rfl ?_
  refine x_ic T_423_461 ?_
  refine x_ib T_423_462 (fun h => absurd h.1 (by decide)) (w32_id (by omega) (by omega)) ?_
  refine x_alI T_423_463 (by decide) hUT (by omega) (by omega) (hUI _) ?_
  refine x_cv2 T_423_464 mN_413 mL_413 (Nat.le_of_ble_eq_true rfl) mO_413 hUm (Nat.le_of_ble_eq_true rfl) h2 ?_
  rintro _ σ2 ⟨rfl, hS2, hP⟩
  refine cI ?_
  refine x_ic2 T_423_467 (fun _ => ?_) (fun h => absurd rfl h)
  exact k σ2 hS2 hP
theorem law_13 (hS : Scr L xs σ) (hi : 0 ≤ i) (hL : L ≤ 2560) (hiL : i + 5 ≤ L) (h : PairI fb 218 414 [vI (xs (i + 1).toNat), vI (xs (i + 2).toNat)] L xs σ P) (k : ∀ σ2, Scr L xs σ2 → P σ2 → WP fb 22 423 796 [some (vR (some 0)), some (vR (some 128)), some (vR (some 2281)), some (vI i)] [] σ2 Q) : WP fb 22 423 472 [some (vR (some 0)), some (vR (some 128)), some (vR (some 2281)), some (vI i)] [] σ Q := by
  obtain ⟨hST, hSI, hSx, hSm⟩ := hS
  obtain ⟨v, h⟩ := h
  refine x_lr T_423_472 rfl ?_
  refine x_lr T_423_473 rfl ?_
  refine x_li T_423_474 rfl ?_
  refine x_ic T_423_475 ?_
  refine x_ib T_423_476 (fun h => absurd h.1 (by decide)) (w32_id (by omega) (by omega)) ?_
  refine x_alI T_423_477 (by decide) hST (by omega) (by omega) (hSI _) ?_
  refine x_lr T_423_478 rfl ?_
  refine x_li T_423_479 rfl ?_
  refine x_ic T_423_480 ?_
  refine x_ib T_423_481 (fun h => absurd h.1 (by decide)) (w32_id (by omega) (by omega)) ?_
  refine x_alI T_423_482 (by decide) hST (by omega) (by omega) (hSI _) ?_
  refine x_cv3 T_423_483 mN_218 mL_218 (Nat.le_of_ble_eq_true rfl) mO_218 hSx (Nat.le_of_ble_eq_true rfl) h ?_
  rintro _ σ1 ⟨rfl, ⟨hUT, hUI, hUx, hUm⟩, h2⟩
  refine cI ?_
  refine x_lr T_423_486 rfl ?_
  refine x_lr T_423_487 rfl ?_
  refine x_li T_423_488 rfl ?_
  refine x_ic T_423_489 ?_
  refine x_ib T_423_490 (fun h => absurd h.1 (by decide)) (w32_id (by omega) (by omega)) ?_
  refine x_alI T_423_491 (by decide) hUT (by omega) (by omega) (hUI _) ?_
  refine x_lr T_423_492 rfl ?_
  refine x_li T_423_493 rfl ?_
  refine x_ic T_423_494 ?_
  refine x_ib T_423_495 (fun h => absurd h.1 (by decide)) (w32_id (by omega) (by omega)) ?_
  refine x_alI T_423_496 (by decide) hUT (by omega) (by omega) (hUI _) ?_
  refine x_cv3 T_423_497 mN_414 mL_414 (Nat.le_of_ble_eq_true rfl) mO_414 hUm (Nat.le_of_ble_eq_true rfl) h2 ?_
  rintro _ σ2 ⟨rfl, hS2, hP⟩
  refine cI ?_
  refine x_ic2 T_423_500 (fun _ => ?_) (fun h => absurd rfl h)
  exact k σ2 hS2 hP
theorem law_14 (hS : Scr L xs σ) (hi : 0 ≤ i) (hL : L ≤ 2560) (hiL : i + 5 ≤ L) (h : PairI fb 219 415 [vI (xs (i + 1).toNat), vI (xs (i + 2).toNat), vI (xs (i + 3).toNat)] L xs σ P) (k : ∀ σ2, Scr L xs σ2 → P σ2 → WP fb 22 423 796 [some (vR (some 0)), some (vR (some 128)), some (vR (some 2281)), some (vI i)] [] σ2 Q) : WP fb 22 423 505 [some (vR (some 0)), some (vR (some 128)), some (vR (some 2281)), some (vI i)] [] σ Q := by
  obtain ⟨hST, hSI, hSx, hSm⟩ := hS
  obtain ⟨v, h⟩ := h
  refine x_lr T_423_505 rfl ?_
  refine x_lr T_423_506 rfl ?_
  refine x_li T_423_507 rfl ?_
  refine x_ic T_423_508 ?_
  refine x_ib T_423_509 (fun h => absurd h.1 (by decide)) (w32_id (by omega) (by omega)) ?_
  refine x_alI T_423_510 (by decide) hST (by omega) (by omega) (hSI _) ?_
  refine x_lr T_423_511 rfl ?_
  refine x_li T_423_512 rfl ?_
  refine x_ic T_423_513 ?_
  refine x_ib T_423_514 (fun h => absurd h.1 (by decide)) (w32_id (by omega) (by omega)) ?_
  refine x_alI T_423_515 (by decide) hST (by omega) (by omega) (hSI _) ?_
  refine x_lr T_423_516 rfl ?_
  refine x_li T_423_517 rfl ?_
  refine x_ic T_423_518 ?_
  refine x_ib T_423_519 (fun h => absurd h.1 (by decide)) (w32_id (by omega) (by omega)) ?_
  refine x_alI T_423_520 (by decide) hST (by omega) (by omega) (hSI _) ?_
  refine x_cv4 T_423_521 mN_219 mL_219 (Nat.le_of_ble_eq_true rfl) mO_219 hSx (Nat.le_of_ble_eq_true rfl) h ?_
  rintro _ σ1 ⟨rfl, ⟨hUT, hUI, hUx, hUm⟩, h2⟩
  refine cI ?_
  refine x_lr T_423_524 rfl ?_
  refine x_lr T_423_525 rfl ?_
  refine x_li T_423_526 rfl ?_
  refine x_ic T_423_527 ?_
  refine x_ib T_423_528 (fun h => absurd h.1 (by decide)) (w32_id (by omega) (by omega)) ?_
  refine x_alI T_423_529 (by decide) hUT (by omega) (by omega) (hUI _) ?_
  refine x_lr T_423_530 rfl ?_
  refine x_li T_423_531 rfl ?_
  refine x_ic T_423_532 ?_
  refine x_ib T_423_533 (fun h => absurd h.1 (by decide)) (w32_id (by omega) (by omega)) ?_
  refine x_alI T_423_534 (by decide) hUT (by omega) (by omega) (hUI _) ?_
  refine x_lr T_423_535 rfl ?_
  refine x_li T_423_536 rfl ?_
  refine x_ic T_423_537 ?_
  refine x_ib T_423_538 (fun h => absurd h.1 (by decide)) (w32_id (by omega) (by omega)) ?_
  refine x_alI T_423_539 (by decide) hUT (by omega) (by omega) (hUI _) ?_
  refine x_cv4 T_423_540 mN_415 mL_415 (Nat.le_of_ble_eq_true rfl) mO_415 hUm (Nat.le_of_ble_eq_true rfl) h2 ?_
  rintro _ σ2 ⟨rfl, hS2, hP⟩
  refine cI ?_
  refine x_ic2 T_423_543 (fun _ => ?_) (fun h => absurd rfl h)
  exact k σ2 hS2 hP
theorem law_15 (hS : Scr L xs σ) (hi : 0 ≤ i) (hL : L ≤ 2560) (hiL : i + 5 ≤ L) (h : PairI fb 220 416 [vI (xs (i + 1).toNat), vI (xs (i + 2).toNat)] L xs σ P) (k : ∀ σ2, Scr L xs σ2 → P σ2 → WP fb 22 423 796 [some (vR (some 0)), some (vR (some 128)), some (vR (some 2281)), some (vI i)] [] σ2 Q) : WP fb 22 423 548 [some (vR (some 0)), some (vR (some 128)), some (vR (some 2281)), some (vI i)] [] σ Q := by
  obtain ⟨hST, hSI, hSx, hSm⟩ := hS
  obtain ⟨v, h⟩ := h
  refine x_lr T_423_548 rfl ?_
  refine x_lr T_423_549 rfl ?_
  refine x_li T_423_550 rfl ?_
  refine x_ic T_423_551 ?_
  refine x_ib T_423_552 (fun h => absurd h.1 (by decide)) (w32_id (by omega) (by omega)) ?_
  refine x_alI T_423_553 (by decide) hST (by omega) (by omega) (hSI _) ?_
  refine x_lr T_423_554 rfl ?_
  refine x_li T_423_555 rfl ?_
  refine x_ic T_423_556 ?_
  refine x_ib T_423_557 (fun h => absurd h.1 (by decide)) (w32_id (by omega) (by omega)) ?_
  refine x_alI T_423_558 (by decide) hST (by omega) (by omega) (hSI _) ?_
  refine x_cv3 T_423_559 mN_220 mL_220 (Nat.le_of_ble_eq_true rfl) mO_220 hSx (Nat.le_of_ble_eq_true rfl) h ?_
  rintro _ σ1 ⟨rfl, ⟨hUT, hUI, hUx, hUm⟩, h2⟩
  refine cI ?_
  refine x_lr T_423_562 rfl ?_
  refine x_lr T_423_563 rfl ?_
  refine x_li T_423_564 rfl ?_
  refine x_ic T_423_565 ?_
  refine x_ib T_423_566 (fun h => absurd h.1 (by decide)) (w32_id (by omega) (by omega)) ?_
  refine x_alI T_423_567 (by decide) hUT (by omega) (by omega) (hUI _) ?_
  refine x_lr T_423_568 rfl ?_
  refine x_li T_423_569 rfl ?_
  refine x_ic T_423_570 ?_
  refine x_ib T_423_571 (fun h => absurd h.1 (by decide)) (w32_id (by omega) (by omega)) ?_
  refine x_alI T_423_572 (by decide) hUT (by omega) (by omega) (hUI _) ?_
  refine x_cv3 T_423_573 mN_416 mL_416 (Nat.le_of_ble_eq_true rfl) mO_416 hUm (Nat.le_of_ble_eq_true rfl) h2 ?_
  rintro _ σ2 ⟨rfl, hS2, hP⟩
  refine cI ?_
  refine x_ic2 T_423_576 (fun _ => ?_) (fun h => absurd rfl h)
  exact k σ2 hS2 hP
theorem law_16 (hS : Scr L xs σ) (hi : 0 ≤ i) (hL : L ≤ 2560) (hiL : i + 5 ≤ L) (h : PairI fb 221 417 [vI (xs (i + 1).toNat), vI (xs (i + 2).toNat), vI (xs (i + 3).toNat)] L xs σ P) (k : ∀ σ2, Scr L xs σ2 → P σ2 → WP fb 22 423 796 [some (vR (some 0)), some (vR (some 128)), some (vR (some 2281)), some (vI i)] [] σ2 Q) : WP fb 22 423 581 [some (vR (some 0)), some (vR (some 128)), some (vR (some 2281)), some (vI i)] [] σ Q := by
  obtain ⟨hST, hSI, hSx, hSm⟩ := hS
  obtain ⟨v, h⟩ := h
  refine x_lr T_423_581 rfl ?_
  refine x_lr T_423_582 rfl ?_
  refine x_li T_423_583 rfl ?_
  refine x_ic T_423_584 ?_
  refine x_ib T_423_585 (fun h => absurd h.1 (by decide)) (w32_id (by omega) (by omega)) ?_
  refine x_alI T_423_586 (by decide) hST (by omega) (by omega) (hSI _) ?_
  refine x_lr T_423_587 rfl ?_
  refine x_li T_423_588 rfl ?_
  refine x_ic T_423_589 ?_
  refine x_ib T_423_590 (fun h => absurd h.1 (by decide)) (w32_id (by omega) (by omega)) ?_
  refine x_alI T_423_591 (by decide) hST (by omega) (by omega) (hSI _) ?_
  refine x_lr T_423_592 rfl ?_
  refine x_li T_423_593 rfl ?_
  refine x_ic T_423_594 ?_
  refine x_ib T_423_595 (fun h => absurd h.1 (by decide)) (w32_id (by omega) (by omega)) ?_
  refine x_alI T_423_596 (by decide) hST (by omega) (by omega) (hSI _) ?_
  refine x_cv4 T_423_597 mN_221 mL_221 (Nat.le_of_ble_eq_true rfl) mO_221 hSx (Nat.le_of_ble_eq_true rfl) h ?_
  rintro _ σ1 ⟨rfl, ⟨hUT, hUI, hUx, hUm⟩, h2⟩
  refine cI ?_
  refine x_lr T_423_600 rfl ?_
  refine x_lr T_423_601 rfl ?_
  refine x_li T_423_602 rfl ?_
  refine x_ic T_423_603 ?_
  refine x_ib T_423_604 (fun h => absurd h.1 (by decide)) (w32_id (by omega) (by omega)) ?_
  refine x_alI T_423_605 (by decide) hUT (by omega) (by omega) (hUI _) ?_
  refine x_lr T_423_606 rfl ?_
  refine x_li T_423_607 rfl ?_
  refine x_ic T_423_608 ?_
  refine x_ib T_423_609 (fun h => absurd h.1 (by decide)) (w32_id (by omega) (by omega)) ?_
  refine x_alI T_423_610 (by decide) hUT (by omega) (by omega) (hUI _) ?_
  refine x_lr T_423_611 rfl ?_
  refine x_li T_423_612 rfl ?_
  refine x_ic T_423_613 ?_
  refine x_ib T_423_614 (fun h => absurd h.1 (by decide)) (w32_id (by omega) (by omega)) ?_
  refine x_alI T_423_615 (by decide) hUT (by omega) (by omega) (hUI _) ?_
  refine x_cv4 T_423_616 mN_417 mL_417 (Nat.le_of_ble_eq_true rfl) mO_417 hUm (Nat.le_of_ble_eq_true rfl) h2 ?_
  rintro _ σ2 ⟨rfl, hS2, hP⟩
  refine cI ?_
  refine x_ic2 T_423_619 (fun _ => ?_) (fun h => absurd rfl h)
  exact k σ2 hS2 hP
theorem law_17 (hS : Scr L xs σ) (hi : 0 ≤ i) (hL : L ≤ 2560) (hiL : i + 5 ≤ L) (h : PairI fb 222 418 [vI (xs (i + 1).toNat), vI (xs (i + 2).toNat), vI (xs (i + 3).toNat), vI (xs (i + 4).toNat)] L xs σ P) (k : ∀ σ2, Scr L xs σ2 → P σ2 → WP fb 22 423 796 [some (vR (some 0)), some (vR (some 128)), some (vR (some 2281)), some (vI i)] [] σ2 Q) : WP fb 22 423 624 [some (vR (some 0)), some (vR (some 128)), some (vR (some 2281)), some (vI i)] [] σ Q := by
  obtain ⟨hST, hSI, hSx, hSm⟩ := hS
  obtain ⟨v, h⟩ := h
  refine x_lr T_423_624 rfl ?_
  refine x_lr T_423_625 rfl ?_
  refine x_li T_423_626 rfl ?_
  refine x_ic T_423_627 ?_
  refine x_ib T_423_628 (fun h => absurd h.1 (by decide)) (w32_id (by omega) (by omega)) ?_
  refine x_alI T_423_629 (by decide) hST (by omega) (by omega) (hSI _) ?_
  refine x_lr T_423_630 rfl ?_
  refine x_li T_423_631 rfl ?_
  refine x_ic T_423_632 ?_
  refine x_ib T_423_633 (fun h => absurd h.1 (by decide)) (w32_id (by omega) (by omega)) ?_
  refine x_alI T_423_634 (by decide) hST (by omega) (by omega) (hSI _) ?_
  refine x_lr T_423_635 rfl ?_
  refine x_li T_423_636 rfl ?_
  refine x_ic T_423_637 ?_
  refine x_ib T_423_638 (fun h => absurd h.1 (by decide)) (w32_id (by omega) (by omega)) ?_
  refine x_alI T_423_639 (by decide) hST (by omega) (by omega) (hSI _) ?_
  refine x_lr T_423_640 rfl ?_
  refine x_li T_423_641 rfl ?_
  refine x_ic T_423_642 ?_
  refine x_ib T_423_643 (fun h => absurd h.1 (by decide)) (w32_id (by omega) (by omega)) ?_
  refine x_alI T_423_644 (by decide) hST (by omega) (by omega) (hSI _) ?_
  refine x_cv5 T_423_645 mN_222 mL_222 (Nat.le_of_ble_eq_true rfl) mO_222 hSx (Nat.le_of_ble_eq_true rfl) h ?_
  rintro _ σ1 ⟨rfl, ⟨hUT, hUI, hUx, hUm⟩, h2⟩
  refine cI ?_
  refine x_lr T_423_648 rfl ?_
  refine x_lr T_423_649 rfl ?_
  refine x_li T_423_650 rfl ?_
  refine x_ic T_423_651 ?_
  refine x_ib T_423_652 (fun h => absurd h.1 (by decide)) (w32_id (by omega) (by omega)) ?_
  refine x_alI T_423_653 (by decide) hUT (by omega) (by omega) (hUI _) ?_
  refine x_lr T_423_654 rfl ?_
  refine x_li T_423_655 rfl ?_
  refine x_ic T_423_656 ?_
  refine x_ib T_423_657 (fun h => absurd h.1 (by decide)) (w32_id (by omega) (by omega)) ?_
  refine x_alI T_423_658 (by decide) hUT (by omega) (by omega) (hUI _) ?_
  refine x_lr T_423_659 rfl ?_
  refine x_li T_423_660 rfl ?_
  refine x_ic T_423_661 ?_
  refine x_ib T_423_662 (fun h => absurd h.1 (by decide)) (w32_id (by omega) (by omega)) ?_
  refine x_alI T_423_663 (by decide) hUT (by omega) (by omega) (hUI _) ?_
  refine x_lr T_423_664 rfl ?_
  refine x_li T_423_665 rfl ?_
  refine x_ic T_423_666 ?_
  refine x_ib T_423_667 (fun h => absurd h.1 (by decide)) (w32_id (by omega) (by omega)) ?_
  refine x_alI T_423_668 (by decide) hUT (by omega) (by omega) (hUI _) ?_
  refine x_cv5 T_423_669 mN_418 mL_418 (Nat.le_of_ble_eq_true rfl) mO_418 hUm (Nat.le_of_ble_eq_true rfl) h2 ?_
  rintro _ σ2 ⟨rfl, hS2, hP⟩
  refine cI ?_
  refine x_ic2 T_423_672 (fun _ => ?_) (fun h => absurd rfl h)
  exact k σ2 hS2 hP
theorem law_18 (hS : Scr L xs σ) (hi : 0 ≤ i) (hL : L ≤ 2560) (hiL : i + 5 ≤ L) (h : PairI fb 223 419 [vI (xs (i + 1).toNat), vI (xs (i + 2).toNat), vI (xs (i + 3).toNat)] L xs σ P) (k : ∀ σ2, Scr L xs σ2 → P σ2 → WP fb 22 423 796 [some (vR (some 0)), some (vR (some 128)), some (vR (some 2281)), some (vI i)] [] σ2 Q) : WP fb 22 423 677 [some (vR (some 0)), some (vR (some 128)), some (vR (some 2281)), some (vI i)] [] σ Q := by
  obtain ⟨hST, hSI, hSx, hSm⟩ := hS
  obtain ⟨v, h⟩ := h
  refine x_lr T_423_677 rfl ?_
  refine x_lr T_423_678 rfl ?_
  refine x_li T_423_679 rfl ?_
  refine x_ic T_423_680 ?_
  refine x_ib T_423_681 (fun h => absurd h.1 (by decide)) (w32_id (by omega) (by omega)) ?_
  refine x_alI T_423_682 (by decide) hST (by omega) (by omega) (hSI _) ?_
  refine x_lr T_423_683 rfl ?_
  refine x_li T_423_684 rfl ?_
  refine x_ic T_423_685 ?_
  refine x_ib T_423_686 (fun h => absurd h.1 (by decide)) (w32_id (by omega) (by omega)) ?_
  refine x_alI T_423_687 (by decide) hST (by omega) (by omega) (hSI _) ?_
  refine x_lr T_423_688 rfl ?_
  refine x_li T_423_689 rfl ?_
  refine x_ic T_423_690 ?_
  refine x_ib T_423_691 (fun h => absurd h.1 (by decide)) (w32_id (by omega) (by omega)) ?_
  refine x_alI T_423_692 (by decide) hST (by omega) (by omega) (hSI _) ?_
  refine x_cv4 T_423_693 mN_223 mL_223 (Nat.le_of_ble_eq_true rfl) mO_223 hSx (Nat.le_of_ble_eq_true rfl) h ?_
  rintro _ σ1 ⟨rfl, ⟨hUT, hUI, hUx, hUm⟩, h2⟩
  refine cI ?_
  refine x_lr T_423_696 rfl ?_
  refine x_lr T_423_697 rfl ?_
  refine x_li T_423_698 rfl ?_
  refine x_ic T_423_699 ?_
  refine x_ib T_423_700 (fun h => absurd h.1 (by decide)) (w32_id (by omega) (by omega)) ?_
  refine x_alI T_423_701 (by decide) hUT (by omega) (by omega) (hUI _) ?_
  refine x_lr T_423_702 rfl ?_
  refine x_li T_423_703 rfl ?_
  refine x_ic T_423_704 ?_
  refine x_ib T_423_705 (fun h => absurd h.1 (by decide)) (w32_id (by omega) (by omega)) ?_
  refine x_alI T_423_706 (by decide) hUT (by omega) (by omega) (hUI _) ?_
  refine x_lr T_423_707 rfl ?_
  refine x_li T_423_708 rfl ?_
  refine x_ic T_423_709 ?_
  refine x_ib T_423_710 (fun h => absurd h.1 (by decide)) (w32_id (by omega) (by omega)) ?_
  refine x_alI T_423_711 (by decide) hUT (by omega) (by omega) (hUI _) ?_
  refine x_cv4 T_423_712 mN_419 mL_419 (Nat.le_of_ble_eq_true rfl) mO_419 hUm (Nat.le_of_ble_eq_true rfl) h2 ?_
  rintro _ σ2 ⟨rfl, hS2, hP⟩
  refine cI ?_
  refine x_ic2 T_423_715 (fun _ => ?_) (fun h => absurd rfl h)
  exact k σ2 hS2 hP
theorem law_19 (hS : Scr L xs σ) (hi : 0 ≤ i) (hL : L ≤ 2560) (hiL : i + 5 ≤ L) (h : PairI fb 224 420 [vI (xs (i + 1).toNat), vI (xs (i + 2).toNat)] L xs σ P) (k : ∀ σ2, Scr L xs σ2 → P σ2 → WP fb 22 423 796 [some (vR (some 0)), some (vR (some 128)), some (vR (some 2281)), some (vI i)] [] σ2 Q) : WP fb 22 423 720 [some (vR (some 0)), some (vR (some 128)), some (vR (some 2281)), some (vI i)] [] σ Q := by
  obtain ⟨hST, hSI, hSx, hSm⟩ := hS
  obtain ⟨v, h⟩ := h
  refine x_lr T_423_720 rfl ?_
  refine x_lr T_423_721 rfl ?_
  refine x_li T_423_722 rfl ?_
  refine x_ic T_423_723 ?_
  refine x_ib T_423_724 (fun h => absurd h.1 (by decide)) (w32_id (by omega) (by omega)) ?_
  refine x_alI T_423_725 (by decide) hST (by omega) (by omega) (hSI _) ?_
  refine x_lr T_423_726 rfl ?_
  refine x_li T_423_727 rfl ?_
  refine x_ic T_423_728 ?_
  refine x_ib T_423_729 (fun h => absurd h.1 (by decide)) (w32_id (by omega) (by omega)) ?_
  refine x_alI T_423_730 (by decide) hST (by omega) (by omega) (hSI _) ?_
  refine x_cv3 T_423_731 mN_224 mL_224 (Nat.le_of_ble_eq_true rfl) mO_224 hSx (Nat.le_of_ble_eq_true rfl) h ?_
  rintro _ σ1 ⟨rfl, ⟨hUT, hUI, hUx, hUm⟩, h2⟩
  refine cI ?_
  refine x_lr T_423_734 rfl ?_
  refine x_lr T_423_735 rfl ?_
  refine x_li T_423_736 rfl ?_
  refine x_ic T_423_737 ?_
  refine x_ib T_423_738 (fun h => absurd h.1 (by decide)) (w32_id (by omega) (by omega)) ?_
  refine x_alI T_423_739 (by decide) hUT (by omega) (by omega) (hUI _) ?_
  refine x_lr T_423_740 rfl ?_
  refine x_li T_423_741 rfl ?_
  refine x_ic T_423_742 ?_
  refine x_ib T_423_743 (fun h => absurd h.1 (by decide)) (w32_id (by omega) (by omega)) ?_
  refine x_alI T_423_744 (by decide) hUT (by omega) (by omega) (hUI _) ?_
  refine x_cv3 T_423_745 mN_420 mL_420 (Nat.le_of_ble_eq_true rfl) mO_420 hUm (Nat.le_of_ble_eq_true rfl) h2 ?_
  rintro _ σ2 ⟨rfl, hS2, hP⟩
  refine cI ?_
  refine x_ic2 T_423_748 (fun _ => ?_) (fun h => absurd rfl h)
  exact k σ2 hS2 hP
theorem law_20 (hS : Scr L xs σ) (hi : 0 ≤ i) (hL : L ≤ 2560) (hiL : i + 5 ≤ L) (h : PairI fb 226 422 [vI (xs (i + 1).toNat), vI (xs (i + 2).toNat), vI (xs (i + 3).toNat)] L xs σ P) (k : ∀ σ2, Scr L xs σ2 → P σ2 → WP fb 22 423 796 [some (vR (some 0)), some (vR (some 128)), some (vR (some 2281)), some (vI i)] [] σ2 Q) : WP fb 22 423 753 [some (vR (some 0)), some (vR (some 128)), some (vR (some 2281)), some (vI i)] [] σ Q := by
  obtain ⟨hST, hSI, hSx, hSm⟩ := hS
  obtain ⟨v, h⟩ := h
  refine x_lr T_423_753 rfl ?_
  refine x_lr T_423_754 rfl ?_
  refine x_li T_423_755 rfl ?_
  refine x_ic T_423_756 ?_
  refine x_ib T_423_757 (fun h => absurd h.1 (by decide)) (w32_id (by omega) (by omega)) ?_
  refine x_alI T_423_758 (by decide) hST (by omega) (by omega) (hSI _) ?_
  refine x_lr T_423_759 rfl ?_
  refine x_li T_423_760 rfl ?_
  refine x_ic T_423_761 ?_
  refine x_ib T_423_762 (fun h => absurd h.1 (by decide)) (w32_id (by omega) (by omega)) ?_
  refine x_alI T_423_763 (by decide) hST (by omega) (by omega) (hSI _) ?_
  refine x_lr T_423_764 rfl ?_
  refine x_li T_423_765 rfl ?_
  refine x_ic T_423_766 ?_
  refine x_ib T_423_767 (fun h => absurd h.1 (by decide)) (w32_id (by omega) (by omega)) ?_
  refine x_alI T_423_768 (by decide) hST (by omega) (by omega) (hSI _) ?_
  refine x_cv4 T_423_769 mN_226 mL_226 (Nat.le_of_ble_eq_true rfl) mO_226 hSx (Nat.le_of_ble_eq_true rfl) h ?_
  rintro _ σ1 ⟨rfl, ⟨hUT, hUI, hUx, hUm⟩, h2⟩
  refine cI ?_
  refine x_lr T_423_772 rfl ?_
  refine x_lr T_423_773 rfl ?_
  refine x_li T_423_774 rfl ?_
  refine x_ic T_423_775 ?_
  refine x_ib T_423_776 (fun h => absurd h.1 (by decide)) (w32_id (by omega) (by omega)) ?_
  refine x_alI T_423_777 (by decide) hUT (by omega) (by omega) (hUI _) ?_
  refine x_lr T_423_778 rfl ?_
  refine x_li T_423_779 rfl ?_
  refine x_ic T_423_780 ?_
  refine x_ib T_423_781 (fun h => absurd h.1 (by decide)) (w32_id (by omega) (by omega)) ?_
  refine x_alI T_423_782 (by decide) hUT (by omega) (by omega) (hUI _) ?_
  refine x_lr T_423_783 rfl ?_
  refine x_li T_423_784 rfl ?_
  refine x_ic T_423_785 ?_
  refine x_ib T_423_786 (fun h => absurd h.1 (by decide)) (w32_id (by omega) (by omega)) ?_
  refine x_alI T_423_787 (by decide) hUT (by omega) (by omega) (hUI _) ?_
  refine x_cv4 T_423_788 mN_422 mL_422 (Nat.le_of_ble_eq_true rfl) mO_422 hUm (Nat.le_of_ble_eq_true rfl) h2 ?_
  rintro _ σ2 ⟨rfl, hS2, hP⟩
  refine cI ?_
  refine x_ic2 T_423_791 (fun _ => ?_) (fun h => absurd rfl h)
  exact k σ2 hS2 hP
def Pairs (fb : Bool) (L : Nat) (xs : Nat → Int) (i : Int) (z : Int) (σ : hM) (P : hM → Prop) : Prop := (z = 0 → PairI fb 95 306 [vL (hLB 6 (hLH 0 (xs (i + 1).toNat) 32) (hLB 5 (xs (i + 2).toNat) 4294967295)), vI (xs (i + 3).toNat)] L xs σ P) ∧ (z = 1 → PairI fb 96 307 [vI (xs (i + 1).toNat)] L xs σ P) ∧ (z = 2 → PairI fb 204 403 [vI (xs (i + 1).toNat)] L xs σ P) ∧ (z = 3 → PairI fb 206 404 [vI (xs (i + 1).toNat), vI (xs (i + 2).toNat)] L xs σ P) ∧ (z = 4 → PairI fb 207 405 [vI (xs (i + 1).toNat)] L xs σ P) ∧ (z = 5 → PairI fb 208 406 [vI (xs (i + 1).toNat)] L xs σ P) ∧ (z = 6 → PairI fb 210 407 [vI (xs (i + 1).toNat)] L xs σ P) ∧ (z = 7 → PairI fb 211 408 [] L xs σ P) ∧ (z = 8 → PairI fb 212 409 [vI (xs (i + 1).toNat), vI (xs (i + 2).toNat)] L xs σ P) ∧ (z = 9 → PairL fb 214 410 [] L xs σ P) ∧ (z = 10 → PairI fb 215 411 [vI (xs (i + 1).toNat)] L xs σ P) ∧ (z = 11 → PairI fb 216 412 [vI (xs (i + 1).toNat)] L xs σ P) ∧ (z = 12 → PairI fb 217 413 [vI (xs (i + 1).toNat)] L xs σ P) ∧ (z = 13 → PairI fb 218 414 [vI (xs (i + 1).toNat), vI (xs (i + 2).toNat)] L xs σ P) ∧ (z = 14 → PairI fb 219 415 [vI (xs (i + 1).toNat), vI (xs (i + 2).toNat), vI (xs (i + 3).toNat)] L xs σ P) ∧ (z = 15 → PairI fb 220 416 [vI (xs (i + 1).toNat), vI (xs (i + 2).toNat)] L xs σ P) ∧ (z = 16 → PairI fb 221 417 [vI (xs (i + 1).toNat), vI (xs (i + 2).toNat), vI (xs (i + 3).toNat)] L xs σ P) ∧ (z = 17 → PairI fb 222 418 [vI (xs (i + 1).toNat), vI (xs (i + 2).toNat), vI (xs (i + 3).toNat), vI (xs (i + 4).toNat)] L xs σ P) ∧ (z = 18 → PairI fb 223 419 [vI (xs (i + 1).toNat), vI (xs (i + 2).toNat), vI (xs (i + 3).toNat)] L xs σ P) ∧ (z = 19 → PairI fb 224 420 [vI (xs (i + 1).toNat), vI (xs (i + 2).toNat)] L xs σ P) ∧ (z = 20 → PairI fb 226 422 [vI (xs (i + 1).toNat), vI (xs (i + 2).toNat), vI (xs (i + 3).toNat)] L xs σ P)
theorem law_turn (hS : Scr L xs σ) (hi : 0 ≤ i) (hL : L ≤ 2560) (hiL : i + 5 ≤ L) (h : Pairs fb L xs i (and32 (xs i.toNat) 31) σ P) (h0 : P σ) (k : ∀ σ2, Scr L xs σ2 → P σ2 → WP fb 22 423 796 [some (vR (some 0)), some (vR (some 128)), some (vR (some 2281)), some (vI i)] [] σ2 Q) : WP fb 22 423 18 [some (vR (some 0)), some (vR (some 128)), some (vR (some 2281)), some (vI i)] [] σ Q := by
  have hST := hS.1
  refine x_li T_423_18 rfl ?_
  refine x_lr T_423_19 rfl ?_
  refine x_len T_423_20 hST ?_
  refine x_ic T_423_21 ?_
  refine x_ib T_423_22 (fun h => absurd h.1 (by decide)) (w32_id (by omega) (by omega)) ?_
  refine x_ic2 T_423_23 (fun h9 => absurd (show i > (L : Int) - 5 from h9) (by omega)) (fun _ => ?_)
  refine x_lr T_423_26 rfl ?_
  refine x_li T_423_27 rfl ?_
  refine x_alI T_423_28 (by decide) hST (by omega) (by omega) (hS.2.1 _) ?_
  refine x_ic T_423_29 ?_
  refine x_ib T_423_31 (fun h => absurd h.1 (by decide)) rfl ?_
  show WP fb 22 423 32 _ (vI (and32 (xs i.toNat) 31) :: []) σ Q
  obtain ⟨g0, g1, g2, g3, g4, g5, g6, g7, g8, g9, g10, g11, g12, g13, g14, g15, g16, g17, g18, g19, g20⟩ := h
  generalize and32 (xs i.toNat) 31 = z at *
  by_cases e0 : z = 0
  · exact x_swIn T_423_32 (by omega) (by subst e0; decide) (by subst e0; rfl) (law_0 hS hi hL hiL (g0 e0) k)
  by_cases e1 : z = 1
  · exact x_swIn T_423_32 (by omega) (by subst e1; decide) (by subst e1; rfl) (law_1 hS hi hL hiL (g1 e1) k)
  by_cases e2 : z = 2
  · exact x_swIn T_423_32 (by omega) (by subst e2; decide) (by subst e2; rfl) (law_2 hS hi hL hiL (g2 e2) k)
  by_cases e3 : z = 3
  · exact x_swIn T_423_32 (by omega) (by subst e3; decide) (by subst e3; rfl) (law_3 hS hi hL hiL (g3 e3) k)
  by_cases e4 : z = 4
  · exact x_swIn T_423_32 (by omega) (by subst e4; decide) (by subst e4; rfl) (law_4 hS hi hL hiL (g4 e4) k)
  by_cases e5 : z = 5
  · exact x_swIn T_423_32 (by omega) (by subst e5; decide) (by subst e5; rfl) (law_5 hS hi hL hiL (g5 e5) k)
  by_cases e6 : z = 6
  · exact x_swIn T_423_32 (by omega) (by subst e6; decide) (by subst e6; rfl) (law_6 hS hi hL hiL (g6 e6) k)
  by_cases e7 : z = 7
  · exact x_swIn T_423_32 (by omega) (by subst e7; decide) (by subst e7; rfl) (law_7 hS hi hL hiL (g7 e7) k)
  by_cases e8 : z = 8
  · exact x_swIn T_423_32 (by omega) (by subst e8; decide) (by subst e8; rfl) (law_8 hS hi hL hiL (g8 e8) k)
  by_cases e9 : z = 9
  · exact x_swIn T_423_32 (by omega) (by subst e9; decide) (by subst e9; rfl) (law_9 hS hi hL hiL (g9 e9) k)
  by_cases e10 : z = 10
  · exact x_swIn T_423_32 (by omega) (by subst e10; decide) (by subst e10; rfl) (law_10 hS hi hL hiL (g10 e10) k)
  by_cases e11 : z = 11
  · exact x_swIn T_423_32 (by omega) (by subst e11; decide) (by subst e11; rfl) (law_11 hS hi hL hiL (g11 e11) k)
  by_cases e12 : z = 12
  · exact x_swIn T_423_32 (by omega) (by subst e12; decide) (by subst e12; rfl) (law_12 hS hi hL hiL (g12 e12) k)
  by_cases e13 : z = 13
  · exact x_swIn T_423_32 (by omega) (by subst e13; decide) (by subst e13; rfl) (law_13 hS hi hL hiL (g13 e13) k)
  by_cases e14 : z = 14
  · exact x_swIn T_423_32 (by omega) (by subst e14; decide) (by subst e14; rfl) (law_14 hS hi hL hiL (g14 e14) k)
  by_cases e15 : z = 15
  · exact x_swIn T_423_32 (by omega) (by subst e15; decide) (by subst e15; rfl) (law_15 hS hi hL hiL (g15 e15) k)
  by_cases e16 : z = 16
  · exact x_swIn T_423_32 (by omega) (by subst e16; decide) (by subst e16; rfl) (law_16 hS hi hL hiL (g16 e16) k)
  by_cases e17 : z = 17
  · exact x_swIn T_423_32 (by omega) (by subst e17; decide) (by subst e17; rfl) (law_17 hS hi hL hiL (g17 e17) k)
  by_cases e18 : z = 18
  · exact x_swIn T_423_32 (by omega) (by subst e18; decide) (by subst e18; rfl) (law_18 hS hi hL hiL (g18 e18) k)
  by_cases e19 : z = 19
  · exact x_swIn T_423_32 (by omega) (by subst e19; decide) (by subst e19; rfl) (law_19 hS hi hL hiL (g19 e19) k)
  by_cases e20 : z = 20
  · exact x_swIn T_423_32 (by omega) (by subst e20; decide) (by subst e20; rfl) (law_20 hS hi hL hiL (g20 e20) k)
  refine x_swOut T_423_32 (by show z < 0 ∨ (0 : Int) + 21 ≤ z; omega) (k σ hS h0)
/-- the loop's end -/
theorem law_done (hS : Scr L xs σ) (hi : 0 ≤ i) (hL : L ≤ 2560) (hiL : (L : Int) < i + 5) (hi2 : i ≤ 2560) (h : Q (some (vI 1)) σ) : WP fb 22 423 18 [some (vR (some 0)), some (vR (some 128)), some (vR (some 2281)), some (vI i)] [] σ Q := by
  have hST := hS.1
  refine x_li T_423_18 rfl ?_
  refine x_lr T_423_19 rfl ?_
  refine x_len T_423_20 hST ?_
  refine x_ic T_423_21 ?_
  refine x_ib T_423_22 (fun h => absurd h.1 (by decide)) (w32_id (by omega) (by omega)) ?_
  refine x_ic2 T_423_23 (fun _ => ?_) (fun h9 => absurd (show i > (L : Int) - 5 by omega) h9)
  refine x_ic T_423_802 ?_
  exact x_rz T_423_803 rfl h
/-- the next turn -/
theorem law_next (hi : 0 ≤ i) (hi2 : i ≤ 2560) (h : WP fb 22 423 18 [some (vR (some 0)), some (vR (some 128)), some (vR (some 2281)), some (vI (i + 5))] [] σ Q) : WP fb 22 423 796 [some (vR (some 0)), some (vR (some 128)), some (vR (some 2281)), some (vI i)] [] σ Q := by
  refine x_inc T_423_796 rfl (w32_id (by omega) (by omega)) rfl ?_
  refine x_goto T_423_799 ?_
  exact h
end LAW
