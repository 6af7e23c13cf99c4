/-! What the reference's servers answer: a wstat as a whole, its numbers and what is done. -/
theorem T_302_0 : hTab 302 0 = some ((3, 0, 2, []), 1) := rfl
theorem T_302_1 : hTab 302 1 = some ((0, 0, 4, []), 2) := rfl
theorem T_302_2 : hTab 302 2 = some ((31, 234, 0, []), 5) := rfl
theorem T_302_5 : hTab 302 5 = some ((4, 3, 1, []), 6) := rfl
theorem T_302_6 : hTab 302 6 = some ((3, 0, 2, []), 7) := rfl
theorem T_302_7 : hTab 302 7 = some ((0, 0, 2, []), 8) := rfl
theorem T_302_8 : hTab 302 8 = some ((31, 234, 0, []), 11) := rfl
theorem T_302_11 : hTab 302 11 = some ((15, 0, 0, []), 12) := rfl
theorem T_302_12 : hTab 302 12 = some ((4, 5, 0, []), 14) := rfl
theorem T_302_14 : hTab 302 14 = some ((3, 0, 2, []), 15) := rfl
theorem T_302_15 : hTab 302 15 = some ((0, 0, 2, []), 16) := rfl
theorem T_302_16 : hTab 302 16 = some ((31, 234, 0, []), 19) := rfl
theorem T_302_19 : hTab 302 19 = some ((15, 0, 0, []), 20) := rfl
theorem T_302_20 : hTab 302 20 = some ((4, 6, 0, []), 22) := rfl
theorem T_302_22 : hTab 302 22 = some ((3, 0, 2, []), 23) := rfl
theorem T_302_23 : hTab 302 23 = some ((0, 0, 2, []), 24) := rfl
theorem T_302_24 : hTab 302 24 = some ((31, 234, 0, []), 27) := rfl
theorem T_302_27 : hTab 302 27 = some ((1, 0, 65535, []), 30) := rfl
theorem T_302_30 : hTab 302 30 = some ((17, 0, 0, []), 31) := rfl
theorem T_302_31 : hTab 302 31 = some ((18, 0, Int.ofNat 38, []), 34) := rfl
theorem T_302_34 : hTab 302 34 = some ((0, 0, 1, []), 35) := rfl
theorem T_302_35 : hTab 302 35 = some ((22, 0, Int.ofNat 39, []), 38) := rfl
theorem T_302_38 : hTab 302 38 = some ((0, 0, 0, []), 39) := rfl
theorem T_302_39 : hTab 302 39 = some ((4, 7, 0, []), 41) := rfl
theorem T_302_41 : hTab 302 41 = some ((3, 0, 2, []), 42) := rfl
theorem T_302_42 : hTab 302 42 = some ((0, 0, 4, []), 43) := rfl
theorem T_302_43 : hTab 302 43 = some ((31, 234, 0, []), 46) := rfl
theorem T_302_46 : hTab 302 46 = some ((1, 0, 4294967295, []), 49) := rfl
theorem T_302_49 : hTab 302 49 = some ((17, 0, 0, []), 50) := rfl
theorem T_302_50 : hTab 302 50 = some ((18, 1, Int.ofNat 58, []), 53) := rfl
theorem T_302_53 : hTab 302 53 = some ((3, 7, 0, []), 55) := rfl
theorem T_302_55 : hTab 302 55 = some ((18, 0, Int.ofNat 62, []), 58) := rfl
theorem T_302_58 : hTab 302 58 = some ((0, 0, 1, []), 59) := rfl
theorem T_302_59 : hTab 302 59 = some ((22, 0, Int.ofNat 63, []), 62) := rfl
theorem T_302_62 : hTab 302 62 = some ((0, 0, 0, []), 63) := rfl
theorem T_302_63 : hTab 302 63 = some ((4, 7, 0, []), 65) := rfl
theorem T_302_65 : hTab 302 65 = some ((3, 0, 2, []), 66) := rfl
theorem T_302_66 : hTab 302 66 = some ((0, 0, 1, []), 67) := rfl
theorem T_302_67 : hTab 302 67 = some ((31, 234, 0, []), 70) := rfl
theorem T_302_70 : hTab 302 70 = some ((1, 0, 255, []), 73) := rfl
theorem T_302_73 : hTab 302 73 = some ((17, 0, 0, []), 74) := rfl
theorem T_302_74 : hTab 302 74 = some ((18, 1, Int.ofNat 82, []), 77) := rfl
theorem T_302_77 : hTab 302 77 = some ((3, 7, 0, []), 79) := rfl
theorem T_302_79 : hTab 302 79 = some ((18, 0, Int.ofNat 86, []), 82) := rfl
theorem T_302_82 : hTab 302 82 = some ((0, 0, 1, []), 83) := rfl
theorem T_302_83 : hTab 302 83 = some ((22, 0, Int.ofNat 87, []), 86) := rfl
theorem T_302_86 : hTab 302 86 = some ((0, 0, 0, []), 87) := rfl
theorem T_302_87 : hTab 302 87 = some ((4, 7, 0, []), 89) := rfl
theorem T_302_89 : hTab 302 89 = some ((3, 0, 2, []), 90) := rfl
theorem T_302_90 : hTab 302 90 = some ((0, 0, 4, []), 91) := rfl
theorem T_302_91 : hTab 302 91 = some ((31, 234, 0, []), 94) := rfl
theorem T_302_94 : hTab 302 94 = some ((1, 0, 4294967295, []), 97) := rfl
theorem T_302_97 : hTab 302 97 = some ((17, 0, 0, []), 98) := rfl
theorem T_302_98 : hTab 302 98 = some ((18, 1, Int.ofNat 106, []), 101) := rfl
theorem T_302_101 : hTab 302 101 = some ((3, 7, 0, []), 103) := rfl
theorem T_302_103 : hTab 302 103 = some ((18, 0, Int.ofNat 110, []), 106) := rfl
theorem T_302_106 : hTab 302 106 = some ((0, 0, 1, []), 107) := rfl
theorem T_302_107 : hTab 302 107 = some ((22, 0, Int.ofNat 111, []), 110) := rfl
theorem T_302_110 : hTab 302 110 = some ((0, 0, 0, []), 111) := rfl
theorem T_302_111 : hTab 302 111 = some ((4, 7, 0, []), 113) := rfl
theorem T_302_113 : hTab 302 113 = some ((3, 0, 2, []), 114) := rfl
theorem T_302_114 : hTab 302 114 = some ((0, 0, 8, []), 116) := rfl
theorem T_302_116 : hTab 302 116 = some ((31, 234, 0, []), 119) := rfl
theorem T_302_119 : hTab 302 119 = some ((1, 0, (-1), []), 122) := rfl
theorem T_302_122 : hTab 302 122 = some ((17, 0, 0, []), 123) := rfl
theorem T_302_123 : hTab 302 123 = some ((18, 1, Int.ofNat 131, []), 126) := rfl
theorem T_302_126 : hTab 302 126 = some ((3, 7, 0, []), 128) := rfl
theorem T_302_128 : hTab 302 128 = some ((18, 0, Int.ofNat 135, []), 131) := rfl
theorem T_302_131 : hTab 302 131 = some ((0, 0, 1, []), 132) := rfl
theorem T_302_132 : hTab 302 132 = some ((22, 0, Int.ofNat 136, []), 135) := rfl
theorem T_302_135 : hTab 302 135 = some ((0, 0, 0, []), 136) := rfl
theorem T_302_136 : hTab 302 136 = some ((4, 7, 0, []), 138) := rfl
theorem T_302_138 : hTab 302 138 = some ((3, 0, 2, []), 139) := rfl
theorem T_302_139 : hTab 302 139 = some ((0, 0, 4, []), 140) := rfl
theorem T_302_140 : hTab 302 140 = some ((31, 234, 0, []), 143) := rfl
theorem T_302_143 : hTab 302 143 = some ((4, 8, 1, []), 145) := rfl
theorem T_302_145 : hTab 302 145 = some ((3, 0, 2, []), 146) := rfl
theorem T_302_146 : hTab 302 146 = some ((0, 0, 4, []), 147) := rfl
theorem T_302_147 : hTab 302 147 = some ((31, 234, 0, []), 150) := rfl
theorem T_302_150 : hTab 302 150 = some ((1, 0, 4294967295, []), 153) := rfl
theorem T_302_153 : hTab 302 153 = some ((17, 0, 0, []), 154) := rfl
theorem T_302_154 : hTab 302 154 = some ((18, 1, Int.ofNat 162, []), 157) := rfl
theorem T_302_157 : hTab 302 157 = some ((3, 7, 0, []), 159) := rfl
theorem T_302_159 : hTab 302 159 = some ((18, 0, Int.ofNat 166, []), 162) := rfl
theorem T_302_162 : hTab 302 162 = some ((0, 0, 1, []), 163) := rfl
theorem T_302_163 : hTab 302 163 = some ((22, 0, Int.ofNat 167, []), 166) := rfl
theorem T_302_166 : hTab 302 166 = some ((0, 0, 0, []), 167) := rfl
theorem T_302_167 : hTab 302 167 = some ((4, 7, 0, []), 169) := rfl
theorem T_302_169 : hTab 302 169 = some ((3, 0, 2, []), 170) := rfl
theorem T_302_170 : hTab 302 170 = some ((0, 0, 4, []), 171) := rfl
theorem T_302_171 : hTab 302 171 = some ((31, 234, 0, []), 174) := rfl
theorem T_302_174 : hTab 302 174 = some ((1, 0, 4294967295, []), 177) := rfl
theorem T_302_177 : hTab 302 177 = some ((17, 0, 0, []), 178) := rfl
theorem T_302_178 : hTab 302 178 = some ((18, 1, Int.ofNat 186, []), 181) := rfl
theorem T_302_181 : hTab 302 181 = some ((3, 7, 0, []), 183) := rfl
theorem T_302_183 : hTab 302 183 = some ((18, 0, Int.ofNat 190, []), 186) := rfl
theorem T_302_186 : hTab 302 186 = some ((0, 0, 1, []), 187) := rfl
theorem T_302_187 : hTab 302 187 = some ((22, 0, Int.ofNat 191, []), 190) := rfl
theorem T_302_190 : hTab 302 190 = some ((0, 0, 0, []), 191) := rfl
theorem T_302_191 : hTab 302 191 = some ((4, 7, 0, []), 193) := rfl
theorem T_302_193 : hTab 302 193 = some ((3, 0, 2, []), 194) := rfl
theorem T_302_194 : hTab 302 194 = some ((0, 0, 8, []), 196) := rfl
theorem T_302_196 : hTab 302 196 = some ((31, 234, 0, []), 199) := rfl
theorem T_302_199 : hTab 302 199 = some ((4, 10, 1, []), 201) := rfl
theorem T_302_201 : hTab 302 201 = some ((0, 0, 0, []), 202) := rfl
theorem T_302_202 : hTab 302 202 = some ((4, 12, 0, []), 204) := rfl
theorem T_302_266 : hTab 302 266 = some ((3, 7, 0, []), 268) := rfl
theorem T_302_268 : hTab 302 268 = some ((18, 1, Int.ofNat 294, []), 271) := rfl
theorem T_302_271 : hTab 302 271 = some ((3, 0, 2, []), 272) := rfl
theorem T_302_272 : hTab 302 272 = some ((24, 17, Int.ofNat 11, []), 275) := rfl
theorem T_302_275 : hTab 302 275 = some ((0, 0, 1, []), 276) := rfl
theorem T_302_276 : hTab 302 276 = some ((26, 0, 0, []), 277) := rfl
theorem T_302_277 : hTab 302 277 = some ((3, 0, 2, []), 278) := rfl
theorem T_302_278 : hTab 302 278 = some ((24, 17, Int.ofNat 11, []), 281) := rfl
theorem T_302_281 : hTab 302 281 = some ((0, 0, 2, []), 282) := rfl
theorem T_302_282 : hTab 302 282 = some ((26, 0, 0, []), 283) := rfl
theorem T_302_283 : hTab 302 283 = some ((10, 0, 0, []), 284) := rfl
theorem T_302_284 : hTab 302 284 = some ((3, 0, 2, []), 285) := rfl
theorem T_302_285 : hTab 302 285 = some ((24, 17, Int.ofNat 11, []), 288) := rfl
theorem T_302_288 : hTab 302 288 = some ((0, 0, 3, []), 289) := rfl
theorem T_302_289 : hTab 302 289 = some ((26, 0, 0, []), 290) := rfl
theorem T_302_290 : hTab 302 290 = some ((10, 0, 0, []), 291) := rfl
theorem T_302_291 : hTab 302 291 = some ((18, 5, Int.ofNat 298, []), 294) := rfl
theorem T_302_294 : hTab 302 294 = some ((0, 0, 1, []), 295) := rfl
theorem T_302_295 : hTab 302 295 = some ((22, 0, Int.ofNat 299, []), 298) := rfl
theorem T_302_298 : hTab 302 298 = some ((0, 0, 0, []), 299) := rfl
theorem T_302_299 : hTab 302 299 = some ((4, 7, 0, []), 301) := rfl
theorem T_302_301 : hTab 302 301 = some ((3, 0, 2, []), 302) := rfl
theorem T_302_302 : hTab 302 302 = some ((24, 17, Int.ofNat 11, []), 305) := rfl
theorem T_302_305 : hTab 302 305 = some ((0, 0, 0, []), 306) := rfl
theorem T_302_306 : hTab 302 306 = some ((26, 0, 0, []), 307) := rfl
theorem T_302_307 : hTab 302 307 = some ((18, 4, Int.ofNat 328, []), 310) := rfl
theorem T_302_310 : hTab 302 310 = some ((3, 8, 1, []), 312) := rfl
theorem T_302_312 : hTab 302 312 = some ((1, 0, 4294967295, []), 315) := rfl
theorem T_302_315 : hTab 302 315 = some ((17, 0, 0, []), 316) := rfl
theorem T_302_316 : hTab 302 316 = some ((18, 1, Int.ofNat 328, []), 319) := rfl
theorem T_302_319 : hTab 302 319 = some ((3, 10, 1, []), 321) := rfl
theorem T_302_321 : hTab 302 321 = some ((1, 0, (-1), []), 324) := rfl
theorem T_302_324 : hTab 302 324 = some ((17, 0, 0, []), 325) := rfl
theorem T_302_325 : hTab 302 325 = some ((18, 0, Int.ofNat 332, []), 328) := rfl
theorem T_302_328 : hTab 302 328 = some ((0, 0, 1, []), 329) := rfl
theorem T_302_329 : hTab 302 329 = some ((22, 0, Int.ofNat 333, []), 332) := rfl
theorem T_302_332 : hTab 302 332 = some ((0, 0, 0, []), 333) := rfl
theorem T_302_333 : hTab 302 333 = some ((4, 12, 0, []), 335) := rfl
theorem T_302_335 : hTab 302 335 = some ((3, 0, 2, []), 336) := rfl
theorem T_302_336 : hTab 302 336 = some ((3, 1, 0, []), 337) := rfl
theorem T_302_337 : hTab 302 337 = some ((3, 2, 0, []), 338) := rfl
theorem T_302_338 : hTab 302 338 = some ((3, 3, 1, []), 339) := rfl
theorem T_302_339 : hTab 302 339 = some ((31, 261, 0, []), 342) := rfl
theorem T_302_342 : hTab 302 342 = some ((4, 13, 0, []), 344) := rfl
theorem T_302_344 : hTab 302 344 = some ((3, 13, 0, []), 346) := rfl
theorem T_302_346 : hTab 302 346 = some ((18, 3, Int.ofNat 354, []), 349) := rfl
theorem T_302_349 : hTab 302 349 = some ((0, 0, 6, []), 351) := rfl
theorem T_302_351 : hTab 302 351 = some ((22, 0, Int.ofNat 388, []), 354) := rfl
theorem T_302_354 : hTab 302 354 = some ((3, 0, 2, []), 355) := rfl
theorem T_302_355 : hTab 302 355 = some ((24, 17, Int.ofNat 34, []), 358) := rfl
theorem T_302_358 : hTab 302 358 = some ((3, 13, 0, []), 360) := rfl
theorem T_302_360 : hTab 302 360 = some ((26, 2, 0, []), 361) := rfl
theorem T_302_361 : hTab 302 361 = some ((18, 0, Int.ofNat 368, []), 364) := rfl
theorem T_302_364 : hTab 302 364 = some ((0, 0, 1, []), 365) := rfl
theorem T_302_365 : hTab 302 365 = some ((22, 0, Int.ofNat 388, []), 368) := rfl
theorem T_302_368 : hTab 302 368 = some ((3, 7, 0, []), 370) := rfl
theorem T_302_370 : hTab 302 370 = some ((18, 1, Int.ofNat 383, []), 373) := rfl
theorem T_302_373 : hTab 302 373 = some ((3, 1, 0, []), 374) := rfl
theorem T_302_374 : hTab 302 374 = some ((0, 0, 2, []), 375) := rfl
theorem T_302_375 : hTab 302 375 = some ((19, 1, Int.ofNat 387, []), 378) := rfl
theorem T_302_378 : hTab 302 378 = some ((3, 12, 0, []), 380) := rfl
theorem T_302_380 : hTab 302 380 = some ((18, 0, Int.ofNat 387, []), 383) := rfl
theorem T_302_383 : hTab 302 383 = some ((0, 0, 3, []), 384) := rfl
theorem T_302_384 : hTab 302 384 = some ((22, 0, Int.ofNat 388, []), 387) := rfl
theorem T_302_387 : hTab 302 387 = some ((0, 0, 0, []), 388) := rfl
theorem T_302_388 : hTab 302 388 = some ((4, 14, 0, []), 390) := rfl
theorem T_302_390 : hTab 302 390 = some ((3, 14, 0, []), 392) := rfl
theorem T_302_392 : hTab 302 392 = some ((18, 1, Int.ofNat 426, []), 395) := rfl
theorem T_302_395 : hTab 302 395 = some ((3, 1, 0, []), 396) := rfl
theorem T_302_396 : hTab 302 396 = some ((0, 0, 2, []), 397) := rfl
theorem T_302_397 : hTab 302 397 = some ((19, 3, Int.ofNat 426, []), 400) := rfl
theorem T_302_400 : hTab 302 400 = some ((3, 0, 2, []), 401) := rfl
theorem T_302_401 : hTab 302 401 = some ((3, 1, 0, []), 402) := rfl
theorem T_302_402 : hTab 302 402 = some ((3, 0, 2, []), 403) := rfl
theorem T_302_403 : hTab 302 403 = some ((24, 17, Int.ofNat 30, []), 406) := rfl
theorem T_302_406 : hTab 302 406 = some ((3, 13, 0, []), 408) := rfl
theorem T_302_408 : hTab 302 408 = some ((26, 0, 0, []), 409) := rfl
theorem T_302_409 : hTab 302 409 = some ((3, 0, 2, []), 410) := rfl
theorem T_302_410 : hTab 302 410 = some ((24, 17, Int.ofNat 32, []), 413) := rfl
theorem T_302_413 : hTab 302 413 = some ((3, 13, 0, []), 415) := rfl
theorem T_302_415 : hTab 302 415 = some ((26, 0, 0, []), 416) := rfl
theorem T_302_416 : hTab 302 416 = some ((3, 8, 1, []), 418) := rfl
theorem T_302_418 : hTab 302 418 = some ((3, 10, 1, []), 420) := rfl
theorem T_302_420 : hTab 302 420 = some ((31, 303, 0, []), 423) := rfl
theorem T_302_423 : hTab 302 423 = some ((22, 0, Int.ofNat 428, []), 426) := rfl
theorem T_302_426 : hTab 302 426 = some ((3, 14, 0, []), 428) := rfl
theorem T_302_428 : hTab 302 428 = some ((4, 14, 0, []), 430) := rfl
theorem T_302_430 : hTab 302 430 = some ((3, 14, 0, []), 432) := rfl
theorem T_302_432 : hTab 302 432 = some ((18, 5, Int.ofNat 442, []), 435) := rfl
theorem T_302_435 : hTab 302 435 = some ((3, 0, 2, []), 436) := rfl
theorem T_302_436 : hTab 302 436 = some ((3, 14, 0, []), 438) := rfl
theorem T_302_438 : hTab 302 438 = some ((31, 235, 0, []), 441) := rfl
theorem T_302_441 : hTab 302 441 = some ((33, 0, 0, []), 442) := rfl
theorem T_302_442 : hTab 302 442 = some ((3, 1, 0, []), 443) := rfl
theorem T_302_443 : hTab 302 443 = some ((0, 0, 2, []), 444) := rfl
theorem T_302_444 : hTab 302 444 = some ((19, 3, Int.ofNat 475, []), 447) := rfl
theorem T_302_447 : hTab 302 447 = some ((3, 12, 0, []), 449) := rfl
theorem T_302_449 : hTab 302 449 = some ((18, 0, Int.ofNat 475, []), 452) := rfl
theorem T_302_452 : hTab 302 452 = some ((3, 0, 2, []), 453) := rfl
theorem T_302_453 : hTab 302 453 = some ((3, 1, 0, []), 454) := rfl
theorem T_302_454 : hTab 302 454 = some ((3, 0, 2, []), 455) := rfl
theorem T_302_455 : hTab 302 455 = some ((24, 17, Int.ofNat 30, []), 458) := rfl
theorem T_302_458 : hTab 302 458 = some ((3, 13, 0, []), 460) := rfl
theorem T_302_460 : hTab 302 460 = some ((26, 0, 0, []), 461) := rfl
theorem T_302_461 : hTab 302 461 = some ((3, 0, 2, []), 462) := rfl
theorem T_302_462 : hTab 302 462 = some ((24, 17, Int.ofNat 32, []), 465) := rfl
theorem T_302_465 : hTab 302 465 = some ((3, 13, 0, []), 467) := rfl
theorem T_302_467 : hTab 302 467 = some ((26, 0, 0, []), 468) := rfl
theorem T_302_468 : hTab 302 468 = some ((3, 8, 1, []), 470) := rfl
theorem T_302_470 : hTab 302 470 = some ((3, 10, 1, []), 472) := rfl
theorem T_302_472 : hTab 302 472 = some ((31, 304, 0, []), 475) := rfl
theorem T_302_475 : hTab 302 475 = some ((3, 0, 2, []), 476) := rfl
theorem T_302_476 : hTab 302 476 = some ((0, 0, 127, []), 478) := rfl
theorem T_302_478 : hTab 302 478 = some ((31, 236, 0, []), 481) := rfl
theorem T_302_481 : hTab 302 481 = some ((33, 0, 0, []), 482) := rfl
def wsX (P : qR) (s k oth ys y md ln : Int) (nm : List Int) : Int := if k < 0 then 6 else if ¬ P 2310 k = 0 then 1 else if (¬ oth = 0 ∨ 0 < ys) ∨ (s = 2 ∧ (0 < y ∨ ¬ md = 4294967295 ∨ ¬ ln = -1)) then 3 else if s < 2 then qChg P s (P 2306 k) (P 2308 k) md ln y nm else 0
def wsP (P : qR) (s k y md ln : Int) (nm : List Int) : qR := if s < 2 ∧ (0 < y ∨ ¬ md = 4294967295 ∨ ¬ ln = -1) then gChg P s (P 2306 k) (P 2308 k) md ln y nm else P
theorem qChg_v (P : qR) (s n u md ln y : Int) (nm : List Int) : (qChg P s n u md ln y nm = 0 ∧ (0 < y → nmOk nm = true) ∧ (¬ ln = -1 → 0 ≤ ln ∧ ln ≤ 600)) ∨ (1 ≤ qChg P s n u md ln y nm ∧ qChg P s n u md ln y nm ≤ 16) := by
  unfold qChg
  by_cases c1 : 0 < y ∧ ¬ nmOk nm = true
  · (repeat' split) <;> first | exact Or.inr (by decide) | exact absurd c1 (by assumption)
  · by_cases c2 : ¬ ln = -1 ∧ (¬ (0 ≤ ln ∧ ln ≤ 600) ∨ 8192 < P 2301 s - P 2297 (64 * s + n) + ln)
    · (repeat' split) <;> first | exact Or.inr (by decide) | exact absurd c2 (by assumption)
    · have l1 : 0 < y → nmOk nm = true := fun q => Classical.byContradiction (fun q2 => c1 ⟨q, q2⟩)
      have l2 : ¬ ln = -1 → 0 ≤ ln ∧ ln ≤ 600 := fun q => Classical.byContradiction (fun q2 => c2 ⟨q, Or.inl q2⟩)
      (repeat' split) <;> first | exact Or.inr (by decide) | exact Or.inl ⟨rfl, l1, l2⟩
section MWSTAT3
variable {fb : Bool} {d : Nat} {σ0 σ : hM} {P Q S S1 : qR} {T U s n u c t p z : Int} {st : List (Int × Int)} {q0 q1 q2 q3 : Int × Int}
theorem m_wst_nums {v n sz x1 x2 x3 x4 x5 md x6 x7 ln p1 p2 p3 p4 p5 p6 p7 p8 p9 p10 p11 p12 : Int} {Q : Option AV → hM → Prop} (hb : ∀ j, 0 ≤ j → j < S 2281 4 → 0 ≤ S 2285 j ∧ S 2285 j ≤ 255)
    (hP : PM σ0 P S1 σ) (hR : RS T U S S1 7 [])
    (a0 : av (S 2281 4) 7 4 = p1) (a1 : av (S 2281 4) p1 2 = p2) (a2 : av (S 2281 4) p2 2 = p3) (a3 : av (S 2281 4) p3 2 = p4) (a4 : av (S 2281 4) p4 4 = p5) (a5 : av (S 2281 4) p5 1 = p6) (a6 : av (S 2281 4) p6 4 = p7) (a7 : av (S 2281 4) p7 8 = p8) (a8 : av (S 2281 4) p8 4 = p9) (a9 : av (S 2281 4) p9 4 = p10) (a10 : av (S 2281 4) p10 4 = p11) (a11 : av (S 2281 4) p11 8 = p12)
    (h_v : nv (S 2285) (S 2281 4) 7 4 = v) (h_n : nv (S 2285) (S 2281 4) p1 2 = n) (h_sz : nv (S 2285) (S 2281 4) p2 2 = sz) (h_x1 : nv (S 2285) (S 2281 4) p3 2 = x1) (h_x2 : nv (S 2285) (S 2281 4) p4 4 = x2) (h_x3 : nv (S 2285) (S 2281 4) p5 1 = x3) (h_x4 : nv (S 2285) (S 2281 4) p6 4 = x4) (h_x5 : nv (S 2285) (S 2281 4) p7 8 = x5) (h_md : nv (S 2285) (S 2281 4) p8 4 = md) (h_x6 : nv (S 2285) (S 2281 4) p9 4 = x6) (h_x7 : nv (S 2285) (S 2281 4) p10 4 = x7) (h_ln : nv (S 2285) (S 2281 4) p11 8 = ln)
    (hQ : ∀ σ S1 oth, PM σ0 P S1 σ → RS T U S S1 p12 [] → oth = (if ¬ x7 = 4294967295 ∨ ¬ x6 = 4294967295 ∨ ¬ x5 = -1 ∨ ¬ x4 = 4294967295 ∨ ¬ x3 = 255 ∨ ¬ x2 = 4294967295 ∨ ¬ x1 = 65535 then 1 else 0) → WP fb (d + 2) 302 204 [some (vR (some 2281)), some (vI s), some (vI c), some (vL v), none, some (vI n), some (vI sz), some (vI oth), some (vL md), none, some (vL ln), none, some (vI 0), none, none] [] σ Q) :
    WP fb (d + 2) 302 0 [some (vR (some 2281)), some (vI s), some (vI c), none, none, none, none, none, none, none, none, none, none, none, none] [] σ Q := by
  have hn : 0 ≤ n ∧ n ≤ 65535 := nv_two hb h_n
  have hsz : 0 ≤ sz ∧ sz ≤ 65535 := nv_two hb h_sz
  refine x_lr (z := some 2281) T_302_0 rfl ?_
  refine x_ic T_302_1 ?_
  refine x_cv2 T_302_2 mN_234 mL_234 (Nat.le_of_ble_eq_true rfl) mO_234 (PM.t hP) (Nat.le_of_ble_eq_true rfl) (r_num 4 rfl hP hR (by decide) h_v) ?_
  rintro _ σ ⟨rfl, S1, hP, hR⟩
  rw [a0] at hR
  refine cL ?_
  refine x_sl (ls1 := [some (vR (some 2281)), some (vI s), some (vI c), some (vL v), none, none, none, none, none, none, none, none, none, none, none]) T_302_5 rfl ?_
  refine x_lr (z := some 2281) T_302_6 rfl ?_
  refine x_ic T_302_7 ?_
  refine x_cv2 T_302_8 mN_234 mL_234 (Nat.le_of_ble_eq_true rfl) mO_234 (PM.t hP) (Nat.le_of_ble_eq_true rfl) (r_num 2 rfl hP hR (by decide) h_n) ?_
  rintro _ σ ⟨rfl, S1, hP, hR⟩
  rw [a1] at hR
  refine cL ?_
  refine x_l2i (w := n) T_302_11 (w32_id (by omega) (by omega)) ?_
  refine x_si (ls1 := [some (vR (some 2281)), some (vI s), some (vI c), some (vL v), none, some (vI n), none, none, none, none, none, none, none, none, none]) T_302_12 rfl ?_
  refine x_lr (z := some 2281) T_302_14 rfl ?_
  refine x_ic T_302_15 ?_
  refine x_cv2 T_302_16 mN_234 mL_234 (Nat.le_of_ble_eq_true rfl) mO_234 (PM.t hP) (Nat.le_of_ble_eq_true rfl) (r_num 2 rfl hP hR (by decide) h_sz) ?_
  rintro _ σ ⟨rfl, S1, hP, hR⟩
  rw [a2] at hR
  refine cL ?_
  refine x_l2i (w := sz) T_302_19 (w32_id (by omega) (by omega)) ?_
  refine x_si (ls1 := [some (vR (some 2281)), some (vI s), some (vI c), some (vL v), none, some (vI n), some (vI sz), none, none, none, none, none, none, none, none]) T_302_20 rfl ?_
  refine x_lr (z := some 2281) T_302_22 rfl ?_
  refine x_ic T_302_23 ?_
  refine x_cv2 T_302_24 mN_234 mL_234 (Nat.le_of_ble_eq_true rfl) mO_234 (PM.t hP) (Nat.le_of_ble_eq_true rfl) (r_num 2 rfl hP hR (by decide) h_x1) ?_
  rintro _ σ ⟨rfl, S1, hP, hR⟩
  rw [a3] at hR
  refine cL ?_
  refine x_cut (C := ¬ x1 = 65535) (J := 39) (ls1 := [some (vR (some 2281)), some (vI s), some (vI c), some (vL v), none, some (vI n), some (vI sz), none, none, none, none, none, none, none, none]) (sk := fun z => vI z :: []) (fun z39 hz39 => ?_) (fun kJ39 => ?_)
  · refine x_si (ls1 := [some (vR (some 2281)), some (vI s), some (vI c), some (vL v), none, some (vI n), some (vI sz), some (vI z39), none, none, none, none, none, none, none]) T_302_39 rfl ?_
    refine x_lr (z := some 2281) T_302_41 rfl ?_
    refine x_ic T_302_42 ?_
    refine x_cv2 T_302_43 mN_234 mL_234 (Nat.le_of_ble_eq_true rfl) mO_234 (PM.t hP) (Nat.le_of_ble_eq_true rfl) (r_num 4 rfl hP hR (by decide) h_x2) ?_
    rintro _ σ ⟨rfl, S1, hP, hR⟩
    rw [a4] at hR
    refine cL ?_
    refine x_cut (C := ¬ x2 = 4294967295 ∨ ¬ x1 = 65535) (J := 63) (ls1 := [some (vR (some 2281)), some (vI s), some (vI c), some (vL v), none, some (vI n), some (vI sz), some (vI z39), none, none, none, none, none, none, none]) (sk := fun z => vI z :: []) (fun z63 hz63 => ?_) (fun kJ63 => ?_)
    · refine x_si (ls1 := [some (vR (some 2281)), some (vI s), some (vI c), some (vL v), none, some (vI n), some (vI sz), some (vI z63), none, none, none, none, none, none, none]) T_302_63 rfl ?_
      refine x_lr (z := some 2281) T_302_65 rfl ?_
      refine x_ic T_302_66 ?_
      refine x_cv2 T_302_67 mN_234 mL_234 (Nat.le_of_ble_eq_true rfl) mO_234 (PM.t hP) (Nat.le_of_ble_eq_true rfl) (r_num 1 rfl hP hR (by decide) h_x3) ?_
      rintro _ σ ⟨rfl, S1, hP, hR⟩
      rw [a5] at hR
      refine cL ?_
      refine x_cut (C := ¬ x3 = 255 ∨ ¬ x2 = 4294967295 ∨ ¬ x1 = 65535) (J := 87) (ls1 := [some (vR (some 2281)), some (vI s), some (vI c), some (vL v), none, some (vI n), some (vI sz), some (vI z63), none, none, none, none, none, none, none]) (sk := fun z => vI z :: []) (fun z87 hz87 => ?_) (fun kJ87 => ?_)
      · refine x_si (ls1 := [some (vR (some 2281)), some (vI s), some (vI c), some (vL v), none, some (vI n), some (vI sz), some (vI z87), none, none, none, none, none, none, none]) T_302_87 rfl ?_
        refine x_lr (z := some 2281) T_302_89 rfl ?_
        refine x_ic T_302_90 ?_
        refine x_cv2 T_302_91 mN_234 mL_234 (Nat.le_of_ble_eq_true rfl) mO_234 (PM.t hP) (Nat.le_of_ble_eq_true rfl) (r_num 4 rfl hP hR (by decide) h_x4) ?_
        rintro _ σ ⟨rfl, S1, hP, hR⟩
        rw [a6] at hR
        refine cL ?_
        refine x_cut (C := ¬ x4 = 4294967295 ∨ ¬ x3 = 255 ∨ ¬ x2 = 4294967295 ∨ ¬ x1 = 65535) (J := 111) (ls1 := [some (vR (some 2281)), some (vI s), some (vI c), some (vL v), none, some (vI n), some (vI sz), some (vI z87), none, none, none, none, none, none, none]) (sk := fun z => vI z :: []) (fun z111 hz111 => ?_) (fun kJ111 => ?_)
        · refine x_si (ls1 := [some (vR (some 2281)), some (vI s), some (vI c), some (vL v), none, some (vI n), some (vI sz), some (vI z111), none, none, none, none, none, none, none]) T_302_111 rfl ?_
          refine x_lr (z := some 2281) T_302_113 rfl ?_
          refine x_ic T_302_114 ?_
          refine x_cv2 T_302_116 mN_234 mL_234 (Nat.le_of_ble_eq_true rfl) mO_234 (PM.t hP) (Nat.le_of_ble_eq_true rfl) (r_num 8 rfl hP hR (by decide) h_x5) ?_
          rintro _ σ ⟨rfl, S1, hP, hR⟩
          rw [a7] at hR
          refine cL ?_
          refine x_cut (C := ¬ x5 = -1 ∨ ¬ x4 = 4294967295 ∨ ¬ x3 = 255 ∨ ¬ x2 = 4294967295 ∨ ¬ x1 = 65535) (J := 136) (ls1 := [some (vR (some 2281)), some (vI s), some (vI c), some (vL v), none, some (vI n), some (vI sz), some (vI z111), none, none, none, none, none, none, none]) (sk := fun z => vI z :: []) (fun z136 hz136 => ?_) (fun kJ136 => ?_)
          · refine x_si (ls1 := [some (vR (some 2281)), some (vI s), some (vI c), some (vL v), none, some (vI n), some (vI sz), some (vI z136), none, none, none, none, none, none, none]) T_302_136 rfl ?_
            refine x_lr (z := some 2281) T_302_138 rfl ?_
            refine x_ic T_302_139 ?_
            refine x_cv2 T_302_140 mN_234 mL_234 (Nat.le_of_ble_eq_true rfl) mO_234 (PM.t hP) (Nat.le_of_ble_eq_true rfl) (r_num 4 rfl hP hR (by decide) h_md) ?_
            rintro _ σ ⟨rfl, S1, hP, hR⟩
            rw [a8] at hR
            refine cL ?_
            refine x_sl (ls1 := [some (vR (some 2281)), some (vI s), some (vI c), some (vL v), none, some (vI n), some (vI sz), some (vI z136), some (vL md), none, none, none, none, none, none]) T_302_143 rfl ?_
            refine x_lr (z := some 2281) T_302_145 rfl ?_
            refine x_ic T_302_146 ?_
            refine x_cv2 T_302_147 mN_234 mL_234 (Nat.le_of_ble_eq_true rfl) mO_234 (PM.t hP) (Nat.le_of_ble_eq_true rfl) (r_num 4 rfl hP hR (by decide) h_x6) ?_
            rintro _ σ ⟨rfl, S1, hP, hR⟩
            rw [a9] at hR
            refine cL ?_
            refine x_cut (C := ¬ x6 = 4294967295 ∨ ¬ x5 = -1 ∨ ¬ x4 = 4294967295 ∨ ¬ x3 = 255 ∨ ¬ x2 = 4294967295 ∨ ¬ x1 = 65535) (J := 167) (ls1 := [some (vR (some 2281)), some (vI s), some (vI c), some (vL v), none, some (vI n), some (vI sz), some (vI z136), some (vL md), none, none, none, none, none, none]) (sk := fun z => vI z :: []) (fun z167 hz167 => ?_) (fun kJ167 => ?_)
            · refine x_si (ls1 := [some (vR (some 2281)), some (vI s), some (vI c), some (vL v), none, some (vI n), some (vI sz), some (vI z167), some (vL md), none, none, none, none, none, none]) T_302_167 rfl ?_
              refine x_lr (z := some 2281) T_302_169 rfl ?_
              refine x_ic T_302_170 ?_
              refine x_cv2 T_302_171 mN_234 mL_234 (Nat.le_of_ble_eq_true rfl) mO_234 (PM.t hP) (Nat.le_of_ble_eq_true rfl) (r_num 4 rfl hP hR (by decide) h_x7) ?_
              rintro _ σ ⟨rfl, S1, hP, hR⟩
              rw [a10] at hR
              refine cL ?_
              refine x_cut (C := ¬ x7 = 4294967295 ∨ ¬ x6 = 4294967295 ∨ ¬ x5 = -1 ∨ ¬ x4 = 4294967295 ∨ ¬ x3 = 255 ∨ ¬ x2 = 4294967295 ∨ ¬ x1 = 65535) (J := 191) (ls1 := [some (vR (some 2281)), some (vI s), some (vI c), some (vL v), none, some (vI n), some (vI sz), some (vI z167), some (vL md), none, none, none, none, none, none]) (sk := fun z => vI z :: []) (fun z191 hz191 => ?_) (fun kJ191 => ?_)
              · refine x_si (ls1 := [some (vR (some 2281)), some (vI s), some (vI c), some (vL v), none, some (vI n), some (vI sz), some (vI z191), some (vL md), none, none, none, none, none, none]) T_302_191 rfl ?_
                refine x_lr (z := some 2281) T_302_193 rfl ?_
                refine x_ic T_302_194 ?_
                refine x_cv2 T_302_196 mN_234 mL_234 (Nat.le_of_ble_eq_true rfl) mO_234 (PM.t hP) (Nat.le_of_ble_eq_true rfl) (r_num 8 rfl hP hR (by decide) h_ln) ?_
                rintro _ σ ⟨rfl, S1, hP, hR⟩
                rw [a11] at hR
                refine cL ?_
                refine x_sl (ls1 := [some (vR (some 2281)), some (vI s), some (vI c), some (vL v), none, some (vI n), some (vI sz), some (vI z191), some (vL md), none, some (vL ln), none, none, none, none]) T_302_199 rfl ?_
                refine x_ic T_302_201 ?_
                refine x_si (ls1 := [some (vR (some 2281)), some (vI s), some (vI c), some (vL v), none, some (vI n), some (vI sz), some (vI z191), some (vL md), none, some (vL ln), none, some (vI 0), none, none]) T_302_202 rfl ?_
                exact hQ σ S1 _ hP hR hz191
              · refine x_lc T_302_174 ?_
                refine x_lif T_302_177 T_302_178 (fun h178 => ?_) (fun h178 => ?_)
                · replace h178 : ¬ x7 = 4294967295 := h178
                  refine x_ic T_302_186 ?_
                  refine x_goto T_302_187 ?_
                  exact kJ191 1 (if_pos (by omega)).symm
                · replace h178 : ¬ (¬ x7 = 4294967295) := h178
                  refine x_li (z := z167) T_302_181 rfl ?_
                  refine x_if T_302_183 (fun h183 => ?_) (fun h183 => ?_)
                  · replace h183 : ¬ (¬ x6 = 4294967295 ∨ ¬ x5 = -1 ∨ ¬ x4 = 4294967295 ∨ ¬ x3 = 255 ∨ ¬ x2 = 4294967295 ∨ ¬ x1 = 65535) := ite1_z (hz167.symm.trans h183)
                    refine x_ic T_302_190 ?_
                    exact kJ191 0 (if_neg (by omega)).symm
                  · replace h183 : (¬ x6 = 4294967295 ∨ ¬ x5 = -1 ∨ ¬ x4 = 4294967295 ∨ ¬ x3 = 255 ∨ ¬ x2 = 4294967295 ∨ ¬ x1 = 65535) := ite1_n (fun e => h183 (hz167.trans e))
                    refine x_ic T_302_186 ?_
                    refine x_goto T_302_187 ?_
                    exact kJ191 1 (if_pos (by omega)).symm
            · refine x_lc T_302_150 ?_
              refine x_lif T_302_153 T_302_154 (fun h154 => ?_) (fun h154 => ?_)
              · replace h154 : ¬ x6 = 4294967295 := h154
                refine x_ic T_302_162 ?_
                refine x_goto T_302_163 ?_
                exact kJ167 1 (if_pos (by omega)).symm
              · replace h154 : ¬ (¬ x6 = 4294967295) := h154
                refine x_li (z := z136) T_302_157 rfl ?_
                refine x_if T_302_159 (fun h159 => ?_) (fun h159 => ?_)
                · replace h159 : ¬ (¬ x5 = -1 ∨ ¬ x4 = 4294967295 ∨ ¬ x3 = 255 ∨ ¬ x2 = 4294967295 ∨ ¬ x1 = 65535) := ite1_z (hz136.symm.trans h159)
                  refine x_ic T_302_166 ?_
                  exact kJ167 0 (if_neg (by omega)).symm
                · replace h159 : (¬ x5 = -1 ∨ ¬ x4 = 4294967295 ∨ ¬ x3 = 255 ∨ ¬ x2 = 4294967295 ∨ ¬ x1 = 65535) := ite1_n (fun e => h159 (hz136.trans e))
                  refine x_ic T_302_162 ?_
                  refine x_goto T_302_163 ?_
                  exact kJ167 1 (if_pos (by omega)).symm
          · refine x_lc T_302_119 ?_
            refine x_lif T_302_122 T_302_123 (fun h123 => ?_) (fun h123 => ?_)
            · replace h123 : ¬ x5 = (-1) := h123
              refine x_ic T_302_131 ?_
              refine x_goto T_302_132 ?_
              exact kJ136 1 (if_pos (by omega)).symm
            · replace h123 : ¬ (¬ x5 = (-1)) := h123
              refine x_li (z := z111) T_302_126 rfl ?_
              refine x_if T_302_128 (fun h128 => ?_) (fun h128 => ?_)
              · replace h128 : ¬ (¬ x4 = 4294967295 ∨ ¬ x3 = 255 ∨ ¬ x2 = 4294967295 ∨ ¬ x1 = 65535) := ite1_z (hz111.symm.trans h128)
                refine x_ic T_302_135 ?_
                exact kJ136 0 (if_neg (by omega)).symm
              · replace h128 : (¬ x4 = 4294967295 ∨ ¬ x3 = 255 ∨ ¬ x2 = 4294967295 ∨ ¬ x1 = 65535) := ite1_n (fun e => h128 (hz111.trans e))
                refine x_ic T_302_131 ?_
                refine x_goto T_302_132 ?_
                exact kJ136 1 (if_pos (by omega)).symm
        · refine x_lc T_302_94 ?_
          refine x_lif T_302_97 T_302_98 (fun h98 => ?_) (fun h98 => ?_)
          · replace h98 : ¬ x4 = 4294967295 := h98
            refine x_ic T_302_106 ?_
            refine x_goto T_302_107 ?_
            exact kJ111 1 (if_pos (by omega)).symm
          · replace h98 : ¬ (¬ x4 = 4294967295) := h98
            refine x_li (z := z87) T_302_101 rfl ?_
            refine x_if T_302_103 (fun h103 => ?_) (fun h103 => ?_)
            · replace h103 : ¬ (¬ x3 = 255 ∨ ¬ x2 = 4294967295 ∨ ¬ x1 = 65535) := ite1_z (hz87.symm.trans h103)
              refine x_ic T_302_110 ?_
              exact kJ111 0 (if_neg (by omega)).symm
            · replace h103 : (¬ x3 = 255 ∨ ¬ x2 = 4294967295 ∨ ¬ x1 = 65535) := ite1_n (fun e => h103 (hz87.trans e))
              refine x_ic T_302_106 ?_
              refine x_goto T_302_107 ?_
              exact kJ111 1 (if_pos (by omega)).symm
      · refine x_lc T_302_70 ?_
        refine x_lif T_302_73 T_302_74 (fun h74 => ?_) (fun h74 => ?_)
        · replace h74 : ¬ x3 = 255 := h74
          refine x_ic T_302_82 ?_
          refine x_goto T_302_83 ?_
          exact kJ87 1 (if_pos (by omega)).symm
        · replace h74 : ¬ (¬ x3 = 255) := h74
          refine x_li (z := z63) T_302_77 rfl ?_
          refine x_if T_302_79 (fun h79 => ?_) (fun h79 => ?_)
          · replace h79 : ¬ (¬ x2 = 4294967295 ∨ ¬ x1 = 65535) := ite1_z (hz63.symm.trans h79)
            refine x_ic T_302_86 ?_
            exact kJ87 0 (if_neg (by omega)).symm
          · replace h79 : (¬ x2 = 4294967295 ∨ ¬ x1 = 65535) := ite1_n (fun e => h79 (hz63.trans e))
            refine x_ic T_302_82 ?_
            refine x_goto T_302_83 ?_
            exact kJ87 1 (if_pos (by omega)).symm
    · refine x_lc T_302_46 ?_
      refine x_lif T_302_49 T_302_50 (fun h50 => ?_) (fun h50 => ?_)
      · replace h50 : ¬ x2 = 4294967295 := h50
        refine x_ic T_302_58 ?_
        refine x_goto T_302_59 ?_
        exact kJ63 1 (if_pos (by omega)).symm
      · replace h50 : ¬ (¬ x2 = 4294967295) := h50
        refine x_li (z := z39) T_302_53 rfl ?_
        refine x_if T_302_55 (fun h55 => ?_) (fun h55 => ?_)
        · replace h55 : ¬ (¬ x1 = 65535) := ite1_z (hz39.symm.trans h55)
          refine x_ic T_302_62 ?_
          exact kJ63 0 (if_neg (by omega)).symm
        · replace h55 : (¬ x1 = 65535) := ite1_n (fun e => h55 (hz39.trans e))
          refine x_ic T_302_58 ?_
          refine x_goto T_302_59 ?_
          exact kJ63 1 (if_pos (by omega)).symm
  · refine x_lc T_302_27 ?_
    refine x_lif T_302_30 T_302_31 (fun h31 => ?_) (fun h31 => ?_)
    · replace h31 : x1 = 65535 := h31
      refine x_ic T_302_38 ?_
      exact kJ39 0 (if_neg (by omega)).symm
    · replace h31 : ¬ (x1 = 65535) := h31
      refine x_ic T_302_34 ?_
      refine x_goto T_302_35 ?_
      exact kJ39 1 (if_pos (by omega)).symm
theorem m_wst_rest {v n sz oth md ln i x k : Int} {y0 y1 y2 y3 : Int} {o : Int} (hP : PM σ0 P S1 σ) (hR : RS T U S S1 p [(o, y0), q1, q2, q3]) (hI : IV false T U P) (hT : T ≤ 2147483000) (hs : 0 ≤ s ∧ s < 3) (hc : 0 ≤ c ∧ c < 2) (h0 : S 2281 7 = 0) (e1 : q1.2 = y1) (e2 : q2.2 = y2) (e3 : q3.2 = y3) (ho : 0 ≤ o ∧ 0 ≤ y0 ∧ o + y0 ≤ 512) (hy : 0 ≤ y1 ∧ y1 ≤ 512 ∧ 0 ≤ y2 ∧ y2 ≤ 512 ∧ 0 ≤ y3 ∧ y3 ≤ 512) (hoth : oth = 0 ∨ oth = 1) (hl : -9223372036854775808 ≤ ln ∧ ln ≤ 9223372036854775807) (hk0 : qFid P s c v = k) (hx : wsX P s k oth (y1 + y2 + y3) y0 md ln (seg (S 2285) o y0.toNat) = x) : WP fb (d + 6) 302 266 [some (vR (some 2281)), some (vI s), some (vI c), some (vL v), none, some (vI n), some (vI sz), some (vI oth), some (vL md), none, some (vL ln), none, some (vI i), none, none] [] σ (SV T U σ0 S (if x = 0 then wsP P s k y0 md ln (seg (S 2285) o y0.toNat) else P) x 127 []) := by
  have f0 := hR.st0
  have f1 := hR.st1
  have f2 := hR.st2
  have f3 := hR.st3
  rw [e1] at f1
  rw [e2] at f2
  rw [e3] at f3
  have g0 : S1 2288 0 = y0 := f0.2
  have g1 : S1 2288 1 = y1 := f1.2
  have g2 : S1 2288 2 = y2 := f2.2
  have g3 : S1 2288 3 = y3 := f3.2
  have hk := qFid_rng (P := P) (s := s) (c := c) v hs hc
  rw [hk0] at hk
  have hkr : k < 0 ∨ (0 ≤ k ∧ k < 288 ∧ 96 * s ≤ k ∧ k < 96 * s + 96) := by omega
  clear hk
  obtain ⟨nm, hnm⟩ : ∃ nm, seg (S 2285) o y0.toNat = nm := ⟨_, rfl⟩
  rw [hnm] at hx ⊢
  unfold wsX at hx
  obtain ⟨r, hr⟩ : ∃ r, qChg P s (P 2306 k) (P 2308 k) md ln y0 nm = r := ⟨_, rfl⟩
  rw [hr] at hx
  have hrv := qChg_v P s (P 2306 k) (P 2308 k) md ln y0 nm
  rw [hr] at hrv
  have hnb : ∀ j : Int, 0 ≤ j → j < 192 → 0 ≤ P 2306 j ∧ P 2306 j ≤ 63 := fun j h1 h2 => by
    have b : 0 ≤ P 2306 j ∧ P 2306 j ≤ (if j < 192 then 63 else 143) := IV.a hI 2306 0 288 rfl rfl rfl h1 (by omega)
    rw [if_pos h2] at b
    exact b
  have hy12 : r ≤ 0 → y0 ≤ 12 := fun h1 => by
    by_cases h2 : 0 < y0
    · have h3 := (hrv.resolve_right (by omega)).2.1 h2
      rw [← hnm] at h3
      have := (nmOk_seg.mp h3).1
      omega
    · omega
  have hlb : r ≤ 0 → ¬ ln = -1 → 0 ≤ ln ∧ ln ≤ 600 := fun h1 => (hrv.resolve_right (by omega)).2.2
  have hr0 : 0 ≤ r ∧ r ≤ 16 := by
    rcases hrv with h | h
    · rw [h.1]
      decide
    · omega
  clear hrv
  have bad : ∀ (e : Int) {σ : hM}, PM σ0 P (rfs S1 e) σ → 1 ≤ e ∧ e ≤ 16 → e = x → SV T U σ0 S (if x = 0 then wsP P s k y0 md ln nm else P) x 127 [] none σ := by
    intro e σ hP he hex
    exact SV_not hP hR he (if_neg (by omega)) hex.symm
  refine x_cut (C := ¬ oth = 0 ∨ 0 < y1 + y2 + y3) (J := 299) (ls1 := [some (vR (some 2281)), some (vI s), some (vI c), some (vL v), none, some (vI n), some (vI sz), some (vI oth), some (vL md), none, some (vL ln), none, some (vI i), none, none]) (sk := fun z => vI z :: []) (fun z299 hz299 => ?_) (fun kJ299 => ?_)
  · refine x_si (ls1 := [some (vR (some 2281)), some (vI s), some (vI c), some (vL v), none, some (vI n), some (vI sz), some (vI z299), some (vL md), none, some (vL ln), none, some (vI i), none, none]) T_302_299 rfl ?_
    refine x_cut (C := 0 < y0 ∨ ¬ md = 4294967295 ∨ ¬ ln = -1) (J := 333) (ls1 := [some (vR (some 2281)), some (vI s), some (vI c), some (vL v), none, some (vI n), some (vI sz), some (vI z299), some (vL md), none, some (vL ln), none, some (vI i), none, none]) (sk := fun z => vI z :: []) (fun z333 hz333 => ?_) (fun kJ333 => ?_)
    · refine x_si (ls1 := [some (vR (some 2281)), some (vI s), some (vI c), some (vL v), none, some (vI n), some (vI sz), some (vI z299), some (vL md), none, some (vL ln), none, some (vI z333), none, none]) T_302_333 rfl ?_
      refine x_lr (z := some 2281) T_302_335 rfl ?_
      refine x_li (z := s) T_302_336 rfl ?_
      refine x_li (z := c) T_302_337 rfl ?_
      refine x_ll (z := v) T_302_338 rfl ?_
      refine x_cv4 T_302_339 mN_261 mL_261 (Nat.le_of_ble_eq_true rfl) mO_261 (PM.t hP) (Nat.le_of_ble_eq_true rfl) (CL_val (m_findFid hP (by omega) (by omega)) hk0) ?_
      rintro _ σ ⟨rfl, rfl⟩
      refine cI ?_
      refine x_si (ls1 := [some (vR (some 2281)), some (vI s), some (vI c), some (vL v), none, some (vI n), some (vI sz), some (vI z299), some (vL md), none, some (vL ln), none, some (vI z333), some (vI k), none]) T_302_342 rfl ?_
      refine x_li (z := k) T_302_344 rfl ?_
      refine x_if T_302_346 (fun h346 => ?_) (fun h346 => ?_)
      · replace h346 : 0 ≤ k := h346
        refine x_lr (z := some 2281) T_302_354 rfl ?_
        refine x_gR (z := some 2310) T_302_355 F_17_34 (PM.t hP) (PM.r hP 34 2310 rfl) ?_
        refine x_li (z := k) T_302_358 rfl ?_
        have b1 : 0 ≤ P 2310 k ∧ P 2310 k ≤ 1 := IV.a hI 2310 2 288 rfl rfl rfl (by omega) (by omega)
        refine x_alI (z := P 2310 k) T_302_360 (by decide) (PM.ta hP 2310 2 288 rfl rfl) (by omega) (by omega) (PM.aP hP 2310 rfl rfl (by omega)) ?_
        refine x_if T_302_361 (fun h361 => ?_) (fun h361 => ?_)
        · replace h361 : P 2310 k = 0 := h361
          refine x_li (z := z299) T_302_368 rfl ?_
          refine x_if T_302_370 (fun h370 => ?_) (fun h370 => ?_)
          · replace h370 : (¬ oth = 0 ∨ 0 < y1 + y2 + y3) := ite1_n (fun e => h370 (hz299.trans e))
            refine x_ic T_302_383 ?_
            refine x_goto T_302_384 ?_
            refine x_si (ls1 := [some (vR (some 2281)), some (vI s), some (vI c), some (vL v), none, some (vI n), some (vI sz), some (vI z299), some (vL md), none, some (vL ln), none, some (vI z333), some (vI k), some (vI 3)]) T_302_388 rfl ?_
            refine x_li (z := 3) T_302_390 rfl ?_
            refine x_if T_302_392 (fun _ => ?_) (fun h => absurd (show ¬ (3 : Int) = 0 by decide) h)
            refine x_li (z := 3) T_302_426 rfl ?_
            refine x_si (ls1 := [some (vR (some 2281)), some (vI s), some (vI c), some (vL v), none, some (vI n), some (vI sz), some (vI z299), some (vL md), none, some (vL ln), none, some (vI z333), some (vI k), some (vI 3)]) T_302_428 rfl ?_
            refine x_li (z := 3) T_302_430 rfl ?_
            refine x_if T_302_432 (fun h => absurd (show (3 : Int) ≤ 0 from h) (by decide)) (fun _ => ?_)
            refine x_lr (z := some 2281) T_302_435 rfl ?_
            refine x_li (z := 3) T_302_436 rfl ?_
            refine x_cv2 T_302_438 mN_235 mL_235 (Nat.le_of_ble_eq_true rfl) mO_235 (PM.t hP) (Nat.le_of_ble_eq_true rfl) (m_refuse hP (by omega)) ?_
            rintro _ σ ⟨rfl, hP⟩
            refine cV ?_
            refine x_rv T_302_441 ?_
            rw [if_neg (by omega), if_neg (by omega), if_pos (by omega)] at hx
            exact bad _ hP (by omega) (by omega)
          · replace h370 : ¬ (¬ oth = 0 ∨ 0 < y1 + y2 + y3) := ite1_z (hz299.symm.trans (Classical.not_not.mp h370))
            refine x_li (z := s) T_302_373 rfl ?_
            refine x_ic T_302_374 ?_
            refine x_ic2 T_302_375 (fun h375 => ?_) (fun h375 => ?_)
            · replace h375 : ¬ s = 2 := h375
              refine x_ic T_302_387 ?_
              refine x_si (ls1 := [some (vR (some 2281)), some (vI s), some (vI c), some (vL v), none, some (vI n), some (vI sz), some (vI z299), some (vL md), none, some (vL ln), none, some (vI z333), some (vI k), some (vI 0)]) T_302_388 rfl ?_
              refine x_li (z := 0) T_302_390 rfl ?_
              refine x_if T_302_392 (fun h => absurd (show ¬ (0 : Int) = 0 from h) (by decide)) (fun _ => ?_)
              refine x_li (z := s) T_302_395 rfl ?_
              refine x_ic T_302_396 ?_
              refine x_ic2 T_302_397 (fun h397 => ?_) (fun h397 => ?_)
              · replace h397 : 2 ≤ s := h397
                refine x_li (z := 0) T_302_426 rfl ?_
                refine x_si (ls1 := [some (vR (some 2281)), some (vI s), some (vI c), some (vL v), none, some (vI n), some (vI sz), some (vI z299), some (vL md), none, some (vL ln), none, some (vI z333), some (vI k), some (vI 0)]) T_302_428 rfl ?_
                refine x_li (z := 0) T_302_430 rfl ?_
                refine x_if T_302_432 (fun _ => ?_) (fun h => absurd (show (0 : Int) ≤ 0 by decide) h)
                refine x_li (z := s) T_302_442 rfl ?_
                refine x_ic T_302_443 ?_
                refine x_ic2 T_302_444 (fun h444 => ?_) (fun h444 => ?_)
                · replace h444 : 2 ≤ s := h444
                  refine x_lr (z := some 2281) T_302_475 rfl ?_
                  refine x_ic T_302_476 ?_
                  refine x_cv2 T_302_478 mN_236 mL_236 (Nat.le_of_ble_eq_true rfl) mO_236 (PM.t hP) (Nat.le_of_ble_eq_true rfl) (m_reply hP) ?_
                  rintro _ σ ⟨rfl, hP⟩
                  refine cV ?_
                  refine x_rv T_302_481 ?_
                  first
                    | (rw [if_neg (by omega), if_neg (by omega), if_neg (by omega), if_pos (by omega)] at hx
                       rw [if_pos (show x = 0 by omega), show x = 0 by omega]
                       unfold wsP
                       first
                         | (rw [if_pos (by omega)]
                            rw [hR.askf, hnm] at hP
                            exact SV_ok0 hP hR h0)
                         | (rw [if_neg (by omega)]
                            exact SV_ok0 hP hR h0))
                    | (rw [if_neg (by omega), if_neg (by omega), if_neg (by omega), if_neg (by omega)] at hx
                       rw [if_pos hx.symm, ← hx]
                       unfold wsP
                       rw [if_neg (by omega)]
                       exact SV_ok0 hP hR h0)
                · replace h444 : ¬ (2 ≤ s) := h444
                  refine x_li (z := z333) T_302_447 rfl ?_
                  refine x_if T_302_449 (fun h449 => ?_) (fun h449 => ?_)
                  · replace h449 : ¬ (0 < y0 ∨ ¬ md = 4294967295 ∨ ¬ ln = -1) := ite1_z (hz333.symm.trans h449)
                    refine x_lr (z := some 2281) T_302_475 rfl ?_
                    refine x_ic T_302_476 ?_
                    refine x_cv2 T_302_478 mN_236 mL_236 (Nat.le_of_ble_eq_true rfl) mO_236 (PM.t hP) (Nat.le_of_ble_eq_true rfl) (m_reply hP) ?_
                    rintro _ σ ⟨rfl, hP⟩
                    refine cV ?_
                    refine x_rv T_302_481 ?_
                    first
                      | (rw [if_neg (by omega), if_neg (by omega), if_neg (by omega), if_pos (by omega)] at hx
                         rw [if_pos (show x = 0 by omega), show x = 0 by omega]
                         unfold wsP
                         first
                           | (rw [if_pos (by omega)]
                              rw [hR.askf, hnm] at hP
                              exact SV_ok0 hP hR h0)
                           | (rw [if_neg (by omega)]
                              exact SV_ok0 hP hR h0))
                      | (rw [if_neg (by omega), if_neg (by omega), if_neg (by omega), if_neg (by omega)] at hx
                         rw [if_pos hx.symm, ← hx]
                         unfold wsP
                         rw [if_neg (by omega)]
                         exact SV_ok0 hP hR h0)
                  · replace h449 : (0 < y0 ∨ ¬ md = 4294967295 ∨ ¬ ln = -1) := ite1_n (fun e => h449 (hz333.trans e))
                    refine x_lr (z := some 2281) T_302_452 rfl ?_
                    refine x_li (z := s) T_302_453 rfl ?_
                    refine x_lr (z := some 2281) T_302_454 rfl ?_
                    refine x_gR (z := some 2306) T_302_455 F_17_30 (PM.t hP) (PM.r hP 30 2306 rfl) ?_
                    refine x_li (z := k) T_302_458 rfl ?_
                    have b2 : 0 ≤ P 2306 k ∧ P 2306 k ≤ (if k < 192 then 63 else 143) := IV.a hI 2306 0 288 rfl rfl rfl (by omega) (by omega)
                    refine x_alI (z := P 2306 k) T_302_460 (by decide) (PM.ta hP 2306 0 288 rfl rfl) (by omega) (by omega) (PM.aP hP 2306 rfl rfl (by omega)) ?_
                    refine x_lr (z := some 2281) T_302_461 rfl ?_
                    refine x_gR (z := some 2308) T_302_462 F_17_32 (PM.t hP) (PM.r hP 32 2308 rfl) ?_
                    refine x_li (z := k) T_302_465 rfl ?_
                    have b3 : 0 ≤ P 2308 k ∧ P 2308 k ≤ 3 := IV.a hI 2308 0 288 rfl rfl rfl (by omega) (by omega)
                    refine x_alI (z := P 2308 k) T_302_467 (by decide) (PM.ta hP 2308 0 288 rfl rfl) (by omega) (by omega) (PM.aP hP 2308 rfl rfl (by omega)) ?_
                    refine x_ll (z := md) T_302_468 rfl ?_
                    refine x_ll (z := ln) T_302_470 rfl ?_
                    refine x_cv6 T_302_472 mN_304 mL_304 (Nat.le_of_ble_eq_true rfl) mO_304 (PM.t hP) (Nat.le_of_ble_eq_true rfl) (m_doChange hP hI hR.iv hT ⟨hs.1, by omega, (hnb k (by omega) (by omega)).1, by have := (hnb k (by omega) (by omega)).2; omega⟩ f0.1 g0 ⟨ho.1, ho.2.1, hy12 (by omega), ho.2.2⟩ (hlb (by omega))) ?_
                    rintro _ σ ⟨rfl, hP⟩
                    refine cV ?_
                    refine x_lr (z := some 2281) T_302_475 rfl ?_
                    refine x_ic T_302_476 ?_
                    refine x_cv2 T_302_478 mN_236 mL_236 (Nat.le_of_ble_eq_true rfl) mO_236 (PM.t hP) (Nat.le_of_ble_eq_true rfl) (m_reply hP) ?_
                    rintro _ σ ⟨rfl, hP⟩
                    refine cV ?_
                    refine x_rv T_302_481 ?_
                    first
                      | (rw [if_neg (by omega), if_neg (by omega), if_neg (by omega), if_pos (by omega)] at hx
                         rw [if_pos (show x = 0 by omega), show x = 0 by omega]
                         unfold wsP
                         first
                           | (rw [if_pos (by omega)]
                              rw [hR.askf, hnm] at hP
                              exact SV_ok0 hP hR h0)
                           | (rw [if_neg (by omega)]
                              exact SV_ok0 hP hR h0))
                      | (rw [if_neg (by omega), if_neg (by omega), if_neg (by omega), if_neg (by omega)] at hx
                         rw [if_pos hx.symm, ← hx]
                         unfold wsP
                         rw [if_neg (by omega)]
                         exact SV_ok0 hP hR h0)
              · replace h397 : ¬ (2 ≤ s) := h397
                refine x_lr (z := some 2281) T_302_400 rfl ?_
                refine x_li (z := s) T_302_401 rfl ?_
                refine x_lr (z := some 2281) T_302_402 rfl ?_
                refine x_gR (z := some 2306) T_302_403 F_17_30 (PM.t hP) (PM.r hP 30 2306 rfl) ?_
                refine x_li (z := k) T_302_406 rfl ?_
                have b4 : 0 ≤ P 2306 k ∧ P 2306 k ≤ (if k < 192 then 63 else 143) := IV.a hI 2306 0 288 rfl rfl rfl (by omega) (by omega)
                refine x_alI (z := P 2306 k) T_302_408 (by decide) (PM.ta hP 2306 0 288 rfl rfl) (by omega) (by omega) (PM.aP hP 2306 rfl rfl (by omega)) ?_
                refine x_lr (z := some 2281) T_302_409 rfl ?_
                refine x_gR (z := some 2308) T_302_410 F_17_32 (PM.t hP) (PM.r hP 32 2308 rfl) ?_
                refine x_li (z := k) T_302_413 rfl ?_
                have b5 : 0 ≤ P 2308 k ∧ P 2308 k ≤ 3 := IV.a hI 2308 0 288 rfl rfl rfl (by omega) (by omega)
                refine x_alI (z := P 2308 k) T_302_415 (by decide) (PM.ta hP 2308 0 288 rfl rfl) (by omega) (by omega) (PM.aP hP 2308 rfl rfl (by omega)) ?_
                refine x_ll (z := md) T_302_416 rfl ?_
                refine x_ll (z := ln) T_302_418 rfl ?_
                refine x_cv6 T_302_420 mN_303 mL_303 (Nat.le_of_ble_eq_true rfl) mO_303 (PM.t hP) (Nat.le_of_ble_eq_true rfl) (CL_val (k := r) (m_change hP hI hR.iv ⟨hs.1, by omega, (hnb k (by omega) (by omega)).1, by have := (hnb k (by omega) (by omega)).2; omega⟩ f0.1 g0 ho hl) (by rw [hR.askf, hnm]; exact hr)) ?_
                rintro _ σ ⟨rfl, rfl⟩
                refine cI ?_
                refine x_goto T_302_423 ?_
                refine x_si (ls1 := [some (vR (some 2281)), some (vI s), some (vI c), some (vL v), none, some (vI n), some (vI sz), some (vI z299), some (vL md), none, some (vL ln), none, some (vI z333), some (vI k), some (vI r)]) T_302_428 rfl ?_
                refine x_li (z := r) T_302_430 rfl ?_
                refine x_if T_302_432 (fun h432 => ?_) (fun h432 => ?_)
                · replace h432 : r ≤ 0 := h432
                  refine x_li (z := s) T_302_442 rfl ?_
                  refine x_ic T_302_443 ?_
                  refine x_ic2 T_302_444 (fun h444 => ?_) (fun h444 => ?_)
                  · replace h444 : 2 ≤ s := h444
                    refine x_lr (z := some 2281) T_302_475 rfl ?_
                    refine x_ic T_302_476 ?_
                    refine x_cv2 T_302_478 mN_236 mL_236 (Nat.le_of_ble_eq_true rfl) mO_236 (PM.t hP) (Nat.le_of_ble_eq_true rfl) (m_reply hP) ?_
                    rintro _ σ ⟨rfl, hP⟩
                    refine cV ?_
                    refine x_rv T_302_481 ?_
                    first
                      | (rw [if_neg (by omega), if_neg (by omega), if_neg (by omega), if_pos (by omega)] at hx
                         rw [if_pos (show x = 0 by omega), show x = 0 by omega]
                         unfold wsP
                         first
                           | (rw [if_pos (by omega)]
                              rw [hR.askf, hnm] at hP
                              exact SV_ok0 hP hR h0)
                           | (rw [if_neg (by omega)]
                              exact SV_ok0 hP hR h0))
                      | (rw [if_neg (by omega), if_neg (by omega), if_neg (by omega), if_neg (by omega)] at hx
                         rw [if_pos hx.symm, ← hx]
                         unfold wsP
                         rw [if_neg (by omega)]
                         exact SV_ok0 hP hR h0)
                  · replace h444 : ¬ (2 ≤ s) := h444
                    refine x_li (z := z333) T_302_447 rfl ?_
                    refine x_if T_302_449 (fun h449 => ?_) (fun h449 => ?_)
                    · replace h449 : ¬ (0 < y0 ∨ ¬ md = 4294967295 ∨ ¬ ln = -1) := ite1_z (hz333.symm.trans h449)
                      refine x_lr (z := some 2281) T_302_475 rfl ?_
                      refine x_ic T_302_476 ?_
                      refine x_cv2 T_302_478 mN_236 mL_236 (Nat.le_of_ble_eq_true rfl) mO_236 (PM.t hP) (Nat.le_of_ble_eq_true rfl) (m_reply hP) ?_
                      rintro _ σ ⟨rfl, hP⟩
                      refine cV ?_
                      refine x_rv T_302_481 ?_
                      first
                        | (rw [if_neg (by omega), if_neg (by omega), if_neg (by omega), if_pos (by omega)] at hx
                           rw [if_pos (show x = 0 by omega), show x = 0 by omega]
                           unfold wsP
                           first
                             | (rw [if_pos (by omega)]
                                rw [hR.askf, hnm] at hP
                                exact SV_ok0 hP hR h0)
                             | (rw [if_neg (by omega)]
                                exact SV_ok0 hP hR h0))
                        | (rw [if_neg (by omega), if_neg (by omega), if_neg (by omega), if_neg (by omega)] at hx
                           rw [if_pos hx.symm, ← hx]
                           unfold wsP
                           rw [if_neg (by omega)]
                           exact SV_ok0 hP hR h0)
                    · replace h449 : (0 < y0 ∨ ¬ md = 4294967295 ∨ ¬ ln = -1) := ite1_n (fun e => h449 (hz333.trans e))
                      refine x_lr (z := some 2281) T_302_452 rfl ?_
                      refine x_li (z := s) T_302_453 rfl ?_
                      refine x_lr (z := some 2281) T_302_454 rfl ?_
                      refine x_gR (z := some 2306) T_302_455 F_17_30 (PM.t hP) (PM.r hP 30 2306 rfl) ?_
                      refine x_li (z := k) T_302_458 rfl ?_
                      refine x_alI (z := P 2306 k) T_302_460 (by decide) (PM.ta hP 2306 0 288 rfl rfl) (by omega) (by omega) (PM.aP hP 2306 rfl rfl (by omega)) ?_
                      refine x_lr (z := some 2281) T_302_461 rfl ?_
                      refine x_gR (z := some 2308) T_302_462 F_17_32 (PM.t hP) (PM.r hP 32 2308 rfl) ?_
                      refine x_li (z := k) T_302_465 rfl ?_
                      refine x_alI (z := P 2308 k) T_302_467 (by decide) (PM.ta hP 2308 0 288 rfl rfl) (by omega) (by omega) (PM.aP hP 2308 rfl rfl (by omega)) ?_
                      refine x_ll (z := md) T_302_468 rfl ?_
                      refine x_ll (z := ln) T_302_470 rfl ?_
                      refine x_cv6 T_302_472 mN_304 mL_304 (Nat.le_of_ble_eq_true rfl) mO_304 (PM.t hP) (Nat.le_of_ble_eq_true rfl) (m_doChange hP hI hR.iv hT ⟨hs.1, by omega, (hnb k (by omega) (by omega)).1, by have := (hnb k (by omega) (by omega)).2; omega⟩ f0.1 g0 ⟨ho.1, ho.2.1, hy12 (by omega), ho.2.2⟩ (hlb (by omega))) ?_
                      rintro _ σ ⟨rfl, hP⟩
                      refine cV ?_
                      refine x_lr (z := some 2281) T_302_475 rfl ?_
                      refine x_ic T_302_476 ?_
                      refine x_cv2 T_302_478 mN_236 mL_236 (Nat.le_of_ble_eq_true rfl) mO_236 (PM.t hP) (Nat.le_of_ble_eq_true rfl) (m_reply hP) ?_
                      rintro _ σ ⟨rfl, hP⟩
                      refine cV ?_
                      refine x_rv T_302_481 ?_
                      first
                        | (rw [if_neg (by omega), if_neg (by omega), if_neg (by omega), if_pos (by omega)] at hx
                           rw [if_pos (show x = 0 by omega), show x = 0 by omega]
                           unfold wsP
                           first
                             | (rw [if_pos (by omega)]
                                rw [hR.askf, hnm] at hP
                                exact SV_ok0 hP hR h0)
                             | (rw [if_neg (by omega)]
                                exact SV_ok0 hP hR h0))
                        | (rw [if_neg (by omega), if_neg (by omega), if_neg (by omega), if_neg (by omega)] at hx
                           rw [if_pos hx.symm, ← hx]
                           unfold wsP
                           rw [if_neg (by omega)]
                           exact SV_ok0 hP hR h0)
                · replace h432 : ¬ (r ≤ 0) := h432
                  refine x_lr (z := some 2281) T_302_435 rfl ?_
                  refine x_li (z := r) T_302_436 rfl ?_
                  refine x_cv2 T_302_438 mN_235 mL_235 (Nat.le_of_ble_eq_true rfl) mO_235 (PM.t hP) (Nat.le_of_ble_eq_true rfl) (m_refuse hP (by omega)) ?_
                  rintro _ σ ⟨rfl, hP⟩
                  refine cV ?_
                  refine x_rv T_302_441 ?_
                  rw [if_neg (by omega), if_neg (by omega), if_neg (by omega), if_pos (by omega)] at hx
                  exact bad _ hP (by omega) (by omega)
            · replace h375 : ¬ (¬ s = 2) := h375
              refine x_li (z := z333) T_302_378 rfl ?_
              refine x_if T_302_380 (fun h380 => ?_) (fun h380 => ?_)
              · replace h380 : ¬ (0 < y0 ∨ ¬ md = 4294967295 ∨ ¬ ln = -1) := ite1_z (hz333.symm.trans h380)
                refine x_ic T_302_387 ?_
                refine x_si (ls1 := [some (vR (some 2281)), some (vI s), some (vI c), some (vL v), none, some (vI n), some (vI sz), some (vI z299), some (vL md), none, some (vL ln), none, some (vI z333), some (vI k), some (vI 0)]) T_302_388 rfl ?_
                refine x_li (z := 0) T_302_390 rfl ?_
                refine x_if T_302_392 (fun h => absurd (show ¬ (0 : Int) = 0 from h) (by decide)) (fun _ => ?_)
                refine x_li (z := s) T_302_395 rfl ?_
                refine x_ic T_302_396 ?_
                refine x_ic2 T_302_397 (fun h397 => ?_) (fun h397 => ?_)
                · replace h397 : 2 ≤ s := h397
                  refine x_li (z := 0) T_302_426 rfl ?_
                  refine x_si (ls1 := [some (vR (some 2281)), some (vI s), some (vI c), some (vL v), none, some (vI n), some (vI sz), some (vI z299), some (vL md), none, some (vL ln), none, some (vI z333), some (vI k), some (vI 0)]) T_302_428 rfl ?_
                  refine x_li (z := 0) T_302_430 rfl ?_
                  refine x_if T_302_432 (fun _ => ?_) (fun h => absurd (show (0 : Int) ≤ 0 by decide) h)
                  refine x_li (z := s) T_302_442 rfl ?_
                  refine x_ic T_302_443 ?_
                  refine x_ic2 T_302_444 (fun h444 => ?_) (fun h444 => ?_)
                  · replace h444 : 2 ≤ s := h444
                    refine x_lr (z := some 2281) T_302_475 rfl ?_
                    refine x_ic T_302_476 ?_
                    refine x_cv2 T_302_478 mN_236 mL_236 (Nat.le_of_ble_eq_true rfl) mO_236 (PM.t hP) (Nat.le_of_ble_eq_true rfl) (m_reply hP) ?_
                    rintro _ σ ⟨rfl, hP⟩
                    refine cV ?_
                    refine x_rv T_302_481 ?_
                    first
                      | (rw [if_neg (by omega), if_neg (by omega), if_neg (by omega), if_pos (by omega)] at hx
                         rw [if_pos (show x = 0 by omega), show x = 0 by omega]
                         unfold wsP
                         first
                           | (rw [if_pos (by omega)]
                              rw [hR.askf, hnm] at hP
                              exact SV_ok0 hP hR h0)
                           | (rw [if_neg (by omega)]
                              exact SV_ok0 hP hR h0))
                      | (rw [if_neg (by omega), if_neg (by omega), if_neg (by omega), if_neg (by omega)] at hx
                         rw [if_pos hx.symm, ← hx]
                         unfold wsP
                         rw [if_neg (by omega)]
                         exact SV_ok0 hP hR h0)
                  · replace h444 : ¬ (2 ≤ s) := h444
                    refine x_li (z := z333) T_302_447 rfl ?_
                    refine x_if T_302_449 (fun h449 => ?_) (fun h449 => ?_)
                    · replace h449 : ¬ (0 < y0 ∨ ¬ md = 4294967295 ∨ ¬ ln = -1) := ite1_z (hz333.symm.trans h449)
                      refine x_lr (z := some 2281) T_302_475 rfl ?_
                      refine x_ic T_302_476 ?_
                      refine x_cv2 T_302_478 mN_236 mL_236 (Nat.le_of_ble_eq_true rfl) mO_236 (PM.t hP) (Nat.le_of_ble_eq_true rfl) (m_reply hP) ?_
                      rintro _ σ ⟨rfl, hP⟩
                      refine cV ?_
                      refine x_rv T_302_481 ?_
                      first
                        | (rw [if_neg (by omega), if_neg (by omega), if_neg (by omega), if_pos (by omega)] at hx
                           rw [if_pos (show x = 0 by omega), show x = 0 by omega]
                           unfold wsP
                           first
                             | (rw [if_pos (by omega)]
                                rw [hR.askf, hnm] at hP
                                exact SV_ok0 hP hR h0)
                             | (rw [if_neg (by omega)]
                                exact SV_ok0 hP hR h0))
                        | (rw [if_neg (by omega), if_neg (by omega), if_neg (by omega), if_neg (by omega)] at hx
                           rw [if_pos hx.symm, ← hx]
                           unfold wsP
                           rw [if_neg (by omega)]
                           exact SV_ok0 hP hR h0)
                    · replace h449 : (0 < y0 ∨ ¬ md = 4294967295 ∨ ¬ ln = -1) := ite1_n (fun e => h449 (hz333.trans e))
                      refine x_lr (z := some 2281) T_302_452 rfl ?_
                      refine x_li (z := s) T_302_453 rfl ?_
                      refine x_lr (z := some 2281) T_302_454 rfl ?_
                      refine x_gR (z := some 2306) T_302_455 F_17_30 (PM.t hP) (PM.r hP 30 2306 rfl) ?_
                      refine x_li (z := k) T_302_458 rfl ?_
                      have b6 : 0 ≤ P 2306 k ∧ P 2306 k ≤ (if k < 192 then 63 else 143) := IV.a hI 2306 0 288 rfl rfl rfl (by omega) (by omega)
                      refine x_alI (z := P 2306 k) T_302_460 (by decide) (PM.ta hP 2306 0 288 rfl rfl) (by omega) (by omega) (PM.aP hP 2306 rfl rfl (by omega)) ?_
                      refine x_lr (z := some 2281) T_302_461 rfl ?_
                      refine x_gR (z := some 2308) T_302_462 F_17_32 (PM.t hP) (PM.r hP 32 2308 rfl) ?_
                      refine x_li (z := k) T_302_465 rfl ?_
                      have b7 : 0 ≤ P 2308 k ∧ P 2308 k ≤ 3 := IV.a hI 2308 0 288 rfl rfl rfl (by omega) (by omega)
                      refine x_alI (z := P 2308 k) T_302_467 (by decide) (PM.ta hP 2308 0 288 rfl rfl) (by omega) (by omega) (PM.aP hP 2308 rfl rfl (by omega)) ?_
                      refine x_ll (z := md) T_302_468 rfl ?_
                      refine x_ll (z := ln) T_302_470 rfl ?_
                      refine x_cv6 T_302_472 mN_304 mL_304 (Nat.le_of_ble_eq_true rfl) mO_304 (PM.t hP) (Nat.le_of_ble_eq_true rfl) (m_doChange hP hI hR.iv hT ⟨hs.1, by omega, (hnb k (by omega) (by omega)).1, by have := (hnb k (by omega) (by omega)).2; omega⟩ f0.1 g0 ⟨ho.1, ho.2.1, hy12 (by omega), ho.2.2⟩ (hlb (by omega))) ?_
                      rintro _ σ ⟨rfl, hP⟩
                      refine cV ?_
                      refine x_lr (z := some 2281) T_302_475 rfl ?_
                      refine x_ic T_302_476 ?_
                      refine x_cv2 T_302_478 mN_236 mL_236 (Nat.le_of_ble_eq_true rfl) mO_236 (PM.t hP) (Nat.le_of_ble_eq_true rfl) (m_reply hP) ?_
                      rintro _ σ ⟨rfl, hP⟩
                      refine cV ?_
                      refine x_rv T_302_481 ?_
                      first
                        | (rw [if_neg (by omega), if_neg (by omega), if_neg (by omega), if_pos (by omega)] at hx
                           rw [if_pos (show x = 0 by omega), show x = 0 by omega]
                           unfold wsP
                           first
                             | (rw [if_pos (by omega)]
                                rw [hR.askf, hnm] at hP
                                exact SV_ok0 hP hR h0)
                             | (rw [if_neg (by omega)]
                                exact SV_ok0 hP hR h0))
                        | (rw [if_neg (by omega), if_neg (by omega), if_neg (by omega), if_neg (by omega)] at hx
                           rw [if_pos hx.symm, ← hx]
                           unfold wsP
                           rw [if_neg (by omega)]
                           exact SV_ok0 hP hR h0)
                · replace h397 : ¬ (2 ≤ s) := h397
                  refine x_lr (z := some 2281) T_302_400 rfl ?_
                  refine x_li (z := s) T_302_401 rfl ?_
                  refine x_lr (z := some 2281) T_302_402 rfl ?_
                  refine x_gR (z := some 2306) T_302_403 F_17_30 (PM.t hP) (PM.r hP 30 2306 rfl) ?_
                  refine x_li (z := k) T_302_406 rfl ?_
                  have b8 : 0 ≤ P 2306 k ∧ P 2306 k ≤ (if k < 192 then 63 else 143) := IV.a hI 2306 0 288 rfl rfl rfl (by omega) (by omega)
                  refine x_alI (z := P 2306 k) T_302_408 (by decide) (PM.ta hP 2306 0 288 rfl rfl) (by omega) (by omega) (PM.aP hP 2306 rfl rfl (by omega)) ?_
                  refine x_lr (z := some 2281) T_302_409 rfl ?_
                  refine x_gR (z := some 2308) T_302_410 F_17_32 (PM.t hP) (PM.r hP 32 2308 rfl) ?_
                  refine x_li (z := k) T_302_413 rfl ?_
                  have b9 : 0 ≤ P 2308 k ∧ P 2308 k ≤ 3 := IV.a hI 2308 0 288 rfl rfl rfl (by omega) (by omega)
                  refine x_alI (z := P 2308 k) T_302_415 (by decide) (PM.ta hP 2308 0 288 rfl rfl) (by omega) (by omega) (PM.aP hP 2308 rfl rfl (by omega)) ?_
                  refine x_ll (z := md) T_302_416 rfl ?_
                  refine x_ll (z := ln) T_302_418 rfl ?_
                  refine x_cv6 T_302_420 mN_303 mL_303 (Nat.le_of_ble_eq_true rfl) mO_303 (PM.t hP) (Nat.le_of_ble_eq_true rfl) (CL_val (k := r) (m_change hP hI hR.iv ⟨hs.1, by omega, (hnb k (by omega) (by omega)).1, by have := (hnb k (by omega) (by omega)).2; omega⟩ f0.1 g0 ho hl) (by rw [hR.askf, hnm]; exact hr)) ?_
                  rintro _ σ ⟨rfl, rfl⟩
                  refine cI ?_
                  refine x_goto T_302_423 ?_
                  refine x_si (ls1 := [some (vR (some 2281)), some (vI s), some (vI c), some (vL v), none, some (vI n), some (vI sz), some (vI z299), some (vL md), none, some (vL ln), none, some (vI z333), some (vI k), some (vI r)]) T_302_428 rfl ?_
                  refine x_li (z := r) T_302_430 rfl ?_
                  refine x_if T_302_432 (fun h432 => ?_) (fun h432 => ?_)
                  · replace h432 : r ≤ 0 := h432
                    refine x_li (z := s) T_302_442 rfl ?_
                    refine x_ic T_302_443 ?_
                    refine x_ic2 T_302_444 (fun h444 => ?_) (fun h444 => ?_)
                    · replace h444 : 2 ≤ s := h444
                      refine x_lr (z := some 2281) T_302_475 rfl ?_
                      refine x_ic T_302_476 ?_
                      refine x_cv2 T_302_478 mN_236 mL_236 (Nat.le_of_ble_eq_true rfl) mO_236 (PM.t hP) (Nat.le_of_ble_eq_true rfl) (m_reply hP) ?_
                      rintro _ σ ⟨rfl, hP⟩
                      refine cV ?_
                      refine x_rv T_302_481 ?_
                      first
                        | (rw [if_neg (by omega), if_neg (by omega), if_neg (by omega), if_pos (by omega)] at hx
                           rw [if_pos (show x = 0 by omega), show x = 0 by omega]
                           unfold wsP
                           first
                             | (rw [if_pos (by omega)]
                                rw [hR.askf, hnm] at hP
                                exact SV_ok0 hP hR h0)
                             | (rw [if_neg (by omega)]
                                exact SV_ok0 hP hR h0))
                        | (rw [if_neg (by omega), if_neg (by omega), if_neg (by omega), if_neg (by omega)] at hx
                           rw [if_pos hx.symm, ← hx]
                           unfold wsP
                           rw [if_neg (by omega)]
                           exact SV_ok0 hP hR h0)
                    · replace h444 : ¬ (2 ≤ s) := h444
                      refine x_li (z := z333) T_302_447 rfl ?_
                      refine x_if T_302_449 (fun h449 => ?_) (fun h449 => ?_)
                      · replace h449 : ¬ (0 < y0 ∨ ¬ md = 4294967295 ∨ ¬ ln = -1) := ite1_z (hz333.symm.trans h449)
                        refine x_lr (z := some 2281) T_302_475 rfl ?_
                        refine x_ic T_302_476 ?_
                        refine x_cv2 T_302_478 mN_236 mL_236 (Nat.le_of_ble_eq_true rfl) mO_236 (PM.t hP) (Nat.le_of_ble_eq_true rfl) (m_reply hP) ?_
                        rintro _ σ ⟨rfl, hP⟩
                        refine cV ?_
                        refine x_rv T_302_481 ?_
                        first
                          | (rw [if_neg (by omega), if_neg (by omega), if_neg (by omega), if_pos (by omega)] at hx
                             rw [if_pos (show x = 0 by omega), show x = 0 by omega]
                             unfold wsP
                             first
                               | (rw [if_pos (by omega)]
                                  rw [hR.askf, hnm] at hP
                                  exact SV_ok0 hP hR h0)
                               | (rw [if_neg (by omega)]
                                  exact SV_ok0 hP hR h0))
                          | (rw [if_neg (by omega), if_neg (by omega), if_neg (by omega), if_neg (by omega)] at hx
                             rw [if_pos hx.symm, ← hx]
                             unfold wsP
                             rw [if_neg (by omega)]
                             exact SV_ok0 hP hR h0)
                      · replace h449 : (0 < y0 ∨ ¬ md = 4294967295 ∨ ¬ ln = -1) := ite1_n (fun e => h449 (hz333.trans e))
                        refine x_lr (z := some 2281) T_302_452 rfl ?_
                        refine x_li (z := s) T_302_453 rfl ?_
                        refine x_lr (z := some 2281) T_302_454 rfl ?_
                        refine x_gR (z := some 2306) T_302_455 F_17_30 (PM.t hP) (PM.r hP 30 2306 rfl) ?_
                        refine x_li (z := k) T_302_458 rfl ?_
                        refine x_alI (z := P 2306 k) T_302_460 (by decide) (PM.ta hP 2306 0 288 rfl rfl) (by omega) (by omega) (PM.aP hP 2306 rfl rfl (by omega)) ?_
                        refine x_lr (z := some 2281) T_302_461 rfl ?_
                        refine x_gR (z := some 2308) T_302_462 F_17_32 (PM.t hP) (PM.r hP 32 2308 rfl) ?_
                        refine x_li (z := k) T_302_465 rfl ?_
                        refine x_alI (z := P 2308 k) T_302_467 (by decide) (PM.ta hP 2308 0 288 rfl rfl) (by omega) (by omega) (PM.aP hP 2308 rfl rfl (by omega)) ?_
                        refine x_ll (z := md) T_302_468 rfl ?_
                        refine x_ll (z := ln) T_302_470 rfl ?_
                        refine x_cv6 T_302_472 mN_304 mL_304 (Nat.le_of_ble_eq_true rfl) mO_304 (PM.t hP) (Nat.le_of_ble_eq_true rfl) (m_doChange hP hI hR.iv hT ⟨hs.1, by omega, (hnb k (by omega) (by omega)).1, by have := (hnb k (by omega) (by omega)).2; omega⟩ f0.1 g0 ⟨ho.1, ho.2.1, hy12 (by omega), ho.2.2⟩ (hlb (by omega))) ?_
                        rintro _ σ ⟨rfl, hP⟩
                        refine cV ?_
                        refine x_lr (z := some 2281) T_302_475 rfl ?_
                        refine x_ic T_302_476 ?_
                        refine x_cv2 T_302_478 mN_236 mL_236 (Nat.le_of_ble_eq_true rfl) mO_236 (PM.t hP) (Nat.le_of_ble_eq_true rfl) (m_reply hP) ?_
                        rintro _ σ ⟨rfl, hP⟩
                        refine cV ?_
                        refine x_rv T_302_481 ?_
                        first
                          | (rw [if_neg (by omega), if_neg (by omega), if_neg (by omega), if_pos (by omega)] at hx
                             rw [if_pos (show x = 0 by omega), show x = 0 by omega]
                             unfold wsP
                             first
                               | (rw [if_pos (by omega)]
                                  rw [hR.askf, hnm] at hP
                                  exact SV_ok0 hP hR h0)
                               | (rw [if_neg (by omega)]
                                  exact SV_ok0 hP hR h0))
                          | (rw [if_neg (by omega), if_neg (by omega), if_neg (by omega), if_neg (by omega)] at hx
                             rw [if_pos hx.symm, ← hx]
                             unfold wsP
                             rw [if_neg (by omega)]
                             exact SV_ok0 hP hR h0)
                  · replace h432 : ¬ (r ≤ 0) := h432
                    refine x_lr (z := some 2281) T_302_435 rfl ?_
                    refine x_li (z := r) T_302_436 rfl ?_
                    refine x_cv2 T_302_438 mN_235 mL_235 (Nat.le_of_ble_eq_true rfl) mO_235 (PM.t hP) (Nat.le_of_ble_eq_true rfl) (m_refuse hP (by omega)) ?_
                    rintro _ σ ⟨rfl, hP⟩
                    refine cV ?_
                    refine x_rv T_302_441 ?_
                    rw [if_neg (by omega), if_neg (by omega), if_neg (by omega), if_pos (by omega)] at hx
                    exact bad _ hP (by omega) (by omega)
              · replace h380 : (0 < y0 ∨ ¬ md = 4294967295 ∨ ¬ ln = -1) := ite1_n (fun e => h380 (hz333.trans e))
                refine x_ic T_302_383 ?_
                refine x_goto T_302_384 ?_
                refine x_si (ls1 := [some (vR (some 2281)), some (vI s), some (vI c), some (vL v), none, some (vI n), some (vI sz), some (vI z299), some (vL md), none, some (vL ln), none, some (vI z333), some (vI k), some (vI 3)]) T_302_388 rfl ?_
                refine x_li (z := 3) T_302_390 rfl ?_
                refine x_if T_302_392 (fun _ => ?_) (fun h => absurd (show ¬ (3 : Int) = 0 by decide) h)
                refine x_li (z := 3) T_302_426 rfl ?_
                refine x_si (ls1 := [some (vR (some 2281)), some (vI s), some (vI c), some (vL v), none, some (vI n), some (vI sz), some (vI z299), some (vL md), none, some (vL ln), none, some (vI z333), some (vI k), some (vI 3)]) T_302_428 rfl ?_
                refine x_li (z := 3) T_302_430 rfl ?_
                refine x_if T_302_432 (fun h => absurd (show (3 : Int) ≤ 0 from h) (by decide)) (fun _ => ?_)
                refine x_lr (z := some 2281) T_302_435 rfl ?_
                refine x_li (z := 3) T_302_436 rfl ?_
                refine x_cv2 T_302_438 mN_235 mL_235 (Nat.le_of_ble_eq_true rfl) mO_235 (PM.t hP) (Nat.le_of_ble_eq_true rfl) (m_refuse hP (by omega)) ?_
                rintro _ σ ⟨rfl, hP⟩
                refine cV ?_
                refine x_rv T_302_441 ?_
                rw [if_neg (by omega), if_neg (by omega), if_pos (by omega)] at hx
                exact bad _ hP (by omega) (by omega)
        · replace h361 : ¬ (P 2310 k = 0) := h361
          refine x_ic T_302_364 ?_
          refine x_goto T_302_365 ?_
          refine x_si (ls1 := [some (vR (some 2281)), some (vI s), some (vI c), some (vL v), none, some (vI n), some (vI sz), some (vI z299), some (vL md), none, some (vL ln), none, some (vI z333), some (vI k), some (vI 1)]) T_302_388 rfl ?_
          refine x_li (z := 1) T_302_390 rfl ?_
          refine x_if T_302_392 (fun _ => ?_) (fun h => absurd (show ¬ (1 : Int) = 0 by decide) h)
          refine x_li (z := 1) T_302_426 rfl ?_
          refine x_si (ls1 := [some (vR (some 2281)), some (vI s), some (vI c), some (vL v), none, some (vI n), some (vI sz), some (vI z299), some (vL md), none, some (vL ln), none, some (vI z333), some (vI k), some (vI 1)]) T_302_428 rfl ?_
          refine x_li (z := 1) T_302_430 rfl ?_
          refine x_if T_302_432 (fun h => absurd (show (1 : Int) ≤ 0 from h) (by decide)) (fun _ => ?_)
          refine x_lr (z := some 2281) T_302_435 rfl ?_
          refine x_li (z := 1) T_302_436 rfl ?_
          refine x_cv2 T_302_438 mN_235 mL_235 (Nat.le_of_ble_eq_true rfl) mO_235 (PM.t hP) (Nat.le_of_ble_eq_true rfl) (m_refuse hP (by omega)) ?_
          rintro _ σ ⟨rfl, hP⟩
          refine cV ?_
          refine x_rv T_302_441 ?_
          rw [if_neg (by omega), if_pos (by omega)] at hx
          exact bad _ hP (by omega) (by omega)
      · replace h346 : ¬ (0 ≤ k) := h346
        refine x_ic T_302_349 ?_
        refine x_goto T_302_351 ?_
        refine x_si (ls1 := [some (vR (some 2281)), some (vI s), some (vI c), some (vL v), none, some (vI n), some (vI sz), some (vI z299), some (vL md), none, some (vL ln), none, some (vI z333), some (vI k), some (vI 6)]) T_302_388 rfl ?_
        refine x_li (z := 6) T_302_390 rfl ?_
        refine x_if T_302_392 (fun _ => ?_) (fun h => absurd (show ¬ (6 : Int) = 0 by decide) h)
        refine x_li (z := 6) T_302_426 rfl ?_
        refine x_si (ls1 := [some (vR (some 2281)), some (vI s), some (vI c), some (vL v), none, some (vI n), some (vI sz), some (vI z299), some (vL md), none, some (vL ln), none, some (vI z333), some (vI k), some (vI 6)]) T_302_428 rfl ?_
        refine x_li (z := 6) T_302_430 rfl ?_
        refine x_if T_302_432 (fun h => absurd (show (6 : Int) ≤ 0 from h) (by decide)) (fun _ => ?_)
        refine x_lr (z := some 2281) T_302_435 rfl ?_
        refine x_li (z := 6) T_302_436 rfl ?_
        refine x_cv2 T_302_438 mN_235 mL_235 (Nat.le_of_ble_eq_true rfl) mO_235 (PM.t hP) (Nat.le_of_ble_eq_true rfl) (m_refuse hP (by omega)) ?_
        rintro _ σ ⟨rfl, hP⟩
        refine cV ?_
        refine x_rv T_302_441 ?_
        rw [if_pos (by omega)] at hx
        exact bad _ hP (by omega) (by omega)
    · refine x_lr (z := some 2281) T_302_301 rfl ?_
      refine x_gR (z := some 2288) T_302_302 F_17_11 (PM.t hP) (PM.r hP 11 2288 rfl) ?_
      refine x_ic T_302_305 ?_
      refine x_alI (z := y0) T_302_306 (by decide) (PM.ta hP 2288 0 8 rfl rfl) (by omega) (by omega) (Eq.trans (PM.aS hP 2288 rfl rfl (by omega)) g0) ?_
      refine x_if T_302_307 (fun h307 => ?_) (fun h307 => ?_)
      · replace h307 : 0 < y0 := h307
        refine x_ic T_302_328 ?_
        refine x_goto T_302_329 ?_
        exact kJ333 1 (if_pos (by omega)).symm
      · replace h307 : ¬ (0 < y0) := h307
        refine x_ll (z := md) T_302_310 rfl ?_
        refine x_lc T_302_312 ?_
        refine x_lif T_302_315 T_302_316 (fun h316 => ?_) (fun h316 => ?_)
        · replace h316 : ¬ md = 4294967295 := h316
          refine x_ic T_302_328 ?_
          refine x_goto T_302_329 ?_
          exact kJ333 1 (if_pos (by omega)).symm
        · replace h316 : ¬ (¬ md = 4294967295) := h316
          refine x_ll (z := ln) T_302_319 rfl ?_
          refine x_lc T_302_321 ?_
          refine x_lif T_302_324 T_302_325 (fun h325 => ?_) (fun h325 => ?_)
          · replace h325 : ln = (-1) := h325
            refine x_ic T_302_332 ?_
            exact kJ333 0 (if_neg (by omega)).symm
          · replace h325 : ¬ (ln = (-1)) := h325
            refine x_ic T_302_328 ?_
            refine x_goto T_302_329 ?_
            exact kJ333 1 (if_pos (by omega)).symm
  · refine x_li (z := oth) T_302_266 rfl ?_
    refine x_if T_302_268 (fun h268 => ?_) (fun h268 => ?_)
    · replace h268 : ¬ oth = 0 := h268
      refine x_ic T_302_294 ?_
      refine x_goto T_302_295 ?_
      exact kJ299 1 (if_pos (by omega)).symm
    · replace h268 : ¬ (¬ oth = 0) := h268
      refine x_lr (z := some 2281) T_302_271 rfl ?_
      refine x_gR (z := some 2288) T_302_272 F_17_11 (PM.t hP) (PM.r hP 11 2288 rfl) ?_
      refine x_ic T_302_275 ?_
      refine x_alI (z := y1) T_302_276 (by decide) (PM.ta hP 2288 0 8 rfl rfl) (by omega) (by omega) (Eq.trans (PM.aS hP 2288 rfl rfl (by omega)) g1) ?_
      refine x_lr (z := some 2281) T_302_277 rfl ?_
      refine x_gR (z := some 2288) T_302_278 F_17_11 (PM.t hP) (PM.r hP 11 2288 rfl) ?_
      refine x_ic T_302_281 ?_
      refine x_alI (z := y2) T_302_282 (by decide) (PM.ta hP 2288 0 8 rfl rfl) (by omega) (by omega) (Eq.trans (PM.aS hP 2288 rfl rfl (by omega)) g2) ?_
      refine x_ib (w := (y1 + y2)) T_302_283 (fun h => absurd h.1 (by decide)) (w32_id (by omega) (by omega)) ?_
      refine x_lr (z := some 2281) T_302_284 rfl ?_
      refine x_gR (z := some 2288) T_302_285 F_17_11 (PM.t hP) (PM.r hP 11 2288 rfl) ?_
      refine x_ic T_302_288 ?_
      refine x_alI (z := y3) T_302_289 (by decide) (PM.ta hP 2288 0 8 rfl rfl) (by omega) (by omega) (Eq.trans (PM.aS hP 2288 rfl rfl (by omega)) g3) ?_
      refine x_ib (w := ((y1 + y2) + y3)) T_302_290 (fun h => absurd h.1 (by decide)) (w32_id (by omega) (by omega)) ?_
      refine x_if T_302_291 (fun h291 => ?_) (fun h291 => ?_)
      · replace h291 : ((y1 + y2) + y3) ≤ 0 := h291
        refine x_ic T_302_298 ?_
        exact kJ299 0 (if_neg (by omega)).symm
      · replace h291 : ¬ (((y1 + y2) + y3) ≤ 0) := h291
        refine x_ic T_302_294 ?_
        refine x_goto T_302_295 ?_
        exact kJ299 1 (if_pos (by omega)).symm
end MWSTAT3
