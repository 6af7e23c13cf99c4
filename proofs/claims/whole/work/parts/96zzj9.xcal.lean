/-! The class's enter: a command is told by its verb, done, and its frame ends. -/
theorem T_96_202 : hTab 96 202 = some ((3, 0, 2, []), 203) := rfl
theorem T_96_203 : hTab 96 203 = some ((24, 0, Int.ofNat 1, []), 206) := rfl
theorem T_96_206 : hTab 96 206 = some ((3, 2, 2, []), 207) := rfl
theorem T_96_207 : hTab 96 207 = some ((3, 4, 2, []), 209) := rfl
theorem T_96_209 : hTab 96 209 = some ((31, 116, 0, []), 212) := rfl
theorem T_96_212 : hTab 96 212 = some ((4, 5, 0, []), 214) := rfl
theorem T_96_214 : hTab 96 214 = some ((22, 0, Int.ofNat 575, []), 217) := rfl
theorem T_96_217 : hTab 96 217 = some ((3, 0, 2, []), 218) := rfl
theorem T_96_218 : hTab 96 218 = some ((24, 0, Int.ofNat 1, []), 221) := rfl
theorem T_96_221 : hTab 96 221 = some ((3, 2, 2, []), 222) := rfl
theorem T_96_222 : hTab 96 222 = some ((3, 4, 2, []), 224) := rfl
theorem T_96_224 : hTab 96 224 = some ((31, 133, 0, []), 227) := rfl
theorem T_96_227 : hTab 96 227 = some ((4, 5, 0, []), 229) := rfl
theorem T_96_229 : hTab 96 229 = some ((22, 0, Int.ofNat 575, []), 232) := rfl
theorem T_96_232 : hTab 96 232 = some ((3, 0, 2, []), 233) := rfl
theorem T_96_233 : hTab 96 233 = some ((24, 0, Int.ofNat 1, []), 236) := rfl
theorem T_96_236 : hTab 96 236 = some ((3, 2, 2, []), 237) := rfl
theorem T_96_237 : hTab 96 237 = some ((3, 4, 2, []), 239) := rfl
theorem T_96_239 : hTab 96 239 = some ((31, 138, 0, []), 242) := rfl
theorem T_96_242 : hTab 96 242 = some ((4, 5, 0, []), 244) := rfl
theorem T_96_244 : hTab 96 244 = some ((22, 0, Int.ofNat 575, []), 247) := rfl
theorem T_96_247 : hTab 96 247 = some ((3, 0, 2, []), 248) := rfl
theorem T_96_248 : hTab 96 248 = some ((24, 0, Int.ofNat 1, []), 251) := rfl
theorem T_96_251 : hTab 96 251 = some ((3, 2, 2, []), 252) := rfl
theorem T_96_252 : hTab 96 252 = some ((3, 4, 2, []), 254) := rfl
theorem T_96_254 : hTab 96 254 = some ((31, 142, 0, []), 257) := rfl
theorem T_96_257 : hTab 96 257 = some ((4, 5, 0, []), 259) := rfl
theorem T_96_259 : hTab 96 259 = some ((22, 0, Int.ofNat 575, []), 262) := rfl
theorem T_96_262 : hTab 96 262 = some ((3, 0, 2, []), 263) := rfl
theorem T_96_263 : hTab 96 263 = some ((24, 0, Int.ofNat 1, []), 266) := rfl
theorem T_96_266 : hTab 96 266 = some ((3, 2, 2, []), 267) := rfl
theorem T_96_267 : hTab 96 267 = some ((3, 4, 2, []), 269) := rfl
theorem T_96_269 : hTab 96 269 = some ((31, 147, 0, []), 272) := rfl
theorem T_96_272 : hTab 96 272 = some ((4, 5, 0, []), 274) := rfl
theorem T_96_274 : hTab 96 274 = some ((22, 0, Int.ofNat 575, []), 277) := rfl
theorem T_96_277 : hTab 96 277 = some ((3, 0, 2, []), 278) := rfl
theorem T_96_278 : hTab 96 278 = some ((24, 0, Int.ofNat 1, []), 281) := rfl
theorem T_96_281 : hTab 96 281 = some ((3, 2, 2, []), 282) := rfl
theorem T_96_282 : hTab 96 282 = some ((3, 4, 2, []), 284) := rfl
theorem T_96_284 : hTab 96 284 = some ((31, 148, 0, []), 287) := rfl
theorem T_96_287 : hTab 96 287 = some ((4, 5, 0, []), 289) := rfl
theorem T_96_289 : hTab 96 289 = some ((22, 0, Int.ofNat 575, []), 292) := rfl
theorem T_96_292 : hTab 96 292 = some ((3, 0, 2, []), 293) := rfl
theorem T_96_293 : hTab 96 293 = some ((24, 0, Int.ofNat 1, []), 296) := rfl
theorem T_96_296 : hTab 96 296 = some ((3, 2, 2, []), 297) := rfl
theorem T_96_297 : hTab 96 297 = some ((3, 4, 2, []), 299) := rfl
theorem T_96_299 : hTab 96 299 = some ((31, 156, 0, []), 302) := rfl
theorem T_96_302 : hTab 96 302 = some ((4, 5, 0, []), 304) := rfl
theorem T_96_304 : hTab 96 304 = some ((22, 0, Int.ofNat 575, []), 307) := rfl
theorem T_96_307 : hTab 96 307 = some ((3, 0, 2, []), 308) := rfl
theorem T_96_308 : hTab 96 308 = some ((24, 0, Int.ofNat 1, []), 311) := rfl
theorem T_96_311 : hTab 96 311 = some ((3, 2, 2, []), 312) := rfl
theorem T_96_312 : hTab 96 312 = some ((3, 4, 2, []), 314) := rfl
theorem T_96_314 : hTab 96 314 = some ((31, 157, 0, []), 317) := rfl
theorem T_96_317 : hTab 96 317 = some ((4, 5, 0, []), 319) := rfl
theorem T_96_319 : hTab 96 319 = some ((22, 0, Int.ofNat 575, []), 322) := rfl
theorem T_96_322 : hTab 96 322 = some ((3, 0, 2, []), 323) := rfl
theorem T_96_323 : hTab 96 323 = some ((24, 0, Int.ofNat 1, []), 326) := rfl
theorem T_96_326 : hTab 96 326 = some ((3, 2, 2, []), 327) := rfl
theorem T_96_327 : hTab 96 327 = some ((3, 4, 2, []), 329) := rfl
theorem T_96_329 : hTab 96 329 = some ((31, 159, 0, []), 332) := rfl
theorem T_96_332 : hTab 96 332 = some ((4, 5, 0, []), 334) := rfl
theorem T_96_334 : hTab 96 334 = some ((22, 0, Int.ofNat 575, []), 337) := rfl
theorem T_96_337 : hTab 96 337 = some ((3, 0, 2, []), 338) := rfl
theorem T_96_338 : hTab 96 338 = some ((24, 0, Int.ofNat 1, []), 341) := rfl
theorem T_96_341 : hTab 96 341 = some ((3, 2, 2, []), 342) := rfl
theorem T_96_342 : hTab 96 342 = some ((3, 4, 2, []), 344) := rfl
theorem T_96_344 : hTab 96 344 = some ((31, 161, 0, []), 347) := rfl
theorem T_96_347 : hTab 96 347 = some ((4, 5, 0, []), 349) := rfl
theorem T_96_349 : hTab 96 349 = some ((22, 0, Int.ofNat 575, []), 352) := rfl
theorem T_96_352 : hTab 96 352 = some ((3, 0, 2, []), 353) := rfl
theorem T_96_353 : hTab 96 353 = some ((24, 0, Int.ofNat 1, []), 356) := rfl
theorem T_96_356 : hTab 96 356 = some ((3, 2, 2, []), 357) := rfl
theorem T_96_357 : hTab 96 357 = some ((3, 4, 2, []), 359) := rfl
theorem T_96_359 : hTab 96 359 = some ((31, 162, 0, []), 362) := rfl
theorem T_96_362 : hTab 96 362 = some ((4, 5, 0, []), 364) := rfl
theorem T_96_364 : hTab 96 364 = some ((22, 0, Int.ofNat 575, []), 367) := rfl
theorem T_96_367 : hTab 96 367 = some ((3, 0, 2, []), 368) := rfl
theorem T_96_368 : hTab 96 368 = some ((24, 0, Int.ofNat 1, []), 371) := rfl
theorem T_96_371 : hTab 96 371 = some ((3, 2, 2, []), 372) := rfl
theorem T_96_372 : hTab 96 372 = some ((3, 4, 2, []), 374) := rfl
theorem T_96_374 : hTab 96 374 = some ((31, 164, 0, []), 377) := rfl
theorem T_96_377 : hTab 96 377 = some ((4, 5, 0, []), 379) := rfl
theorem T_96_379 : hTab 96 379 = some ((22, 0, Int.ofNat 575, []), 382) := rfl
theorem T_96_382 : hTab 96 382 = some ((3, 0, 2, []), 383) := rfl
theorem T_96_383 : hTab 96 383 = some ((24, 0, Int.ofNat 1, []), 386) := rfl
theorem T_96_386 : hTab 96 386 = some ((3, 2, 2, []), 387) := rfl
theorem T_96_387 : hTab 96 387 = some ((3, 4, 2, []), 389) := rfl
theorem T_96_389 : hTab 96 389 = some ((31, 165, 0, []), 392) := rfl
theorem T_96_392 : hTab 96 392 = some ((4, 5, 0, []), 394) := rfl
theorem T_96_394 : hTab 96 394 = some ((22, 0, Int.ofNat 575, []), 397) := rfl
theorem T_96_397 : hTab 96 397 = some ((3, 0, 2, []), 398) := rfl
theorem T_96_398 : hTab 96 398 = some ((24, 0, Int.ofNat 1, []), 401) := rfl
theorem T_96_401 : hTab 96 401 = some ((3, 2, 2, []), 402) := rfl
theorem T_96_402 : hTab 96 402 = some ((3, 4, 2, []), 404) := rfl
theorem T_96_404 : hTab 96 404 = some ((31, 167, 0, []), 407) := rfl
theorem T_96_407 : hTab 96 407 = some ((4, 5, 0, []), 409) := rfl
theorem T_96_409 : hTab 96 409 = some ((22, 0, Int.ofNat 575, []), 412) := rfl
theorem T_96_412 : hTab 96 412 = some ((3, 0, 2, []), 413) := rfl
theorem T_96_413 : hTab 96 413 = some ((24, 0, Int.ofNat 1, []), 416) := rfl
theorem T_96_416 : hTab 96 416 = some ((3, 2, 2, []), 417) := rfl
theorem T_96_417 : hTab 96 417 = some ((3, 4, 2, []), 419) := rfl
theorem T_96_419 : hTab 96 419 = some ((31, 168, 0, []), 422) := rfl
theorem T_96_422 : hTab 96 422 = some ((4, 5, 0, []), 424) := rfl
theorem T_96_424 : hTab 96 424 = some ((22, 0, Int.ofNat 575, []), 427) := rfl
theorem T_96_427 : hTab 96 427 = some ((3, 0, 2, []), 428) := rfl
theorem T_96_428 : hTab 96 428 = some ((24, 0, Int.ofNat 1, []), 431) := rfl
theorem T_96_431 : hTab 96 431 = some ((3, 2, 2, []), 432) := rfl
theorem T_96_432 : hTab 96 432 = some ((3, 4, 2, []), 434) := rfl
theorem T_96_434 : hTab 96 434 = some ((31, 169, 0, []), 437) := rfl
theorem T_96_437 : hTab 96 437 = some ((4, 5, 0, []), 439) := rfl
theorem T_96_439 : hTab 96 439 = some ((22, 0, Int.ofNat 575, []), 442) := rfl
theorem T_96_442 : hTab 96 442 = some ((3, 0, 2, []), 443) := rfl
theorem T_96_443 : hTab 96 443 = some ((24, 0, Int.ofNat 1, []), 446) := rfl
theorem T_96_446 : hTab 96 446 = some ((3, 2, 2, []), 447) := rfl
theorem T_96_447 : hTab 96 447 = some ((3, 4, 2, []), 449) := rfl
theorem T_96_449 : hTab 96 449 = some ((31, 171, 0, []), 452) := rfl
theorem T_96_452 : hTab 96 452 = some ((4, 5, 0, []), 454) := rfl
theorem T_96_454 : hTab 96 454 = some ((22, 0, Int.ofNat 575, []), 457) := rfl
theorem T_96_457 : hTab 96 457 = some ((3, 0, 2, []), 458) := rfl
theorem T_96_458 : hTab 96 458 = some ((24, 0, Int.ofNat 1, []), 461) := rfl
theorem T_96_461 : hTab 96 461 = some ((3, 2, 2, []), 462) := rfl
theorem T_96_462 : hTab 96 462 = some ((3, 4, 2, []), 464) := rfl
theorem T_96_464 : hTab 96 464 = some ((31, 180, 0, []), 467) := rfl
theorem T_96_467 : hTab 96 467 = some ((4, 5, 0, []), 469) := rfl
theorem T_96_469 : hTab 96 469 = some ((22, 0, Int.ofNat 575, []), 472) := rfl
theorem T_96_472 : hTab 96 472 = some ((3, 0, 2, []), 473) := rfl
theorem T_96_473 : hTab 96 473 = some ((24, 0, Int.ofNat 1, []), 476) := rfl
theorem T_96_476 : hTab 96 476 = some ((3, 2, 2, []), 477) := rfl
theorem T_96_477 : hTab 96 477 = some ((3, 4, 2, []), 479) := rfl
theorem T_96_479 : hTab 96 479 = some ((31, 181, 0, []), 482) := rfl
theorem T_96_482 : hTab 96 482 = some ((4, 5, 0, []), 484) := rfl
theorem T_96_484 : hTab 96 484 = some ((22, 0, Int.ofNat 575, []), 487) := rfl
theorem T_96_487 : hTab 96 487 = some ((3, 0, 2, []), 488) := rfl
theorem T_96_488 : hTab 96 488 = some ((24, 0, Int.ofNat 1, []), 491) := rfl
theorem T_96_491 : hTab 96 491 = some ((3, 2, 2, []), 492) := rfl
theorem T_96_492 : hTab 96 492 = some ((3, 4, 2, []), 494) := rfl
theorem T_96_494 : hTab 96 494 = some ((31, 185, 0, []), 497) := rfl
theorem T_96_497 : hTab 96 497 = some ((4, 5, 0, []), 499) := rfl
theorem T_96_499 : hTab 96 499 = some ((22, 0, Int.ofNat 575, []), 502) := rfl
theorem T_96_502 : hTab 96 502 = some ((3, 0, 2, []), 503) := rfl
theorem T_96_503 : hTab 96 503 = some ((24, 0, Int.ofNat 1, []), 506) := rfl
theorem T_96_506 : hTab 96 506 = some ((3, 2, 2, []), 507) := rfl
theorem T_96_507 : hTab 96 507 = some ((3, 4, 2, []), 509) := rfl
theorem T_96_509 : hTab 96 509 = some ((31, 194, 0, []), 512) := rfl
theorem T_96_512 : hTab 96 512 = some ((4, 5, 0, []), 514) := rfl
theorem T_96_514 : hTab 96 514 = some ((22, 0, Int.ofNat 575, []), 517) := rfl
theorem T_96_517 : hTab 96 517 = some ((3, 0, 2, []), 518) := rfl
theorem T_96_518 : hTab 96 518 = some ((24, 0, Int.ofNat 1, []), 521) := rfl
theorem T_96_521 : hTab 96 521 = some ((3, 2, 2, []), 522) := rfl
theorem T_96_522 : hTab 96 522 = some ((3, 4, 2, []), 524) := rfl
theorem T_96_524 : hTab 96 524 = some ((31, 195, 0, []), 527) := rfl
theorem T_96_527 : hTab 96 527 = some ((4, 5, 0, []), 529) := rfl
theorem T_96_529 : hTab 96 529 = some ((22, 0, Int.ofNat 575, []), 532) := rfl
section XCAL
variable {fb : Bool} {d k : Nat} {σ0 σ : hM} {W W2 P P2 : qR} {R R2 : rR} {i p v c e w K T U T2 U2 N : Int} {l L : List Int} {fs : List Fr} {Q : Option AV → hM → Prop} {A : Int × qR × List Ch}
theorem XCM.up (h1 : T ≤ T2) (h2 : U ≤ U2) {r : Option AV} (h : XCM σ0 K T U W R A r σ) : XCM σ0 K T2 U2 W R A r σ := by
  obtain ⟨rfl, W5, R5, g1, g2, g3⟩ := h
  exact ⟨rfl, W5, R5, g1, (g2.mono h1).monoU h2, g3⟩
theorem XCM.e18 (hP : PX σ0 W R σ) (hX : XW K T U W R P) (h1 : T ≤ T2) (h2 : U ≤ U2) {r : Option AV} {σ1 : hM} (h : rP 18 σ r σ1) : XCM σ0 K T2 U2 W R (18, P, []) r σ1 := by
  obtain ⟨rfl, rfl⟩ := h
  exact ⟨rfl, W, R, hP, (hX.mono h1).monoU h2, FCM_rfl⟩
theorem XST.fcm (h : XST K T U W R P fs c e w) (hX : XW K T2 U2 W2 R2 P2) (hF : FCM W W2 R R2) (hn : fs.length ≤ 12) : XST K T2 U2 W2 R2 P2 fs c e w := by
  obtain ⟨h1, h2, h3, h4, h5, h6⟩ := h
  exact ⟨hX, h2.eq8 (fun x j a b q => hF.1 x j (by omega) (by omega) q), (hF.1 _ _ (by omega) (by omega) (by decide)).trans h3, (hF.1 _ _ (by omega) (by omega) (by decide)).trans h4, (hF.1 _ _ (by omega) (by omega) (by decide)).trans h5, (hF.1 _ _ (by omega) (by omega) (by decide)).trans h6⟩
/-- what is asked of a command's end -/
abbrev XEN (fb : Bool) (d : Nat) (σ0 : hM) (K T U p i : Int) (k : Nat) (x5 : Option AV) (W : qR) (R : rR) (A : Int × qR × List Ch) (Q : Option AV → hM → Prop) : Prop := ∀ (σ : hM) (W2 : qR) (R2 : rR), PX σ0 W2 R2 σ → XW K T U W2 R2 (kDrops A.2.1 A.2.2) → FCM W W2 R R2 → WP fb (d + 20) 96 575 [some (vR (some 128)), some (vI p), some (vR (some (prO p))), some (vI i), some (vR (some k)), some (vI A.1)] [] σ Q
theorem ev_c1 {x5 : Option AV} (hP : PX σ0 W R σ) (hC : CMD W k L) (hN : 0 < ((lnW L).length : Int)) (hv : vbN (lnB L 0) = 1) (hre : CL fb (d + 19) 116 [vR (some 2175), vR (some (prO p)), vR (some k)] σ (XCM σ0 K T U W R A)) (hgo : XEN fb d σ0 K T U p i k x5 W R A Q) : WP fb (d + 20) 96 70 [some (vR (some 128)), some (vI p), some (vR (some (prO p))), some (vI i), some (vR (some k)), x5] [] σ Q := by
  have hvb := x_verb (fb := fb) (d := d + 13) hP hC hN
  rw [hv] at hvb
  have ho := hC.1
  obtain ⟨pr, hpr⟩ : ∃ q, prO p = q := ⟨_, rfl⟩
  have hgo := fun σ W2 R2 h1 h2 h3 => hgo σ W2 R2 h1 h2 h3
  rw [hpr] at hgo hre ⊢
  refine x_ic T_96_70 ?_
  refine x_si (ls1 := [some (vR (some 128)), some (vI p), some (vR (some pr)), some (vI i), some (vR (some k)), some (vI 18)]) T_96_72 rfl ?_
  refine x_lr (z := some k) T_96_74 rfl ?_
  refine x_cv1 T_96_76 mN_114 mL_114 (Nat.le_of_ble_eq_true rfl) mO_114 (hP.o ho) (Nat.le_of_ble_eq_true rfl) (hvb) ?_
  rintro _ σ ⟨rfl, rfl⟩
  refine cI ?_
  refine x_swIn T_96_79 (by decide) (by decide) rfl ?_
  refine x_lr (z := some 128) T_96_202 rfl ?_
  refine x_gR (z := some 2175) T_96_203 F_0_1 (hP.o xo_128) (hP.rc xo_128 rfl rfl) ?_
  refine x_lr (z := some pr) T_96_206 rfl ?_
  refine x_lr (z := some k) T_96_207 rfl ?_
  refine x_cv3 T_96_209 mN_116 mL_116 (Nat.le_of_ble_eq_true rfl) mO_116 (hP.o xo_2175) (Nat.le_of_ble_eq_true rfl) (hre) ?_
  clear hP hre
  rintro _ σ ⟨rfl, W2, R2, hP, g1, g2⟩
  refine cI ?_
  refine x_si (ls1 := [some (vR (some 128)), some (vI p), some (vR (some pr)), some (vI i), some (vR (some k)), some (vI A.1)]) T_96_212 rfl ?_
  refine x_goto T_96_214 ?_
  exact hgo σ W2 R2 hP g1 g2
theorem ev_c2 {x5 : Option AV} (hP : PX σ0 W R σ) (hC : CMD W k L) (hN : 0 < ((lnW L).length : Int)) (hv : vbN (lnB L 0) = 2) (hre : CL fb (d + 19) 133 [vR (some 2175), vR (some (prO p)), vR (some k)] σ (XCM σ0 K T U W R A)) (hgo : XEN fb d σ0 K T U p i k x5 W R A Q) : WP fb (d + 20) 96 70 [some (vR (some 128)), some (vI p), some (vR (some (prO p))), some (vI i), some (vR (some k)), x5] [] σ Q := by
  have hvb := x_verb (fb := fb) (d := d + 13) hP hC hN
  rw [hv] at hvb
  have ho := hC.1
  obtain ⟨pr, hpr⟩ : ∃ q, prO p = q := ⟨_, rfl⟩
  have hgo := fun σ W2 R2 h1 h2 h3 => hgo σ W2 R2 h1 h2 h3
  rw [hpr] at hgo hre ⊢
  refine x_ic T_96_70 ?_
  refine x_si (ls1 := [some (vR (some 128)), some (vI p), some (vR (some pr)), some (vI i), some (vR (some k)), some (vI 18)]) T_96_72 rfl ?_
  refine x_lr (z := some k) T_96_74 rfl ?_
  refine x_cv1 T_96_76 mN_114 mL_114 (Nat.le_of_ble_eq_true rfl) mO_114 (hP.o ho) (Nat.le_of_ble_eq_true rfl) (hvb) ?_
  rintro _ σ ⟨rfl, rfl⟩
  refine cI ?_
  refine x_swIn T_96_79 (by decide) (by decide) rfl ?_
  refine x_lr (z := some 128) T_96_217 rfl ?_
  refine x_gR (z := some 2175) T_96_218 F_0_1 (hP.o xo_128) (hP.rc xo_128 rfl rfl) ?_
  refine x_lr (z := some pr) T_96_221 rfl ?_
  refine x_lr (z := some k) T_96_222 rfl ?_
  refine x_cv3 T_96_224 mN_133 mL_133 (Nat.le_of_ble_eq_true rfl) mO_133 (hP.o xo_2175) (Nat.le_of_ble_eq_true rfl) (hre) ?_
  clear hP hre
  rintro _ σ ⟨rfl, W2, R2, hP, g1, g2⟩
  refine cI ?_
  refine x_si (ls1 := [some (vR (some 128)), some (vI p), some (vR (some pr)), some (vI i), some (vR (some k)), some (vI A.1)]) T_96_227 rfl ?_
  refine x_goto T_96_229 ?_
  exact hgo σ W2 R2 hP g1 g2
theorem ev_c3 {x5 : Option AV} (hP : PX σ0 W R σ) (hC : CMD W k L) (hN : 0 < ((lnW L).length : Int)) (hv : vbN (lnB L 0) = 3) (hre : CL fb (d + 19) 138 [vR (some 2175), vR (some (prO p)), vR (some k)] σ (XCM σ0 K T U W R A)) (hgo : XEN fb d σ0 K T U p i k x5 W R A Q) : WP fb (d + 20) 96 70 [some (vR (some 128)), some (vI p), some (vR (some (prO p))), some (vI i), some (vR (some k)), x5] [] σ Q := by
  have hvb := x_verb (fb := fb) (d := d + 13) hP hC hN
  rw [hv] at hvb
  have ho := hC.1
  obtain ⟨pr, hpr⟩ : ∃ q, prO p = q := ⟨_, rfl⟩
  have hgo := fun σ W2 R2 h1 h2 h3 => hgo σ W2 R2 h1 h2 h3
  rw [hpr] at hgo hre ⊢
  refine x_ic T_96_70 ?_
  refine x_si (ls1 := [some (vR (some 128)), some (vI p), some (vR (some pr)), some (vI i), some (vR (some k)), some (vI 18)]) T_96_72 rfl ?_
  refine x_lr (z := some k) T_96_74 rfl ?_
  refine x_cv1 T_96_76 mN_114 mL_114 (Nat.le_of_ble_eq_true rfl) mO_114 (hP.o ho) (Nat.le_of_ble_eq_true rfl) (hvb) ?_
  rintro _ σ ⟨rfl, rfl⟩
  refine cI ?_
  refine x_swIn T_96_79 (by decide) (by decide) rfl ?_
  refine x_lr (z := some 128) T_96_232 rfl ?_
  refine x_gR (z := some 2175) T_96_233 F_0_1 (hP.o xo_128) (hP.rc xo_128 rfl rfl) ?_
  refine x_lr (z := some pr) T_96_236 rfl ?_
  refine x_lr (z := some k) T_96_237 rfl ?_
  refine x_cv3 T_96_239 mN_138 mL_138 (Nat.le_of_ble_eq_true rfl) mO_138 (hP.o xo_2175) (Nat.le_of_ble_eq_true rfl) (hre) ?_
  clear hP hre
  rintro _ σ ⟨rfl, W2, R2, hP, g1, g2⟩
  refine cI ?_
  refine x_si (ls1 := [some (vR (some 128)), some (vI p), some (vR (some pr)), some (vI i), some (vR (some k)), some (vI A.1)]) T_96_242 rfl ?_
  refine x_goto T_96_244 ?_
  exact hgo σ W2 R2 hP g1 g2
theorem ev_c4 {x5 : Option AV} (hP : PX σ0 W R σ) (hC : CMD W k L) (hN : 0 < ((lnW L).length : Int)) (hv : vbN (lnB L 0) = 4) (hre : CL fb (d + 19) 142 [vR (some 2175), vR (some (prO p)), vR (some k)] σ (XCM σ0 K T U W R A)) (hgo : XEN fb d σ0 K T U p i k x5 W R A Q) : WP fb (d + 20) 96 70 [some (vR (some 128)), some (vI p), some (vR (some (prO p))), some (vI i), some (vR (some k)), x5] [] σ Q := by
  have hvb := x_verb (fb := fb) (d := d + 13) hP hC hN
  rw [hv] at hvb
  have ho := hC.1
  obtain ⟨pr, hpr⟩ : ∃ q, prO p = q := ⟨_, rfl⟩
  have hgo := fun σ W2 R2 h1 h2 h3 => hgo σ W2 R2 h1 h2 h3
  rw [hpr] at hgo hre ⊢
  refine x_ic T_96_70 ?_
  refine x_si (ls1 := [some (vR (some 128)), some (vI p), some (vR (some pr)), some (vI i), some (vR (some k)), some (vI 18)]) T_96_72 rfl ?_
  refine x_lr (z := some k) T_96_74 rfl ?_
  refine x_cv1 T_96_76 mN_114 mL_114 (Nat.le_of_ble_eq_true rfl) mO_114 (hP.o ho) (Nat.le_of_ble_eq_true rfl) (hvb) ?_
  rintro _ σ ⟨rfl, rfl⟩
  refine cI ?_
  refine x_swIn T_96_79 (by decide) (by decide) rfl ?_
  refine x_lr (z := some 128) T_96_247 rfl ?_
  refine x_gR (z := some 2175) T_96_248 F_0_1 (hP.o xo_128) (hP.rc xo_128 rfl rfl) ?_
  refine x_lr (z := some pr) T_96_251 rfl ?_
  refine x_lr (z := some k) T_96_252 rfl ?_
  refine x_cv3 T_96_254 mN_142 mL_142 (Nat.le_of_ble_eq_true rfl) mO_142 (hP.o xo_2175) (Nat.le_of_ble_eq_true rfl) (hre) ?_
  clear hP hre
  rintro _ σ ⟨rfl, W2, R2, hP, g1, g2⟩
  refine cI ?_
  refine x_si (ls1 := [some (vR (some 128)), some (vI p), some (vR (some pr)), some (vI i), some (vR (some k)), some (vI A.1)]) T_96_257 rfl ?_
  refine x_goto T_96_259 ?_
  exact hgo σ W2 R2 hP g1 g2
theorem ev_c5 {x5 : Option AV} (hP : PX σ0 W R σ) (hC : CMD W k L) (hN : 0 < ((lnW L).length : Int)) (hv : vbN (lnB L 0) = 5) (hre : CL fb (d + 19) 147 [vR (some 2175), vR (some (prO p)), vR (some k)] σ (XCM σ0 K T U W R A)) (hgo : XEN fb d σ0 K T U p i k x5 W R A Q) : WP fb (d + 20) 96 70 [some (vR (some 128)), some (vI p), some (vR (some (prO p))), some (vI i), some (vR (some k)), x5] [] σ Q := by
  have hvb := x_verb (fb := fb) (d := d + 13) hP hC hN
  rw [hv] at hvb
  have ho := hC.1
  obtain ⟨pr, hpr⟩ : ∃ q, prO p = q := ⟨_, rfl⟩
  have hgo := fun σ W2 R2 h1 h2 h3 => hgo σ W2 R2 h1 h2 h3
  rw [hpr] at hgo hre ⊢
  refine x_ic T_96_70 ?_
  refine x_si (ls1 := [some (vR (some 128)), some (vI p), some (vR (some pr)), some (vI i), some (vR (some k)), some (vI 18)]) T_96_72 rfl ?_
  refine x_lr (z := some k) T_96_74 rfl ?_
  refine x_cv1 T_96_76 mN_114 mL_114 (Nat.le_of_ble_eq_true rfl) mO_114 (hP.o ho) (Nat.le_of_ble_eq_true rfl) (hvb) ?_
  rintro _ σ ⟨rfl, rfl⟩
  refine cI ?_
  refine x_swIn T_96_79 (by decide) (by decide) rfl ?_
  refine x_lr (z := some 128) T_96_262 rfl ?_
  refine x_gR (z := some 2175) T_96_263 F_0_1 (hP.o xo_128) (hP.rc xo_128 rfl rfl) ?_
  refine x_lr (z := some pr) T_96_266 rfl ?_
  refine x_lr (z := some k) T_96_267 rfl ?_
  refine x_cv3 T_96_269 mN_147 mL_147 (Nat.le_of_ble_eq_true rfl) mO_147 (hP.o xo_2175) (Nat.le_of_ble_eq_true rfl) (hre) ?_
  clear hP hre
  rintro _ σ ⟨rfl, W2, R2, hP, g1, g2⟩
  refine cI ?_
  refine x_si (ls1 := [some (vR (some 128)), some (vI p), some (vR (some pr)), some (vI i), some (vR (some k)), some (vI A.1)]) T_96_272 rfl ?_
  refine x_goto T_96_274 ?_
  exact hgo σ W2 R2 hP g1 g2
theorem ev_c6 {x5 : Option AV} (hP : PX σ0 W R σ) (hC : CMD W k L) (hN : 0 < ((lnW L).length : Int)) (hv : vbN (lnB L 0) = 6) (hre : CL fb (d + 19) 148 [vR (some 2175), vR (some (prO p)), vR (some k)] σ (XCM σ0 K T U W R A)) (hgo : XEN fb d σ0 K T U p i k x5 W R A Q) : WP fb (d + 20) 96 70 [some (vR (some 128)), some (vI p), some (vR (some (prO p))), some (vI i), some (vR (some k)), x5] [] σ Q := by
  have hvb := x_verb (fb := fb) (d := d + 13) hP hC hN
  rw [hv] at hvb
  have ho := hC.1
  obtain ⟨pr, hpr⟩ : ∃ q, prO p = q := ⟨_, rfl⟩
  have hgo := fun σ W2 R2 h1 h2 h3 => hgo σ W2 R2 h1 h2 h3
  rw [hpr] at hgo hre ⊢
  refine x_ic T_96_70 ?_
  refine x_si (ls1 := [some (vR (some 128)), some (vI p), some (vR (some pr)), some (vI i), some (vR (some k)), some (vI 18)]) T_96_72 rfl ?_
  refine x_lr (z := some k) T_96_74 rfl ?_
  refine x_cv1 T_96_76 mN_114 mL_114 (Nat.le_of_ble_eq_true rfl) mO_114 (hP.o ho) (Nat.le_of_ble_eq_true rfl) (hvb) ?_
  rintro _ σ ⟨rfl, rfl⟩
  refine cI ?_
  refine x_swIn T_96_79 (by decide) (by decide) rfl ?_
  refine x_lr (z := some 128) T_96_277 rfl ?_
  refine x_gR (z := some 2175) T_96_278 F_0_1 (hP.o xo_128) (hP.rc xo_128 rfl rfl) ?_
  refine x_lr (z := some pr) T_96_281 rfl ?_
  refine x_lr (z := some k) T_96_282 rfl ?_
  refine x_cv3 T_96_284 mN_148 mL_148 (Nat.le_of_ble_eq_true rfl) mO_148 (hP.o xo_2175) (Nat.le_of_ble_eq_true rfl) (hre) ?_
  clear hP hre
  rintro _ σ ⟨rfl, W2, R2, hP, g1, g2⟩
  refine cI ?_
  refine x_si (ls1 := [some (vR (some 128)), some (vI p), some (vR (some pr)), some (vI i), some (vR (some k)), some (vI A.1)]) T_96_287 rfl ?_
  refine x_goto T_96_289 ?_
  exact hgo σ W2 R2 hP g1 g2
theorem ev_c7 {x5 : Option AV} (hP : PX σ0 W R σ) (hC : CMD W k L) (hN : 0 < ((lnW L).length : Int)) (hv : vbN (lnB L 0) = 7) (hre : CL fb (d + 19) 156 [vR (some 2175), vR (some (prO p)), vR (some k)] σ (XCM σ0 K T U W R A)) (hgo : XEN fb d σ0 K T U p i k x5 W R A Q) : WP fb (d + 20) 96 70 [some (vR (some 128)), some (vI p), some (vR (some (prO p))), some (vI i), some (vR (some k)), x5] [] σ Q := by
  have hvb := x_verb (fb := fb) (d := d + 13) hP hC hN
  rw [hv] at hvb
  have ho := hC.1
  obtain ⟨pr, hpr⟩ : ∃ q, prO p = q := ⟨_, rfl⟩
  have hgo := fun σ W2 R2 h1 h2 h3 => hgo σ W2 R2 h1 h2 h3
  rw [hpr] at hgo hre ⊢
  refine x_ic T_96_70 ?_
  refine x_si (ls1 := [some (vR (some 128)), some (vI p), some (vR (some pr)), some (vI i), some (vR (some k)), some (vI 18)]) T_96_72 rfl ?_
  refine x_lr (z := some k) T_96_74 rfl ?_
  refine x_cv1 T_96_76 mN_114 mL_114 (Nat.le_of_ble_eq_true rfl) mO_114 (hP.o ho) (Nat.le_of_ble_eq_true rfl) (hvb) ?_
  rintro _ σ ⟨rfl, rfl⟩
  refine cI ?_
  refine x_swIn T_96_79 (by decide) (by decide) rfl ?_
  refine x_lr (z := some 128) T_96_292 rfl ?_
  refine x_gR (z := some 2175) T_96_293 F_0_1 (hP.o xo_128) (hP.rc xo_128 rfl rfl) ?_
  refine x_lr (z := some pr) T_96_296 rfl ?_
  refine x_lr (z := some k) T_96_297 rfl ?_
  refine x_cv3 T_96_299 mN_156 mL_156 (Nat.le_of_ble_eq_true rfl) mO_156 (hP.o xo_2175) (Nat.le_of_ble_eq_true rfl) (hre) ?_
  clear hP hre
  rintro _ σ ⟨rfl, W2, R2, hP, g1, g2⟩
  refine cI ?_
  refine x_si (ls1 := [some (vR (some 128)), some (vI p), some (vR (some pr)), some (vI i), some (vR (some k)), some (vI A.1)]) T_96_302 rfl ?_
  refine x_goto T_96_304 ?_
  exact hgo σ W2 R2 hP g1 g2
theorem ev_c8 {x5 : Option AV} (hP : PX σ0 W R σ) (hC : CMD W k L) (hN : 0 < ((lnW L).length : Int)) (hv : vbN (lnB L 0) = 8) (hre : CL fb (d + 19) 157 [vR (some 2175), vR (some (prO p)), vR (some k)] σ (XCM σ0 K T U W R A)) (hgo : XEN fb d σ0 K T U p i k x5 W R A Q) : WP fb (d + 20) 96 70 [some (vR (some 128)), some (vI p), some (vR (some (prO p))), some (vI i), some (vR (some k)), x5] [] σ Q := by
  have hvb := x_verb (fb := fb) (d := d + 13) hP hC hN
  rw [hv] at hvb
  have ho := hC.1
  obtain ⟨pr, hpr⟩ : ∃ q, prO p = q := ⟨_, rfl⟩
  have hgo := fun σ W2 R2 h1 h2 h3 => hgo σ W2 R2 h1 h2 h3
  rw [hpr] at hgo hre ⊢
  refine x_ic T_96_70 ?_
  refine x_si (ls1 := [some (vR (some 128)), some (vI p), some (vR (some pr)), some (vI i), some (vR (some k)), some (vI 18)]) T_96_72 rfl ?_
  refine x_lr (z := some k) T_96_74 rfl ?_
  refine x_cv1 T_96_76 mN_114 mL_114 (Nat.le_of_ble_eq_true rfl) mO_114 (hP.o ho) (Nat.le_of_ble_eq_true rfl) (hvb) ?_
  rintro _ σ ⟨rfl, rfl⟩
  refine cI ?_
  refine x_swIn T_96_79 (by decide) (by decide) rfl ?_
  refine x_lr (z := some 128) T_96_307 rfl ?_
  refine x_gR (z := some 2175) T_96_308 F_0_1 (hP.o xo_128) (hP.rc xo_128 rfl rfl) ?_
  refine x_lr (z := some pr) T_96_311 rfl ?_
  refine x_lr (z := some k) T_96_312 rfl ?_
  refine x_cv3 T_96_314 mN_157 mL_157 (Nat.le_of_ble_eq_true rfl) mO_157 (hP.o xo_2175) (Nat.le_of_ble_eq_true rfl) (hre) ?_
  clear hP hre
  rintro _ σ ⟨rfl, W2, R2, hP, g1, g2⟩
  refine cI ?_
  refine x_si (ls1 := [some (vR (some 128)), some (vI p), some (vR (some pr)), some (vI i), some (vR (some k)), some (vI A.1)]) T_96_317 rfl ?_
  refine x_goto T_96_319 ?_
  exact hgo σ W2 R2 hP g1 g2
theorem ev_c9 {x5 : Option AV} (hP : PX σ0 W R σ) (hC : CMD W k L) (hN : 0 < ((lnW L).length : Int)) (hv : vbN (lnB L 0) = 9) (hre : CL fb (d + 19) 159 [vR (some 2175), vR (some (prO p)), vR (some k)] σ (XCM σ0 K T U W R A)) (hgo : XEN fb d σ0 K T U p i k x5 W R A Q) : WP fb (d + 20) 96 70 [some (vR (some 128)), some (vI p), some (vR (some (prO p))), some (vI i), some (vR (some k)), x5] [] σ Q := by
  have hvb := x_verb (fb := fb) (d := d + 13) hP hC hN
  rw [hv] at hvb
  have ho := hC.1
  obtain ⟨pr, hpr⟩ : ∃ q, prO p = q := ⟨_, rfl⟩
  have hgo := fun σ W2 R2 h1 h2 h3 => hgo σ W2 R2 h1 h2 h3
  rw [hpr] at hgo hre ⊢
  refine x_ic T_96_70 ?_
  refine x_si (ls1 := [some (vR (some 128)), some (vI p), some (vR (some pr)), some (vI i), some (vR (some k)), some (vI 18)]) T_96_72 rfl ?_
  refine x_lr (z := some k) T_96_74 rfl ?_
  refine x_cv1 T_96_76 mN_114 mL_114 (Nat.le_of_ble_eq_true rfl) mO_114 (hP.o ho) (Nat.le_of_ble_eq_true rfl) (hvb) ?_
  rintro _ σ ⟨rfl, rfl⟩
  refine cI ?_
  refine x_swIn T_96_79 (by decide) (by decide) rfl ?_
  refine x_lr (z := some 128) T_96_322 rfl ?_
  refine x_gR (z := some 2175) T_96_323 F_0_1 (hP.o xo_128) (hP.rc xo_128 rfl rfl) ?_
  refine x_lr (z := some pr) T_96_326 rfl ?_
  refine x_lr (z := some k) T_96_327 rfl ?_
  refine x_cv3 T_96_329 mN_159 mL_159 (Nat.le_of_ble_eq_true rfl) mO_159 (hP.o xo_2175) (Nat.le_of_ble_eq_true rfl) (hre) ?_
  clear hP hre
  rintro _ σ ⟨rfl, W2, R2, hP, g1, g2⟩
  refine cI ?_
  refine x_si (ls1 := [some (vR (some 128)), some (vI p), some (vR (some pr)), some (vI i), some (vR (some k)), some (vI A.1)]) T_96_332 rfl ?_
  refine x_goto T_96_334 ?_
  exact hgo σ W2 R2 hP g1 g2
theorem ev_c10 {x5 : Option AV} (hP : PX σ0 W R σ) (hC : CMD W k L) (hN : 0 < ((lnW L).length : Int)) (hv : vbN (lnB L 0) = 10) (hre : CL fb (d + 19) 161 [vR (some 2175), vR (some (prO p)), vR (some k)] σ (XCM σ0 K T U W R A)) (hgo : XEN fb d σ0 K T U p i k x5 W R A Q) : WP fb (d + 20) 96 70 [some (vR (some 128)), some (vI p), some (vR (some (prO p))), some (vI i), some (vR (some k)), x5] [] σ Q := by
  have hvb := x_verb (fb := fb) (d := d + 13) hP hC hN
  rw [hv] at hvb
  have ho := hC.1
  obtain ⟨pr, hpr⟩ : ∃ q, prO p = q := ⟨_, rfl⟩
  have hgo := fun σ W2 R2 h1 h2 h3 => hgo σ W2 R2 h1 h2 h3
  rw [hpr] at hgo hre ⊢
  refine x_ic T_96_70 ?_
  refine x_si (ls1 := [some (vR (some 128)), some (vI p), some (vR (some pr)), some (vI i), some (vR (some k)), some (vI 18)]) T_96_72 rfl ?_
  refine x_lr (z := some k) T_96_74 rfl ?_
  refine x_cv1 T_96_76 mN_114 mL_114 (Nat.le_of_ble_eq_true rfl) mO_114 (hP.o ho) (Nat.le_of_ble_eq_true rfl) (hvb) ?_
  rintro _ σ ⟨rfl, rfl⟩
  refine cI ?_
  refine x_swIn T_96_79 (by decide) (by decide) rfl ?_
  refine x_lr (z := some 128) T_96_337 rfl ?_
  refine x_gR (z := some 2175) T_96_338 F_0_1 (hP.o xo_128) (hP.rc xo_128 rfl rfl) ?_
  refine x_lr (z := some pr) T_96_341 rfl ?_
  refine x_lr (z := some k) T_96_342 rfl ?_
  refine x_cv3 T_96_344 mN_161 mL_161 (Nat.le_of_ble_eq_true rfl) mO_161 (hP.o xo_2175) (Nat.le_of_ble_eq_true rfl) (hre) ?_
  clear hP hre
  rintro _ σ ⟨rfl, W2, R2, hP, g1, g2⟩
  refine cI ?_
  refine x_si (ls1 := [some (vR (some 128)), some (vI p), some (vR (some pr)), some (vI i), some (vR (some k)), some (vI A.1)]) T_96_347 rfl ?_
  refine x_goto T_96_349 ?_
  exact hgo σ W2 R2 hP g1 g2
theorem ev_c11 {x5 : Option AV} (hP : PX σ0 W R σ) (hC : CMD W k L) (hN : 0 < ((lnW L).length : Int)) (hv : vbN (lnB L 0) = 11) (hre : CL fb (d + 19) 162 [vR (some 2175), vR (some (prO p)), vR (some k)] σ (XCM σ0 K T U W R A)) (hgo : XEN fb d σ0 K T U p i k x5 W R A Q) : WP fb (d + 20) 96 70 [some (vR (some 128)), some (vI p), some (vR (some (prO p))), some (vI i), some (vR (some k)), x5] [] σ Q := by
  have hvb := x_verb (fb := fb) (d := d + 13) hP hC hN
  rw [hv] at hvb
  have ho := hC.1
  obtain ⟨pr, hpr⟩ : ∃ q, prO p = q := ⟨_, rfl⟩
  have hgo := fun σ W2 R2 h1 h2 h3 => hgo σ W2 R2 h1 h2 h3
  rw [hpr] at hgo hre ⊢
  refine x_ic T_96_70 ?_
  refine x_si (ls1 := [some (vR (some 128)), some (vI p), some (vR (some pr)), some (vI i), some (vR (some k)), some (vI 18)]) T_96_72 rfl ?_
  refine x_lr (z := some k) T_96_74 rfl ?_
  refine x_cv1 T_96_76 mN_114 mL_114 (Nat.le_of_ble_eq_true rfl) mO_114 (hP.o ho) (Nat.le_of_ble_eq_true rfl) (hvb) ?_
  rintro _ σ ⟨rfl, rfl⟩
  refine cI ?_
  refine x_swIn T_96_79 (by decide) (by decide) rfl ?_
  refine x_lr (z := some 128) T_96_352 rfl ?_
  refine x_gR (z := some 2175) T_96_353 F_0_1 (hP.o xo_128) (hP.rc xo_128 rfl rfl) ?_
  refine x_lr (z := some pr) T_96_356 rfl ?_
  refine x_lr (z := some k) T_96_357 rfl ?_
  refine x_cv3 T_96_359 mN_162 mL_162 (Nat.le_of_ble_eq_true rfl) mO_162 (hP.o xo_2175) (Nat.le_of_ble_eq_true rfl) (hre) ?_
  clear hP hre
  rintro _ σ ⟨rfl, W2, R2, hP, g1, g2⟩
  refine cI ?_
  refine x_si (ls1 := [some (vR (some 128)), some (vI p), some (vR (some pr)), some (vI i), some (vR (some k)), some (vI A.1)]) T_96_362 rfl ?_
  refine x_goto T_96_364 ?_
  exact hgo σ W2 R2 hP g1 g2
theorem ev_c12 {x5 : Option AV} (hP : PX σ0 W R σ) (hC : CMD W k L) (hN : 0 < ((lnW L).length : Int)) (hv : vbN (lnB L 0) = 12) (hre : CL fb (d + 19) 164 [vR (some 2175), vR (some (prO p)), vR (some k)] σ (XCM σ0 K T U W R A)) (hgo : XEN fb d σ0 K T U p i k x5 W R A Q) : WP fb (d + 20) 96 70 [some (vR (some 128)), some (vI p), some (vR (some (prO p))), some (vI i), some (vR (some k)), x5] [] σ Q := by
  have hvb := x_verb (fb := fb) (d := d + 13) hP hC hN
  rw [hv] at hvb
  have ho := hC.1
  obtain ⟨pr, hpr⟩ : ∃ q, prO p = q := ⟨_, rfl⟩
  have hgo := fun σ W2 R2 h1 h2 h3 => hgo σ W2 R2 h1 h2 h3
  rw [hpr] at hgo hre ⊢
  refine x_ic T_96_70 ?_
  refine x_si (ls1 := [some (vR (some 128)), some (vI p), some (vR (some pr)), some (vI i), some (vR (some k)), some (vI 18)]) T_96_72 rfl ?_
  refine x_lr (z := some k) T_96_74 rfl ?_
  refine x_cv1 T_96_76 mN_114 mL_114 (Nat.le_of_ble_eq_true rfl) mO_114 (hP.o ho) (Nat.le_of_ble_eq_true rfl) (hvb) ?_
  rintro _ σ ⟨rfl, rfl⟩
  refine cI ?_
  refine x_swIn T_96_79 (by decide) (by decide) rfl ?_
  refine x_lr (z := some 128) T_96_367 rfl ?_
  refine x_gR (z := some 2175) T_96_368 F_0_1 (hP.o xo_128) (hP.rc xo_128 rfl rfl) ?_
  refine x_lr (z := some pr) T_96_371 rfl ?_
  refine x_lr (z := some k) T_96_372 rfl ?_
  refine x_cv3 T_96_374 mN_164 mL_164 (Nat.le_of_ble_eq_true rfl) mO_164 (hP.o xo_2175) (Nat.le_of_ble_eq_true rfl) (hre) ?_
  clear hP hre
  rintro _ σ ⟨rfl, W2, R2, hP, g1, g2⟩
  refine cI ?_
  refine x_si (ls1 := [some (vR (some 128)), some (vI p), some (vR (some pr)), some (vI i), some (vR (some k)), some (vI A.1)]) T_96_377 rfl ?_
  refine x_goto T_96_379 ?_
  exact hgo σ W2 R2 hP g1 g2
theorem ev_c13 {x5 : Option AV} (hP : PX σ0 W R σ) (hC : CMD W k L) (hN : 0 < ((lnW L).length : Int)) (hv : vbN (lnB L 0) = 13) (hre : CL fb (d + 19) 165 [vR (some 2175), vR (some (prO p)), vR (some k)] σ (XCM σ0 K T U W R A)) (hgo : XEN fb d σ0 K T U p i k x5 W R A Q) : WP fb (d + 20) 96 70 [some (vR (some 128)), some (vI p), some (vR (some (prO p))), some (vI i), some (vR (some k)), x5] [] σ Q := by
  have hvb := x_verb (fb := fb) (d := d + 13) hP hC hN
  rw [hv] at hvb
  have ho := hC.1
  obtain ⟨pr, hpr⟩ : ∃ q, prO p = q := ⟨_, rfl⟩
  have hgo := fun σ W2 R2 h1 h2 h3 => hgo σ W2 R2 h1 h2 h3
  rw [hpr] at hgo hre ⊢
  refine x_ic T_96_70 ?_
  refine x_si (ls1 := [some (vR (some 128)), some (vI p), some (vR (some pr)), some (vI i), some (vR (some k)), some (vI 18)]) T_96_72 rfl ?_
  refine x_lr (z := some k) T_96_74 rfl ?_
  refine x_cv1 T_96_76 mN_114 mL_114 (Nat.le_of_ble_eq_true rfl) mO_114 (hP.o ho) (Nat.le_of_ble_eq_true rfl) (hvb) ?_
  rintro _ σ ⟨rfl, rfl⟩
  refine cI ?_
  refine x_swIn T_96_79 (by decide) (by decide) rfl ?_
  refine x_lr (z := some 128) T_96_382 rfl ?_
  refine x_gR (z := some 2175) T_96_383 F_0_1 (hP.o xo_128) (hP.rc xo_128 rfl rfl) ?_
  refine x_lr (z := some pr) T_96_386 rfl ?_
  refine x_lr (z := some k) T_96_387 rfl ?_
  refine x_cv3 T_96_389 mN_165 mL_165 (Nat.le_of_ble_eq_true rfl) mO_165 (hP.o xo_2175) (Nat.le_of_ble_eq_true rfl) (hre) ?_
  clear hP hre
  rintro _ σ ⟨rfl, W2, R2, hP, g1, g2⟩
  refine cI ?_
  refine x_si (ls1 := [some (vR (some 128)), some (vI p), some (vR (some pr)), some (vI i), some (vR (some k)), some (vI A.1)]) T_96_392 rfl ?_
  refine x_goto T_96_394 ?_
  exact hgo σ W2 R2 hP g1 g2
theorem ev_c14 {x5 : Option AV} (hP : PX σ0 W R σ) (hC : CMD W k L) (hN : 0 < ((lnW L).length : Int)) (hv : vbN (lnB L 0) = 14) (hre : CL fb (d + 19) 167 [vR (some 2175), vR (some (prO p)), vR (some k)] σ (XCM σ0 K T U W R A)) (hgo : XEN fb d σ0 K T U p i k x5 W R A Q) : WP fb (d + 20) 96 70 [some (vR (some 128)), some (vI p), some (vR (some (prO p))), some (vI i), some (vR (some k)), x5] [] σ Q := by
  have hvb := x_verb (fb := fb) (d := d + 13) hP hC hN
  rw [hv] at hvb
  have ho := hC.1
  obtain ⟨pr, hpr⟩ : ∃ q, prO p = q := ⟨_, rfl⟩
  have hgo := fun σ W2 R2 h1 h2 h3 => hgo σ W2 R2 h1 h2 h3
  rw [hpr] at hgo hre ⊢
  refine x_ic T_96_70 ?_
  refine x_si (ls1 := [some (vR (some 128)), some (vI p), some (vR (some pr)), some (vI i), some (vR (some k)), some (vI 18)]) T_96_72 rfl ?_
  refine x_lr (z := some k) T_96_74 rfl ?_
  refine x_cv1 T_96_76 mN_114 mL_114 (Nat.le_of_ble_eq_true rfl) mO_114 (hP.o ho) (Nat.le_of_ble_eq_true rfl) (hvb) ?_
  rintro _ σ ⟨rfl, rfl⟩
  refine cI ?_
  refine x_swIn T_96_79 (by decide) (by decide) rfl ?_
  refine x_lr (z := some 128) T_96_397 rfl ?_
  refine x_gR (z := some 2175) T_96_398 F_0_1 (hP.o xo_128) (hP.rc xo_128 rfl rfl) ?_
  refine x_lr (z := some pr) T_96_401 rfl ?_
  refine x_lr (z := some k) T_96_402 rfl ?_
  refine x_cv3 T_96_404 mN_167 mL_167 (Nat.le_of_ble_eq_true rfl) mO_167 (hP.o xo_2175) (Nat.le_of_ble_eq_true rfl) (hre) ?_
  clear hP hre
  rintro _ σ ⟨rfl, W2, R2, hP, g1, g2⟩
  refine cI ?_
  refine x_si (ls1 := [some (vR (some 128)), some (vI p), some (vR (some pr)), some (vI i), some (vR (some k)), some (vI A.1)]) T_96_407 rfl ?_
  refine x_goto T_96_409 ?_
  exact hgo σ W2 R2 hP g1 g2
theorem ev_c15 {x5 : Option AV} (hP : PX σ0 W R σ) (hC : CMD W k L) (hN : 0 < ((lnW L).length : Int)) (hv : vbN (lnB L 0) = 15) (hre : CL fb (d + 19) 168 [vR (some 2175), vR (some (prO p)), vR (some k)] σ (XCM σ0 K T U W R A)) (hgo : XEN fb d σ0 K T U p i k x5 W R A Q) : WP fb (d + 20) 96 70 [some (vR (some 128)), some (vI p), some (vR (some (prO p))), some (vI i), some (vR (some k)), x5] [] σ Q := by
  have hvb := x_verb (fb := fb) (d := d + 13) hP hC hN
  rw [hv] at hvb
  have ho := hC.1
  obtain ⟨pr, hpr⟩ : ∃ q, prO p = q := ⟨_, rfl⟩
  have hgo := fun σ W2 R2 h1 h2 h3 => hgo σ W2 R2 h1 h2 h3
  rw [hpr] at hgo hre ⊢
  refine x_ic T_96_70 ?_
  refine x_si (ls1 := [some (vR (some 128)), some (vI p), some (vR (some pr)), some (vI i), some (vR (some k)), some (vI 18)]) T_96_72 rfl ?_
  refine x_lr (z := some k) T_96_74 rfl ?_
  refine x_cv1 T_96_76 mN_114 mL_114 (Nat.le_of_ble_eq_true rfl) mO_114 (hP.o ho) (Nat.le_of_ble_eq_true rfl) (hvb) ?_
  rintro _ σ ⟨rfl, rfl⟩
  refine cI ?_
  refine x_swIn T_96_79 (by decide) (by decide) rfl ?_
  refine x_lr (z := some 128) T_96_412 rfl ?_
  refine x_gR (z := some 2175) T_96_413 F_0_1 (hP.o xo_128) (hP.rc xo_128 rfl rfl) ?_
  refine x_lr (z := some pr) T_96_416 rfl ?_
  refine x_lr (z := some k) T_96_417 rfl ?_
  refine x_cv3 T_96_419 mN_168 mL_168 (Nat.le_of_ble_eq_true rfl) mO_168 (hP.o xo_2175) (Nat.le_of_ble_eq_true rfl) (hre) ?_
  clear hP hre
  rintro _ σ ⟨rfl, W2, R2, hP, g1, g2⟩
  refine cI ?_
  refine x_si (ls1 := [some (vR (some 128)), some (vI p), some (vR (some pr)), some (vI i), some (vR (some k)), some (vI A.1)]) T_96_422 rfl ?_
  refine x_goto T_96_424 ?_
  exact hgo σ W2 R2 hP g1 g2
theorem ev_c16 {x5 : Option AV} (hP : PX σ0 W R σ) (hC : CMD W k L) (hN : 0 < ((lnW L).length : Int)) (hv : vbN (lnB L 0) = 16) (hre : CL fb (d + 19) 169 [vR (some 2175), vR (some (prO p)), vR (some k)] σ (XCM σ0 K T U W R A)) (hgo : XEN fb d σ0 K T U p i k x5 W R A Q) : WP fb (d + 20) 96 70 [some (vR (some 128)), some (vI p), some (vR (some (prO p))), some (vI i), some (vR (some k)), x5] [] σ Q := by
  have hvb := x_verb (fb := fb) (d := d + 13) hP hC hN
  rw [hv] at hvb
  have ho := hC.1
  obtain ⟨pr, hpr⟩ : ∃ q, prO p = q := ⟨_, rfl⟩
  have hgo := fun σ W2 R2 h1 h2 h3 => hgo σ W2 R2 h1 h2 h3
  rw [hpr] at hgo hre ⊢
  refine x_ic T_96_70 ?_
  refine x_si (ls1 := [some (vR (some 128)), some (vI p), some (vR (some pr)), some (vI i), some (vR (some k)), some (vI 18)]) T_96_72 rfl ?_
  refine x_lr (z := some k) T_96_74 rfl ?_
  refine x_cv1 T_96_76 mN_114 mL_114 (Nat.le_of_ble_eq_true rfl) mO_114 (hP.o ho) (Nat.le_of_ble_eq_true rfl) (hvb) ?_
  rintro _ σ ⟨rfl, rfl⟩
  refine cI ?_
  refine x_swIn T_96_79 (by decide) (by decide) rfl ?_
  refine x_lr (z := some 128) T_96_427 rfl ?_
  refine x_gR (z := some 2175) T_96_428 F_0_1 (hP.o xo_128) (hP.rc xo_128 rfl rfl) ?_
  refine x_lr (z := some pr) T_96_431 rfl ?_
  refine x_lr (z := some k) T_96_432 rfl ?_
  refine x_cv3 T_96_434 mN_169 mL_169 (Nat.le_of_ble_eq_true rfl) mO_169 (hP.o xo_2175) (Nat.le_of_ble_eq_true rfl) (hre) ?_
  clear hP hre
  rintro _ σ ⟨rfl, W2, R2, hP, g1, g2⟩
  refine cI ?_
  refine x_si (ls1 := [some (vR (some 128)), some (vI p), some (vR (some pr)), some (vI i), some (vR (some k)), some (vI A.1)]) T_96_437 rfl ?_
  refine x_goto T_96_439 ?_
  exact hgo σ W2 R2 hP g1 g2
theorem ev_c17 {x5 : Option AV} (hP : PX σ0 W R σ) (hC : CMD W k L) (hN : 0 < ((lnW L).length : Int)) (hv : vbN (lnB L 0) = 17) (hre : CL fb (d + 19) 171 [vR (some 2175), vR (some (prO p)), vR (some k)] σ (XCM σ0 K T U W R A)) (hgo : XEN fb d σ0 K T U p i k x5 W R A Q) : WP fb (d + 20) 96 70 [some (vR (some 128)), some (vI p), some (vR (some (prO p))), some (vI i), some (vR (some k)), x5] [] σ Q := by
  have hvb := x_verb (fb := fb) (d := d + 13) hP hC hN
  rw [hv] at hvb
  have ho := hC.1
  obtain ⟨pr, hpr⟩ : ∃ q, prO p = q := ⟨_, rfl⟩
  have hgo := fun σ W2 R2 h1 h2 h3 => hgo σ W2 R2 h1 h2 h3
  rw [hpr] at hgo hre ⊢
  refine x_ic T_96_70 ?_
  refine x_si (ls1 := [some (vR (some 128)), some (vI p), some (vR (some pr)), some (vI i), some (vR (some k)), some (vI 18)]) T_96_72 rfl ?_
  refine x_lr (z := some k) T_96_74 rfl ?_
  refine x_cv1 T_96_76 mN_114 mL_114 (Nat.le_of_ble_eq_true rfl) mO_114 (hP.o ho) (Nat.le_of_ble_eq_true rfl) (hvb) ?_
  rintro _ σ ⟨rfl, rfl⟩
  refine cI ?_
  refine x_swIn T_96_79 (by decide) (by decide) rfl ?_
  refine x_lr (z := some 128) T_96_442 rfl ?_
  refine x_gR (z := some 2175) T_96_443 F_0_1 (hP.o xo_128) (hP.rc xo_128 rfl rfl) ?_
  refine x_lr (z := some pr) T_96_446 rfl ?_
  refine x_lr (z := some k) T_96_447 rfl ?_
  refine x_cv3 T_96_449 mN_171 mL_171 (Nat.le_of_ble_eq_true rfl) mO_171 (hP.o xo_2175) (Nat.le_of_ble_eq_true rfl) (hre) ?_
  clear hP hre
  rintro _ σ ⟨rfl, W2, R2, hP, g1, g2⟩
  refine cI ?_
  refine x_si (ls1 := [some (vR (some 128)), some (vI p), some (vR (some pr)), some (vI i), some (vR (some k)), some (vI A.1)]) T_96_452 rfl ?_
  refine x_goto T_96_454 ?_
  exact hgo σ W2 R2 hP g1 g2
theorem ev_c18 {x5 : Option AV} (hP : PX σ0 W R σ) (hC : CMD W k L) (hN : 0 < ((lnW L).length : Int)) (hv : vbN (lnB L 0) = 18) (hre : CL fb (d + 19) 180 [vR (some 2175), vR (some (prO p)), vR (some k)] σ (XCM σ0 K T U W R A)) (hgo : XEN fb d σ0 K T U p i k x5 W R A Q) : WP fb (d + 20) 96 70 [some (vR (some 128)), some (vI p), some (vR (some (prO p))), some (vI i), some (vR (some k)), x5] [] σ Q := by
  have hvb := x_verb (fb := fb) (d := d + 13) hP hC hN
  rw [hv] at hvb
  have ho := hC.1
  obtain ⟨pr, hpr⟩ : ∃ q, prO p = q := ⟨_, rfl⟩
  have hgo := fun σ W2 R2 h1 h2 h3 => hgo σ W2 R2 h1 h2 h3
  rw [hpr] at hgo hre ⊢
  refine x_ic T_96_70 ?_
  refine x_si (ls1 := [some (vR (some 128)), some (vI p), some (vR (some pr)), some (vI i), some (vR (some k)), some (vI 18)]) T_96_72 rfl ?_
  refine x_lr (z := some k) T_96_74 rfl ?_
  refine x_cv1 T_96_76 mN_114 mL_114 (Nat.le_of_ble_eq_true rfl) mO_114 (hP.o ho) (Nat.le_of_ble_eq_true rfl) (hvb) ?_
  rintro _ σ ⟨rfl, rfl⟩
  refine cI ?_
  refine x_swIn T_96_79 (by decide) (by decide) rfl ?_
  refine x_lr (z := some 128) T_96_457 rfl ?_
  refine x_gR (z := some 2175) T_96_458 F_0_1 (hP.o xo_128) (hP.rc xo_128 rfl rfl) ?_
  refine x_lr (z := some pr) T_96_461 rfl ?_
  refine x_lr (z := some k) T_96_462 rfl ?_
  refine x_cv3 T_96_464 mN_180 mL_180 (Nat.le_of_ble_eq_true rfl) mO_180 (hP.o xo_2175) (Nat.le_of_ble_eq_true rfl) (hre) ?_
  clear hP hre
  rintro _ σ ⟨rfl, W2, R2, hP, g1, g2⟩
  refine cI ?_
  refine x_si (ls1 := [some (vR (some 128)), some (vI p), some (vR (some pr)), some (vI i), some (vR (some k)), some (vI A.1)]) T_96_467 rfl ?_
  refine x_goto T_96_469 ?_
  exact hgo σ W2 R2 hP g1 g2
theorem ev_c19 {x5 : Option AV} (hP : PX σ0 W R σ) (hC : CMD W k L) (hN : 0 < ((lnW L).length : Int)) (hv : vbN (lnB L 0) = 19) (hre : CL fb (d + 19) 181 [vR (some 2175), vR (some (prO p)), vR (some k)] σ (XCM σ0 K T U W R A)) (hgo : XEN fb d σ0 K T U p i k x5 W R A Q) : WP fb (d + 20) 96 70 [some (vR (some 128)), some (vI p), some (vR (some (prO p))), some (vI i), some (vR (some k)), x5] [] σ Q := by
  have hvb := x_verb (fb := fb) (d := d + 13) hP hC hN
  rw [hv] at hvb
  have ho := hC.1
  obtain ⟨pr, hpr⟩ : ∃ q, prO p = q := ⟨_, rfl⟩
  have hgo := fun σ W2 R2 h1 h2 h3 => hgo σ W2 R2 h1 h2 h3
  rw [hpr] at hgo hre ⊢
  refine x_ic T_96_70 ?_
  refine x_si (ls1 := [some (vR (some 128)), some (vI p), some (vR (some pr)), some (vI i), some (vR (some k)), some (vI 18)]) T_96_72 rfl ?_
  refine x_lr (z := some k) T_96_74 rfl ?_
  refine x_cv1 T_96_76 mN_114 mL_114 (Nat.le_of_ble_eq_true rfl) mO_114 (hP.o ho) (Nat.le_of_ble_eq_true rfl) (hvb) ?_
  rintro _ σ ⟨rfl, rfl⟩
  refine cI ?_
  refine x_swIn T_96_79 (by decide) (by decide) rfl ?_
  refine x_lr (z := some 128) T_96_472 rfl ?_
  refine x_gR (z := some 2175) T_96_473 F_0_1 (hP.o xo_128) (hP.rc xo_128 rfl rfl) ?_
  refine x_lr (z := some pr) T_96_476 rfl ?_
  refine x_lr (z := some k) T_96_477 rfl ?_
  refine x_cv3 T_96_479 mN_181 mL_181 (Nat.le_of_ble_eq_true rfl) mO_181 (hP.o xo_2175) (Nat.le_of_ble_eq_true rfl) (hre) ?_
  clear hP hre
  rintro _ σ ⟨rfl, W2, R2, hP, g1, g2⟩
  refine cI ?_
  refine x_si (ls1 := [some (vR (some 128)), some (vI p), some (vR (some pr)), some (vI i), some (vR (some k)), some (vI A.1)]) T_96_482 rfl ?_
  refine x_goto T_96_484 ?_
  exact hgo σ W2 R2 hP g1 g2
theorem ev_c20 {x5 : Option AV} (hP : PX σ0 W R σ) (hC : CMD W k L) (hN : 0 < ((lnW L).length : Int)) (hv : vbN (lnB L 0) = 20) (hre : CL fb (d + 19) 185 [vR (some 2175), vR (some (prO p)), vR (some k)] σ (XCM σ0 K T U W R A)) (hgo : XEN fb d σ0 K T U p i k x5 W R A Q) : WP fb (d + 20) 96 70 [some (vR (some 128)), some (vI p), some (vR (some (prO p))), some (vI i), some (vR (some k)), x5] [] σ Q := by
  have hvb := x_verb (fb := fb) (d := d + 13) hP hC hN
  rw [hv] at hvb
  have ho := hC.1
  obtain ⟨pr, hpr⟩ : ∃ q, prO p = q := ⟨_, rfl⟩
  have hgo := fun σ W2 R2 h1 h2 h3 => hgo σ W2 R2 h1 h2 h3
  rw [hpr] at hgo hre ⊢
  refine x_ic T_96_70 ?_
  refine x_si (ls1 := [some (vR (some 128)), some (vI p), some (vR (some pr)), some (vI i), some (vR (some k)), some (vI 18)]) T_96_72 rfl ?_
  refine x_lr (z := some k) T_96_74 rfl ?_
  refine x_cv1 T_96_76 mN_114 mL_114 (Nat.le_of_ble_eq_true rfl) mO_114 (hP.o ho) (Nat.le_of_ble_eq_true rfl) (hvb) ?_
  rintro _ σ ⟨rfl, rfl⟩
  refine cI ?_
  refine x_swIn T_96_79 (by decide) (by decide) rfl ?_
  refine x_lr (z := some 128) T_96_487 rfl ?_
  refine x_gR (z := some 2175) T_96_488 F_0_1 (hP.o xo_128) (hP.rc xo_128 rfl rfl) ?_
  refine x_lr (z := some pr) T_96_491 rfl ?_
  refine x_lr (z := some k) T_96_492 rfl ?_
  refine x_cv3 T_96_494 mN_185 mL_185 (Nat.le_of_ble_eq_true rfl) mO_185 (hP.o xo_2175) (Nat.le_of_ble_eq_true rfl) (hre) ?_
  clear hP hre
  rintro _ σ ⟨rfl, W2, R2, hP, g1, g2⟩
  refine cI ?_
  refine x_si (ls1 := [some (vR (some 128)), some (vI p), some (vR (some pr)), some (vI i), some (vR (some k)), some (vI A.1)]) T_96_497 rfl ?_
  refine x_goto T_96_499 ?_
  exact hgo σ W2 R2 hP g1 g2
theorem ev_c21 {x5 : Option AV} (hP : PX σ0 W R σ) (hC : CMD W k L) (hN : 0 < ((lnW L).length : Int)) (hv : vbN (lnB L 0) = 21) (hre : CL fb (d + 19) 194 [vR (some 2175), vR (some (prO p)), vR (some k)] σ (XCM σ0 K T U W R A)) (hgo : XEN fb d σ0 K T U p i k x5 W R A Q) : WP fb (d + 20) 96 70 [some (vR (some 128)), some (vI p), some (vR (some (prO p))), some (vI i), some (vR (some k)), x5] [] σ Q := by
  have hvb := x_verb (fb := fb) (d := d + 13) hP hC hN
  rw [hv] at hvb
  have ho := hC.1
  obtain ⟨pr, hpr⟩ : ∃ q, prO p = q := ⟨_, rfl⟩
  have hgo := fun σ W2 R2 h1 h2 h3 => hgo σ W2 R2 h1 h2 h3
  rw [hpr] at hgo hre ⊢
  refine x_ic T_96_70 ?_
  refine x_si (ls1 := [some (vR (some 128)), some (vI p), some (vR (some pr)), some (vI i), some (vR (some k)), some (vI 18)]) T_96_72 rfl ?_
  refine x_lr (z := some k) T_96_74 rfl ?_
  refine x_cv1 T_96_76 mN_114 mL_114 (Nat.le_of_ble_eq_true rfl) mO_114 (hP.o ho) (Nat.le_of_ble_eq_true rfl) (hvb) ?_
  rintro _ σ ⟨rfl, rfl⟩
  refine cI ?_
  refine x_swIn T_96_79 (by decide) (by decide) rfl ?_
  refine x_lr (z := some 128) T_96_502 rfl ?_
  refine x_gR (z := some 2175) T_96_503 F_0_1 (hP.o xo_128) (hP.rc xo_128 rfl rfl) ?_
  refine x_lr (z := some pr) T_96_506 rfl ?_
  refine x_lr (z := some k) T_96_507 rfl ?_
  refine x_cv3 T_96_509 mN_194 mL_194 (Nat.le_of_ble_eq_true rfl) mO_194 (hP.o xo_2175) (Nat.le_of_ble_eq_true rfl) (hre) ?_
  clear hP hre
  rintro _ σ ⟨rfl, W2, R2, hP, g1, g2⟩
  refine cI ?_
  refine x_si (ls1 := [some (vR (some 128)), some (vI p), some (vR (some pr)), some (vI i), some (vR (some k)), some (vI A.1)]) T_96_512 rfl ?_
  refine x_goto T_96_514 ?_
  exact hgo σ W2 R2 hP g1 g2
theorem ev_c22 {x5 : Option AV} (hP : PX σ0 W R σ) (hC : CMD W k L) (hN : 0 < ((lnW L).length : Int)) (hv : vbN (lnB L 0) = 22) (hre : CL fb (d + 19) 195 [vR (some 2175), vR (some (prO p)), vR (some k)] σ (XCM σ0 K T U W R A)) (hgo : XEN fb d σ0 K T U p i k x5 W R A Q) : WP fb (d + 20) 96 70 [some (vR (some 128)), some (vI p), some (vR (some (prO p))), some (vI i), some (vR (some k)), x5] [] σ Q := by
  have hvb := x_verb (fb := fb) (d := d + 13) hP hC hN
  rw [hv] at hvb
  have ho := hC.1
  obtain ⟨pr, hpr⟩ : ∃ q, prO p = q := ⟨_, rfl⟩
  have hgo := fun σ W2 R2 h1 h2 h3 => hgo σ W2 R2 h1 h2 h3
  rw [hpr] at hgo hre ⊢
  refine x_ic T_96_70 ?_
  refine x_si (ls1 := [some (vR (some 128)), some (vI p), some (vR (some pr)), some (vI i), some (vR (some k)), some (vI 18)]) T_96_72 rfl ?_
  refine x_lr (z := some k) T_96_74 rfl ?_
  refine x_cv1 T_96_76 mN_114 mL_114 (Nat.le_of_ble_eq_true rfl) mO_114 (hP.o ho) (Nat.le_of_ble_eq_true rfl) (hvb) ?_
  rintro _ σ ⟨rfl, rfl⟩
  refine cI ?_
  refine x_swIn T_96_79 (by decide) (by decide) rfl ?_
  refine x_lr (z := some 128) T_96_517 rfl ?_
  refine x_gR (z := some 2175) T_96_518 F_0_1 (hP.o xo_128) (hP.rc xo_128 rfl rfl) ?_
  refine x_lr (z := some pr) T_96_521 rfl ?_
  refine x_lr (z := some k) T_96_522 rfl ?_
  refine x_cv3 T_96_524 mN_195 mL_195 (Nat.le_of_ble_eq_true rfl) mO_195 (hP.o xo_2175) (Nat.le_of_ble_eq_true rfl) (hre) ?_
  clear hP hre
  rintro _ σ ⟨rfl, W2, R2, hP, g1, g2⟩
  refine cI ?_
  refine x_si (ls1 := [some (vR (some 128)), some (vI p), some (vR (some pr)), some (vI i), some (vR (some k)), some (vI A.1)]) T_96_527 rfl ?_
  refine x_goto T_96_529 ?_
  exact hgo σ W2 R2 hP g1 g2
theorem ev_c26 {x5 : Option AV} (hP : PX σ0 W R σ) (hC : CMD W k L) (hN : 0 < ((lnW L).length : Int)) (hv : vbN (lnB L 0) = 26) (hX : XW K T U W R P) (hgo : XEN fb d σ0 K T U p i k x5 W R (18, P, []) Q) : WP fb (d + 20) 96 70 [some (vR (some 128)), some (vI p), some (vR (some (prO p))), some (vI i), some (vR (some k)), x5] [] σ Q := by
  have hvb := x_verb (fb := fb) (d := d + 13) hP hC hN
  rw [hv] at hvb
  have ho := hC.1
  obtain ⟨pr, hpr⟩ : ∃ q, prO p = q := ⟨_, rfl⟩
  have hgo := hgo σ W R hP hX FCM_rfl
  rw [hpr] at hgo ⊢
  refine x_ic T_96_70 ?_
  refine x_si (ls1 := [some (vR (some 128)), some (vI p), some (vR (some pr)), some (vI i), some (vR (some k)), some (vI 18)]) T_96_72 rfl ?_
  refine x_lr (z := some k) T_96_74 rfl ?_
  refine x_cv1 T_96_76 mN_114 mL_114 (Nat.le_of_ble_eq_true rfl) mO_114 (hP.o ho) (Nat.le_of_ble_eq_true rfl) (hvb) ?_
  rintro _ σ ⟨rfl, rfl⟩
  refine cI ?_
  refine x_swOut T_96_79 (by decide) ?_
  exact hgo
end XCAL
