/-! fork: what a process has of the one that forks. -/
theorem T_382_245 : hTab 382 245 = some ((3, 0, 2, []), 246) := rfl
theorem T_382_246 : hTab 382 246 = some ((0, 0, 0, []), 247) := rfl
theorem T_382_247 : hTab 382 247 = some ((25, 17, Int.ofNat 91, []), 250) := rfl
theorem T_382_250 : hTab 382 250 = some ((0, 0, 0, []), 251) := rfl
theorem T_382_251 : hTab 382 251 = some ((4, 7, 0, []), 253) := rfl
theorem T_382_253 : hTab 382 253 = some ((3, 7, 0, []), 255) := rfl
theorem T_382_255 : hTab 382 255 = some ((3, 0, 2, []), 256) := rfl
theorem T_382_256 : hTab 382 256 = some ((24, 17, Int.ofNat 56, []), 259) := rfl
theorem T_382_259 : hTab 382 259 = some ((3, 1, 0, []), 260) := rfl
theorem T_382_260 : hTab 382 260 = some ((26, 0, 0, []), 261) := rfl
theorem T_382_261 : hTab 382 261 = some ((19, 3, Int.ofNat 294, []), 264) := rfl
theorem T_382_264 : hTab 382 264 = some ((3, 0, 2, []), 265) := rfl
theorem T_382_265 : hTab 382 265 = some ((24, 17, Int.ofNat 55, []), 268) := rfl
theorem T_382_268 : hTab 382 268 = some ((0, 0, 60, []), 270) := rfl
theorem T_382_270 : hTab 382 270 = some ((3, 3, 0, []), 271) := rfl
theorem T_382_271 : hTab 382 271 = some ((10, 2, 0, []), 272) := rfl
theorem T_382_272 : hTab 382 272 = some ((3, 7, 0, []), 274) := rfl
theorem T_382_274 : hTab 382 274 = some ((10, 0, 0, []), 275) := rfl
theorem T_382_275 : hTab 382 275 = some ((3, 0, 2, []), 276) := rfl
theorem T_382_276 : hTab 382 276 = some ((24, 17, Int.ofNat 55, []), 279) := rfl
theorem T_382_279 : hTab 382 279 = some ((0, 0, 60, []), 281) := rfl
theorem T_382_281 : hTab 382 281 = some ((3, 1, 0, []), 282) := rfl
theorem T_382_282 : hTab 382 282 = some ((10, 2, 0, []), 283) := rfl
theorem T_382_283 : hTab 382 283 = some ((3, 7, 0, []), 285) := rfl
theorem T_382_285 : hTab 382 285 = some ((10, 0, 0, []), 286) := rfl
theorem T_382_286 : hTab 382 286 = some ((26, 0, 0, []), 287) := rfl
theorem T_382_287 : hTab 382 287 = some ((27, 0, 0, []), 288) := rfl
theorem T_382_288 : hTab 382 288 = some ((5, 7, 1, []), 291) := rfl
theorem T_382_291 : hTab 382 291 = some ((22, 0, Int.ofNat 253, []), 294) := rfl
theorem T_382_294 : hTab 382 294 = some ((3, 0, 2, []), 295) := rfl
theorem T_382_295 : hTab 382 295 = some ((24, 17, Int.ofNat 56, []), 298) := rfl
theorem T_382_298 : hTab 382 298 = some ((3, 3, 0, []), 299) := rfl
theorem T_382_299 : hTab 382 299 = some ((3, 0, 2, []), 300) := rfl
theorem T_382_300 : hTab 382 300 = some ((24, 17, Int.ofNat 56, []), 303) := rfl
theorem T_382_303 : hTab 382 303 = some ((3, 1, 0, []), 304) := rfl
theorem T_382_304 : hTab 382 304 = some ((26, 0, 0, []), 305) := rfl
theorem T_382_305 : hTab 382 305 = some ((27, 0, 0, []), 306) := rfl
theorem T_382_306 : hTab 382 306 = some ((0, 0, 0, []), 307) := rfl
theorem T_382_307 : hTab 382 307 = some ((4, 7, 0, []), 309) := rfl
theorem T_382_309 : hTab 382 309 = some ((3, 7, 0, []), 311) := rfl
theorem T_382_311 : hTab 382 311 = some ((0, 0, 8, []), 313) := rfl
theorem T_382_313 : hTab 382 313 = some ((19, 3, Int.ofNat 346, []), 316) := rfl
theorem T_382_316 : hTab 382 316 = some ((3, 0, 2, []), 317) := rfl
theorem T_382_317 : hTab 382 317 = some ((24, 17, Int.ofNat 57, []), 320) := rfl
theorem T_382_320 : hTab 382 320 = some ((0, 0, 8, []), 322) := rfl
theorem T_382_322 : hTab 382 322 = some ((3, 3, 0, []), 323) := rfl
theorem T_382_323 : hTab 382 323 = some ((10, 2, 0, []), 324) := rfl
theorem T_382_324 : hTab 382 324 = some ((3, 7, 0, []), 326) := rfl
theorem T_382_326 : hTab 382 326 = some ((10, 0, 0, []), 327) := rfl
theorem T_382_327 : hTab 382 327 = some ((3, 0, 2, []), 328) := rfl
theorem T_382_328 : hTab 382 328 = some ((24, 17, Int.ofNat 57, []), 331) := rfl
theorem T_382_331 : hTab 382 331 = some ((0, 0, 8, []), 333) := rfl
theorem T_382_333 : hTab 382 333 = some ((3, 1, 0, []), 334) := rfl
theorem T_382_334 : hTab 382 334 = some ((10, 2, 0, []), 335) := rfl
theorem T_382_335 : hTab 382 335 = some ((3, 7, 0, []), 337) := rfl
theorem T_382_337 : hTab 382 337 = some ((10, 0, 0, []), 338) := rfl
theorem T_382_338 : hTab 382 338 = some ((26, 0, 0, []), 339) := rfl
theorem T_382_339 : hTab 382 339 = some ((27, 0, 0, []), 340) := rfl
theorem T_382_340 : hTab 382 340 = some ((5, 7, 1, []), 343) := rfl
theorem T_382_343 : hTab 382 343 = some ((22, 0, Int.ofNat 309, []), 346) := rfl
theorem T_382_346 : hTab 382 346 = some ((0, 0, 0, []), 347) := rfl
theorem T_382_347 : hTab 382 347 = some ((4, 7, 0, []), 349) := rfl
theorem T_382_349 : hTab 382 349 = some ((3, 7, 0, []), 351) := rfl
theorem T_382_351 : hTab 382 351 = some ((0, 0, 26, []), 353) := rfl
theorem T_382_353 : hTab 382 353 = some ((19, 3, Int.ofNat 438, []), 356) := rfl
theorem T_382_356 : hTab 382 356 = some ((3, 0, 2, []), 357) := rfl
theorem T_382_357 : hTab 382 357 = some ((24, 17, Int.ofNat 101, []), 360) := rfl
theorem T_382_360 : hTab 382 360 = some ((0, 0, 26, []), 362) := rfl
theorem T_382_362 : hTab 382 362 = some ((3, 3, 0, []), 363) := rfl
theorem T_382_363 : hTab 382 363 = some ((10, 2, 0, []), 364) := rfl
theorem T_382_364 : hTab 382 364 = some ((3, 7, 0, []), 366) := rfl
theorem T_382_366 : hTab 382 366 = some ((10, 0, 0, []), 367) := rfl
theorem T_382_367 : hTab 382 367 = some ((3, 0, 2, []), 368) := rfl
theorem T_382_368 : hTab 382 368 = some ((24, 17, Int.ofNat 101, []), 371) := rfl
theorem T_382_371 : hTab 382 371 = some ((0, 0, 26, []), 373) := rfl
theorem T_382_373 : hTab 382 373 = some ((3, 1, 0, []), 374) := rfl
theorem T_382_374 : hTab 382 374 = some ((10, 2, 0, []), 375) := rfl
theorem T_382_375 : hTab 382 375 = some ((3, 7, 0, []), 377) := rfl
theorem T_382_377 : hTab 382 377 = some ((10, 0, 0, []), 378) := rfl
theorem T_382_378 : hTab 382 378 = some ((26, 0, 0, []), 379) := rfl
theorem T_382_379 : hTab 382 379 = some ((27, 0, 0, []), 380) := rfl
theorem T_382_380 : hTab 382 380 = some ((0, 0, 0, []), 381) := rfl
theorem T_382_381 : hTab 382 381 = some ((4, 8, 0, []), 383) := rfl
theorem T_382_383 : hTab 382 383 = some ((3, 8, 0, []), 385) := rfl
theorem T_382_385 : hTab 382 385 = some ((0, 0, 20, []), 387) := rfl
theorem T_382_387 : hTab 382 387 = some ((19, 3, Int.ofNat 432, []), 390) := rfl
theorem T_382_390 : hTab 382 390 = some ((3, 0, 2, []), 391) := rfl
theorem T_382_391 : hTab 382 391 = some ((24, 17, Int.ofNat 100, []), 394) := rfl
theorem T_382_394 : hTab 382 394 = some ((0, 0, 20, []), 396) := rfl
theorem T_382_396 : hTab 382 396 = some ((0, 0, 26, []), 398) := rfl
theorem T_382_398 : hTab 382 398 = some ((3, 3, 0, []), 399) := rfl
theorem T_382_399 : hTab 382 399 = some ((10, 2, 0, []), 400) := rfl
theorem T_382_400 : hTab 382 400 = some ((3, 7, 0, []), 402) := rfl
theorem T_382_402 : hTab 382 402 = some ((10, 0, 0, []), 403) := rfl
theorem T_382_403 : hTab 382 403 = some ((10, 2, 0, []), 404) := rfl
theorem T_382_404 : hTab 382 404 = some ((3, 8, 0, []), 406) := rfl
theorem T_382_406 : hTab 382 406 = some ((10, 0, 0, []), 407) := rfl
theorem T_382_407 : hTab 382 407 = some ((3, 0, 2, []), 408) := rfl
theorem T_382_408 : hTab 382 408 = some ((24, 17, Int.ofNat 100, []), 411) := rfl
theorem T_382_411 : hTab 382 411 = some ((0, 0, 20, []), 413) := rfl
theorem T_382_413 : hTab 382 413 = some ((0, 0, 26, []), 415) := rfl
theorem T_382_415 : hTab 382 415 = some ((3, 1, 0, []), 416) := rfl
theorem T_382_416 : hTab 382 416 = some ((10, 2, 0, []), 417) := rfl
theorem T_382_417 : hTab 382 417 = some ((3, 7, 0, []), 419) := rfl
theorem T_382_419 : hTab 382 419 = some ((10, 0, 0, []), 420) := rfl
theorem T_382_420 : hTab 382 420 = some ((10, 2, 0, []), 421) := rfl
theorem T_382_421 : hTab 382 421 = some ((3, 8, 0, []), 423) := rfl
theorem T_382_423 : hTab 382 423 = some ((10, 0, 0, []), 424) := rfl
theorem T_382_424 : hTab 382 424 = some ((26, 0, 0, []), 425) := rfl
theorem T_382_425 : hTab 382 425 = some ((27, 0, 0, []), 426) := rfl
theorem T_382_426 : hTab 382 426 = some ((5, 8, 1, []), 429) := rfl
theorem T_382_429 : hTab 382 429 = some ((22, 0, Int.ofNat 383, []), 432) := rfl
theorem T_382_432 : hTab 382 432 = some ((5, 7, 1, []), 435) := rfl
theorem T_382_435 : hTab 382 435 = some ((22, 0, Int.ofNat 349, []), 438) := rfl
theorem T_382_438 : hTab 382 438 = some ((3, 0, 2, []), 439) := rfl
theorem T_382_439 : hTab 382 439 = some ((3, 1, 0, []), 440) := rfl
theorem T_382_440 : hTab 382 440 = some ((0, 0, 48, []), 442) := rfl
theorem T_382_442 : hTab 382 442 = some ((3, 3, 0, []), 443) := rfl
theorem T_382_443 : hTab 382 443 = some ((10, 0, 0, []), 444) := rfl
theorem T_382_444 : hTab 382 444 = some ((31, 351, 0, []), 447) := rfl
theorem T_382_447 : hTab 382 447 = some ((3, 0, 2, []), 448) := rfl
theorem T_382_448 : hTab 382 448 = some ((3, 1, 0, []), 449) := rfl
theorem T_382_449 : hTab 382 449 = some ((0, 0, 10, []), 451) := rfl
theorem T_382_451 : hTab 382 451 = some ((31, 351, 0, []), 454) := rfl
theorem T_382_454 : hTab 382 454 = some ((0, 0, 0, []), 455) := rfl
theorem T_382_455 : hTab 382 455 = some ((33, 1, 0, []), 456) := rfl
theorem mN_382 : hmN 382 = 2 := by decide +kernel
theorem mL_382 : hmL 382 = 9 := by decide +kernel
theorem mK_382 : hmK 382 = 1 := by decide +kernel
theorem mO_382 : hmO 382 = 17 := by decide +kernel
def gFo1 (P : qR) (p q : Int) : qR := rU (rW P 2325 (60 * q) (seg (P 2325) (60 * p) (P 2326 p).toNat)) 2326 q (P 2326 p)
def gFo2 (P : qR) (p q : Int) : qR := rW P 2327 (8 * q) (seg (P 2327) (8 * p) 8)
def gFo3 (P : qR) (p q : Int) : qR := rW (rW P 2362 (26 * q) (seg (P 2362) (26 * p) 26)) 2361 (520 * q) (seg (P 2361) (520 * p) 520)
def gFol (P : qR) (p q : Int) : qR := gFo3 (gFo2 (gFo1 P p q) p q) p q
def foR : List Nat := [2325, 2326, 2327, 2362, 2361]
section MFORK
variable {fb : Bool} {d : Nat} {σ0 σ : hM} {P Q R S S1 S2 : qR} {T U s w g u p k e t z o q r pt off n N v to how gr z7 z8 : Int} {l l1 l2 nm wd A : List Int} {h : List Ch} {hf F : Int → Int} {l7 l8 : Option AV} {x : Nw} {c c1 c2 : Ch} {ns : List Nw}
theorem rW_segs {f : Nat} {a j : Int} (hj : 0 ≤ j) : rU (rW P f o (seg F a j.toNat)) f (o + j) (F (a + j)) = rW P f o (seg F a (j + 1).toNat) := by
  rw [show (j + 1).toNat = j.toNat + 1 by omega, seg_snoc, ← rW_snoc, seg_len, Int.toNat_of_nonneg hj]
theorem rW_seg0 {f : Nat} {a : Int} : rW P f o (seg F a (0 : Int).toNat) = P := rW_nil
theorem rU_rW {f1 f2 : Nat} (h : f1 ≠ f2) : rU (rW P f1 o l) f2 k v = rW (rU P f2 k v) f1 o l := by
  funext y j
  unfold rU rW
  by_cases h1 : y = f2 ∧ j = k
  · rw [if_pos h1, if_neg (fun c => h (c.1.symm.trans h1.1))]
    exact (if_pos h1).symm
  · rw [if_neg h1]
    split
    · rfl
    · exact (if_neg h1).symm
theorem gFol_rf : RF foR (gFol P p q) P := RF_wr (RF_wr (RF_wr (RF_up (RF_wr RF_rfl rfl) rfl) rfl) rfl) rfl
theorem GI_gFol (h : GI T U P) (hp : 0 ≤ p ∧ p < 8) (hq : 0 ≤ q ∧ q < 8) : GI T U (gFol P p q) := by
  have bz : 0 ≤ P 2326 p ∧ P 2326 p ≤ 60 := IV.a h.iv 2326 0 8 rfl rfl rfl (by omega) (by omega)
  have a1 := GI_wr (f := 2325) (o := 60 * q) (l := seg (P 2325) (60 * p) (P 2326 p).toNat) h rfl (fun k b1 b2 => by
    rw [seg_len] at b2
    rw [lg_seg _ _ _ _ (by omega) (by omega)]
    exact IV.a h.iv 2325 0 480 rfl rfl rfl (by omega) (by omega)) rfl rfl rfl rfl rfl rfl rfl rfl rfl (by decide) (by decide)
  have a2 : GI T U (gFo1 P p q) := GI_one (f := 2326) (j := q) (ty := 0) (len := 8) a1 rfl bz rfl rfl rfl rfl rfl rfl rfl rfl rfl (by decide) (by decide)
  have a3 : GI T U (gFo2 (gFo1 P p q) p q) := GI_wr (f := 2327) (o := 8 * q) a2 rfl (fun k b1 b2 => by
    rw [seg_len] at b2
    rw [lg_seg _ _ _ _ (by omega) (by omega)]
    exact IV.a a2.iv 2327 0 64 rfl rfl rfl (by omega) (by omega)) rfl rfl rfl rfl rfl rfl rfl rfl rfl (by decide) (by decide)
  have a4 := GI_wr (f := 2362) (o := 26 * q) (l := seg (gFo2 (gFo1 P p q) p q 2362) (26 * p) 26) a3 rfl (fun k b1 b2 => by
    rw [seg_len] at b2
    rw [lg_seg _ _ _ _ (by omega) (by omega)]
    exact IV.a a3.iv 2362 0 208 rfl rfl rfl (by omega) (by omega)) rfl rfl rfl rfl rfl rfl rfl rfl rfl (by decide) (by decide)
  exact GI_wr (f := 2361) (o := 520 * q) (l := seg (gFo2 (gFo1 P p q) p q 2361) (520 * p) 520) a4 rfl (fun k b1 b2 => by
    rw [seg_len] at b2
    rw [lg_seg _ _ _ _ (by omega) (by omega)]
    exact IV.a a3.iv 2361 0 4160 rfl rfl rfl (by omega) (by omega)) rfl rfl rfl rfl rfl rfl rfl rfl rfl (by decide) (by decide)
theorem m_fork_dots (hp : 0 ≤ p ∧ p < 8) (hq : 0 ≤ q ∧ q < 8) (hne : ¬ p = q) (hn : P 2326 p = n) (hn6 : n ≤ 60) {Q : Option AV → hM → Prop} (hQ : ∀ σ : hM, PM σ0 (gFo1 P p q) S σ → WP fb d 382 306 [some (vR (some 2281)), some (vI p), some (vI how), some (vI q), some (vI 0), some (vI g), some (vI gr), some (vI n), l8] [] σ Q) : ∀ (m : Nat) (k : Int) (σ : hM), k + m = n → 0 ≤ k → PM σ0 (rW P 2325 (60 * q) (seg (P 2325) (60 * p) k.toNat)) S σ → WP fb d 382 253 [some (vR (some 2281)), some (vI p), some (vI how), some (vI q), some (vI 0), some (vI g), some (vI gr), some (vI k), l8] [] σ Q := by
  intro m
  induction m with
  | zero =>
    intro k σ h1 h2 hP
    have h1 : k + ((0 : Nat) : Int) = n := h1
    have hk : k = n := by omega
    subst hk
    unfold gFo1 at hQ
    rw [hn] at hQ
    have e2 : rW P 2325 (60 * q) (seg (P 2325) (60 * p) k.toNat) 2326 p = k := (rW_f (by decide)).trans hn
    have hgo := hQ
    refine x_li (z := k) T_382_253 rfl ?_
    refine x_lr (z := some 2281) T_382_255 rfl ?_
    refine x_gR (z := some 2326) T_382_256 F_17_56 (PM.t hP) (PM.r hP 56 2326 rfl) ?_
    refine x_li (z := p) T_382_259 rfl ?_
    refine x_alI (z := k) T_382_260 (by decide) (PM.ta hP 2326 0 8 rfl rfl) (by omega) (by omega) (Eq.trans (PM.aP hP 2326 rfl rfl (by omega)) e2) ?_
    refine x_ic2 T_382_261 (fun _ => ?_) (fun h => absurd (show k ≤ k by omega) h)
    refine x_lr (z := some 2281) T_382_294 rfl ?_
    refine x_gR (z := some 2326) T_382_295 F_17_56 (PM.t hP) (PM.r hP 56 2326 rfl) ?_
    refine x_li (z := q) T_382_298 rfl ?_
    refine x_lr (z := some 2281) T_382_299 rfl ?_
    refine x_gR (z := some 2326) T_382_300 F_17_56 (PM.t hP) (PM.r hP 56 2326 rfl) ?_
    refine x_li (z := p) T_382_303 rfl ?_
    refine x_alI (z := k) T_382_304 (by decide) (PM.ta hP 2326 0 8 rfl rfl) (by omega) (by omega) (Eq.trans (PM.aP hP 2326 rfl rfl (by omega)) e2) ?_
    refine y_aIP hP T_382_305 2326 8 rfl rfl rfl (by omega) (by omega) (fun σ hP => ?_)
    exact hgo σ hP
  | succ m ih =>
    intro k σ h1 h2 hP
    have e2 : rW P 2325 (60 * q) (seg (P 2325) (60 * p) k.toNat) 2326 p = n := (rW_f (by decide)).trans hn
    have e3 : rW P 2325 (60 * q) (seg (P 2325) (60 * p) k.toNat) 2325 (60 * p + k) = P 2325 (60 * p + k) := rW_o (by rw [seg_len]; omega)
    have hgo := fun (σ : hM) (hP : PM σ0 (rU (rW P 2325 (60 * q) (seg (P 2325) (60 * p) k.toNat)) 2325 (60 * q + k) (P 2325 (60 * p + k))) S σ) => ih (k + 1) σ (by omega) (by omega) (by rw [← rW_segs h2]; exact hP)
    refine x_li (z := k) T_382_253 rfl ?_
    refine x_lr (z := some 2281) T_382_255 rfl ?_
    refine x_gR (z := some 2326) T_382_256 F_17_56 (PM.t hP) (PM.r hP 56 2326 rfl) ?_
    refine x_li (z := p) T_382_259 rfl ?_
    refine x_alI (z := n) T_382_260 (by decide) (PM.ta hP 2326 0 8 rfl rfl) (by omega) (by omega) (Eq.trans (PM.aP hP 2326 rfl rfl (by omega)) e2) ?_
    refine x_ic2 T_382_261 (fun h => absurd (show n ≤ k from h) (by omega)) (fun _ => ?_)
    refine x_lr (z := some 2281) T_382_264 rfl ?_
    refine x_gR (z := some 2325) T_382_265 F_17_55 (PM.t hP) (PM.r hP 55 2325 rfl) ?_
    refine x_ic T_382_268 ?_
    refine x_li (z := q) T_382_270 rfl ?_
    refine x_ib (w := (60 * q)) T_382_271 (fun h => absurd h.1 (by decide)) (w32_id (by omega) (by omega)) ?_
    refine x_li (z := k) T_382_272 rfl ?_
    refine x_ib (w := ((60 * q) + k)) T_382_274 (fun h => absurd h.1 (by decide)) (w32_id (by omega) (by omega)) ?_
    refine x_lr (z := some 2281) T_382_275 rfl ?_
    refine x_gR (z := some 2325) T_382_276 F_17_55 (PM.t hP) (PM.r hP 55 2325 rfl) ?_
    refine x_ic T_382_279 ?_
    refine x_li (z := p) T_382_281 rfl ?_
    refine x_ib (w := (60 * p)) T_382_282 (fun h => absurd h.1 (by decide)) (w32_id (by omega) (by omega)) ?_
    refine x_li (z := k) T_382_283 rfl ?_
    refine x_ib (w := ((60 * p) + k)) T_382_285 (fun h => absurd h.1 (by decide)) (w32_id (by omega) (by omega)) ?_
    refine x_alI (z := P 2325 (60 * p + k)) T_382_286 (by decide) (PM.ta hP 2325 0 480 rfl rfl) (by omega) (by omega) (Eq.trans (PM.aP hP 2325 rfl rfl (by omega)) e3) ?_
    refine y_aIP hP T_382_287 2325 480 rfl rfl rfl (by omega) (by omega) (fun σ hP => ?_)
    refine x_inc (w := (k + 1)) (ls1 := [some (vR (some 2281)), some (vI p), some (vI how), some (vI q), some (vI 0), some (vI g), some (vI gr), some (vI (k + 1)), l8]) T_382_288 rfl (w32_id (by omega) (by omega)) rfl ?_
    refine x_goto T_382_291 ?_
    exact hgo σ hP
theorem m_fork_open (hp : 0 ≤ p ∧ p < 8) (hq : 0 ≤ q ∧ q < 8) (hne : ¬ p = q) {Q : Option AV → hM → Prop} (hQ : ∀ σ : hM, PM σ0 (gFo2 P p q) S σ → WP fb d 382 346 [some (vR (some 2281)), some (vI p), some (vI how), some (vI q), some (vI 0), some (vI g), some (vI gr), some (vI 8), l8] [] σ Q) : ∀ (m : Nat) (k : Int) (σ : hM), k + m = 8 → 0 ≤ k → PM σ0 (rW P 2327 (8 * q) (seg (P 2327) (8 * p) k.toNat)) S σ → WP fb d 382 309 [some (vR (some 2281)), some (vI p), some (vI how), some (vI q), some (vI 0), some (vI g), some (vI gr), some (vI k), l8] [] σ Q := by
  intro m
  induction m with
  | zero =>
    intro k σ h1 h2 hP
    have h1 : k + ((0 : Nat) : Int) = 8 := h1
    have hk : k = 8 := by omega
    subst hk
    have hgo := hQ
    refine x_li (z := 8) T_382_309 rfl ?_
    refine x_ic T_382_311 ?_
    refine x_ic2 T_382_313 (fun _ => ?_) (fun h => absurd (show 8 ≤ (8 : Int) by decide) h)
    exact hgo σ hP
  | succ m ih =>
    intro k σ h1 h2 hP
    have e3 : rW P 2327 (8 * q) (seg (P 2327) (8 * p) k.toNat) 2327 (8 * p + k) = P 2327 (8 * p + k) := rW_o (by rw [seg_len]; omega)
    have hgo := fun (σ : hM) (hP : PM σ0 (rU (rW P 2327 (8 * q) (seg (P 2327) (8 * p) k.toNat)) 2327 (8 * q + k) (P 2327 (8 * p + k))) S σ) => ih (k + 1) σ (by omega) (by omega) (by rw [← rW_segs h2]; exact hP)
    refine x_li (z := k) T_382_309 rfl ?_
    refine x_ic T_382_311 ?_
    refine x_ic2 T_382_313 (fun h => absurd (show 8 ≤ k from h) (by omega)) (fun _ => ?_)
    refine x_lr (z := some 2281) T_382_316 rfl ?_
    refine x_gR (z := some 2327) T_382_317 F_17_57 (PM.t hP) (PM.r hP 57 2327 rfl) ?_
    refine x_ic T_382_320 ?_
    refine x_li (z := q) T_382_322 rfl ?_
    refine x_ib (w := (8 * q)) T_382_323 (fun h => absurd h.1 (by decide)) (w32_id (by omega) (by omega)) ?_
    refine x_li (z := k) T_382_324 rfl ?_
    refine x_ib (w := ((8 * q) + k)) T_382_326 (fun h => absurd h.1 (by decide)) (w32_id (by omega) (by omega)) ?_
    refine x_lr (z := some 2281) T_382_327 rfl ?_
    refine x_gR (z := some 2327) T_382_328 F_17_57 (PM.t hP) (PM.r hP 57 2327 rfl) ?_
    refine x_ic T_382_331 ?_
    refine x_li (z := p) T_382_333 rfl ?_
    refine x_ib (w := (8 * p)) T_382_334 (fun h => absurd h.1 (by decide)) (w32_id (by omega) (by omega)) ?_
    refine x_li (z := k) T_382_335 rfl ?_
    refine x_ib (w := ((8 * p) + k)) T_382_337 (fun h => absurd h.1 (by decide)) (w32_id (by omega) (by omega)) ?_
    refine x_alI (z := P 2327 (8 * p + k)) T_382_338 (by decide) (PM.ta hP 2327 0 64 rfl rfl) (by omega) (by omega) (Eq.trans (PM.aP hP 2327 rfl rfl (by omega)) e3) ?_
    refine y_aIP hP T_382_339 2327 64 rfl rfl rfl (by omega) (by omega) (fun σ hP => ?_)
    refine x_inc (w := (k + 1)) (ls1 := [some (vR (some 2281)), some (vI p), some (vI how), some (vI q), some (vI 0), some (vI g), some (vI gr), some (vI (k + 1)), l8]) T_382_340 rfl (w32_id (by omega) (by omega)) rfl ?_
    refine x_goto T_382_343 ?_
    exact hgo σ hP
/-- one variable's bytes -/
theorem m_fork_var1 {y : Int} (hp : 0 ≤ p ∧ p < 8) (hq : 0 ≤ q ∧ q < 8) (hne : ¬ p = q) (hy : 0 ≤ y ∧ y < 26) (hF : ∀ i, F i = P 2361 i) {Q : Option AV → hM → Prop} (hQ : ∀ σ : hM, PM σ0 (rW P 2361 (520 * q) (seg F (520 * p) (20 * (y + 1)).toNat)) S σ → WP fb d 382 432 [some (vR (some 2281)), some (vI p), some (vI how), some (vI q), some (vI 0), some (vI g), some (vI gr), some (vI y), some (vI 20)] [] σ Q) : ∀ (m : Nat) (k : Int) (σ : hM), k + m = 20 → 0 ≤ k → PM σ0 (rW P 2361 (520 * q) (seg F (520 * p) (20 * y + k).toNat)) S σ → WP fb d 382 383 [some (vR (some 2281)), some (vI p), some (vI how), some (vI q), some (vI 0), some (vI g), some (vI gr), some (vI y), some (vI k)] [] σ Q := by
  intro m
  induction m with
  | zero =>
    intro k σ h1 h2 hP
    have h1 : k + ((0 : Nat) : Int) = 20 := h1
    have hk : k = 20 := by omega
    subst hk
    rw [show 20 * y + 20 = 20 * (y + 1) by omega] at hP
    have hgo := hQ
    refine x_li (z := 20) T_382_383 rfl ?_
    refine x_ic T_382_385 ?_
    refine x_ic2 T_382_387 (fun _ => ?_) (fun h => absurd (show 20 ≤ (20 : Int) by decide) h)
    exact hgo σ hP
  | succ m ih =>
    intro k σ h1 h2 hP
    have e3 : rW P 2361 (520 * q) (seg F (520 * p) (20 * y + k).toNat) 2361 (20 * (26 * p + y) + k) = F (520 * p + (20 * y + k)) := (rW_o (by rw [seg_len]; omega)).trans (by rw [hF, show 20 * (26 * p + y) + k = 520 * p + (20 * y + k) by omega])
    have hgo := fun (σ : hM) (hP : PM σ0 (rU (rW P 2361 (520 * q) (seg F (520 * p) (20 * y + k).toNat)) 2361 (20 * (26 * q + y) + k) (F (520 * p + (20 * y + k)))) S σ) => ih (k + 1) σ (by omega) (by omega) (by
      rw [show 20 * (26 * q + y) + k = 520 * q + (20 * y + k) by omega, rW_segs (by omega)] at hP
      rw [← Int.add_assoc]
      exact hP)
    refine x_li (z := k) T_382_383 rfl ?_
    refine x_ic T_382_385 ?_
    refine x_ic2 T_382_387 (fun h => absurd (show 20 ≤ k from h) (by omega)) (fun _ => ?_)
    refine x_lr (z := some 2281) T_382_390 rfl ?_
    refine x_gR (z := some 2361) T_382_391 F_17_100 (PM.t hP) (PM.r hP 100 2361 rfl) ?_
    refine x_ic T_382_394 ?_
    refine x_ic T_382_396 ?_
    refine x_li (z := q) T_382_398 rfl ?_
    refine x_ib (w := (26 * q)) T_382_399 (fun h => absurd h.1 (by decide)) (w32_id (by omega) (by omega)) ?_
    refine x_li (z := y) T_382_400 rfl ?_
    refine x_ib (w := ((26 * q) + y)) T_382_402 (fun h => absurd h.1 (by decide)) (w32_id (by omega) (by omega)) ?_
    refine x_ib (w := (20 * ((26 * q) + y))) T_382_403 (fun h => absurd h.1 (by decide)) (w32_id (by omega) (by omega)) ?_
    refine x_li (z := k) T_382_404 rfl ?_
    refine x_ib (w := ((20 * ((26 * q) + y)) + k)) T_382_406 (fun h => absurd h.1 (by decide)) (w32_id (by omega) (by omega)) ?_
    refine x_lr (z := some 2281) T_382_407 rfl ?_
    refine x_gR (z := some 2361) T_382_408 F_17_100 (PM.t hP) (PM.r hP 100 2361 rfl) ?_
    refine x_ic T_382_411 ?_
    refine x_ic T_382_413 ?_
    refine x_li (z := p) T_382_415 rfl ?_
    refine x_ib (w := (26 * p)) T_382_416 (fun h => absurd h.1 (by decide)) (w32_id (by omega) (by omega)) ?_
    refine x_li (z := y) T_382_417 rfl ?_
    refine x_ib (w := ((26 * p) + y)) T_382_419 (fun h => absurd h.1 (by decide)) (w32_id (by omega) (by omega)) ?_
    refine x_ib (w := (20 * ((26 * p) + y))) T_382_420 (fun h => absurd h.1 (by decide)) (w32_id (by omega) (by omega)) ?_
    refine x_li (z := k) T_382_421 rfl ?_
    refine x_ib (w := ((20 * ((26 * p) + y)) + k)) T_382_423 (fun h => absurd h.1 (by decide)) (w32_id (by omega) (by omega)) ?_
    refine x_alI (z := F (520 * p + (20 * y + k))) T_382_424 (by decide) (PM.ta hP 2361 0 4160 rfl rfl) (by omega) (by omega) (Eq.trans (PM.aP hP 2361 rfl rfl (by omega)) e3) ?_
    refine y_aIP hP T_382_425 2361 4160 rfl rfl rfl (by omega) (by omega) (fun σ hP => ?_)
    refine x_inc (w := (k + 1)) (ls1 := [some (vR (some 2281)), some (vI p), some (vI how), some (vI q), some (vI 0), some (vI g), some (vI gr), some (vI y), some (vI (k + 1))]) T_382_426 rfl (w32_id (by omega) (by omega)) rfl ?_
    refine x_goto T_382_429 ?_
    exact hgo σ hP
theorem m_fork_vars (hp : 0 ≤ p ∧ p < 8) (hq : 0 ≤ q ∧ q < 8) (hne : ¬ p = q) {Q : Option AV → hM → Prop} (hQ : ∀ (σ : hM) (l8 : Option AV), PM σ0 (gFo3 P p q) S σ → WP fb d 382 438 [some (vR (some 2281)), some (vI p), some (vI how), some (vI q), some (vI 0), some (vI g), some (vI gr), some (vI 26), l8] [] σ Q) : ∀ (m : Nat) (k : Int) (σ : hM) (l8 : Option AV), k + m = 26 → 0 ≤ k → PM σ0 (rW (rW P 2362 (26 * q) (seg (P 2362) (26 * p) k.toNat)) 2361 (520 * q) (seg (P 2361) (520 * p) (20 * k).toNat)) S σ → WP fb d 382 349 [some (vR (some 2281)), some (vI p), some (vI how), some (vI q), some (vI 0), some (vI g), some (vI gr), some (vI k), l8] [] σ Q := by
  intro m
  induction m with
  | zero =>
    intro k σ l8 h1 h2 hP
    have h1 : k + ((0 : Nat) : Int) = 26 := h1
    have hk : k = 26 := by omega
    subst hk
    have hgo := hQ σ l8 hP
    refine x_li (z := 26) T_382_349 rfl ?_
    refine x_ic T_382_351 ?_
    refine x_ic2 T_382_353 (fun _ => ?_) (fun h => absurd (show 26 ≤ (26 : Int) by decide) h)
    exact hgo
  | succ m ih =>
    intro k σ l8 h1 h2 hP
    have e3 : rW (rW P 2362 (26 * q) (seg (P 2362) (26 * p) k.toNat)) 2361 (520 * q) (seg (P 2361) (520 * p) (20 * k).toNat) 2362 (26 * p + k) = P 2362 (26 * p + k) := (rW_f (by decide)).trans (rW_o (by rw [seg_len]; omega))
    have h432 : ∀ σ : hM, PM σ0 (rW (rW P 2362 (26 * q) (seg (P 2362) (26 * p) (k + 1).toNat)) 2361 (520 * q) (seg (P 2361) (520 * p) (20 * (k + 1)).toNat)) S σ → WP fb d 382 432 [some (vR (some 2281)), some (vI p), some (vI how), some (vI q), some (vI 0), some (vI g), some (vI gr), some (vI k), some (vI 20)] [] σ Q := fun σ hP => by
      have hgo := ih (k + 1) σ (some (vI 20)) (by omega) (by omega) hP
      refine x_inc (w := (k + 1)) (ls1 := [some (vR (some 2281)), some (vI p), some (vI how), some (vI q), some (vI 0), some (vI g), some (vI gr), some (vI (k + 1)), some (vI 20)]) T_382_432 rfl (w32_id (by omega) (by omega)) rfl ?_
      refine x_goto T_382_435 ?_
      exact hgo
    have hgo := fun (σ : hM) (hP : PM σ0 (rU (rW (rW P 2362 (26 * q) (seg (P 2362) (26 * p) k.toNat)) 2361 (520 * q) (seg (P 2361) (520 * p) (20 * k).toNat)) 2362 (26 * q + k) (P 2362 (26 * p + k))) S σ) => m_fork_var1 (fb := fb) (d := d) (P := rW P 2362 (26 * q) (seg (P 2362) (26 * p) (k + 1).toNat)) (F := P 2361) (how := how) (g := g) (gr := gr) (y := k) hp hq hne ⟨by omega, by omega⟩ (fun i => (rW_f (by decide)).symm) h432 20 0 σ (by decide) (by decide) (by
      rw [rU_rW (by decide), rW_segs h2] at hP
      rw [Int.add_zero]
      exact hP)
    refine x_li (z := k) T_382_349 rfl ?_
    refine x_ic T_382_351 ?_
    refine x_ic2 T_382_353 (fun h => absurd (show 26 ≤ k from h) (by omega)) (fun _ => ?_)
    refine x_lr (z := some 2281) T_382_356 rfl ?_
    refine x_gR (z := some 2362) T_382_357 F_17_101 (PM.t hP) (PM.r hP 101 2362 rfl) ?_
    refine x_ic T_382_360 ?_
    refine x_li (z := q) T_382_362 rfl ?_
    refine x_ib (w := (26 * q)) T_382_363 (fun h => absurd h.1 (by decide)) (w32_id (by omega) (by omega)) ?_
    refine x_li (z := k) T_382_364 rfl ?_
    refine x_ib (w := ((26 * q) + k)) T_382_366 (fun h => absurd h.1 (by decide)) (w32_id (by omega) (by omega)) ?_
    refine x_lr (z := some 2281) T_382_367 rfl ?_
    refine x_gR (z := some 2362) T_382_368 F_17_101 (PM.t hP) (PM.r hP 101 2362 rfl) ?_
    refine x_ic T_382_371 ?_
    refine x_li (z := p) T_382_373 rfl ?_
    refine x_ib (w := (26 * p)) T_382_374 (fun h => absurd h.1 (by decide)) (w32_id (by omega) (by omega)) ?_
    refine x_li (z := k) T_382_375 rfl ?_
    refine x_ib (w := ((26 * p) + k)) T_382_377 (fun h => absurd h.1 (by decide)) (w32_id (by omega) (by omega)) ?_
    refine x_alI (z := P 2362 (26 * p + k)) T_382_378 (by decide) (PM.ta hP 2362 0 208 rfl rfl) (by omega) (by omega) (Eq.trans (PM.aP hP 2362 rfl rfl (by omega)) e3) ?_
    refine y_aIP hP T_382_379 2362 208 rfl rfl rfl (by omega) (by omega) (fun σ hP => ?_)
    refine x_ic T_382_380 ?_
    refine x_si (ls1 := [some (vR (some 2281)), some (vI p), some (vI how), some (vI q), some (vI 0), some (vI g), some (vI gr), some (vI k), some (vI 0)]) T_382_381 rfl ?_
    exact hgo σ hP
/-- from the line's end on: all that is taken over, and what is told -/
theorem m_fork_tail (hP : PM σ0 P S σ) (hG : GI T U P) (hp : 0 ≤ p ∧ p < 8) (hq : 0 ≤ q ∧ q < 8) (hne : ¬ p = q) : WP fb (d + 1) 382 245 [some (vR (some 2281)), some (vI p), some (vI how), some (vI q), some (vI 0), some (vI g), some (vI gr), l7, l8] [] σ (rI 0 σ0 (gTell (gTell (gFol P p q) p (48 + q)) p 10) (rU S 2281 91 0)) := by
  have bz : 0 ≤ P 2326 p ∧ P 2326 p ≤ 60 := IV.a hG.iv 2326 0 8 rfl rfl rfl (by omega) (by omega)
  have h3 := GI_gFol hG hp hq
  have h4 : GI T U (gTell (gFol P p q) p (48 + q)) := GI_tell h3 hp (by omega)
  have t1 := fun (σ : hM) (hP : PM σ0 (gFol P p q) (rU S 2281 91 0) σ) => m_tell (fb := fb) (d := d) (b := 48 + q) hP h3.iv hp
  have t2 := fun (σ : hM) (hP : PM σ0 (gTell (gFol P p q) p (48 + q)) (rU S 2281 91 0) σ) => m_tell (fb := fb) (d := d) (b := 10) hP h4.iv hp
  have h438 : ∀ (σ : hM) (l8 : Option AV), PM σ0 (gFol P p q) (rU S 2281 91 0) σ → WP fb (d + 1) 382 438 [some (vR (some 2281)), some (vI p), some (vI how), some (vI q), some (vI 0), some (vI g), some (vI gr), some (vI 26), l8] [] σ (rI 0 σ0 (gTell (gTell (gFol P p q) p (48 + q)) p 10) (rU S 2281 91 0)) := fun σ l8 hP => by
    refine x_lr (z := some 2281) T_382_438 rfl ?_
    refine x_li (z := p) T_382_439 rfl ?_
    refine x_ic T_382_440 ?_
    refine x_li (z := q) T_382_442 rfl ?_
    refine x_ib (w := (48 + q)) T_382_443 (fun h => absurd h.1 (by decide)) (w32_id (by omega) (by omega)) ?_
    refine x_cv3 T_382_444 mN_351 mL_351 (Nat.le_of_ble_eq_true rfl) mO_351 (PM.t hP) (Nat.le_of_ble_eq_true rfl) (t1 σ hP) ?_
    clear hP t1
    rintro _ σ ⟨rfl, hP⟩
    refine cV ?_
    refine x_lr (z := some 2281) T_382_447 rfl ?_
    refine x_li (z := p) T_382_448 rfl ?_
    refine x_ic T_382_449 ?_
    refine x_cv3 T_382_451 mN_351 mL_351 (Nat.le_of_ble_eq_true rfl) mO_351 (PM.t hP) (Nat.le_of_ble_eq_true rfl) (t2 σ hP) ?_
    clear hP t2
    rintro _ σ ⟨rfl, hP⟩
    refine cV ?_
    refine x_ic T_382_454 ?_
    refine x_ri T_382_455 ?_
    exact ⟨rfl, hP⟩
  have h346 : ∀ σ : hM, PM σ0 (gFo2 (gFo1 P p q) p q) (rU S 2281 91 0) σ → WP fb (d + 1) 382 346 [some (vR (some 2281)), some (vI p), some (vI how), some (vI q), some (vI 0), some (vI g), some (vI gr), some (vI 8), l8] [] σ (rI 0 σ0 (gTell (gTell (gFol P p q) p (48 + q)) p 10) (rU S 2281 91 0)) := fun σ hP => by
    have hgo := m_fork_vars (fb := fb) (d := d + 1) (σ0 := σ0) (P := gFo2 (gFo1 P p q) p q) (S := rU S 2281 91 0) (how := how) (g := g) (gr := gr) hp hq hne h438 26 0 σ l8 (by decide) (by decide) (by rw [rW_seg0, show (20 * 0 : Int) = 0 by decide, rW_seg0]; exact hP)
    refine x_ic T_382_346 ?_
    refine x_si (ls1 := [some (vR (some 2281)), some (vI p), some (vI how), some (vI q), some (vI 0), some (vI g), some (vI gr), some (vI 0), l8]) T_382_347 rfl ?_
    exact hgo
  have h306 : ∀ σ : hM, PM σ0 (gFo1 P p q) (rU S 2281 91 0) σ → WP fb (d + 1) 382 306 [some (vR (some 2281)), some (vI p), some (vI how), some (vI q), some (vI 0), some (vI g), some (vI gr), some (vI (P 2326 p)), l8] [] σ (rI 0 σ0 (gTell (gTell (gFol P p q) p (48 + q)) p 10) (rU S 2281 91 0)) := fun σ hP => by
    have hgo := m_fork_open (fb := fb) (d := d + 1) (σ0 := σ0) (P := gFo1 P p q) (S := rU S 2281 91 0) (how := how) (g := g) (gr := gr) (l8 := l8) hp hq hne h346 8 0 σ (by decide) (by decide) (by rw [rW_seg0]; exact hP)
    refine x_ic T_382_306 ?_
    refine x_si (ls1 := [some (vR (some 2281)), some (vI p), some (vI how), some (vI q), some (vI 0), some (vI g), some (vI gr), some (vI 0), l8]) T_382_307 rfl ?_
    exact hgo
  have hgo := fun (σ : hM) (hP : PM σ0 P (rU S 2281 91 0) σ) => m_fork_dots (fb := fb) (d := d + 1) (σ0 := σ0) (P := P) (S := rU S 2281 91 0) (how := how) (g := g) (gr := gr) (l8 := l8) hp hq hne rfl bz.2 h306 (P 2326 p).toNat 0 σ (by omega) (by decide) (by rw [rW_seg0]; exact hP)
  refine x_lr (z := some 2281) T_382_245 rfl ?_
  refine x_ic T_382_246 ?_
  refine y_pIS hP T_382_247 F_17_91 91 rfl rfl (fun σ hP => ?_)
  refine x_ic T_382_250 ?_
  refine x_si (ls1 := [some (vR (some 2281)), some (vI p), some (vI how), some (vI q), some (vI 0), some (vI g), some (vI gr), some (vI 0), l8]) T_382_251 rfl ?_
  exact hgo σ hP
end MFORK
