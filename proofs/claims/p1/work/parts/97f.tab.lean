/-! The tables are right: methods, by and by. -/
set_option maxRecDepth 100000 in
theorem hq_303 : hP1 303 hc_303 := hP1_of (n := 242) (fun pc h => by unfold hc_303; rw [h]; rfl) (by decide +kernel) (by decide +kernel)
set_option maxRecDepth 100000 in
theorem hq_304 : hP1 304 hc_304 := hP1_of (n := 91) (fun pc h => by unfold hc_304; rw [h]; rfl) (by decide +kernel) (by decide +kernel)
set_option maxRecDepth 100000 in
theorem hq_305 : hP1 305 hc_305 := hP1_of (n := 33) (fun pc h => by unfold hc_305; rw [h]; rfl) (by decide +kernel) (by decide +kernel)
set_option maxRecDepth 100000 in
theorem hq_306 : hP1 306 hc_306 := hP1_of (n := 80) (fun pc h => by unfold hc_306; rw [h]; rfl) (by decide +kernel) (by decide +kernel)
set_option maxRecDepth 100000 in
theorem hq_307 : hP1 307 hc_307 := hP1_of (n := 65) (fun pc h => by unfold hc_307; rw [h]; rfl) (by decide +kernel) (by decide +kernel)
set_option maxRecDepth 100000 in
theorem hq_308 : hP1 308 hc_308 := hP1_of (n := 27) (fun pc h => by unfold hc_308; rw [h]; rfl) (by decide +kernel) (by decide +kernel)
set_option maxRecDepth 100000 in
theorem hq_309 : hP1 309 hc_309 := hP1_of (n := 93) (fun pc h => by unfold hc_309; rw [h]; rfl) (by decide +kernel) (by decide +kernel)
set_option maxRecDepth 100000 in
theorem hq_310 : hP1 310 hc_310 := hP1_of (n := 267) (fun pc h => by unfold hc_310; rw [h]; rfl) (by decide +kernel) (by decide +kernel)
set_option maxRecDepth 100000 in
theorem hq_311 : hP1 311 hc_311 := hP1_of (n := 144) (fun pc h => by unfold hc_311; rw [h]; rfl) (by decide +kernel) (by decide +kernel)
set_option maxRecDepth 100000 in
theorem hq_312 : hP1 312 hc_312 := hP1_of (n := 54) (fun pc h => by unfold hc_312; rw [h]; rfl) (by decide +kernel) (by decide +kernel)
set_option maxRecDepth 100000 in
theorem hq_313 : hP1 313 hc_313 := hP1_of (n := 63) (fun pc h => by unfold hc_313; rw [h]; rfl) (by decide +kernel) (by decide +kernel)
set_option maxRecDepth 100000 in
theorem hq_314 : hP1 314 hc_314 := hP1_of (n := 54) (fun pc h => by unfold hc_314; rw [h]; rfl) (by decide +kernel) (by decide +kernel)
set_option maxRecDepth 100000 in
theorem hq_315 : hP1 315 hc_315 := hP1_of (n := 91) (fun pc h => by unfold hc_315; rw [h]; rfl) (by decide +kernel) (by decide +kernel)
set_option maxRecDepth 100000 in
theorem hq_316 : hP1 316 hc_316 := hP1_of (n := 70) (fun pc h => by unfold hc_316; rw [h]; rfl) (by decide +kernel) (by decide +kernel)
set_option maxRecDepth 100000 in
theorem hq_317 : hP1 317 hc_317 := hP1_of (n := 56) (fun pc h => by unfold hc_317; rw [h]; rfl) (by decide +kernel) (by decide +kernel)
set_option maxRecDepth 100000 in
theorem hq_318 : hP1 318 hc_318 := hP1_of (n := 14) (fun pc h => by unfold hc_318; rw [h]; rfl) (by decide +kernel) (by decide +kernel)
set_option maxRecDepth 100000 in
theorem hq_319 : hP1 319 hc_319 := hP1_of (n := 14) (fun pc h => by unfold hc_319; rw [h]; rfl) (by decide +kernel) (by decide +kernel)
set_option maxRecDepth 100000 in
theorem hq_320 : hP1 320 hc_320 := hP1_of (n := 137) (fun pc h => by unfold hc_320; rw [h]; rfl) (by decide +kernel) (by decide +kernel)
set_option maxRecDepth 100000 in
theorem hq_321 : hP1 321 hc_321 := hP1_of (n := 67) (fun pc h => by unfold hc_321; rw [h]; rfl) (by decide +kernel) (by decide +kernel)
set_option maxRecDepth 100000 in
theorem hq_322 : hP1 322 hc_322 := hP1_of (n := 90) (fun pc h => by unfold hc_322; rw [h]; rfl) (by decide +kernel) (by decide +kernel)
set_option maxRecDepth 100000 in
theorem hq_323 : hP1 323 hc_323 := hP1_of (n := 126) (fun pc h => by unfold hc_323; rw [h]; rfl) (by decide +kernel) (by decide +kernel)
set_option maxRecDepth 100000 in
theorem hq_324 : hP1 324 hc_324 := hP1_of (n := 51) (fun pc h => by unfold hc_324; rw [h]; rfl) (by decide +kernel) (by decide +kernel)
set_option maxRecDepth 100000 in
theorem hq_325 : hP1 325 hc_325 := hP1_of (n := 73) (fun pc h => by unfold hc_325; rw [h]; rfl) (by decide +kernel) (by decide +kernel)
set_option maxRecDepth 100000 in
theorem hq_326 : hP1 326 hc_326 := hP1_of (n := 225) (fun pc h => by unfold hc_326; rw [h]; rfl) (by decide +kernel) (by decide +kernel)
set_option maxRecDepth 100000 in
theorem hq_327 : hP1 327 hc_327 := hP1_of (n := 29) (fun pc h => by unfold hc_327; rw [h]; rfl) (by decide +kernel) (by decide +kernel)
set_option maxRecDepth 100000 in
theorem hq_328 : hP1 328 hc_328 := hP1_of (n := 283) (fun pc h => by unfold hc_328; rw [h]; rfl) (by decide +kernel) (by decide +kernel)
set_option maxRecDepth 100000 in
theorem hq_329 : hP1 329 hc_329 := hP1_of (n := 19) (fun pc h => by unfold hc_329; rw [h]; rfl) (by decide +kernel) (by decide +kernel)
set_option maxRecDepth 100000 in
theorem hq_330 : hP1 330 hc_330 := hP1_of (n := 182) (fun pc h => by unfold hc_330; rw [h]; rfl) (by decide +kernel) (by decide +kernel)
set_option maxRecDepth 100000 in
theorem hq_331 : hP1 331 hc_331 := hP1_of (n := 225) (fun pc h => by unfold hc_331; rw [h]; rfl) (by decide +kernel) (by decide +kernel)
set_option maxRecDepth 100000 in
theorem hq_332 : hP1 332 hc_332 := hP1_of (n := 216) (fun pc h => by unfold hc_332; rw [h]; rfl) (by decide +kernel) (by decide +kernel)
set_option maxRecDepth 100000 in
theorem hq_333 : hP1 333 hc_333 := hP1_of (n := 43) (fun pc h => by unfold hc_333; rw [h]; rfl) (by decide +kernel) (by decide +kernel)
set_option maxRecDepth 100000 in
theorem hq_334 : hP1 334 hc_334 := hP1_of (n := 29) (fun pc h => by unfold hc_334; rw [h]; rfl) (by decide +kernel) (by decide +kernel)
set_option maxRecDepth 100000 in
theorem hq_335 : hP1 335 hc_335 := hP1_of (n := 33) (fun pc h => by unfold hc_335; rw [h]; rfl) (by decide +kernel) (by decide +kernel)
set_option maxRecDepth 100000 in
theorem hq_336 : hP1 336 hc_336 := hP1_of (n := 62) (fun pc h => by unfold hc_336; rw [h]; rfl) (by decide +kernel) (by decide +kernel)
set_option maxRecDepth 100000 in
theorem hq_337 : hP1 337 hc_337 := hP1_of (n := 53) (fun pc h => by unfold hc_337; rw [h]; rfl) (by decide +kernel) (by decide +kernel)
set_option maxRecDepth 100000 in
theorem hq_338 : hP1 338 hc_338 := hP1_of (n := 74) (fun pc h => by unfold hc_338; rw [h]; rfl) (by decide +kernel) (by decide +kernel)
set_option maxRecDepth 100000 in
theorem hq_339 : hP1 339 hc_339 := hP1_of (n := 38) (fun pc h => by unfold hc_339; rw [h]; rfl) (by decide +kernel) (by decide +kernel)
set_option maxRecDepth 100000 in
theorem hq_340 : hP1 340 hc_340 := hP1_of (n := 74) (fun pc h => by unfold hc_340; rw [h]; rfl) (by decide +kernel) (by decide +kernel)
set_option maxRecDepth 100000 in
theorem hq_341 : hP1 341 hc_341 := hP1_of (n := 58) (fun pc h => by unfold hc_341; rw [h]; rfl) (by decide +kernel) (by decide +kernel)
set_option maxRecDepth 100000 in
theorem hq_342 : hP1 342 hc_342 := hP1_of (n := 51) (fun pc h => by unfold hc_342; rw [h]; rfl) (by decide +kernel) (by decide +kernel)
set_option maxRecDepth 100000 in
theorem hq_343 : hP1 343 hc_343 := hP1_of (n := 35) (fun pc h => by unfold hc_343; rw [h]; rfl) (by decide +kernel) (by decide +kernel)
set_option maxRecDepth 100000 in
theorem hq_344 : hP1 344 hc_344 := hP1_of (n := 36) (fun pc h => by unfold hc_344; rw [h]; rfl) (by decide +kernel) (by decide +kernel)
set_option maxRecDepth 100000 in
theorem hq_345 : hP1 345 hc_345 := hP1_of (n := 19) (fun pc h => by unfold hc_345; rw [h]; rfl) (by decide +kernel) (by decide +kernel)
set_option maxRecDepth 100000 in
theorem hq_346 : hP1 346 hc_346 := hP1_of (n := 107) (fun pc h => by unfold hc_346; rw [h]; rfl) (by decide +kernel) (by decide +kernel)
set_option maxRecDepth 100000 in
theorem hq_347 : hP1 347 hc_347 := hP1_of (n := 101) (fun pc h => by unfold hc_347; rw [h]; rfl) (by decide +kernel) (by decide +kernel)
set_option maxRecDepth 100000 in
theorem hq_348 : hP1 348 hc_348 := hP1_of (n := 19) (fun pc h => by unfold hc_348; rw [h]; rfl) (by decide +kernel) (by decide +kernel)
set_option maxRecDepth 100000 in
theorem hq_349 : hP1 349 hc_349 := hP1_of (n := 27) (fun pc h => by unfold hc_349; rw [h]; rfl) (by decide +kernel) (by decide +kernel)
set_option maxRecDepth 100000 in
theorem hq_350 : hP1 350 hc_350 := hP1_of (n := 36) (fun pc h => by unfold hc_350; rw [h]; rfl) (by decide +kernel) (by decide +kernel)
set_option maxRecDepth 100000 in
theorem hq_351 : hP1 351 hc_351 := hP1_of (n := 41) (fun pc h => by unfold hc_351; rw [h]; rfl) (by decide +kernel) (by decide +kernel)
set_option maxRecDepth 100000 in
theorem hq_352 : hP1 352 hc_352 := hP1_of (n := 15) (fun pc h => by unfold hc_352; rw [h]; rfl) (by decide +kernel) (by decide +kernel)
set_option maxRecDepth 100000 in
theorem hq_353 : hP1 353 hc_353 := hP1_of (n := 232) (fun pc h => by unfold hc_353; rw [h]; rfl) (by decide +kernel) (by decide +kernel)
set_option maxRecDepth 100000 in
theorem hq_354 : hP1 354 hc_354 := hP1_of (n := 479) (fun pc h => by unfold hc_354; rw [h]; rfl) (by decide +kernel) (by decide +kernel)
set_option maxRecDepth 100000 in
theorem hq_355 : hP1 355 hc_355 := hP1_of (n := 255) (fun pc h => by unfold hc_355; rw [h]; rfl) (by decide +kernel) (by decide +kernel)
set_option maxRecDepth 100000 in
theorem hq_356 : hP1 356 hc_356 := hP1_of (n := 30) (fun pc h => by unfold hc_356; rw [h]; rfl) (by decide +kernel) (by decide +kernel)
set_option maxRecDepth 100000 in
theorem hq_357 : hP1 357 hc_357 := hP1_of (n := 30) (fun pc h => by unfold hc_357; rw [h]; rfl) (by decide +kernel) (by decide +kernel)
set_option maxRecDepth 100000 in
theorem hq_358 : hP1 358 hc_358 := hP1_of (n := 449) (fun pc h => by unfold hc_358; rw [h]; rfl) (by decide +kernel) (by decide +kernel)
set_option maxRecDepth 100000 in
theorem hq_359 : hP1 359 hc_359 := hP1_of (n := 44) (fun pc h => by unfold hc_359; rw [h]; rfl) (by decide +kernel) (by decide +kernel)
set_option maxRecDepth 100000 in
theorem hq_360 : hP1 360 hc_360 := hP1_of (n := 59) (fun pc h => by unfold hc_360; rw [h]; rfl) (by decide +kernel) (by decide +kernel)
set_option maxRecDepth 100000 in
theorem hq_361 : hP1 361 hc_361 := hP1_of (n := 12) (fun pc h => by unfold hc_361; rw [h]; rfl) (by decide +kernel) (by decide +kernel)
set_option maxRecDepth 100000 in
theorem hq_362 : hP1 362 hc_362 := hP1_of (n := 49) (fun pc h => by unfold hc_362; rw [h]; rfl) (by decide +kernel) (by decide +kernel)
set_option maxRecDepth 100000 in
theorem hq_363 : hP1 363 hc_363 := hP1_of (n := 310) (fun pc h => by unfold hc_363; rw [h]; rfl) (by decide +kernel) (by decide +kernel)
set_option maxRecDepth 100000 in
theorem hq_364 : hP1 364 hc_364 := hP1_of (n := 81) (fun pc h => by unfold hc_364; rw [h]; rfl) (by decide +kernel) (by decide +kernel)
set_option maxRecDepth 100000 in
theorem hq_365 : hP1 365 hc_365 := hP1_of (n := 115) (fun pc h => by unfold hc_365; rw [h]; rfl) (by decide +kernel) (by decide +kernel)
set_option maxRecDepth 100000 in
theorem hq_366 : hP1 366 hc_366 := hP1_of (n := 57) (fun pc h => by unfold hc_366; rw [h]; rfl) (by decide +kernel) (by decide +kernel)
set_option maxRecDepth 100000 in
theorem hq_367 : hP1 367 hc_367 := hP1_of (n := 48) (fun pc h => by unfold hc_367; rw [h]; rfl) (by decide +kernel) (by decide +kernel)
set_option maxRecDepth 100000 in
theorem hq_368 : hP1 368 hc_368 := hP1_of (n := 296) (fun pc h => by unfold hc_368; rw [h]; rfl) (by decide +kernel) (by decide +kernel)
set_option maxRecDepth 100000 in
theorem hq_369 : hP1 369 hc_369 := hP1_of (n := 112) (fun pc h => by unfold hc_369; rw [h]; rfl) (by decide +kernel) (by decide +kernel)
set_option maxRecDepth 100000 in
theorem hq_370 : hP1 370 hc_370 := hP1_of (n := 61) (fun pc h => by unfold hc_370; rw [h]; rfl) (by decide +kernel) (by decide +kernel)
set_option maxRecDepth 100000 in
theorem hq_371 : hP1 371 hc_371 := hP1_of (n := 77) (fun pc h => by unfold hc_371; rw [h]; rfl) (by decide +kernel) (by decide +kernel)
set_option maxRecDepth 100000 in
theorem hq_372 : hP1 372 hc_372 := hP1_of (n := 69) (fun pc h => by unfold hc_372; rw [h]; rfl) (by decide +kernel) (by decide +kernel)
