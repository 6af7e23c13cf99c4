/-! The tables are right: methods, by and by. -/
set_option maxRecDepth 100000 in
theorem hq_373 : hP1 373 hc_373 := hP1_of (n := 164) (fun pc h => by unfold hc_373; rw [h]; rfl) (by decide +kernel) (by decide +kernel)
set_option maxRecDepth 100000 in
theorem hq_374 : hP1 374 hc_374 := hP1_of (n := 74) (fun pc h => by unfold hc_374; rw [h]; rfl) (by decide +kernel) (by decide +kernel)
set_option maxRecDepth 100000 in
theorem hq_375 : hP1 375 hc_375 := hP1_of (n := 143) (fun pc h => by unfold hc_375; rw [h]; rfl) (by decide +kernel) (by decide +kernel)
set_option maxRecDepth 100000 in
theorem hq_376 : hP1 376 hc_376 := hP1_of (n := 217) (fun pc h => by unfold hc_376; rw [h]; rfl) (by decide +kernel) (by decide +kernel)
set_option maxRecDepth 100000 in
theorem hq_377 : hP1 377 hc_377 := hP1_of (n := 49) (fun pc h => by unfold hc_377; rw [h]; rfl) (by decide +kernel) (by decide +kernel)
set_option maxRecDepth 100000 in
theorem hq_378 : hP1 378 hc_378 := hP1_of (n := 333) (fun pc h => by unfold hc_378; rw [h]; rfl) (by decide +kernel) (by decide +kernel)
set_option maxRecDepth 100000 in
theorem hq_379 : hP1 379 hc_379 := hP1_of (n := 62) (fun pc h => by unfold hc_379; rw [h]; rfl) (by decide +kernel) (by decide +kernel)
set_option maxRecDepth 100000 in
theorem hq_380 : hP1 380 hc_380 := hP1_of (n := 60) (fun pc h => by unfold hc_380; rw [h]; rfl) (by decide +kernel) (by decide +kernel)
set_option maxRecDepth 100000 in
theorem hq_381 : hP1 381 hc_381 := hP1_of (n := 48) (fun pc h => by unfold hc_381; rw [h]; rfl) (by decide +kernel) (by decide +kernel)
set_option maxRecDepth 100000 in
theorem hq_382 : hP1 382 hc_382 := hP1_of (n := 456) (fun pc h => by unfold hc_382; rw [h]; rfl) (by decide +kernel) (by decide +kernel)
set_option maxRecDepth 100000 in
theorem hq_383 : hP1 383 hc_383 := hP1_of (n := 27) (fun pc h => by unfold hc_383; rw [h]; rfl) (by decide +kernel) (by decide +kernel)
set_option maxRecDepth 100000 in
theorem hq_384 : hP1 384 hc_384 := hP1_of (n := 25) (fun pc h => by unfold hc_384; rw [h]; rfl) (by decide +kernel) (by decide +kernel)
set_option maxRecDepth 100000 in
theorem hq_385 : hP1 385 hc_385 := hP1_of (n := 45) (fun pc h => by unfold hc_385; rw [h]; rfl) (by decide +kernel) (by decide +kernel)
set_option maxRecDepth 100000 in
theorem hq_386 : hP1 386 hc_386 := hP1_of (n := 120) (fun pc h => by unfold hc_386; rw [h]; rfl) (by decide +kernel) (by decide +kernel)
set_option maxRecDepth 100000 in
theorem hq_387 : hP1 387 hc_387 := hP1_of (n := 158) (fun pc h => by unfold hc_387; rw [h]; rfl) (by decide +kernel) (by decide +kernel)
set_option maxRecDepth 100000 in
theorem hq_388 : hP1 388 hc_388 := hP1_of (n := 293) (fun pc h => by unfold hc_388; rw [h]; rfl) (by decide +kernel) (by decide +kernel)
set_option maxRecDepth 100000 in
theorem hq_389 : hP1 389 hc_389 := hP1_of (n := 175) (fun pc h => by unfold hc_389; rw [h]; rfl) (by decide +kernel) (by decide +kernel)
set_option maxRecDepth 100000 in
theorem hq_390 : hP1 390 hc_390 := hP1_of (n := 95) (fun pc h => by unfold hc_390; rw [h]; rfl) (by decide +kernel) (by decide +kernel)
set_option maxRecDepth 100000 in
theorem hq_391 : hP1 391 hc_391 := hP1_of (n := 107) (fun pc h => by unfold hc_391; rw [h]; rfl) (by decide +kernel) (by decide +kernel)
set_option maxRecDepth 100000 in
theorem hq_392 : hP1 392 hc_392 := hP1_of (n := 80) (fun pc h => by unfold hc_392; rw [h]; rfl) (by decide +kernel) (by decide +kernel)
set_option maxRecDepth 100000 in
theorem hq_393 : hP1 393 hc_393 := hP1_of (n := 32) (fun pc h => by unfold hc_393; rw [h]; rfl) (by decide +kernel) (by decide +kernel)
set_option maxRecDepth 100000 in
theorem hq_394 : hP1 394 hc_394 := hP1_of (n := 106) (fun pc h => by unfold hc_394; rw [h]; rfl) (by decide +kernel) (by decide +kernel)
set_option maxRecDepth 100000 in
theorem hq_395 : hP1 395 hc_395 := hP1_of (n := 148) (fun pc h => by unfold hc_395; rw [h]; rfl) (by decide +kernel) (by decide +kernel)
set_option maxRecDepth 100000 in
theorem hq_396 : hP1 396 hc_396 := hP1_of (n := 99) (fun pc h => by unfold hc_396; rw [h]; rfl) (by decide +kernel) (by decide +kernel)
set_option maxRecDepth 100000 in
theorem hq_397 : hP1 397 hc_397 := hP1_of (n := 62) (fun pc h => by unfold hc_397; rw [h]; rfl) (by decide +kernel) (by decide +kernel)
set_option maxRecDepth 100000 in
theorem hq_398 : hP1 398 hc_398 := hP1_of (n := 128) (fun pc h => by unfold hc_398; rw [h]; rfl) (by decide +kernel) (by decide +kernel)
set_option maxRecDepth 100000 in
theorem hq_399 : hP1 399 hc_399 := hP1_of (n := 49) (fun pc h => by unfold hc_399; rw [h]; rfl) (by decide +kernel) (by decide +kernel)
set_option maxRecDepth 100000 in
theorem hq_400 : hP1 400 hc_400 := hP1_of (n := 229) (fun pc h => by unfold hc_400; rw [h]; rfl) (by decide +kernel) (by decide +kernel)
set_option maxRecDepth 100000 in
theorem hq_401 : hP1 401 hc_401 := hP1_of (n := 38) (fun pc h => by unfold hc_401; rw [h]; rfl) (by decide +kernel) (by decide +kernel)
set_option maxRecDepth 100000 in
theorem hq_402 : hP1 402 hc_402 := hP1_of (n := 196) (fun pc h => by unfold hc_402; rw [h]; rfl) (by decide +kernel) (by decide +kernel)
set_option maxRecDepth 100000 in
theorem hq_403 : hP1 403 hc_403 := hP1_of (n := 64) (fun pc h => by unfold hc_403; rw [h]; rfl) (by decide +kernel) (by decide +kernel)
set_option maxRecDepth 100000 in
theorem hq_404 : hP1 404 hc_404 := hP1_of (n := 43) (fun pc h => by unfold hc_404; rw [h]; rfl) (by decide +kernel) (by decide +kernel)
set_option maxRecDepth 100000 in
theorem hq_405 : hP1 405 hc_405 := hP1_of (n := 27) (fun pc h => by unfold hc_405; rw [h]; rfl) (by decide +kernel) (by decide +kernel)
set_option maxRecDepth 100000 in
theorem hq_406 : hP1 406 hc_406 := hP1_of (n := 53) (fun pc h => by unfold hc_406; rw [h]; rfl) (by decide +kernel) (by decide +kernel)
set_option maxRecDepth 100000 in
theorem hq_407 : hP1 407 hc_407 := hP1_of (n := 27) (fun pc h => by unfold hc_407; rw [h]; rfl) (by decide +kernel) (by decide +kernel)
set_option maxRecDepth 100000 in
theorem hq_408 : hP1 408 hc_408 := hP1_of (n := 5) (fun pc h => by unfold hc_408; rw [h]; rfl) (by decide +kernel) (by decide +kernel)
set_option maxRecDepth 100000 in
theorem hq_409 : hP1 409 hc_409 := hP1_of (n := 74) (fun pc h => by unfold hc_409; rw [h]; rfl) (by decide +kernel) (by decide +kernel)
set_option maxRecDepth 100000 in
theorem hq_410 : hP1 410 hc_410 := hP1_of (n := 5) (fun pc h => by unfold hc_410; rw [h]; rfl) (by decide +kernel) (by decide +kernel)
set_option maxRecDepth 100000 in
theorem hq_411 : hP1 411 hc_411 := hP1_of (n := 53) (fun pc h => by unfold hc_411; rw [h]; rfl) (by decide +kernel) (by decide +kernel)
set_option maxRecDepth 100000 in
theorem hq_412 : hP1 412 hc_412 := hP1_of (n := 118) (fun pc h => by unfold hc_412; rw [h]; rfl) (by decide +kernel) (by decide +kernel)
set_option maxRecDepth 100000 in
theorem hq_413 : hP1 413 hc_413 := hP1_of (n := 27) (fun pc h => by unfold hc_413; rw [h]; rfl) (by decide +kernel) (by decide +kernel)
set_option maxRecDepth 100000 in
theorem hq_414 : hP1 414 hc_414 := hP1_of (n := 144) (fun pc h => by unfold hc_414; rw [h]; rfl) (by decide +kernel) (by decide +kernel)
set_option maxRecDepth 100000 in
theorem hq_415 : hP1 415 hc_415 := hP1_of (n := 76) (fun pc h => by unfold hc_415; rw [h]; rfl) (by decide +kernel) (by decide +kernel)
set_option maxRecDepth 100000 in
theorem hq_416 : hP1 416 hc_416 := hP1_of (n := 42) (fun pc h => by unfold hc_416; rw [h]; rfl) (by decide +kernel) (by decide +kernel)
set_option maxRecDepth 100000 in
theorem hq_417 : hP1 417 hc_417 := hP1_of (n := 93) (fun pc h => by unfold hc_417; rw [h]; rfl) (by decide +kernel) (by decide +kernel)
set_option maxRecDepth 100000 in
theorem hq_418 : hP1 418 hc_418 := hP1_of (n := 150) (fun pc h => by unfold hc_418; rw [h]; rfl) (by decide +kernel) (by decide +kernel)
set_option maxRecDepth 100000 in
theorem hq_419 : hP1 419 hc_419 := hP1_of (n := 110) (fun pc h => by unfold hc_419; rw [h]; rfl) (by decide +kernel) (by decide +kernel)
set_option maxRecDepth 100000 in
theorem hq_420 : hP1 420 hc_420 := hP1_of (n := 150) (fun pc h => by unfold hc_420; rw [h]; rfl) (by decide +kernel) (by decide +kernel)
set_option maxRecDepth 100000 in
theorem hq_421 : hP1 421 hc_421 := hP1_of (n := 48) (fun pc h => by unfold hc_421; rw [h]; rfl) (by decide +kernel) (by decide +kernel)
set_option maxRecDepth 100000 in
theorem hq_422 : hP1 422 hc_422 := hP1_of (n := 103) (fun pc h => by unfold hc_422; rw [h]; rfl) (by decide +kernel) (by decide +kernel)
set_option maxRecDepth 100000 in
theorem hq_423 : hP1 423 hc_423 := hP1_of (n := 804) (fun pc h => by unfold hc_423; rw [h]; rfl) (by decide +kernel) (by decide +kernel)
