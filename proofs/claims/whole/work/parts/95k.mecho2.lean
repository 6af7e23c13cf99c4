/-! echo: the write. -/
theorem T_354_352 : hTab 354 352 = some ((0, 0, 1, []), 353) := rfl
theorem T_354_353 : hTab 354 353 = some ((4, 8, 0, []), 355) := rfl
theorem T_354_355 : hTab 354 355 = some ((0, 0, 1, []), 356) := rfl
theorem T_354_356 : hTab 354 356 = some ((4, 9, 0, []), 358) := rfl
theorem T_354_358 : hTab 354 358 = some ((3, 9, 0, []), 360) := rfl
theorem T_354_360 : hTab 354 360 = some ((3, 4, 0, []), 362) := rfl
theorem T_354_362 : hTab 354 362 = some ((19, 3, Int.ofNat 397, []), 365) := rfl
theorem T_354_365 : hTab 354 365 = some ((3, 8, 0, []), 367) := rfl
theorem T_354_367 : hTab 354 367 = some ((3, 0, 2, []), 368) := rfl
theorem T_354_368 : hTab 354 368 = some ((3, 9, 0, []), 370) := rfl
theorem T_354_370 : hTab 354 370 = some ((31, 318, 0, []), 373) := rfl
theorem T_354_373 : hTab 354 373 = some ((3, 9, 0, []), 375) := rfl
theorem T_354_375 : hTab 354 375 = some ((0, 0, 1, []), 376) := rfl
theorem T_354_376 : hTab 354 376 = some ((10, 0, 0, []), 377) := rfl
theorem T_354_377 : hTab 354 377 = some ((3, 4, 0, []), 379) := rfl
theorem T_354_379 : hTab 354 379 = some ((19, 3, Int.ofNat 386, []), 382) := rfl
theorem T_354_382 : hTab 354 382 = some ((0, 0, 1, []), 383) := rfl
theorem T_354_383 : hTab 354 383 = some ((22, 0, Int.ofNat 387, []), 386) := rfl
theorem T_354_386 : hTab 354 386 = some ((0, 0, 0, []), 387) := rfl
theorem T_354_387 : hTab 354 387 = some ((10, 0, 0, []), 388) := rfl
theorem T_354_388 : hTab 354 388 = some ((10, 0, 0, []), 389) := rfl
theorem T_354_389 : hTab 354 389 = some ((4, 8, 0, []), 391) := rfl
theorem T_354_391 : hTab 354 391 = some ((5, 9, 1, []), 394) := rfl
theorem T_354_394 : hTab 354 394 = some ((22, 0, Int.ofNat 358, []), 397) := rfl
theorem T_354_397 : hTab 354 397 = some ((3, 0, 2, []), 398) := rfl
theorem T_354_398 : hTab 354 398 = some ((3, 0, 2, []), 399) := rfl
theorem T_354_399 : hTab 354 399 = some ((24, 17, Int.ofNat 87, []), 402) := rfl
theorem T_354_402 : hTab 354 402 = some ((3, 0, 2, []), 403) := rfl
theorem T_354_403 : hTab 354 403 = some ((24, 17, Int.ofNat 91, []), 406) := rfl
theorem T_354_406 : hTab 354 406 = some ((0, 0, 1, []), 407) := rfl
theorem T_354_407 : hTab 354 407 = some ((10, 1, 0, []), 408) := rfl
theorem T_354_408 : hTab 354 408 = some ((26, 0, 0, []), 409) := rfl
theorem T_354_409 : hTab 354 409 = some ((3, 6, 1, []), 411) := rfl
theorem T_354_411 : hTab 354 411 = some ((3, 8, 0, []), 413) := rfl
theorem T_354_413 : hTab 354 413 = some ((31, 356, 0, []), 416) := rfl
theorem T_354_416 : hTab 354 416 = some ((0, 0, 1, []), 417) := rfl
theorem T_354_417 : hTab 354 417 = some ((4, 9, 0, []), 419) := rfl
theorem T_354_419 : hTab 354 419 = some ((3, 9, 0, []), 421) := rfl
theorem T_354_421 : hTab 354 421 = some ((3, 4, 0, []), 423) := rfl
theorem T_354_423 : hTab 354 423 = some ((19, 3, Int.ofNat 455, []), 426) := rfl
theorem T_354_426 : hTab 354 426 = some ((3, 0, 2, []), 427) := rfl
theorem T_354_427 : hTab 354 427 = some ((3, 9, 0, []), 429) := rfl
theorem T_354_429 : hTab 354 429 = some ((31, 357, 0, []), 432) := rfl
theorem T_354_432 : hTab 354 432 = some ((3, 9, 0, []), 434) := rfl
theorem T_354_434 : hTab 354 434 = some ((0, 0, 1, []), 435) := rfl
theorem T_354_435 : hTab 354 435 = some ((10, 0, 0, []), 436) := rfl
theorem T_354_436 : hTab 354 436 = some ((3, 4, 0, []), 438) := rfl
theorem T_354_438 : hTab 354 438 = some ((19, 3, Int.ofNat 449, []), 441) := rfl
theorem T_354_441 : hTab 354 441 = some ((3, 0, 2, []), 442) := rfl
theorem T_354_442 : hTab 354 442 = some ((0, 0, 1, []), 443) := rfl
theorem T_354_443 : hTab 354 443 = some ((1, 0, 32, []), 446) := rfl
theorem T_354_446 : hTab 354 446 = some ((31, 229, 0, []), 449) := rfl
theorem T_354_449 : hTab 354 449 = some ((5, 9, 1, []), 452) := rfl
theorem T_354_452 : hTab 354 452 = some ((22, 0, Int.ofNat 419, []), 455) := rfl
theorem T_354_455 : hTab 354 455 = some ((3, 0, 2, []), 456) := rfl
theorem T_354_456 : hTab 354 456 = some ((0, 0, 1, []), 457) := rfl
theorem T_354_457 : hTab 354 457 = some ((1, 0, 10, []), 460) := rfl
theorem T_354_460 : hTab 354 460 = some ((31, 229, 0, []), 463) := rfl
theorem T_354_463 : hTab 354 463 = some ((3, 0, 2, []), 464) := rfl
theorem T_354_464 : hTab 354 464 = some ((3, 0, 2, []), 465) := rfl
theorem T_354_465 : hTab 354 465 = some ((24, 17, Int.ofNat 86, []), 468) := rfl
theorem T_354_468 : hTab 354 468 = some ((3, 0, 2, []), 469) := rfl
theorem T_354_469 : hTab 354 469 = some ((24, 17, Int.ofNat 91, []), 472) := rfl
theorem T_354_472 : hTab 354 472 = some ((0, 0, 1, []), 473) := rfl
theorem T_354_473 : hTab 354 473 = some ((10, 1, 0, []), 474) := rfl
theorem T_354_474 : hTab 354 474 = some ((26, 0, 0, []), 475) := rfl
theorem T_354_475 : hTab 354 475 = some ((31, 231, 0, []), 478) := rfl
theorem T_354_478 : hTab 354 478 = some ((33, 1, 0, []), 479) := rfl
section MECHO2
variable {fb : Bool} {d : Nat} {σ0 σ : hM} {P Q R S S1 S2 : qR} {T U s w g u p k e t z o thr pt off n : Int} {l l1 l2 nm wd A : List Int} {h : List Ch} {a f : Int → Int} {x : Int × Int} {c : Ch} {fr fd md n0 : Int}
theorem m_echo_sz {v2 v3 e0 : Int} (hP : PM σ0 P S σ) (hL : LN S l) (hz : z ≤ ((lnW l).length : Int)) {Q : Option AV → hM → Prop} : ∀ (m : Nat) (w v : Int), w + m = z → 0 ≤ w → 0 ≤ v → v + ((ecT l z w m).length : Int) ≤ 1000 → WP fb (d + 1) 354 397 [some (vR (some 2281)), some (vI p), some (vI v2), some (vI v3), some (vI z), some (vI e0), some (vL off), none, some (vI (v + ((ecT l z w m).length : Int))), some (vI z)] [] σ Q → WP fb (d + 1) 354 358 [some (vR (some 2281)), some (vI p), some (vI v2), some (vI v3), some (vI z), some (vI e0), some (vL off), none, some (vI v), some (vI w)] [] σ Q := by
  have h50 := (lnW_ok hL.2.1).2
  intro m
  induction m with
  | zero =>
    intro w v h1 h2 h3 h4 hQ
    have hw : w = z := by omega
    subst hw
    rw [show v + ((ecT l w w 0).length : Int) = v by show v + ((0 : Nat) : Int) = v; omega] at hQ
    refine x_li (z := w) T_354_358 rfl ?_
    refine x_li (z := w) T_354_360 rfl ?_
    refine x_ic2 T_354_362 (fun _ => ?_) (fun h => absurd (show w ≤ w by omega) h)
    exact hQ
  | succ m ih =>
    intro w v h1 h2 h3 h4 hQ
    obtain ⟨n, hn⟩ : ∃ n, ((lnB l w).length : Int) = n := ⟨_, rfl⟩
    have hsz := CL_val (m_size (fb := fb) (d := d) hP hL (w := w) (by omega)) hn
    by_cases q : w + 1 < z
    · have e1 : ((ecT l z w (m + 1)).length : Int) = n + 1 + ((ecT l z (w + 1) m).length : Int) := by
        conv => lhs; unfold ecT
        rw [if_pos q, List.length_append, List.length_append]
        show (((lnB l w).length + 1 + (ecT l z (w + 1) m).length : Nat) : Int) = _
        omega
      rw [e1] at hQ h4
      have hgo := ih (w + 1) (v + (n + 1)) (by omega) (by omega) (by omega) (by omega) (by rw [show v + (n + 1) + ((ecT l z (w + 1) m).length : Int) = v + (n + 1 + ((ecT l z (w + 1) m).length : Int)) by omega]; exact hQ)
      refine x_li (z := w) T_354_358 rfl ?_
      refine x_li (z := z) T_354_360 rfl ?_
      refine x_ic2 T_354_362 (fun h => absurd (show z ≤ w from h) (by omega)) (fun _ => ?_)
      refine x_li (z := v) T_354_365 rfl ?_
      refine x_lr (z := some 2281) T_354_367 rfl ?_
      refine x_li (z := w) T_354_368 rfl ?_
      refine x_cv2 T_354_370 mN_318 mL_318 (Nat.le_of_ble_eq_true rfl) mO_318 (PM.t hP) (Nat.le_of_ble_eq_true rfl) (hsz) ?_
      rintro _ σ ⟨rfl, rfl⟩
      refine cI ?_
      refine x_li (z := w) T_354_373 rfl ?_
      refine x_ic T_354_375 ?_
      refine x_ib (w := (w + 1)) T_354_376 (fun h => absurd h.1 (by decide)) (w32_id (by omega) (by omega)) ?_
      refine x_li (z := z) T_354_377 rfl ?_
      refine x_ic2 T_354_379 (fun h => absurd (show z ≤ (w + 1) from h) (by omega)) (fun _ => ?_)
      refine x_ic T_354_382 ?_
      refine x_goto T_354_383 ?_
      refine x_ib (w := (n + 1)) T_354_387 (fun h => absurd h.1 (by decide)) (w32_id (by omega) (by omega)) ?_
      refine x_ib (w := (v + (n + 1))) T_354_388 (fun h => absurd h.1 (by decide)) (w32_id (by omega) (by omega)) ?_
      refine x_si (ls1 := [some (vR (some 2281)), some (vI p), some (vI v2), some (vI v3), some (vI z), some (vI e0), some (vL off), none, some (vI (v + (n + 1))), some (vI w)]) T_354_389 rfl ?_
      refine x_inc (w := (w + 1)) (ls1 := [some (vR (some 2281)), some (vI p), some (vI v2), some (vI v3), some (vI z), some (vI e0), some (vL off), none, some (vI (v + (n + 1))), some (vI (w + 1))]) T_354_391 rfl (w32_id (by omega) (by omega)) rfl ?_
      refine x_goto T_354_394 ?_
      exact hgo
    · have e1 : ((ecT l z w (m + 1)).length : Int) = n + ((ecT l z (w + 1) m).length : Int) := by
        conv => lhs; unfold ecT
        rw [if_neg q, List.length_append, List.length_append]
        show (((lnB l w).length + 0 + (ecT l z (w + 1) m).length : Nat) : Int) = _
        omega
      rw [e1] at hQ h4
      have hgo := ih (w + 1) (v + n) (by omega) (by omega) (by omega) (by omega) (by rw [show v + n + ((ecT l z (w + 1) m).length : Int) = v + (n + ((ecT l z (w + 1) m).length : Int)) by omega]; exact hQ)
      refine x_li (z := w) T_354_358 rfl ?_
      refine x_li (z := z) T_354_360 rfl ?_
      refine x_ic2 T_354_362 (fun h => absurd (show z ≤ w from h) (by omega)) (fun _ => ?_)
      refine x_li (z := v) T_354_365 rfl ?_
      refine x_lr (z := some 2281) T_354_367 rfl ?_
      refine x_li (z := w) T_354_368 rfl ?_
      refine x_cv2 T_354_370 mN_318 mL_318 (Nat.le_of_ble_eq_true rfl) mO_318 (PM.t hP) (Nat.le_of_ble_eq_true rfl) (hsz) ?_
      rintro _ σ ⟨rfl, rfl⟩
      refine cI ?_
      refine x_li (z := w) T_354_373 rfl ?_
      refine x_ic T_354_375 ?_
      refine x_ib (w := (w + 1)) T_354_376 (fun h => absurd h.1 (by decide)) (w32_id (by omega) (by omega)) ?_
      refine x_li (z := z) T_354_377 rfl ?_
      refine x_ic2 T_354_379 (fun _ => ?_) (fun h => absurd (show z ≤ (w + 1) by omega) h)
      refine x_ic T_354_386 ?_
      refine x_ib (w := n) T_354_387 (fun h => absurd h.1 (by decide)) (w32_e (by omega) (by omega) (by omega)) ?_
      refine x_ib (w := (v + n)) T_354_388 (fun h => absurd h.1 (by decide)) (w32_id (by omega) (by omega)) ?_
      refine x_si (ls1 := [some (vR (some 2281)), some (vI p), some (vI v2), some (vI v3), some (vI z), some (vI e0), some (vL off), none, some (vI (v + n)), some (vI w)]) T_354_389 rfl ?_
      refine x_inc (w := (w + 1)) (ls1 := [some (vR (some 2281)), some (vI p), some (vI v2), some (vI v3), some (vI z), some (vI e0), some (vL off), none, some (vI (v + n)), some (vI (w + 1))]) T_354_391 rfl (w32_id (by omega) (by omega)) rfl ?_
      refine x_goto T_354_394 ?_
      exact hgo
theorem m_echo_put {v2 v3 e0 sz : Int} (hL : LN S l) (hz : z ≤ ((lnW l).length : Int)) {Q : Option AV → hM → Prop} : ∀ (m : Nat) (w w0 : Int) (lq : List Int) (σ : hM) (S1 : qR), w + m = z → 0 ≤ w → PM σ0 P S1 σ → RQ T U S S1 w0 lq → w0 + ((ecT l z w m).length : Int) ≤ 420 → (∀ (σ : hM) (S2 : qR), PM σ0 P S2 σ → RQ T U S S2 (w0 + ((ecT l z w m).length : Int)) (lq ++ ecT l z w m) → WP fb (d + 2) 354 455 [some (vR (some 2281)), some (vI p), some (vI v2), some (vI v3), some (vI z), some (vI e0), some (vL off), none, some (vI sz), some (vI z)] [] σ Q) → WP fb (d + 2) 354 419 [some (vR (some 2281)), some (vI p), some (vI v2), some (vI v3), some (vI z), some (vI e0), some (vL off), none, some (vI sz), some (vI w)] [] σ Q := by
  have h50 := (lnW_ok hL.2.1).2
  intro m
  induction m with
  | zero =>
    intro w w0 lq σ S1 h1 h2 hP hR h4 hQ
    have hw : w = z := by omega
    subst hw
    have hgo := hQ σ S1 hP (by rw [show ecT l w w 0 = [] from rfl, List.append_nil, show w0 + (([] : List Int).length : Int) = w0 by show w0 + ((0 : Nat) : Int) = w0; omega]; exact hR)
    refine x_li (z := w) T_354_419 rfl ?_
    refine x_li (z := w) T_354_421 rfl ?_
    refine x_ic2 T_354_423 (fun _ => ?_) (fun h => absurd (show w ≤ w by omega) h)
    exact hgo
  | succ m ih =>
    intro w w0 lq σ S1 h1 h2 hP hR h4 hQ
    obtain ⟨n, hn⟩ : ∃ n, ((lnB l w).length : Int) = n := ⟨_, rfl⟩
    by_cases q : w + 1 < z
    · have ee : ecT l z w (m + 1) = lnB l w ++ [32] ++ ecT l z (w + 1) m := by
        conv => lhs; unfold ecT
        rw [if_pos q]
      have e1 : ((ecT l z w (m + 1)).length : Int) = n + 1 + ((ecT l z (w + 1) m).length : Int) := by
        rw [ee, List.length_append, List.length_append]
        show (((lnB l w).length + 1 + (ecT l z (w + 1) m).length : Nat) : Int) = _
        omega
      rw [e1] at h4 hQ
      rw [ee] at hQ
      have hpw := r_putWord (fb := fb) (d := d) (w := w) hP hR hL (by omega) (by omega)
      rw [hn] at hpw
      have hpt := fun (σ : hM) (S2 : qR) (hP : PM σ0 P S2 σ) (hR : RQ T U S S2 (w0 + n) (lq ++ lnB l w)) => r_askPut (fb := fb) (d := d + 1) (v := 32) 1 (z := 1) rfl hP hR (by decide) (by show w0 + n + 1 ≤ 420; omega)
      have hgo := fun (σ : hM) (S2 : qR) (hP : PM σ0 P S2 σ) (hR : RQ T U S S2 (w0 + n + 1) (lq ++ lnB l w ++ leb 1 32)) => ih (w + 1) (w0 + n + 1) (lq ++ lnB l w ++ leb 1 32) σ S2 (by omega) (by omega) hP hR (by omega) (fun σ S3 a1 a2 => hQ σ S3 a1 (by rw [show lq ++ (lnB l w ++ [32] ++ ecT l z (w + 1) m) = lq ++ lnB l w ++ leb 1 32 ++ ecT l z (w + 1) m by simp only [List.append_assoc]; rfl, show w0 + (n + 1 + ((ecT l z (w + 1) m).length : Int)) = w0 + n + 1 + ((ecT l z (w + 1) m).length : Int) by omega]; exact a2))
      refine x_li (z := w) T_354_419 rfl ?_
      refine x_li (z := z) T_354_421 rfl ?_
      refine x_ic2 T_354_423 (fun h => absurd (show z ≤ w from h) (by omega)) (fun _ => ?_)
      refine x_lr (z := some 2281) T_354_426 rfl ?_
      refine x_li (z := w) T_354_427 rfl ?_
      refine x_cv2 T_354_429 mN_357 mL_357 (Nat.le_of_ble_eq_true rfl) mO_357 (PM.t hP) (Nat.le_of_ble_eq_true rfl) (hpw) ?_
      clear hP hpw hR
      rintro _ σ ⟨rfl, S2, hP, hR⟩
      refine cV ?_
      refine x_li (z := w) T_354_432 rfl ?_
      refine x_ic T_354_434 ?_
      refine x_ib (w := (w + 1)) T_354_435 (fun h => absurd h.1 (by decide)) (w32_id (by omega) (by omega)) ?_
      refine x_li (z := z) T_354_436 rfl ?_
      refine x_ic2 T_354_438 (fun h => absurd (show z ≤ (w + 1) from h) (by omega)) (fun _ => ?_)
      refine x_lr (z := some 2281) T_354_441 rfl ?_
      refine x_ic T_354_442 ?_
      refine x_lc T_354_443 ?_
      refine x_cv3 T_354_446 mN_229 mL_229 (Nat.le_of_ble_eq_true rfl) mO_229 (PM.t hP) (Nat.le_of_ble_eq_true rfl) (hpt σ S2 hP hR) ?_
      clear hP hR
      rintro _ σ ⟨rfl, S3, hP, hR⟩
      refine cV ?_
      refine x_inc (w := (w + 1)) (ls1 := [some (vR (some 2281)), some (vI p), some (vI v2), some (vI v3), some (vI z), some (vI e0), some (vL off), none, some (vI sz), some (vI (w + 1))]) T_354_449 rfl (w32_id (by omega) (by omega)) rfl ?_
      refine x_goto T_354_452 ?_
      exact hgo σ S3 hP hR
    · have ee : ecT l z w (m + 1) = lnB l w ++ ecT l z (w + 1) m := by
        conv => lhs; unfold ecT
        rw [if_neg q, List.append_nil]
      have e1 : ((ecT l z w (m + 1)).length : Int) = n + ((ecT l z (w + 1) m).length : Int) := by
        rw [ee, List.length_append]
        omega
      rw [e1] at h4 hQ
      rw [ee] at hQ
      have hpw := r_putWord (fb := fb) (d := d) (w := w) hP hR hL (by omega) (by omega)
      rw [hn] at hpw
      have hgo := fun (σ : hM) (S2 : qR) (hP : PM σ0 P S2 σ) (hR : RQ T U S S2 (w0 + n) (lq ++ lnB l w)) => ih (w + 1) (w0 + n) (lq ++ lnB l w) σ S2 (by omega) (by omega) hP hR (by omega) (fun σ S3 a1 a2 => hQ σ S3 a1 (by rw [← List.append_assoc, show w0 + (n + ((ecT l z (w + 1) m).length : Int)) = w0 + n + ((ecT l z (w + 1) m).length : Int) by omega]; exact a2))
      refine x_li (z := w) T_354_419 rfl ?_
      refine x_li (z := z) T_354_421 rfl ?_
      refine x_ic2 T_354_423 (fun h => absurd (show z ≤ w from h) (by omega)) (fun _ => ?_)
      refine x_lr (z := some 2281) T_354_426 rfl ?_
      refine x_li (z := w) T_354_427 rfl ?_
      refine x_cv2 T_354_429 mN_357 mL_357 (Nat.le_of_ble_eq_true rfl) mO_357 (PM.t hP) (Nat.le_of_ble_eq_true rfl) (hpw) ?_
      clear hP hpw hR
      rintro _ σ ⟨rfl, S2, hP, hR⟩
      refine cV ?_
      refine x_li (z := w) T_354_432 rfl ?_
      refine x_ic T_354_434 ?_
      refine x_ib (w := (w + 1)) T_354_435 (fun h => absurd h.1 (by decide)) (w32_id (by omega) (by omega)) ?_
      refine x_li (z := z) T_354_436 rfl ?_
      refine x_ic2 T_354_438 (fun _ => ?_) (fun h => absurd (show z ≤ (w + 1) by omega) h)
      refine x_inc (w := (w + 1)) (ls1 := [some (vR (some 2281)), some (vI p), some (vI v2), some (vI v3), some (vI z), some (vI e0), some (vL off), none, some (vI sz), some (vI (w + 1))]) T_354_449 rfl (w32_id (by omega) (by omega)) rfl ?_
      refine x_goto T_354_452 ?_
      exact hgo σ S2 hP hR
/-- what echo writes -/
def ecX (l : List Int) (z : Int) : List Int := ecT l z 1 (z - 1).toNat ++ [10]
theorem m_echo_wr {v2 v3 e0 : Int} (hP : PM σ0 P S σ) (hK : KS T U P S l [c]) (hT : T + 49 ≤ 2147483000) (hz : 1 ≤ z ∧ z ≤ ((lnW l).length : Int)) : WP fb (d + 12) 354 352 [some (vR (some 2281)), some (vI p), some (vI v2), some (vI v3), some (vI z), some (vI e0), some (vL off), none, none, none] [] σ (KC (T + 4) U σ0 S l (tE P c.1 (mWr c.2.1 off (ecX l z))) (tP P c.1 (mWr c.2.1 off (ecX l z))) [c]) := by
  obtain ⟨g1, g2, g3, g4, g5, g6, g7⟩ := HS.last (h := []) hK.2.2.2.1
  obtain ⟨c1, c2, -⟩ := HS.ch (h := []) hK.2.2.1 hK.2.2.2.1
  have hL := hK.2.2.2.2
  obtain ⟨n, hn⟩ : ∃ n, ((ecT l z 1 (z - 1).toNat).length : Int) = n := ⟨_, rfl⟩
  have hn1 := ecT_100 (z := z) hL.2.1 (w := 1) (m := (z - 1).toNat) (by decide) (by omega)
  rw [hn] at hn1
  have hx : ((ecX l z).length : Int) = n + 1 := by
    unfold ecX
    rw [List.length_append]
    show (((ecT l z 1 (z - 1).toNat).length + 1 : Nat) : Int) = _
    omega
  refine x_ic T_354_352 ?_
  refine x_si (ls1 := [some (vR (some 2281)), some (vI p), some (vI v2), some (vI v3), some (vI z), some (vI e0), some (vL off), none, some (vI 1), none]) T_354_353 rfl ?_
  refine x_ic T_354_355 ?_
  refine x_si (ls1 := [some (vR (some 2281)), some (vI p), some (vI v2), some (vI v3), some (vI z), some (vI e0), some (vL off), none, some (vI 1), some (vI 1)]) T_354_356 rfl ?_
  refine m_echo_sz (d := d + 11) hP hL hz.2 (z - 1).toNat 1 1 (by omega) (by decide) (by decide) (by omega) ?_
  rw [hn]
  obtain ⟨sz, hsz⟩ : ∃ sz, 1 + n = sz := ⟨_, rfl⟩
  rw [hsz]
  have hbw := fun (σ : hM) (hP : PM σ0 P S σ) => r_beginWrite (fb := fb) (d := d + 9) (σ := σ) (fd := c.2.1) (off := off) (n := sz) hP hK.2.2.1
  refine x_lr (z := some 2281) T_354_397 rfl ?_
  refine x_lr (z := some 2281) T_354_398 rfl ?_
  refine x_gR (z := some 2351) T_354_399 F_17_87 (PM.t hP) (PM.r hP 87 2351 rfl) ?_
  refine x_lr (z := some 2281) T_354_402 rfl ?_
  refine x_gI (z := 1) T_354_403 (Or.inl F_17_91) (PM.t hP) (Eq.trans (PM.nS hP 2281 91 91 rfl rfl rfl) g1) ?_
  refine x_ic T_354_406 ?_
  refine x_ib (w := 0) T_354_407 (fun h => absurd h.1 (by decide)) (by decide) ?_
  refine x_alI (z := c.2.1) T_354_408 (by decide) (PM.ta hP 2351 0 64 rfl rfl) (by omega) (by omega) (Eq.trans (PM.aS hP 2351 rfl rfl (by omega)) g4) ?_
  refine x_ll (z := off) T_354_409 rfl ?_
  refine x_li (z := sz) T_354_411 rfl ?_
  refine x_cv4 T_354_413 mN_356 mL_356 (Nat.le_of_ble_eq_true rfl) mO_356 (PM.t hP) (Nat.le_of_ble_eq_true rfl) (hbw σ hP) ?_
  clear hP hbw
  rintro _ σ ⟨rfl, S1, hP, hR⟩
  refine cV ?_
  refine x_ic T_354_416 ?_
  refine x_si (ls1 := [some (vR (some 2281)), some (vI p), some (vI v2), some (vI v3), some (vI z), some (vI e0), some (vL off), none, some (vI sz), some (vI 1)]) T_354_417 rfl ?_
  refine m_echo_put (d := d + 10) hL hz.2 (z - 1).toNat 1 23 _ σ S1 (by omega) (by decide) hP hR (by omega) ?_
  clear hP hR
  intro σ S2 hP hR
  rw [hn] at hR
  have hpt := r_askPut (fb := fb) (d := d + 11) (v := 10) 1 (z := 1) rfl hP hR (by decide) (by show 23 + n + 1 ≤ 420; omega)
  have em : leb 1 118 ++ leb 2 1 ++ leb 4 c.2.1 ++ leb 8 off ++ leb 4 sz ++ ecT l z 1 (z - 1).toNat ++ leb 1 10 = mWr c.2.1 off (ecX l z) := by
    unfold mWr
    rw [hx, show n + 1 = sz by omega]
    unfold ecX
    simp only [List.append_assoc]
    rfl
  rw [em] at hpt
  obtain ⟨ms, hms⟩ : ∃ ms, mWr c.2.1 off (ecX l z) = ms := ⟨_, rfl⟩
  have hm0 : lg ms 0 = 118 := by rw [← hms]; exact mWr_0
  have hml : (ms.length : Int) = 19 + (n + 1) := by rw [← hms, mWr_len, hx]
  rw [hms] at hpt ⊢
  have htr := fun (σ : hM) (S1 : qR) (w0 : Int) (hP : PM σ0 P S1 σ) (hQ : RQ T U S S1 w0 ms) => m_trG (fb := fb) (d := d + 1) hP hQ hK.1 hT (show 0 ≤ c.1 ∧ c.1 < 3 by omega) (by omega) (by rw [hm0]; decide) (fun q => absurd q (by rw [hm0]; decide)) (fun q => absurd q (by rw [hm0]; decide))
  refine x_lr (z := some 2281) T_354_455 rfl ?_
  refine x_ic T_354_456 ?_
  refine x_lc T_354_457 ?_
  refine x_cv3 T_354_460 mN_229 mL_229 (Nat.le_of_ble_eq_true rfl) mO_229 (PM.t hP) (Nat.le_of_ble_eq_true rfl) (hpt) ?_
  clear hP hpt hR
  rintro _ σ ⟨rfl, S3, hP, hR⟩
  have g1 := (hR.2.2.2.2.2.2.1 91 (by decide)).trans g1
  have g3 := (hR.2.2.2.2.2.1 2350 0 (by decide) (by decide)).trans g3
  refine cV ?_
  refine x_lr (z := some 2281) T_354_463 rfl ?_
  refine x_lr (z := some 2281) T_354_464 rfl ?_
  refine x_gR (z := some 2350) T_354_465 F_17_86 (PM.t hP) (PM.r hP 86 2350 rfl) ?_
  refine x_lr (z := some 2281) T_354_468 rfl ?_
  refine x_gI (z := 1) T_354_469 (Or.inl F_17_91) (PM.t hP) (Eq.trans (PM.nS hP 2281 91 91 rfl rfl rfl) g1) ?_
  refine x_ic T_354_472 ?_
  refine x_ib (w := 0) T_354_473 (fun h => absurd h.1 (by decide)) (by decide) ?_
  refine x_alI (z := c.1) T_354_474 (by decide) (PM.ta hP 2350 0 64 rfl rfl) (by omega) (by omega) (Eq.trans (PM.aS hP 2350 rfl rfl (by omega)) g3) ?_
  refine x_cv2 T_354_475 mN_231 mL_231 (Nat.le_of_ble_eq_true rfl) mO_231 (PM.t hP) (Nat.le_of_ble_eq_true rfl) (htr σ S3 _ hP hR) ?_
  clear hP htr hR
  intro r σ hr
  obtain ⟨S4, rfl, hP, hK4, hX4, -⟩ := hK.ask (T1 := T + 4) (by omega) hr
  refine cI ?_
  refine x_ri T_354_478 ?_
  exact ⟨S4, rfl, hP, hK4, hX4⟩
end MECHO2
