/-! The class's kernel: a walk's end, its loop, the whole of it. -/
theorem T_121_302 : hTab 121 302 = some ((3, 4, 0, []), 304) := rfl
theorem T_121_304 : hTab 121 304 = some ((18, 0, Int.ofNat 330, []), 307) := rfl
theorem T_121_307 : hTab 121 307 = some ((3, 6, 0, []), 309) := rfl
theorem T_121_309 : hTab 121 309 = some ((18, 1, Int.ofNat 330, []), 312) := rfl
theorem T_121_312 : hTab 121 312 = some ((3, 1, 2, []), 313) := rfl
theorem T_121_313 : hTab 121 313 = some ((24, 6, Int.ofNat 9, []), 316) := rfl
theorem T_121_316 : hTab 121 316 = some ((3, 2, 2, []), 317) := rfl
theorem T_121_317 : hTab 121 317 = some ((24, 5, Int.ofNat 0, []), 320) := rfl
theorem T_121_320 : hTab 121 320 = some ((3, 2, 2, []), 321) := rfl
theorem T_121_321 : hTab 121 321 = some ((24, 5, Int.ofNat 2, []), 324) := rfl
theorem T_121_324 : hTab 121 324 = some ((31, 129, 0, []), 327) := rfl
theorem T_121_327 : hTab 121 327 = some ((22, 0, Int.ofNat 331, []), 330) := rfl
theorem T_121_330 : hTab 121 330 = some ((2, 0, 0, []), 331) := rfl
theorem T_121_331 : hTab 121 331 = some ((4, 7, 2, []), 333) := rfl
theorem T_121_333 : hTab 121 333 = some ((3, 7, 2, []), 335) := rfl
theorem T_121_335 : hTab 121 335 = some ((20, 1, Int.ofNat 342, []), 338) := rfl
theorem T_121_338 : hTab 121 338 = some ((2, 0, 0, []), 339) := rfl
theorem T_121_339 : hTab 121 339 = some ((22, 0, Int.ofNat 348, []), 342) := rfl
theorem T_121_342 : hTab 121 342 = some ((3, 7, 2, []), 344) := rfl
theorem T_121_344 : hTab 121 344 = some ((0, 0, 0, []), 345) := rfl
theorem T_121_345 : hTab 121 345 = some ((31, 130, 0, []), 348) := rfl
theorem T_121_348 : hTab 121 348 = some ((4, 8, 2, []), 350) := rfl
theorem T_121_350 : hTab 121 350 = some ((3, 8, 2, []), 352) := rfl
theorem T_121_352 : hTab 121 352 = some ((20, 0, Int.ofNat 449, []), 355) := rfl
theorem T_121_355 : hTab 121 355 = some ((3, 0, 2, []), 356) := rfl
theorem T_121_356 : hTab 121 356 = some ((3, 8, 2, []), 358) := rfl
theorem T_121_358 : hTab 121 358 = some ((24, 5, Int.ofNat 0, []), 361) := rfl
theorem T_121_361 : hTab 121 361 = some ((31, 122, 0, []), 364) := rfl
theorem T_121_364 : hTab 121 364 = some ((0, 0, 0, []), 365) := rfl
theorem T_121_365 : hTab 121 365 = some ((3, 0, 2, []), 366) := rfl
theorem T_121_366 : hTab 121 366 = some ((3, 8, 2, []), 368) := rfl
theorem T_121_368 : hTab 121 368 = some ((24, 5, Int.ofNat 0, []), 371) := rfl
theorem T_121_371 : hTab 121 371 = some ((3, 8, 2, []), 373) := rfl
theorem T_121_373 : hTab 121 373 = some ((24, 5, Int.ofNat 1, []), 376) := rfl
theorem T_121_376 : hTab 121 376 = some ((0, 0, (-1), []), 377) := rfl
theorem T_121_377 : hTab 121 377 = some ((31, 123, 0, []), 380) := rfl
theorem T_121_380 : hTab 121 380 = some ((3, 0, 2, []), 381) := rfl
theorem T_121_381 : hTab 121 381 = some ((24, 1, Int.ofNat 2, []), 384) := rfl
theorem T_121_384 : hTab 121 384 = some ((31, 26, 0, []), 387) := rfl
theorem T_121_387 : hTab 121 387 = some ((4, 6, 0, []), 389) := rfl
theorem T_121_389 : hTab 121 389 = some ((3, 0, 2, []), 390) := rfl
theorem T_121_390 : hTab 121 390 = some ((24, 1, Int.ofNat 5, []), 393) := rfl
theorem T_121_393 : hTab 121 393 = some ((4, 9, 0, []), 395) := rfl
theorem T_121_395 : hTab 121 395 = some ((3, 0, 2, []), 396) := rfl
theorem T_121_396 : hTab 121 396 = some ((3, 2, 2, []), 397) := rfl
theorem T_121_397 : hTab 121 397 = some ((24, 5, Int.ofNat 0, []), 400) := rfl
theorem T_121_400 : hTab 121 400 = some ((31, 122, 0, []), 403) := rfl
theorem T_121_403 : hTab 121 403 = some ((0, 0, 0, []), 404) := rfl
theorem T_121_404 : hTab 121 404 = some ((3, 0, 2, []), 405) := rfl
theorem T_121_405 : hTab 121 405 = some ((0, 0, 120, []), 407) := rfl
theorem T_121_407 : hTab 121 407 = some ((3, 2, 2, []), 408) := rfl
theorem T_121_408 : hTab 121 408 = some ((24, 5, Int.ofNat 1, []), 411) := rfl
theorem T_121_411 : hTab 121 411 = some ((31, 131, 0, []), 414) := rfl
theorem T_121_414 : hTab 121 414 = some ((3, 0, 2, []), 415) := rfl
theorem T_121_415 : hTab 121 415 = some ((24, 1, Int.ofNat 2, []), 418) := rfl
theorem T_121_418 : hTab 121 418 = some ((31, 26, 0, []), 421) := rfl
theorem T_121_421 : hTab 121 421 = some ((7, 0, 0, []), 422) := rfl
theorem T_121_422 : hTab 121 422 = some ((3, 2, 2, []), 423) := rfl
theorem T_121_423 : hTab 121 423 = some ((3, 8, 2, []), 425) := rfl
theorem T_121_425 : hTab 121 425 = some ((24, 5, Int.ofNat 0, []), 428) := rfl
theorem T_121_428 : hTab 121 428 = some ((3, 9, 0, []), 430) := rfl
theorem T_121_430 : hTab 121 430 = some ((3, 8, 2, []), 432) := rfl
theorem T_121_432 : hTab 121 432 = some ((24, 5, Int.ofNat 2, []), 435) := rfl
theorem T_121_435 : hTab 121 435 = some ((3, 8, 2, []), 437) := rfl
theorem T_121_437 : hTab 121 437 = some ((24, 5, Int.ofNat 3, []), 440) := rfl
theorem T_121_440 : hTab 121 440 = some ((31, 128, 0, []), 443) := rfl
theorem T_121_443 : hTab 121 443 = some ((3, 2, 2, []), 444) := rfl
theorem T_121_444 : hTab 121 444 = some ((3, 7, 2, []), 446) := rfl
theorem T_121_446 : hTab 121 446 = some ((25, 5, Int.ofNat 4, []), 449) := rfl
theorem T_121_449 : hTab 121 449 = some ((3, 6, 0, []), 451) := rfl
theorem T_121_451 : hTab 121 451 = some ((33, 1, 0, []), 452) := rfl
section XWLKC
variable {fb : Bool} {d S b c q m f0 pr y0 : Nat} {σ0 σ : hM} {W W0 W1 W2 W3 P Q : qR} {R R0 R1 R2 R3 : rR} {i j k x z v s e w f g u p n K T U t TE most thr at5 path pt : Int} {l l0 lo nm M A : List Int} {nms : List (List Int)} {r : Option Nat} {ch : Ch} {x6 x7 x8 x9 x10 x11 x12 x13 : Option AV}
/-- the walk failed -/
theorem wk_fail {Post : Option AV → hM → Prop} (he : ¬ e = 0) (ht : thr = 0 ∨ thr = 1) (hgo : Post (some (vI e)) σ) : WP fb (d + 8) 121 88 [some (vR (some 129)), some (vR (some pr)), some (vR (some c)), some (vI most), some (vI thr), some (vI at5), some (vI e), some (vI i), x8, x9, x10, x11, x12, x13] [] σ Post := by
  by_cases q : i < most
  · rcases ht with rfl | rfl
    · skip
      refine x_li (z := i) T_121_88 rfl ?_
      refine x_li (z := most) T_121_90 rfl ?_
      refine x_ic2 T_121_91 (fun h => absurd (show most ≤ i from h) (by omega)) (fun _ => ?_)
      refine x_li (z := e) T_121_94 rfl ?_
      refine x_if T_121_96 (fun _ => ?_) (fun h => absurd (show ¬ e = 0 by omega) h)
      refine x_li (z := 0) T_121_302 rfl ?_
      refine x_if T_121_304 (fun _ => ?_) (fun h => absurd (show (0 : Int) = 0 by rfl) h)
      refine x_nu T_121_330 ?_
      refine x_sr (ls1 := [some (vR (some 129)), some (vR (some pr)), some (vR (some c)), some (vI most), some (vI 0), some (vI at5), some (vI e), some (vR none), x8, x9, x10, x11, x12, x13]) T_121_331 rfl ?_
      refine x_lr (z := none) T_121_333 rfl ?_
      refine x_nnul T_121_335 (fun a0 h0 => absurd h0 (by simp)) (fun _ => ?_)
      refine x_nu T_121_338 ?_
      refine x_goto T_121_339 ?_
      refine x_sr (ls1 := [some (vR (some 129)), some (vR (some pr)), some (vR (some c)), some (vI most), some (vI 0), some (vI at5), some (vI e), some (vR none), some (vR none), x9, x10, x11, x12, x13]) T_121_348 rfl ?_
      refine x_lr (z := none) T_121_350 rfl ?_
      refine x_nul T_121_352 (fun _ => ?_) (fun a0 h0 => absurd h0 (by simp))
      refine x_li (z := e) T_121_449 rfl ?_
      refine x_ri T_121_451 ?_
      exact hgo
    · skip
      refine x_li (z := i) T_121_88 rfl ?_
      refine x_li (z := most) T_121_90 rfl ?_
      refine x_ic2 T_121_91 (fun h => absurd (show most ≤ i from h) (by omega)) (fun _ => ?_)
      refine x_li (z := e) T_121_94 rfl ?_
      refine x_if T_121_96 (fun _ => ?_) (fun h => absurd (show ¬ e = 0 by omega) h)
      refine x_li (z := 1) T_121_302 rfl ?_
      refine x_if T_121_304 (fun h => absurd (show (1 : Int) = 0 from h) (by decide)) (fun _ => ?_)
      refine x_li (z := e) T_121_307 rfl ?_
      refine x_if T_121_309 (fun _ => ?_) (fun h => absurd (show ¬ e = 0 by omega) h)
      refine x_nu T_121_330 ?_
      refine x_sr (ls1 := [some (vR (some 129)), some (vR (some pr)), some (vR (some c)), some (vI most), some (vI 1), some (vI at5), some (vI e), some (vR none), x8, x9, x10, x11, x12, x13]) T_121_331 rfl ?_
      refine x_lr (z := none) T_121_333 rfl ?_
      refine x_nnul T_121_335 (fun a0 h0 => absurd h0 (by simp)) (fun _ => ?_)
      refine x_nu T_121_338 ?_
      refine x_goto T_121_339 ?_
      refine x_sr (ls1 := [some (vR (some 129)), some (vR (some pr)), some (vR (some c)), some (vI most), some (vI 1), some (vI at5), some (vI e), some (vR none), some (vR none), x9, x10, x11, x12, x13]) T_121_348 rfl ?_
      refine x_lr (z := none) T_121_350 rfl ?_
      refine x_nul T_121_352 (fun _ => ?_) (fun a0 h0 => absurd h0 (by simp))
      refine x_li (z := e) T_121_449 rfl ?_
      refine x_ri T_121_451 ?_
      exact hgo
  · rcases ht with rfl | rfl
    · skip
      refine x_li (z := i) T_121_88 rfl ?_
      refine x_li (z := most) T_121_90 rfl ?_
      refine x_ic2 T_121_91 (fun _ => ?_) (fun h => absurd (show most ≤ i by omega) h)
      refine x_li (z := 0) T_121_302 rfl ?_
      refine x_if T_121_304 (fun _ => ?_) (fun h => absurd (show (0 : Int) = 0 by rfl) h)
      refine x_nu T_121_330 ?_
      refine x_sr (ls1 := [some (vR (some 129)), some (vR (some pr)), some (vR (some c)), some (vI most), some (vI 0), some (vI at5), some (vI e), some (vR none), x8, x9, x10, x11, x12, x13]) T_121_331 rfl ?_
      refine x_lr (z := none) T_121_333 rfl ?_
      refine x_nnul T_121_335 (fun a0 h0 => absurd h0 (by simp)) (fun _ => ?_)
      refine x_nu T_121_338 ?_
      refine x_goto T_121_339 ?_
      refine x_sr (ls1 := [some (vR (some 129)), some (vR (some pr)), some (vR (some c)), some (vI most), some (vI 0), some (vI at5), some (vI e), some (vR none), some (vR none), x9, x10, x11, x12, x13]) T_121_348 rfl ?_
      refine x_lr (z := none) T_121_350 rfl ?_
      refine x_nul T_121_352 (fun _ => ?_) (fun a0 h0 => absurd h0 (by simp))
      refine x_li (z := e) T_121_449 rfl ?_
      refine x_ri T_121_451 ?_
      exact hgo
    · skip
      refine x_li (z := i) T_121_88 rfl ?_
      refine x_li (z := most) T_121_90 rfl ?_
      refine x_ic2 T_121_91 (fun _ => ?_) (fun h => absurd (show most ≤ i by omega) h)
      refine x_li (z := 1) T_121_302 rfl ?_
      refine x_if T_121_304 (fun h => absurd (show (1 : Int) = 0 from h) (by decide)) (fun _ => ?_)
      refine x_li (z := e) T_121_307 rfl ?_
      refine x_if T_121_309 (fun _ => ?_) (fun h => absurd (show ¬ e = 0 by omega) h)
      refine x_nu T_121_330 ?_
      refine x_sr (ls1 := [some (vR (some 129)), some (vR (some pr)), some (vR (some c)), some (vI most), some (vI 1), some (vI at5), some (vI e), some (vR none), x8, x9, x10, x11, x12, x13]) T_121_331 rfl ?_
      refine x_lr (z := none) T_121_333 rfl ?_
      refine x_nnul T_121_335 (fun a0 h0 => absurd h0 (by simp)) (fun _ => ?_)
      refine x_nu T_121_338 ?_
      refine x_goto T_121_339 ?_
      refine x_sr (ls1 := [some (vR (some 129)), some (vR (some pr)), some (vR (some c)), some (vI most), some (vI 1), some (vI at5), some (vI e), some (vR none), some (vR none), x9, x10, x11, x12, x13]) T_121_348 rfl ?_
      refine x_lr (z := none) T_121_350 rfl ?_
      refine x_nul T_121_352 (fun _ => ?_) (fun a0 h0 => absurd h0 (by simp))
      refine x_li (z := e) T_121_449 rfl ?_
      refine x_ri T_121_451 ?_
      exact hgo
theorem mCopy_len : (mCopy f g).length = 13 := by unfold mCopy; simp only [List.length_append, leb_len]
theorem mCopy_0 : lg (mCopy f g) 0 = 110 := rfl
theorem CHX_pt {V : qR} {V3 : rR} {y : Option Nat} {p2 f2 pt kd e : Int} (h : (if kd = 128 then 1 else 0) = e) (hpt : 0 ≤ pt ∧ pt < 64) (hy : V3 (grO (pt / 8) + 1) (pt % 8) = y) (hc2 : 2175 ≤ c) : CHX (chW V c s f2 p2 e) (oU (oU V3 c 2164 none) c 2164 y) c (s, f2, p2, kd, pt) := by
  obtain ⟨a1, a2, a3, a4, -⟩ := chW_at (W := V) (c := c) (s := s) (f2 := f2) (p2 := p2) (e := e)
  refine ⟨a1, a2, a3, a4.trans h.symm, oU_s.trans ?_⟩
  have hr := grO_rng (g := pt / 8) ⟨by omega, by omega⟩
  show y = if pt < 0 then none else oU (oU V3 c 2164 none) c 2164 y (grO (pt / 8) + 1) (pt % 8)
  rw [if_neg (show ¬ pt < 0 by omega), oU_f (by omega), oU_f (by omega), hy]
/-- through a point -/
theorem wk_thru (hP : PX σ0 W R σ) (hX : XW K T U W R P) (hT : T + 300 ≤ 2147483000) (hp : 0 ≤ p ∧ p < 8) (hpr : prO p = pr) (hlv : ¬ P 2320 p = 0) (hc : tX c = some (Sum.inl 5)) (hc2 : 2175 ≤ c) (hch : CHX W R c ch) (hcr : chR ch) (him : ¬ i < most) : WP fb (d + 8) 121 88 [some (vR (some 129)), some (vR (some pr)), some (vR (some c)), some (vI most), some (vI 1), some (vI at5), some (vI 0), some (vI i), x8, x9, x10, x11, x12, x13] [] σ (XK σ0 K (T + 8) U W R c (kThru P p ch)) := by
  obtain ⟨s, f, pa, kd, cp⟩ := ch
  have hs0 : W c 2160 = s := hch.1
  have hf0 : W c 2161 = f := hch.2.1
  have hp0 : W c 2162 = pa := hch.2.2.1
  have hs : 0 ≤ s ∧ s < 3 := hcr.1
  have hf : 0 ≤ f ∧ f ≤ 47 := hcr.2.1
  have hcl := (tX_o hc).2
  have hIV := hX.1.2.2.2.1.iv
  have hXN := hX.1.2.2.1
  have hPT := hX.1.2.2.2.2.2.2
  have hgR : 0 ≤ P 2323 p ∧ P 2323 p ≤ 7 := IV.a hIV 2323 0 8 rfl rfl rfl (by omega) (by omega)
  have hgr := ((hXN.1 p hp.1 hp.2).2.2.2 hlv).2.2.1
  have hpo := prO_o hp
  have hgo0 := grO_o (g := P 2323 p) ⟨hgR.1, by omega⟩
  have hpa := x_pointAt (fb := fb) (d := d + 7) (s := s) (path := pa) hP hXN hIV hp
  have hqr := qPoint_rng (P := P) (s := s) (path := pa) hIV hp
  have hptm := fun (h : 0 ≤ qPoint P p s pa) => PTM_of (k := qPoint P p s pa - 8 * P 2323 p) (hXN.2.1 _ hgR.1 (by omega)) ⟨hgR.1, by omega⟩ hIV ⟨by omega, by omega⟩
  have eN : kThru P p (s, f, pa, kd, cp) = if qPoint P p s pa < 0 then (0, P, (s, f, pa, kd, cp)) else (kCpE P (P 2338 (6 * qPoint P p s pa)) (P 2339 (6 * qPoint P p s pa)), kDrop (kCpP P (P 2338 (6 * qPoint P p s pa)) (P 2339 (6 * qPoint P p s pa))) (s, f, pa, kd, cp), (P 2338 (6 * qPoint P p s pa), qNewF P (P 2338 (6 * qPoint P p s pa)), P 2340 (6 * qPoint P p s pa), P 2341 (6 * qPoint P p s pa), qPoint P p s pa)) := rfl
  have hpp := fun h => PTS.pt (s := s) (path := pa) hIV hPT hp h
  rw [hpr] at hgr hpo
  obtain ⟨gi, hgi⟩ : ∃ q, P 2323 p = q := ⟨_, rfl⟩
  have hpb : 0 ≤ P 2334 (P 2323 p) ∧ P 2334 (P 2323 p) ≤ 8 := IV.a hIV 2334 0 8 rfl rfl rfl (by omega) (by omega)
  rw [hgi] at hgr hpa hgo0 hptm hgR hqr hpb
  obtain ⟨ga, hga⟩ : ∃ q, grO gi = q := ⟨_, rfl⟩
  rw [hga] at hgr hpa hgo0 hptm
  obtain ⟨pt, hpt⟩ : ∃ q, qPoint P p s pa = q := ⟨_, rfl⟩
  rw [hpt] at hpa hqr hptm eN hpp
  by_cases q0 : pt < 0
  · rw [if_pos q0] at hpa eN
    rw [eN]
    refine x_li (z := i) T_121_88 rfl ?_
    refine x_li (z := most) T_121_90 rfl ?_
    refine x_ic2 T_121_91 (fun _ => ?_) (fun h => absurd (show most ≤ i by omega) h)
    refine x_li (z := 1) T_121_302 rfl ?_
    refine x_if T_121_304 (fun h => absurd (show (1 : Int) = 0 from h) (by decide)) (fun _ => ?_)
    refine x_li (z := 0) T_121_307 rfl ?_
    refine x_if T_121_309 (fun h => absurd (show ¬ (0 : Int) = 0 from h) (by decide)) (fun _ => ?_)
    refine x_lr (z := some pr) T_121_312 rfl ?_
    refine x_gR (z := some ga) T_121_313 F_6_9 (hP.o hpo) (Eq.trans (hP.rm hpo rfl (key := 2201) rfl) hgr) ?_
    refine x_lr (z := some c) T_121_316 rfl ?_
    refine x_gI (z := s) T_121_317 (Or.inl F_5_0) (hP.o hc) (Eq.trans (hP.gi hc (key := 2160) rfl) hs0) ?_
    refine x_lr (z := some c) T_121_320 rfl ?_
    refine x_gI (z := pa) T_121_321 (Or.inl F_5_2) (hP.o hc) (Eq.trans (hP.gi hc (key := 2162) rfl) hp0) ?_
    refine x_cv3 T_121_324 mN_129 mL_129 (Nat.le_of_ble_eq_true rfl) mO_129 (hP.o hgo0) (Nat.le_of_ble_eq_true rfl) (hpa) ?_
    rintro _ σ ⟨rfl, rfl⟩
    refine cR ?_
    refine x_goto T_121_327 ?_
    refine x_sr (ls1 := [some (vR (some 129)), some (vR (some pr)), some (vR (some c)), some (vI most), some (vI 1), some (vI at5), some (vI 0), some (vR none), x8, x9, x10, x11, x12, x13]) T_121_331 rfl ?_
    refine x_lr (z := none) T_121_333 rfl ?_
    refine x_nnul T_121_335 (fun a0 h0 => absurd h0 (by simp)) (fun _ => ?_)
    refine x_nu T_121_338 ?_
    refine x_goto T_121_339 ?_
    refine x_sr (ls1 := [some (vR (some 129)), some (vR (some pr)), some (vR (some c)), some (vI most), some (vI 1), some (vI at5), some (vI 0), some (vR none), some (vR none), x9, x10, x11, x12, x13]) T_121_348 rfl ?_
    refine x_lr (z := none) T_121_350 rfl ?_
    refine x_nul T_121_352 (fun _ => ?_) (fun a0 h0 => absurd h0 (by simp))
    refine x_li (z := 0) T_121_449 rfl ?_
    refine x_ri T_121_451 ?_
    exact ⟨rfl, W, R, hP, hX.mono (by omega), fun _ => ⟨hch, hcr⟩, FC_fa FA_rfl⟩
  · rw [if_neg q0] at hpa eN
    rw [eN]
    obtain ⟨y0, hy0, hM⟩ := hptm (by omega)
    rw [hy0] at hpa
    rw [show 8 * gi + (pt - 8 * gi) = pt by omega] at hM
    have hy1 : R (grO (pt / 8) + 1) (pt % 8) = some y0 := by
      rw [show pt / 8 = gi by omega, hga, show pt % 8 = pt - 8 * gi by omega]
      exact hy0
    obtain ⟨p1, p2, p3⟩ := hpp (by omega)
    have p1 : 1 ≤ P 2337 pt := p1
    have p2 : P 2337 pt ≤ 6 := p2
    obtain ⟨hyo, hya, hyr, hyc, hym⟩ := hM
    obtain ⟨f0, c0', c1, c2, c3⟩ := hym 0 (by decide) (by omega)
    obtain ⟨v, hv⟩ : ∃ q, P 2337 pt = q := ⟨_, rfl⟩
    rw [hv] at hyc p1 p2
    have hmo := x_memberOf (fb := fb) (d := d + 7) (k := 0) (many := v) hP hyo hya (by omega) hyc ⟨by omega, p2⟩ (fun _ _ => c0')
    rw [if_pos ⟨by decide, by omega⟩] at hmo
    rw [Int.add_zero] at c3
    obtain ⟨b1, b2, b3, b4, -⟩ := c3
    have r1 : 0 ≤ P 2338 (6 * pt) ∧ P 2338 (6 * pt) ≤ 2 := IV.a hIV 2338 0 384 rfl rfl rfl (by omega) (by omega)
    have r2 : 0 ≤ P 2339 (6 * pt) ∧ P 2339 (6 * pt) ≤ 47 := IV.a hIV 2339 0 384 rfl rfl rfl (by omega) (by omega)
    obtain ⟨ms, hms⟩ : ∃ q, P 2338 (6 * pt) = q := ⟨_, rfl⟩
    obtain ⟨mf, hmf⟩ : ∃ q, P 2339 (6 * pt) = q := ⟨_, rfl⟩
    obtain ⟨mp, hmp⟩ : ∃ q, P 2340 (6 * pt) = q := ⟨_, rfl⟩
    obtain ⟨mk, hmk⟩ : ∃ q, P 2341 (6 * pt) = q := ⟨_, rfl⟩
    rw [hms] at b1 r1
    rw [hmf] at b2 r2
    rw [hmp] at b3
    rw [hmk] at b4
    rw [hms, hmf, hmp, hmk]
    obtain ⟨mdr, hmd⟩ : ∃ q : Int, (if mk = 128 then 1 else 0) = q := ⟨_, rfl⟩
    rw [hmd] at b4
    have hmd2 : mdr = 0 ∨ mdr = 1 := by rw [← hmd]; split <;> decide
    have hms3 : 0 ≤ ms ∧ ms < 3 := ⟨r1.1, by omega⟩
    obtain ⟨ord, tt, hXs⟩ := hX.1.1.1 ms hms3.1 hms3.2
    have hho := x_host (fb := fb) (d := d + 7) (s := ms) hP hms3
    have hwk := x_walking0 (fb := fb) (d := d + 4) hP ⟨hms3, rfl⟩ hXs hIV r2
    obtain ⟨g, hg⟩ : ∃ q, qNewF P ms = q := ⟨_, rfl⟩
    have hgr2 : g = -1 ∨ (0 ≤ g ∧ g ≤ 47) := by rw [← hg]; exact qNewF_rng
    have eE : kCpE P ms mf = if g < 0 then 12 else tE P ms (mCopy mf g) := by unfold kCpE; rw [hg]
    have eP : kCpP P ms mf = if g < 0 then P else tP P ms (mCopy mf g) := by unfold kCpP; rw [hg]
    rw [hg] at hwk ⊢
    have hak := fun (σ : hM) (W2 : qR) (hP : PX σ0 W2 R σ) (hF : FR1 W W2) (hB : BY W2 138 300 (mFr (mCopy mf g))) => x_askN (fb := fb) (d := d) (g := g) hP (hX.fr1 hF) (by omega) hms3 hB (by rw [mCopy_len]; decide) (by rw [mCopy_0]; decide) (fun q => ⟨fun c => by rw [mCopy_0] at c; exact absurd c (by decide), fun _ => by rw [mCopy_g ⟨by omega, by omega⟩]; omega⟩)
    rw [← eE, ← eP] at hak
    have hE0 : kCpE P ms mf = 0 → ¬ g < 0 := fun q c => by rw [eE, if_pos c] at q; omega
    obtain ⟨e, he⟩ : ∃ q, kCpE P ms mf = q := ⟨_, rfl⟩
    obtain ⟨Q, hQ⟩ : ∃ q, kCpP P ms mf = q := ⟨_, rfl⟩
    rw [he] at hak hE0 ⊢
    rw [hQ] at hak ⊢
    have hO := srv_o hms3
    have hO2 := srv_o hs
    have hho2 := fun (σ : hM) (V : qR) (V3 : rR) (hP : PX σ0 V V3 σ) => x_host (fb := fb) (d := d + 7) (s := s) hP hs
    have hab := fun (σ : hM) (V : qR) (V3 : rR) (hP : PX σ0 V V3 σ) => x_about (fb := fb) (d := d + 4) (t := 120) (f := f) hP (by decide) ⟨by omega, by omega⟩
    obtain ⟨m1, m2, m3, m4⟩ := mOne_ok (t := 120) (f := f) (Or.inl rfl)
    have hak2 := fun (σ : hM) (W2 V : qR) (V3 : rR) (hX : XW K (T + 4) U V V3 Q) (hP : PX σ0 W2 V3 σ) (hF : FR1 V W2) (hB : BY W2 138 300 (mFr (mOne 120 f))) => x_askM (fb := fb) (d := d) hP (hX.fr1 hF) (by omega) hs hB m1 m2 m3 m4
    obtain ⟨e3, he3⟩ : ∃ q, tE Q s (mOne 120 f) = q := ⟨_, rfl⟩
    obtain ⟨sv, hsv⟩ : ∃ q, 1293 + 294 * ms.toNat = q := ⟨_, rfl⟩
    obtain ⟨sw, hsw⟩ : ∃ q, 1293 + 294 * s.toNat = q := ⟨_, rfl⟩
    rw [hsv] at hho hO
    rw [hsw] at hO2
    simp only [hsv] at hak
    simp only [hsw] at hho2 hak2
    simp only [he3] at hak2
    have hbc := fun (σ : hM) (V : qR) (V3 : rR) (hP : PX σ0 V V3 σ) => x_become (fb := fb) (d := d + 7) (s := ms) (f2 := g) (p := mp) (e := mdr) hP hc hmd2
    have hgp : ∀ V : qR, FR1 W V → V 129 2037 = g → ∀ (V2 : qR) (V3 : rR), FVS 134 V V2 R V3 → V2 129 2037 = g := fun V _ hg V2 V3 h => (h.1 _ _ (by decide) (Or.inl (by decide)) (by decide) (by decide) (by decide) (fun c => by unfold ioP at c; omega) (by decide) (by decide)).trans hg
    have hkp : ∀ (V : qR) (V3 : rR), FA W V R V3 → (V c 2160 = s ∧ V c 2161 = f) ∧ V f0 2160 = ms ∧ V f0 2162 = mp ∧ V f0 2163 = mdr := fun V V3 h => ⟨⟨(h.cm.1 _ _ hc2 (by omega) (by decide)).trans hs0, (h.cm.1 _ _ hc2 (by omega) (by decide)).trans hf0⟩, (h.ns.1 _ _ c2.1 c2.2 (by decide)).trans b1, (h.ns.1 _ _ c2.1 c2.2 (by decide)).trans b3, (h.ns.1 _ _ c2.1 c2.2 (by decide)).trans b4⟩
    refine x_li (z := i) T_121_88 rfl ?_
    refine x_li (z := most) T_121_90 rfl ?_
    refine x_ic2 T_121_91 (fun _ => ?_) (fun h => absurd (show most ≤ i by omega) h)
    refine x_li (z := 1) T_121_302 rfl ?_
    refine x_if T_121_304 (fun h => absurd (show (1 : Int) = 0 from h) (by decide)) (fun _ => ?_)
    refine x_li (z := 0) T_121_307 rfl ?_
    refine x_if T_121_309 (fun h => absurd (show ¬ (0 : Int) = 0 from h) (by decide)) (fun _ => ?_)
    refine x_lr (z := some pr) T_121_312 rfl ?_
    refine x_gR (z := some ga) T_121_313 F_6_9 (hP.o hpo) (Eq.trans (hP.rm hpo rfl (key := 2201) rfl) hgr) ?_
    refine x_lr (z := some c) T_121_316 rfl ?_
    refine x_gI (z := s) T_121_317 (Or.inl F_5_0) (hP.o hc) (Eq.trans (hP.gi hc (key := 2160) rfl) hs0) ?_
    refine x_lr (z := some c) T_121_320 rfl ?_
    refine x_gI (z := pa) T_121_321 (Or.inl F_5_2) (hP.o hc) (Eq.trans (hP.gi hc (key := 2162) rfl) hp0) ?_
    refine x_cv3 T_121_324 mN_129 mL_129 (Nat.le_of_ble_eq_true rfl) mO_129 (hP.o hgo0) (Nat.le_of_ble_eq_true rfl) (hpa) ?_
    rintro _ σ ⟨rfl, rfl⟩
    refine cR ?_
    refine x_goto T_121_327 ?_
    refine x_sr (ls1 := [some (vR (some 129)), some (vR (some pr)), some (vR (some c)), some (vI most), some (vI 1), some (vI at5), some (vI 0), some (vR (some y0)), x8, x9, x10, x11, x12, x13]) T_121_331 rfl ?_
    refine x_lr (z := some y0) T_121_333 rfl ?_
    refine x_nnul T_121_335 (fun _ _ => ?_) (fun h0 => absurd h0 (by simp))
    refine x_lr (z := some y0) T_121_342 rfl ?_
    refine x_ic T_121_344 ?_
    refine x_cv2 T_121_345 mN_130 mL_130 (Nat.le_of_ble_eq_true rfl) mO_130 (hP.o hyo) (Nat.le_of_ble_eq_true rfl) (hmo) ?_
    rintro _ σ ⟨rfl, rfl⟩
    refine cR ?_
    refine x_sr (ls1 := [some (vR (some 129)), some (vR (some pr)), some (vR (some c)), some (vI most), some (vI 1), some (vI at5), some (vI 0), some (vR (some y0)), some (vR (some f0)), x9, x10, x11, x12, x13]) T_121_348 rfl ?_
    refine x_lr (z := some f0) T_121_350 rfl ?_
    refine x_nul T_121_352 (fun h0 => absurd h0 (by simp)) (fun _ _ => ?_)
    refine x_lr (z := some 129) T_121_355 rfl ?_
    refine x_lr (z := some f0) T_121_356 rfl ?_
    refine x_gI (z := ms) T_121_358 (Or.inl F_5_0) (hP.o c1) (Eq.trans (hP.gi c1 (key := 2160) rfl) b1) ?_
    refine x_cv2 T_121_361 mN_122 mL_122 (Nat.le_of_ble_eq_true rfl) mO_122 (hP.o xo_129) (Nat.le_of_ble_eq_true rfl) (hho) ?_
    rintro _ σ ⟨rfl, rfl⟩
    refine cR ?_
    refine x_ic T_121_364 ?_
    refine x_lr (z := some 129) T_121_365 rfl ?_
    refine x_lr (z := some f0) T_121_366 rfl ?_
    refine x_gI (z := ms) T_121_368 (Or.inl F_5_0) (hP.o c1) (Eq.trans (hP.gi c1 (key := 2160) rfl) b1) ?_
    refine x_lr (z := some f0) T_121_371 rfl ?_
    refine x_gI (z := mf) T_121_373 (Or.inl F_5_1) (hP.o c1) (Eq.trans (hP.gi c1 (key := 2161) rfl) b2) ?_
    refine x_ic T_121_376 ?_
    refine x_cv4 T_121_377 mN_123 mL_123 (Nat.le_of_ble_eq_true rfl) mO_123 (hP.o xo_129) (Nat.le_of_ble_eq_true rfl) (hwk) ?_
    clear hP hwk
    rintro _ σ ⟨rfl, W2, hP, hB2, hF2, hg2⟩
    refine cR ?_
    refine x_lr (z := some 129) T_121_380 rfl ?_
    refine x_gR (z := some 134) T_121_381 F_1_2 (hP.o xo_129) (hP.rc xo_129 rfl rfl) ?_
    refine x_cv4 T_121_384 mN_26 mL_26 (Nat.le_of_ble_eq_true rfl) mO_26 (hP.o hO) (Nat.le_of_ble_eq_true rfl) (hak σ W2 hP hF2 hB2) ?_
    clear hP hak
    rintro _ σ ⟨rfl, W3, R3, hP, hX3, hB3, hF3⟩
    have hg3 := hgp W2 hF2 hg2 W3 R3 hF3
    have hA3 := FA_tr (FA_fr hF2) (FA_fs hF3)
    obtain ⟨⟨z1, z2⟩, -, -, -⟩ := hkp W3 R3 hA3
    refine cI ?_
    refine x_si (ls1 := [some (vR (some 129)), some (vR (some pr)), some (vR (some c)), some (vI most), some (vI 1), some (vI at5), some (vI e), some (vR (some y0)), some (vR (some f0)), x9, x10, x11, x12, x13]) T_121_387 rfl ?_
    refine x_lr (z := some 129) T_121_389 rfl ?_
    refine x_gI (z := g) T_121_390 (Or.inl F_1_5) (hP.o xo_129) (Eq.trans (hP.gi xo_129 (key := 2037) rfl) hg3) ?_
    refine x_si (ls1 := [some (vR (some 129)), some (vR (some pr)), some (vR (some c)), some (vI most), some (vI 1), some (vI at5), some (vI e), some (vR (some y0)), some (vR (some f0)), some (vI g), x10, x11, x12, x13]) T_121_393 rfl ?_
    refine x_lr (z := some 129) T_121_395 rfl ?_
    refine x_lr (z := some c) T_121_396 rfl ?_
    refine x_gI (z := s) T_121_397 (Or.inl F_5_0) (hP.o hc) (Eq.trans (hP.gi hc (key := 2160) rfl) z1) ?_
    refine x_cv2 T_121_400 mN_122 mL_122 (Nat.le_of_ble_eq_true rfl) mO_122 (hP.o xo_129) (Nat.le_of_ble_eq_true rfl) (hho2 σ W3 R3 hP) ?_
    rintro _ σ ⟨rfl, rfl⟩
    refine cR ?_
    refine x_ic T_121_403 ?_
    refine x_lr (z := some 129) T_121_404 rfl ?_
    refine x_ic T_121_405 ?_
    refine x_lr (z := some c) T_121_407 rfl ?_
    refine x_gI (z := f) T_121_408 (Or.inl F_5_1) (hP.o hc) (Eq.trans (hP.gi hc (key := 2161) rfl) z2) ?_
    refine x_cv3 T_121_411 mN_131 mL_131 (Nat.le_of_ble_eq_true rfl) mO_131 (hP.o xo_129) (Nat.le_of_ble_eq_true rfl) (hab σ W3 R3 hP) ?_
    clear hP hab
    rintro _ σ ⟨rfl, W4, hP, hB4, hF4⟩
    refine cR ?_
    refine x_lr (z := some 129) T_121_414 rfl ?_
    refine x_gR (z := some 134) T_121_415 F_1_2 (hP.o xo_129) (hP.rc xo_129 rfl rfl) ?_
    refine x_cv4 T_121_418 mN_26 mL_26 (Nat.le_of_ble_eq_true rfl) mO_26 (hP.o hO2) (Nat.le_of_ble_eq_true rfl) (hak2 σ W4 W3 R3 hX3 hP hF4 hB4) ?_
    clear hP hak2
    rintro _ σ ⟨rfl, W5, R5, hP, hX5, hB5, hF5⟩
    have hA5 := FA_tr hA3 (FA_tr (FA_fr hF4) (FA_fs hF5))
    obtain ⟨-, z3, z4, z5⟩ := hkp W5 R5 hA5
    refine cI ?_
    refine x_popI T_121_421 ?_
    refine x_lr (z := some c) T_121_422 rfl ?_
    refine x_lr (z := some f0) T_121_423 rfl ?_
    refine x_gI (z := ms) T_121_425 (Or.inl F_5_0) (hP.o c1) (Eq.trans (hP.gi c1 (key := 2160) rfl) z3) ?_
    refine x_li (z := g) T_121_428 rfl ?_
    refine x_lr (z := some f0) T_121_430 rfl ?_
    refine x_gI (z := mp) T_121_432 (Or.inl F_5_2) (hP.o c1) (Eq.trans (hP.gi c1 (key := 2162) rfl) z4) ?_
    refine x_lr (z := some f0) T_121_435 rfl ?_
    refine x_gI (z := mdr) T_121_437 (Or.inr (Or.inl F_5_3)) (hP.o c1) (Eq.trans (hP.gi c1 (key := 2163) rfl) z5) ?_
    refine x_cv5 T_121_440 mN_128 mL_128 (Nat.le_of_ble_eq_true rfl) mO_128 (hP.o hc) (Nat.le_of_ble_eq_true rfl) (hbc σ W5 R5 hP) ?_
    clear hP hbc
    rintro _ σ ⟨rfl, hP⟩
    refine cV ?_
    refine x_lr (z := some c) T_121_443 rfl ?_
    refine x_lr (z := some y0) T_121_444 rfl ?_
    refine z_pR hP T_121_446 F_5_4 rfl hc (key := 2164) rfl (fun σ hP => ?_)
    refine x_li (z := e) T_121_449 rfl ?_
    refine x_ri T_121_451 ?_
    refine ⟨rfl, _, _, hP, ?_, fun q => ⟨CHX_pt hmd ⟨by omega, p3⟩ ?_ hc2, ⟨hms3, ⟨?_, ?_⟩, p3⟩⟩, FC_tr (FC_fa hA5) (FC_own (fun x k hx => chW_o hx) (fun x k hx => (oU_f hx).trans (oU_f hx)))⟩
    · exact (hX5.mono (by omega)).out (fun x k hx => chW_o (by omega)) (fun x k hx => by
        rcases hx with hx | hx
        · exact (oU_f (by omega)).trans (oU_f (by omega))
        · exact (oU_j (by omega)).trans (oU_j (by omega)))
    · have hr := grO_rng (g := pt / 8) ⟨by omega, by omega⟩
      exact (hA5.2 _ _ (Or.inl (by omega))).trans hy1
    · have := hE0 q
      show 0 ≤ g
      omega
    · show g ≤ 47
      omega
/-- the names, one after another -/
theorem wk_loop (hp : 0 ≤ p ∧ p < 8) (hpr : prO p = pr) (hc : tX c = some (Sum.inl 5)) (hc2 : 2175 ≤ c) (ht : thr = 0 ∨ thr = 1) (hmm : most ≤ n ∧ n ≤ 100) : ∀ (nms : List (List Int)) (i T : Int) (P W : qR) (R : rR) (σ : hM) (ch : Ch) (x8 x9 x10 x11 x12 x13 : Option AV), i + nms.length = most → 0 ≤ i → PX σ0 W R σ → XW K T U W R P → T + 28 * nms.length + 400 ≤ 2147483000 → ¬ P 2320 p = 0 → CHX W R c ch → chR ch → BY W 145 161 lo → W 129 2038 = n → NMs W lo i nms → WP fb (d + 8) 121 88 [some (vR (some 129)), some (vR (some pr)), some (vR (some c)), some (vI most), some (vI thr), some (vI at5), some (vI 0), some (vI i), x8, x9, x10, x11, x12, x13] [] σ (XK σ0 K (T + 28 * nms.length + 8) U W R c (kWalkT P p thr nms ch)) := by
  intro nms
  induction nms with
  | nil =>
    intro i T P W R σ ch x8 x9 x10 x11 x12 x13 h1 h2 hP hX hT hlv hch hcr hB hn hN
    have h1 : i + ((0 : Nat) : Int) = most := h1
    have hT : T + 28 * ((0 : Nat) : Int) + 400 ≤ 2147483000 := hT
    have eK : kWalkT P p thr [] ch = if thr = 0 then (0, P, ch) else kThru P p ch := rfl
    rw [eK]
    show WP fb (d + 8) 121 88 [some (vR (some 129)), some (vR (some pr)), some (vR (some c)), some (vI most), some (vI thr), some (vI at5), some (vI 0), some (vI i), x8, x9, x10, x11, x12, x13] [] σ (XK σ0 K (T + 28 * ((0 : Nat) : Int) + 8) U W R c (if thr = 0 then (0, P, ch) else kThru P p ch))
    rw [show T + 28 * ((0 : Nat) : Int) + 8 = T + 8 by omega]
    rcases ht with rfl | rfl
    · rw [if_pos rfl]
      refine x_li (z := i) T_121_88 rfl ?_
      refine x_li (z := most) T_121_90 rfl ?_
      refine x_ic2 T_121_91 (fun _ => ?_) (fun h => absurd (show most ≤ i by omega) h)
      refine x_li (z := 0) T_121_302 rfl ?_
      refine x_if T_121_304 (fun _ => ?_) (fun h => absurd (show (0 : Int) = 0 by rfl) h)
      refine x_nu T_121_330 ?_
      refine x_sr (ls1 := [some (vR (some 129)), some (vR (some pr)), some (vR (some c)), some (vI most), some (vI 0), some (vI at5), some (vI 0), some (vR none), x8, x9, x10, x11, x12, x13]) T_121_331 rfl ?_
      refine x_lr (z := none) T_121_333 rfl ?_
      refine x_nnul T_121_335 (fun a0 h0 => absurd h0 (by simp)) (fun _ => ?_)
      refine x_nu T_121_338 ?_
      refine x_goto T_121_339 ?_
      refine x_sr (ls1 := [some (vR (some 129)), some (vR (some pr)), some (vR (some c)), some (vI most), some (vI 0), some (vI at5), some (vI 0), some (vR none), some (vR none), x9, x10, x11, x12, x13]) T_121_348 rfl ?_
      refine x_lr (z := none) T_121_350 rfl ?_
      refine x_nul T_121_352 (fun _ => ?_) (fun a0 h0 => absurd h0 (by simp))
      refine x_li (z := 0) T_121_449 rfl ?_
      refine x_ri T_121_451 ?_
      exact ⟨rfl, W, R, hP, hX.mono (by omega), fun _ => ⟨hch, hcr⟩, FC_fa FA_rfl⟩
    · rw [if_neg (by decide)]
      exact wk_thru hP hX (by omega) hp hpr hlv hc hc2 hch hcr (by omega)
  | cons nm r ih =>
    intro i T P W R σ ch x8 x9 x10 x11 x12 x13 h1 h2 hP hX hT hlv hch hcr hB hn hN
    rw [List.length_cons] at h1 hT
    obtain ⟨n1, n2, n3⟩ := hN.hd
    have hIV := hX.1.2.2.2.1.iv
    have hPT := hX.1.2.2.2.2.2.2
    obtain ⟨kk, ke⟩ := kNext_ok (P := P) (p := p) (x := ch) (nm := nm) (fun h => (PTS.pt (s := ch.1) (path := ch.2.2.1) hIV hPT hp h).1)
    have eK : kWalkT P p thr (nm :: r) ch = if 0 < (kNext P p ch nm).1 then ((kNext P p ch nm).1, kDrop (kNext P p ch nm).2.1 ch, ch) else kWalkT (kDrop (kNext P p ch nm).2.1 ch) p thr r (kNext P p ch nm).2.2 := rfl
    rw [eK]
    refine wk_next hP hX (by omega) hp hpr hlv hc hc2 hch hcr ⟨h2, by omega, by omega⟩ (by omega) n2 n3 hB hn n1 (fun σ W2 R2 y8 y9 y10 y11 y12 y13 g1 g2 g3 g4 => ?_)
    by_cases q : (kNext P p ch nm).1 = 0
    · rw [if_neg (show ¬ 0 < (kNext P p ch nm).1 by omega)]
      obtain ⟨c1, c2⟩ := g3 q
      have hk2 : KF (kDrop (kNext P p ch nm).2.1 ch) P := KF_tr KF_tP kk
      have := ih (i + 1) (T + 28) (kDrop (kNext P p ch nm).2.1 ch) W2 R2 σ (kNext P p ch nm).2.2 y8 y9 y10 y11 y12 y13 (by omega) (by omega) g1 g2 (by omega) (by rw [nsR_kf hk2 2320 _ rfl]; exact hlv) c1 c2 (g4.by hB hc2 (by decide) (by decide) (by decide)) ((g4.kn hc2).1.trans hn) (hN.tl.fc g4 hc2 ⟨by omega, by omega⟩)
      rw [q]
      refine WP.mono this (fun r2 σ' h => ?_)
      obtain ⟨rfl, W3, R3, k1, k2, k3, k4⟩ := h
      exact ⟨rfl, W3, R3, k1, k2.mono (by rw [List.length_cons]; omega), k3, FC_tr g4 k4⟩
    · rw [if_pos (show 0 < (kNext P p ch nm).1 by omega)]
      exact wk_fail q ht ⟨rfl, W2, R2, g1, g2.mono (by rw [List.length_cons]; omega), fun c => absurd c q, g4⟩
end XWLKC
