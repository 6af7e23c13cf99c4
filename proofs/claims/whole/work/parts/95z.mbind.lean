/-! bindWords: the members of a union are copied. -/
theorem T_358_329 : hTab 358 329 = some ((3, 15, 0, []), 331) := rfl
theorem T_358_331 : hTab 358 331 = some ((3, 13, 0, []), 333) := rfl
theorem T_358_333 : hTab 358 333 = some ((19, 3, Int.ofNat 399, []), 336) := rfl
theorem T_358_336 : hTab 358 336 = some ((3, 12, 0, []), 338) := rfl
theorem T_358_338 : hTab 358 338 = some ((18, 0, Int.ofNat 399, []), 341) := rfl
theorem T_358_341 : hTab 358 341 = some ((0, 0, 6, []), 343) := rfl
theorem T_358_343 : hTab 358 343 = some ((3, 11, 0, []), 345) := rfl
theorem T_358_345 : hTab 358 345 = some ((10, 2, 0, []), 346) := rfl
theorem T_358_346 : hTab 358 346 = some ((3, 15, 0, []), 348) := rfl
theorem T_358_348 : hTab 358 348 = some ((10, 0, 0, []), 349) := rfl
theorem T_358_349 : hTab 358 349 = some ((4, 16, 0, []), 351) := rfl
theorem T_358_351 : hTab 358 351 = some ((3, 0, 2, []), 352) := rfl
theorem T_358_352 : hTab 358 352 = some ((3, 0, 2, []), 353) := rfl
theorem T_358_353 : hTab 358 353 = some ((24, 17, Int.ofNat 68, []), 356) := rfl
theorem T_358_356 : hTab 358 356 = some ((3, 16, 0, []), 358) := rfl
theorem T_358_358 : hTab 358 358 = some ((26, 0, 0, []), 359) := rfl
theorem T_358_359 : hTab 358 359 = some ((3, 0, 2, []), 360) := rfl
theorem T_358_360 : hTab 358 360 = some ((24, 17, Int.ofNat 69, []), 363) := rfl
theorem T_358_363 : hTab 358 363 = some ((3, 16, 0, []), 365) := rfl
theorem T_358_365 : hTab 358 365 = some ((26, 0, 0, []), 366) := rfl
theorem T_358_366 : hTab 358 366 = some ((3, 0, 2, []), 367) := rfl
theorem T_358_367 : hTab 358 367 = some ((24, 17, Int.ofNat 70, []), 370) := rfl
theorem T_358_370 : hTab 358 370 = some ((3, 16, 0, []), 372) := rfl
theorem T_358_372 : hTab 358 372 = some ((26, 0, 0, []), 373) := rfl
theorem T_358_373 : hTab 358 373 = some ((3, 0, 2, []), 374) := rfl
theorem T_358_374 : hTab 358 374 = some ((24, 17, Int.ofNat 71, []), 377) := rfl
theorem T_358_377 : hTab 358 377 = some ((3, 16, 0, []), 379) := rfl
theorem T_358_379 : hTab 358 379 = some ((26, 0, 0, []), 380) := rfl
theorem T_358_380 : hTab 358 380 = some ((31, 333, 0, []), 383) := rfl
theorem T_358_383 : hTab 358 383 = some ((4, 8, 0, []), 385) := rfl
theorem T_358_385 : hTab 358 385 = some ((3, 8, 0, []), 387) := rfl
theorem T_358_387 : hTab 358 387 = some ((18, 5, Int.ofNat 393, []), 390) := rfl
theorem T_358_390 : hTab 358 390 = some ((3, 8, 0, []), 392) := rfl
theorem T_358_392 : hTab 358 392 = some ((33, 1, 0, []), 393) := rfl
theorem T_358_393 : hTab 358 393 = some ((5, 15, 1, []), 396) := rfl
theorem T_358_396 : hTab 358 396 = some ((22, 0, Int.ofNat 329, []), 399) := rfl
theorem mN_358 : hmN 358 = 3 := by decide +kernel
theorem mL_358 : hmL 358 = 17 := by decide +kernel
theorem mK_358 : hmK 358 = 1 := by decide +kernel
theorem mO_358 : hmO 358 = 17 := by decide +kernel
def kCps (fr : Int) : Nat → Int → qR → List Ch → Int × qR × List Ch
  | 0, _, P, h => (0, P, h)
  | m + 1, j, P, h => if 0 < kCpE P (P 2338 (6 * fr + j)) (P 2339 (6 * fr + j)) then (kCpE P (P 2338 (6 * fr + j)) (P 2339 (6 * fr + j)), kCpP P (P 2338 (6 * fr + j)) (P 2339 (6 * fr + j)), h) else kCps fr m (j + 1) (kCpP P (P 2338 (6 * fr + j)) (P 2339 (6 * fr + j))) (h ++ [(P 2338 (6 * fr + j), qNewF P (P 2338 (6 * fr + j)), P 2340 (6 * fr + j), P 2341 (6 * fr + j), -1)])
section MBIND
variable {fb : Bool} {d : Nat} {σ0 σ : hM} {P Q R S S1 S2 : qR} {T U s w g u p k e t z o thr pt off n N v mk fr bf bh old : Int} {l l1 l2 nm wd A : List Int} {h : List Ch} {f : Int → Int} {x : Nw} {c c1 : Ch} {ns : List Nw}
theorem kCps_kf : ∀ (m : Nat) (j : Int) (P : qR) (h : List Ch), KF (kCps fr m j P h).2.1 P
  | 0, _, _, _ => KF_rfl
  | m + 1, j, P, h => by
    unfold kCps
    split
    · exact KF_cp
    · exact KF_tr (kCps_kf m (j + 1) _ _) KF_cp
theorem KS.copy {r : Option AV} {σ1 : hM} {P1 : qR} {h1 : List Ch} (hK : KS T U P S l h) (hk : KF P1 P) (hr : KR (T + 4) U σ0 S e P1 h1 r σ1) : ∃ S2 : qR, r = some (vI e) ∧ PM σ0 P1 S2 σ1 ∧ KS (T + 4) U P1 S2 l h1 ∧ SX scR scN S S2 := by
  obtain ⟨S2, a1, a2, a3, a4, a5, a6⟩ := hr
  exact ⟨S2, a1, a2, ⟨a3, hK.2.1.of hk, a4, a5, hK.2.2.2.2.sw a6.sw⟩, SX_sc a6.sw⟩
theorem m_bind_cp {v2 v3 v4 v5 v6 v7 v9 v14 : Int} (hf : 0 ≤ fr ∧ fr < 64) (hn : n ≤ 6) {Q : Option AV → hM → Prop} : ∀ (m : Nat) (j T : Int) (P S : qR) (h : List Ch) (σ : hM) (l16 : Option AV), j + m = n → 0 ≤ j → h.length + m < 60 → T + 4 * m + 49 ≤ 2147483000 → PM σ0 P S σ → KS T U P S l h → (∀ r σ', 0 < (kCps fr m j P h).1 → KC (T + 4 * m) U σ0 S l (kCps fr m j P h).1 (kCps fr m j P h).2.1 (kCps fr m j P h).2.2 r σ' → Q r σ') → ((kCps fr m j P h).1 = 0 → ∀ (σ : hM) (S2 : qR) (l16 : Option AV), PM σ0 (kCps fr m j P h).2.1 S2 σ → KS (T + 4 * m) U (kCps fr m j P h).2.1 S2 l (kCps fr m j P h).2.2 → SX scR scN S S2 → WP fb (d + 13) 358 399 [some (vR (some 2281)), some (vI p), some (vI v2), some (vI v3), some (vI v4), some (vI v5), some (vI v6), some (vI v7), some (vI 0), some (vI v9), some (vI old), some (vI fr), some (vI 1), some (vI n), some (vI v14), some (vI n), l16] [] σ Q) → WP fb (d + 13) 358 329 [some (vR (some 2281)), some (vI p), some (vI v2), some (vI v3), some (vI v4), some (vI v5), some (vI v6), some (vI v7), some (vI 0), some (vI v9), some (vI old), some (vI fr), some (vI 1), some (vI n), some (vI v14), some (vI j), l16] [] σ Q := by
  intro m
  induction m with
  | zero =>
    intro j T P S h σ l16 h1 h2 h3 h4 hP hK hE hQ
    have h1 : j + ((0 : Nat) : Int) = n := h1
    have hj : j = n := by omega
    subst hj
    have hgo := hQ rfl σ S l16 hP (hK.mono (by omega)) SX_rfl
    refine x_li (z := j) T_358_329 rfl ?_
    refine x_li (z := j) T_358_331 rfl ?_
    refine x_ic2 T_358_333 (fun _ => ?_) (fun h => absurd (show j ≤ j by omega) h)
    exact hgo
  | succ m ih =>
    intro j T P S h σ l16 h1 h2 h3 h4 hP hK hE hQ
    unfold kCps at hE hQ
    have b1 : 0 ≤ P 2338 (6 * fr + j) ∧ P 2338 (6 * fr + j) ≤ 2 := IV.a hK.1.iv 2338 0 384 rfl rfl rfl (by omega) (by omega)
    have b3 : 0 ≤ P 2340 (6 * fr + j) ∧ P 2340 (6 * fr + j) ≤ T + 200 := IV.a hK.1.iv 2340 0 384 rfl rfl rfl (by omega) (by omega)
    have b4 : 0 ≤ P 2341 (6 * fr + j) ∧ P 2341 (6 * fr + j) ≤ 255 := IV.a hK.1.iv 2341 0 384 rfl rfl rfl (by omega) (by omega)
    obtain ⟨sv, hsv⟩ : ∃ y, P 2338 (6 * fr + j) = y := ⟨_, rfl⟩
    obtain ⟨fd, hfd⟩ : ∃ y, P 2339 (6 * fr + j) = y := ⟨_, rfl⟩
    obtain ⟨pa, hpa⟩ : ∃ y, P 2340 (6 * fr + j) = y := ⟨_, rfl⟩
    obtain ⟨ki, hki⟩ : ∃ y, P 2341 (6 * fr + j) = y := ⟨_, rfl⟩
    rw [hsv] at b1
    rw [hpa] at b3
    rw [hki] at b4
    rw [hsv, hfd, hpa, hki] at hE hQ
    have hcp := fun (σ : hM) (hP : PM σ0 P S σ) => m_copy (fb := fb) (d := d) (s := sv) (f := fd) (g := pa) (k := ki) hP hK.2.2.1 hK.1 (by omega) ⟨b1.1, by omega⟩ hK.2.2.2.1 (by omega) b3 b4
    have her := kCpE_rng (P := P) (s := sv) (f := fd)
    have hkf : KF (kCpP P sv fd) P := KF_cp
    obtain ⟨e, he⟩ : ∃ e, kCpE P sv fd = e := ⟨_, rfl⟩
    obtain ⟨P1, hP1⟩ : ∃ P1, kCpP P sv fd = P1 := ⟨_, rfl⟩
    rw [he] at her
    rw [hP1] at hkf
    rw [he, hP1] at hcp hE hQ
    by_cases q : 0 < e
    · rw [if_pos q] at hE
      have hE := hE
      rw [kHoldn (by omega)] at hcp
      refine x_li (z := j) T_358_329 rfl ?_
      refine x_li (z := n) T_358_331 rfl ?_
      refine x_ic2 T_358_333 (fun h => absurd (show n ≤ j from h) (by omega)) (fun _ => ?_)
      refine x_li (z := 1) T_358_336 rfl ?_
      refine x_if T_358_338 (fun h => absurd (show (1 : Int) = 0 from h) (by decide)) (fun _ => ?_)
      refine x_ic T_358_341 ?_
      refine x_li (z := fr) T_358_343 rfl ?_
      refine x_ib (w := (6 * fr)) T_358_345 (fun h => absurd h.1 (by decide)) (w32_id (by omega) (by omega)) ?_
      refine x_li (z := j) T_358_346 rfl ?_
      refine x_ib (w := ((6 * fr) + j)) T_358_348 (fun h => absurd h.1 (by decide)) (w32_id (by omega) (by omega)) ?_
      refine x_si (ls1 := [some (vR (some 2281)), some (vI p), some (vI v2), some (vI v3), some (vI v4), some (vI v5), some (vI v6), some (vI v7), some (vI 0), some (vI v9), some (vI old), some (vI fr), some (vI 1), some (vI n), some (vI v14), some (vI j), some (vI ((6 * fr) + j))]) T_358_349 rfl ?_
      refine x_lr (z := some 2281) T_358_351 rfl ?_
      refine x_lr (z := some 2281) T_358_352 rfl ?_
      refine x_gR (z := some 2338) T_358_353 F_17_68 (PM.t hP) (PM.r hP 68 2338 rfl) ?_
      refine x_li (z := ((6 * fr) + j)) T_358_356 rfl ?_
      refine x_alI (z := sv) T_358_358 (by decide) (PM.ta hP 2338 0 384 rfl rfl) (by omega) (by omega) (Eq.trans (PM.aP hP 2338 rfl rfl (by omega)) hsv) ?_
      refine x_lr (z := some 2281) T_358_359 rfl ?_
      refine x_gR (z := some 2339) T_358_360 F_17_69 (PM.t hP) (PM.r hP 69 2339 rfl) ?_
      refine x_li (z := ((6 * fr) + j)) T_358_363 rfl ?_
      refine x_alI (z := fd) T_358_365 (by decide) (PM.ta hP 2339 0 384 rfl rfl) (by omega) (by omega) (Eq.trans (PM.aP hP 2339 rfl rfl (by omega)) hfd) ?_
      refine x_lr (z := some 2281) T_358_366 rfl ?_
      refine x_gR (z := some 2340) T_358_367 F_17_70 (PM.t hP) (PM.r hP 70 2340 rfl) ?_
      refine x_li (z := ((6 * fr) + j)) T_358_370 rfl ?_
      refine x_alI (z := pa) T_358_372 (by decide) (PM.ta hP 2340 0 384 rfl rfl) (by omega) (by omega) (Eq.trans (PM.aP hP 2340 rfl rfl (by omega)) hpa) ?_
      refine x_lr (z := some 2281) T_358_373 rfl ?_
      refine x_gR (z := some 2341) T_358_374 F_17_71 (PM.t hP) (PM.r hP 71 2341 rfl) ?_
      refine x_li (z := ((6 * fr) + j)) T_358_377 rfl ?_
      refine x_alI (z := ki) T_358_379 (by decide) (PM.ta hP 2341 0 384 rfl rfl) (by omega) (by omega) (Eq.trans (PM.aP hP 2341 rfl rfl (by omega)) hki) ?_
      refine x_cv5 T_358_380 mN_333 mL_333 (Nat.le_of_ble_eq_true rfl) mO_333 (PM.t hP) (Nat.le_of_ble_eq_true rfl) (hcp σ hP) ?_
      clear hP hcp
      intro r σ hr
      obtain ⟨S2, rfl, hP, hK2, hX2⟩ := hK.copy hkf hr
      refine cI ?_
      refine x_si (ls1 := [some (vR (some 2281)), some (vI p), some (vI v2), some (vI v3), some (vI v4), some (vI v5), some (vI v6), some (vI v7), some (vI e), some (vI v9), some (vI old), some (vI fr), some (vI 1), some (vI n), some (vI v14), some (vI j), some (vI ((6 * fr) + j))]) T_358_383 rfl ?_
      refine x_li (z := e) T_358_385 rfl ?_
      refine x_if T_358_387 (fun h => absurd (show e ≤ 0 from h) (by omega)) (fun _ => ?_)
      refine x_li (z := e) T_358_390 rfl ?_
      refine x_ri T_358_392 ?_
      exact hE _ _ q ⟨S2, rfl, hP, hK2.mono (by omega), hX2⟩
    · rw [if_neg q] at hE hQ
      have q2 : e = 0 := by omega
      subst q2
      rw [kHold0] at hcp
      have hgo := fun (σ : hM) (S2 : qR) (l16 : Option AV) (hP : PM σ0 P1 S2 σ) (hK2 : KS (T + 4) U P1 S2 l (h ++ [(sv, qNewF P sv, pa, ki, -1)])) (hX2 : SX scR scN S S2) => ih (j + 1) (T + 4) P1 S2 (h ++ [(sv, qNewF P sv, pa, ki, -1)]) σ l16 (by omega) (by omega) (by rw [List.length_append]; show h.length + 1 + m < 60; omega) (by omega) hP hK2 (fun r σ1 a1 a2 => hE r σ1 a1 (by
        obtain ⟨S3, r1, r2, r3, r4⟩ := a2
        exact ⟨S3, r1, r2, r3.mono (by omega), SX_tr hX2 r4⟩)) (fun a1 σ S3 l16 a2 a3 a4 => hQ a1 σ S3 l16 a2 (a3.mono (by omega)) (SX_tr hX2 a4))
      refine x_li (z := j) T_358_329 rfl ?_
      refine x_li (z := n) T_358_331 rfl ?_
      refine x_ic2 T_358_333 (fun h => absurd (show n ≤ j from h) (by omega)) (fun _ => ?_)
      refine x_li (z := 1) T_358_336 rfl ?_
      refine x_if T_358_338 (fun h => absurd (show (1 : Int) = 0 from h) (by decide)) (fun _ => ?_)
      refine x_ic T_358_341 ?_
      refine x_li (z := fr) T_358_343 rfl ?_
      refine x_ib (w := (6 * fr)) T_358_345 (fun h => absurd h.1 (by decide)) (w32_id (by omega) (by omega)) ?_
      refine x_li (z := j) T_358_346 rfl ?_
      refine x_ib (w := ((6 * fr) + j)) T_358_348 (fun h => absurd h.1 (by decide)) (w32_id (by omega) (by omega)) ?_
      refine x_si (ls1 := [some (vR (some 2281)), some (vI p), some (vI v2), some (vI v3), some (vI v4), some (vI v5), some (vI v6), some (vI v7), some (vI 0), some (vI v9), some (vI old), some (vI fr), some (vI 1), some (vI n), some (vI v14), some (vI j), some (vI ((6 * fr) + j))]) T_358_349 rfl ?_
      refine x_lr (z := some 2281) T_358_351 rfl ?_
      refine x_lr (z := some 2281) T_358_352 rfl ?_
      refine x_gR (z := some 2338) T_358_353 F_17_68 (PM.t hP) (PM.r hP 68 2338 rfl) ?_
      refine x_li (z := ((6 * fr) + j)) T_358_356 rfl ?_
      refine x_alI (z := sv) T_358_358 (by decide) (PM.ta hP 2338 0 384 rfl rfl) (by omega) (by omega) (Eq.trans (PM.aP hP 2338 rfl rfl (by omega)) hsv) ?_
      refine x_lr (z := some 2281) T_358_359 rfl ?_
      refine x_gR (z := some 2339) T_358_360 F_17_69 (PM.t hP) (PM.r hP 69 2339 rfl) ?_
      refine x_li (z := ((6 * fr) + j)) T_358_363 rfl ?_
      refine x_alI (z := fd) T_358_365 (by decide) (PM.ta hP 2339 0 384 rfl rfl) (by omega) (by omega) (Eq.trans (PM.aP hP 2339 rfl rfl (by omega)) hfd) ?_
      refine x_lr (z := some 2281) T_358_366 rfl ?_
      refine x_gR (z := some 2340) T_358_367 F_17_70 (PM.t hP) (PM.r hP 70 2340 rfl) ?_
      refine x_li (z := ((6 * fr) + j)) T_358_370 rfl ?_
      refine x_alI (z := pa) T_358_372 (by decide) (PM.ta hP 2340 0 384 rfl rfl) (by omega) (by omega) (Eq.trans (PM.aP hP 2340 rfl rfl (by omega)) hpa) ?_
      refine x_lr (z := some 2281) T_358_373 rfl ?_
      refine x_gR (z := some 2341) T_358_374 F_17_71 (PM.t hP) (PM.r hP 71 2341 rfl) ?_
      refine x_li (z := ((6 * fr) + j)) T_358_377 rfl ?_
      refine x_alI (z := ki) T_358_379 (by decide) (PM.ta hP 2341 0 384 rfl rfl) (by omega) (by omega) (Eq.trans (PM.aP hP 2341 rfl rfl (by omega)) hki) ?_
      refine x_cv5 T_358_380 mN_333 mL_333 (Nat.le_of_ble_eq_true rfl) mO_333 (PM.t hP) (Nat.le_of_ble_eq_true rfl) (hcp σ hP) ?_
      clear hP hcp
      intro r σ hr
      obtain ⟨S2, rfl, hP, hK2, hX2⟩ := hK.copy hkf hr
      refine cI ?_
      refine x_si (ls1 := [some (vR (some 2281)), some (vI p), some (vI v2), some (vI v3), some (vI v4), some (vI v5), some (vI v6), some (vI v7), some (vI 0), some (vI v9), some (vI old), some (vI fr), some (vI 1), some (vI n), some (vI v14), some (vI j), some (vI ((6 * fr) + j))]) T_358_383 rfl ?_
      refine x_li (z := 0) T_358_385 rfl ?_
      refine x_if T_358_387 (fun _ => ?_) (fun h => absurd (show (0 : Int) ≤ 0 by decide) h)
      refine x_inc (w := (j + 1)) (ls1 := [some (vR (some 2281)), some (vI p), some (vI v2), some (vI v3), some (vI v4), some (vI v5), some (vI v6), some (vI v7), some (vI 0), some (vI v9), some (vI old), some (vI fr), some (vI 1), some (vI n), some (vI v14), some (vI (j + 1)), some (vI ((6 * fr) + j))]) T_358_393 rfl (w32_id (by omega) (by omega)) rfl ?_
      refine x_goto T_358_396 ?_
      exact hgo σ S2 _ hP hK2 hX2
end MBIND
