/-! The class's commands: echo. -/
theorem T_142_198 : hTab 142 198 = some ((3, 9, 0, []), 200) := rfl
theorem T_142_200 : hTab 142 200 = some ((18, 1, Int.ofNat 292, []), 203) := rfl
theorem T_142_203 : hTab 142 203 = some ((3, 0, 2, []), 204) := rfl
theorem T_142_204 : hTab 142 204 = some ((3, 0, 2, []), 205) := rfl
theorem T_142_205 : hTab 142 205 = some ((24, 14, Int.ofNat 2, []), 208) := rfl
theorem T_142_208 : hTab 142 208 = some ((3, 0, 2, []), 209) := rfl
theorem T_142_209 : hTab 142 209 = some ((24, 14, Int.ofNat 0, []), 212) := rfl
theorem T_142_212 : hTab 142 212 = some ((3, 0, 2, []), 213) := rfl
theorem T_142_213 : hTab 142 213 = some ((24, 14, Int.ofNat 2, []), 216) := rfl
theorem T_142_216 : hTab 142 216 = some ((24, 5, Int.ofNat 1, []), 219) := rfl
theorem T_142_219 : hTab 142 219 = some ((0, 0, 1, []), 220) := rfl
theorem T_142_220 : hTab 142 220 = some ((3, 4, 0, []), 222) := rfl
theorem T_142_222 : hTab 142 222 = some ((18, 0, Int.ofNat 229, []), 225) := rfl
theorem T_142_225 : hTab 142 225 = some ((0, 0, 0, []), 226) := rfl
theorem T_142_226 : hTab 142 226 = some ((22, 0, Int.ofNat 231, []), 229) := rfl
theorem T_142_229 : hTab 142 229 = some ((0, 0, 16, []), 231) := rfl
theorem T_142_231 : hTab 142 231 = some ((10, 6, 0, []), 232) := rfl
theorem T_142_232 : hTab 142 232 = some ((31, 135, 0, []), 235) := rfl
theorem T_142_235 : hTab 142 235 = some ((31, 136, 0, []), 238) := rfl
theorem T_142_238 : hTab 142 238 = some ((4, 8, 0, []), 240) := rfl
theorem T_142_240 : hTab 142 240 = some ((3, 8, 0, []), 242) := rfl
theorem T_142_242 : hTab 142 242 = some ((18, 1, Int.ofNat 292, []), 245) := rfl
theorem T_142_245 : hTab 142 245 = some ((3, 4, 0, []), 247) := rfl
theorem T_142_247 : hTab 142 247 = some ((18, 0, Int.ofNat 292, []), 250) := rfl
theorem T_142_250 : hTab 142 250 = some ((3, 0, 2, []), 251) := rfl
theorem T_142_251 : hTab 142 251 = some ((3, 0, 2, []), 252) := rfl
theorem T_142_252 : hTab 142 252 = some ((24, 14, Int.ofNat 2, []), 255) := rfl
theorem T_142_255 : hTab 142 255 = some ((3, 0, 2, []), 256) := rfl
theorem T_142_256 : hTab 142 256 = some ((24, 14, Int.ofNat 0, []), 259) := rfl
theorem T_142_259 : hTab 142 259 = some ((0, 0, 124, []), 261) := rfl
theorem T_142_261 : hTab 142 261 = some ((3, 0, 2, []), 262) := rfl
theorem T_142_262 : hTab 142 262 = some ((24, 14, Int.ofNat 2, []), 265) := rfl
theorem T_142_265 : hTab 142 265 = some ((24, 5, Int.ofNat 1, []), 268) := rfl
theorem T_142_268 : hTab 142 268 = some ((31, 131, 0, []), 271) := rfl
theorem T_142_271 : hTab 142 271 = some ((31, 136, 0, []), 274) := rfl
theorem T_142_274 : hTab 142 274 = some ((4, 8, 0, []), 276) := rfl
theorem T_142_276 : hTab 142 276 = some ((3, 0, 2, []), 277) := rfl
theorem T_142_277 : hTab 142 277 = some ((24, 14, Int.ofNat 0, []), 280) := rfl
theorem T_142_280 : hTab 142 280 = some ((24, 1, Int.ofNat 2, []), 283) := rfl
theorem T_142_283 : hTab 142 283 = some ((0, 0, 42, []), 285) := rfl
theorem T_142_285 : hTab 142 285 = some ((0, 0, 8, []), 287) := rfl
theorem T_142_287 : hTab 142 287 = some ((31, 29, 0, []), 290) := rfl
theorem T_142_290 : hTab 142 290 = some ((4, 6, 1, []), 292) := rfl
theorem T_142_292 : hTab 142 292 = some ((0, 0, 0, []), 293) := rfl
theorem T_142_293 : hTab 142 293 = some ((4, 10, 0, []), 295) := rfl
theorem T_142_295 : hTab 142 295 = some ((3, 10, 0, []), 297) := rfl
theorem T_142_297 : hTab 142 297 = some ((3, 0, 2, []), 298) := rfl
theorem T_142_298 : hTab 142 298 = some ((24, 14, Int.ofNat 1, []), 301) := rfl
theorem T_142_301 : hTab 142 301 = some ((31, 28, 0, []), 304) := rfl
theorem T_142_304 : hTab 142 304 = some ((19, 3, Int.ofNat 373, []), 307) := rfl
theorem T_142_307 : hTab 142 307 = some ((3, 8, 0, []), 309) := rfl
theorem T_142_309 : hTab 142 309 = some ((18, 1, Int.ofNat 373, []), 312) := rfl
theorem T_142_312 : hTab 142 312 = some ((3, 10, 0, []), 314) := rfl
theorem T_142_314 : hTab 142 314 = some ((0, 0, 100, []), 316) := rfl
theorem T_142_316 : hTab 142 316 = some ((10, 0, 0, []), 317) := rfl
theorem T_142_317 : hTab 142 317 = some ((3, 0, 2, []), 318) := rfl
theorem T_142_318 : hTab 142 318 = some ((24, 14, Int.ofNat 1, []), 321) := rfl
theorem T_142_321 : hTab 142 321 = some ((31, 28, 0, []), 324) := rfl
theorem T_142_324 : hTab 142 324 = some ((31, 70, 0, []), 327) := rfl
theorem T_142_327 : hTab 142 327 = some ((4, 11, 0, []), 329) := rfl
theorem T_142_329 : hTab 142 329 = some ((3, 0, 2, []), 330) := rfl
theorem T_142_330 : hTab 142 330 = some ((3, 0, 2, []), 331) := rfl
theorem T_142_331 : hTab 142 331 = some ((24, 14, Int.ofNat 2, []), 334) := rfl
theorem T_142_334 : hTab 142 334 = some ((3, 0, 2, []), 335) := rfl
theorem T_142_335 : hTab 142 335 = some ((24, 14, Int.ofNat 0, []), 338) := rfl
theorem T_142_338 : hTab 142 338 = some ((3, 0, 2, []), 339) := rfl
theorem T_142_339 : hTab 142 339 = some ((24, 14, Int.ofNat 2, []), 342) := rfl
theorem T_142_342 : hTab 142 342 = some ((24, 5, Int.ofNat 1, []), 345) := rfl
theorem T_142_345 : hTab 142 345 = some ((3, 6, 1, []), 347) := rfl
theorem T_142_347 : hTab 142 347 = some ((3, 10, 0, []), 349) := rfl
theorem T_142_349 : hTab 142 349 = some ((14, 0, 0, []), 350) := rfl
theorem T_142_350 : hTab 142 350 = some ((11, 0, 0, []), 351) := rfl
theorem T_142_351 : hTab 142 351 = some ((3, 0, 2, []), 352) := rfl
theorem T_142_352 : hTab 142 352 = some ((24, 14, Int.ofNat 1, []), 355) := rfl
theorem T_142_355 : hTab 142 355 = some ((3, 10, 0, []), 357) := rfl
theorem T_142_357 : hTab 142 357 = some ((3, 11, 0, []), 359) := rfl
theorem T_142_359 : hTab 142 359 = some ((31, 146, 0, []), 362) := rfl
theorem T_142_362 : hTab 142 362 = some ((31, 136, 0, []), 365) := rfl
theorem T_142_365 : hTab 142 365 = some ((4, 8, 0, []), 367) := rfl
theorem T_142_367 : hTab 142 367 = some ((5, 10, 100, []), 370) := rfl
theorem T_142_370 : hTab 142 370 = some ((22, 0, Int.ofNat 295, []), 373) := rfl
theorem T_142_373 : hTab 142 373 = some ((3, 0, 2, []), 374) := rfl
theorem T_142_374 : hTab 142 374 = some ((24, 14, Int.ofNat 0, []), 377) := rfl
theorem T_142_377 : hTab 142 377 = some ((3, 0, 2, []), 378) := rfl
theorem T_142_378 : hTab 142 378 = some ((24, 14, Int.ofNat 2, []), 381) := rfl
theorem T_142_381 : hTab 142 381 = some ((31, 132, 0, []), 384) := rfl
theorem T_142_384 : hTab 142 384 = some ((7, 0, 0, []), 385) := rfl
theorem T_142_385 : hTab 142 385 = some ((3, 8, 0, []), 387) := rfl
theorem T_142_387 : hTab 142 387 = some ((33, 1, 0, []), 388) := rfl
theorem F_14_1 : (hFd 14 1).2.2.1 = 4 := rfl
theorem mN_142 : hmN 142 = 3 := by decide +kernel
theorem mL_142 : hmL 142 = 12 := by decide +kernel
theorem mK_142 : hmK 142 = 1 := by decide +kernel
theorem mO_142 : hmO 142 = 14 := by decide +kernel
section XECH
variable {fb : Bool} {d S b c q n0 a0 k tb pr : Nat} {σ0 σ : hM} {W W0 W1 W2 V V1 P Q : qR} {R R1 R2 V3 : rR} {i j x z v s e w f g u p p2 K T U T2 t a pa kd cp dr md off la tw rd made N : Int} {l l0 lo nm M wd A X : List Int} {x6 x7 x8 x9 x10 x11 : Option AV}
theorem BY_fk2 (h : BY W b n0 l) (hF : FK 2178 W W2 R R2) (hb : 2175 ≤ b ∧ b + 1 < 2178) : BY W2 b n0 l := by
  obtain ⟨a1, a2, a3, a4, a5, a6, a7⟩ := h
  exact ⟨a1, a2, a3, (hF.1 _ _ (by omega) (Or.inr ⟨hb.1, by omega⟩) (by decide)).trans a4, a5, a6, fun i i0 i1 => (hF.1 _ _ (by omega) (Or.inr ⟨by omega, by omega⟩) (by omega)).trans (a7 i i0 i1)⟩
/-- where echo's channel is open: the end, with an error -/
theorem ech_292e (hP : PX σ0 V V3 σ) (hX : XW K T2 U V V3 Q) (hT : T2 + 200 ≤ 2147483000) (hk : tX k = some (Sum.inl 16)) (hpo : tX pr = some (Sum.inl 6)) (hch : CHX V V3 2178 (s, f, pa, kd, cp)) (hcr : chR (s, f, pa, kd, cp)) (hB : BY V 2176 101 X) (h1 : 1 ≤ (X.length : Int)) (hF : FCM W V R V3) (he : ¬ e = 0) : WP fb (d + 10) 142 292 [some (vR (some 2175)), some (vR (some pr)), some (vR (some k)), some (vI la), some (vI tw), some (vI rd), some (vL off), none, some (vI e), some (vI made), x10, x11] [] σ (XCM σ0 K (T2 + 8) U W R (e, Q, [(s, f, pa, kd, cp)])) := by
  obtain ⟨z, hz⟩ : ∃ z : Int, (X.length : Int) = z := ⟨_, rfl⟩
  rw [hz] at h1
  have hsz := x_size (fb := fb) (d := d + 9) hP hB hz
  have hck := (x_clunk1 (fb := fb) (d := d + 1) hP hX (by omega) hch hcr).mono (Q := fun r σ' => ∃ e, r = some (vI e) ∧ ∃ W2 R2, PX σ0 W2 R2 σ' ∧ XW K (T2 + 4) U W2 R2 (kDrop Q (s, f, pa, kd, cp)) ∧ FA V W2 V3 R2) (fun r σ' h => ⟨_, h.1, h.2⟩)
  refine x_ic T_142_292 ?_
  refine x_si (ls1 := [some (vR (some 2175)), some (vR (some pr)), some (vR (some k)), some (vI la), some (vI tw), some (vI rd), some (vL off), none, some (vI e), some (vI made), some (vI 0), x11]) T_142_293 rfl ?_
  refine x_li (z := 0) T_142_295 rfl ?_
  refine x_lr (z := some 2175) T_142_297 rfl ?_
  refine x_gR (z := some 2176) T_142_298 F_14_1 (hP.o xo_2175) (hP.rc xo_2175 rfl rfl) ?_
  refine x_cv1 T_142_301 mN_28 mL_28 (Nat.le_of_ble_eq_true rfl) mO_28 (hP.o xo_2176) (Nat.le_of_ble_eq_true rfl) (hsz) ?_
  rintro _ σ ⟨rfl, rfl⟩
  refine cI ?_
  refine x_ic2 T_142_304 (fun h => absurd (show z ≤ 0 from h) (by omega)) (fun _ => ?_)
  refine x_li (z := e) T_142_307 rfl ?_
  refine x_if T_142_309 (fun _ => ?_) (fun h => absurd (show ¬ e = 0 by exact he) h)
  refine x_lr (z := some 2175) T_142_373 rfl ?_
  refine x_gR (z := some 129) T_142_374 F_14_0 (hP.o xo_2175) (hP.rc xo_2175 rfl rfl) ?_
  refine x_lr (z := some 2175) T_142_377 rfl ?_
  refine x_gR (z := some 2178) T_142_378 F_14_2 (hP.o xo_2175) (hP.rc xo_2175 rfl rfl) ?_
  refine x_cv2 T_142_381 mN_132 mL_132 (Nat.le_of_ble_eq_true rfl) mO_132 (hP.o xo_129) (Nat.le_of_ble_eq_true rfl) (hck) ?_
  clear hP hck
  rintro _ σ ⟨e3, rfl, V7, V8, hP, hX7, hF7⟩
  refine cI ?_
  refine x_popI T_142_384 ?_
  refine x_li (z := e) T_142_385 rfl ?_
  refine x_ri T_142_387 ?_
  exact ⟨rfl, V7, V8, hP, XW.mono hX7 (by omega), FCM_tr hF (FCM_fa hF7)⟩
/-- .. the write -/
theorem ech_292 (hP : PX σ0 V V3 σ) (hX : XW K T2 U V V3 Q) (hT : T2 + 200 ≤ 2147483000) (hk : tX k = some (Sum.inl 16)) (hpo : tX pr = some (Sum.inl 6)) (hch : CHX V V3 2178 (s, f, pa, kd, cp)) (hcr : chR (s, f, pa, kd, cp)) (hB : BY V 2176 101 X) (h1 : 1 ≤ (X.length : Int)) (h2 : (X.length : Int) ≤ 100) (hoff : 0 ≤ off ∧ off ≤ 1000000) (hF : FCM W V R V3) : WP fb (d + 10) 142 292 [some (vR (some 2175)), some (vR (some pr)), some (vR (some k)), some (vI la), some (vI tw), some (vI rd), some (vL off), none, some (vI 0), some (vI made), x10, x11] [] σ (XCM σ0 K (T2 + 8) U W R (tE Q s (mWr f off X), tP Q s (mWr f off X), [(s, f, pa, kd, cp)])) := by
  obtain ⟨z, hz⟩ : ∃ z : Int, (X.length : Int) = z := ⟨_, rfl⟩
  rw [hz] at h1 h2
  have hs : 0 ≤ s ∧ s < 3 := hcr.1
  have hf : 0 ≤ f ∧ f ≤ 47 := hcr.2.1
  have hf0 : V 2178 2161 = f := hch.2.1
  have hsz := fun (σ : hM) (V : qR) (V3 : rR) (hP : PX σ0 V V3 σ) (hB : BY V 2176 101 X) => x_size (fb := fb) (d := d + 9) hP hB hz
  have hmi := x_min (fb := fb) (d := d + 9) (u := 100) (v := z) (σ := σ)
  rw [show (if (100 : Int) ≤ z then (100 : Int) else z) = z by split <;> omega] at hmi
  have hwr := x_writing (fb := fb) (d := d + 6) (f := f) (x := off) (s := 0) (e := z) (nm := X) hP ⟨by omega, by omega⟩ ⟨by omega, by omega⟩ hB (by decide) ⟨by decide, by omega, by omega⟩ (by rw [show (z - 0).toNat = X.length by omega]; exact seg_all) (by omega)
  have hse := fun (σ : hM) (V4 : qR) (hP : PX σ0 V4 V3 σ) (hF : FR1 V V4) (hB : BY V4 138 300 (mFr (mWr f off X))) => mWr_s (fb := fb) (d := d + 1) hP (hX.fr1 hF) (by omega) (hch.sf hF (by decide)).1 one_o hs (by omega) hB
  obtain ⟨e, he⟩ : ∃ q, tE Q s (mWr f off X) = q := ⟨_, rfl⟩
  obtain ⟨Q2, hQ2⟩ : ∃ q, tP Q s (mWr f off X) = q := ⟨_, rfl⟩
  simp only [he, hQ2] at hse ⊢
  have hck := fun (σ : hM) (V5 : qR) (V6 : rR) (hP : PX σ0 V5 V6 σ) (hX : XW K (T2 + 4) U V5 V6 Q2) (hch : CHX V5 V6 2178 (s, f, pa, kd, cp)) => (x_clunk1 (fb := fb) (d := d + 1) hP hX (by omega) hch hcr).mono (Q := fun r σ' => ∃ e, r = some (vI e) ∧ ∃ W2 R2, PX σ0 W2 R2 σ' ∧ XW K (T2 + 4 + 4) U W2 R2 (kDrop Q2 (s, f, pa, kd, cp)) ∧ FA V5 W2 V6 R2) (fun r σ' h => ⟨_, h.1, h.2⟩)
  refine x_ic T_142_292 ?_
  refine x_si (ls1 := [some (vR (some 2175)), some (vR (some pr)), some (vR (some k)), some (vI la), some (vI tw), some (vI rd), some (vL off), none, some (vI 0), some (vI made), some (vI 0), x11]) T_142_293 rfl ?_
  refine x_li (z := 0) T_142_295 rfl ?_
  refine x_lr (z := some 2175) T_142_297 rfl ?_
  refine x_gR (z := some 2176) T_142_298 F_14_1 (hP.o xo_2175) (hP.rc xo_2175 rfl rfl) ?_
  refine x_cv1 T_142_301 mN_28 mL_28 (Nat.le_of_ble_eq_true rfl) mO_28 (hP.o xo_2176) (Nat.le_of_ble_eq_true rfl) (hsz σ V V3 hP hB) ?_
  rintro _ σ ⟨rfl, rfl⟩
  refine cI ?_
  refine x_ic2 T_142_304 (fun h => absurd (show z ≤ 0 from h) (by omega)) (fun _ => ?_)
  refine x_li (z := 0) T_142_307 rfl ?_
  refine x_if T_142_309 (fun h => absurd (show ¬ (0 : Int) = 0 from h) (by decide)) (fun _ => ?_)
  refine x_li (z := 0) T_142_312 rfl ?_
  refine x_ic T_142_314 ?_
  refine x_ib (w := 100) T_142_316 (fun h => absurd h.1 (by decide)) (by decide) ?_
  refine x_lr (z := some 2175) T_142_317 rfl ?_
  refine x_gR (z := some 2176) T_142_318 F_14_1 (hP.o xo_2175) (hP.rc xo_2175 rfl rfl) ?_
  refine x_cv1 T_142_321 mN_28 mL_28 (Nat.le_of_ble_eq_true rfl) mO_28 (hP.o xo_2176) (Nat.le_of_ble_eq_true rfl) (hsz σ V V3 hP hB) ?_
  rintro _ σ ⟨rfl, rfl⟩
  refine cI ?_
  refine x_cs2 T_142_324 mN_70 mL_70 (Nat.le_of_ble_eq_true rfl) mK_70 (Nat.le_of_ble_eq_true rfl) (hmi) ?_
  rintro _ σ ⟨rfl, rfl⟩
  refine cI ?_
  refine x_si (ls1 := [some (vR (some 2175)), some (vR (some pr)), some (vR (some k)), some (vI la), some (vI tw), some (vI rd), some (vL off), none, some (vI 0), some (vI made), some (vI 0), some (vI z)]) T_142_327 rfl ?_
  refine x_lr (z := some 2175) T_142_329 rfl ?_
  refine x_lr (z := some 2175) T_142_330 rfl ?_
  refine x_gR (z := some 2178) T_142_331 F_14_2 (hP.o xo_2175) (hP.rc xo_2175 rfl rfl) ?_
  refine x_lr (z := some 2175) T_142_334 rfl ?_
  refine x_gR (z := some 129) T_142_335 F_14_0 (hP.o xo_2175) (hP.rc xo_2175 rfl rfl) ?_
  refine x_lr (z := some 2175) T_142_338 rfl ?_
  refine x_gR (z := some 2178) T_142_339 F_14_2 (hP.o xo_2175) (hP.rc xo_2175 rfl rfl) ?_
  refine x_gI (z := f) T_142_342 (Or.inl F_5_1) (hP.o xo_2178) (Eq.trans (hP.gi xo_2178 (key := 2161) rfl) hf0) ?_
  refine x_ll (z := off) T_142_345 rfl ?_
  refine x_li (z := 0) T_142_347 rfl ?_
  refine x_i2l T_142_349 ?_
  refine x_lb (w := off) T_142_350 (fun h => absurd h.1 (by decide)) (show w64 (off + 0) = off by rw [Int.add_zero]; exact w64_id (by omega) (by omega)) ?_
  refine x_lr (z := some 2175) T_142_351 rfl ?_
  refine x_gR (z := some 2176) T_142_352 F_14_1 (hP.o xo_2175) (hP.rc xo_2175 rfl rfl) ?_
  refine x_li (z := 0) T_142_355 rfl ?_
  refine x_li (z := z) T_142_357 rfl ?_
  refine x_cv6 T_142_359 mN_146 mL_146 (Nat.le_of_ble_eq_true rfl) mO_146 (hP.o xo_129) (Nat.le_of_ble_eq_true rfl) (hwr) ?_
  clear hP hwr
  rintro _ σ ⟨rfl, V4, hP, hB4, hF4⟩
  refine cR ?_
  refine x_cv3 T_142_362 mN_136 mL_136 (Nat.le_of_ble_eq_true rfl) mO_136 (hP.o xo_2175) (Nat.le_of_ble_eq_true rfl) (hse σ V4 hP hF4 hB4) ?_
  clear hP hse
  rintro _ σ ⟨rfl, V5, V6, hP, hX5, hB5, hF5⟩
  have hA5 := FA_tr (FA_fr hF4) (FA_fs hF5)
  have hc5 := hch.fa hA5 (by decide) (by decide) hcr.2.2
  have hB6 := hA5.by hB (Or.inr (by decide)) (by decide) (Or.inr (by decide))
  refine cI ?_
  refine x_si (ls1 := [some (vR (some 2175)), some (vR (some pr)), some (vR (some k)), some (vI la), some (vI tw), some (vI rd), some (vL off), none, some (vI e), some (vI made), some (vI 0), some (vI z)]) T_142_365 rfl ?_
  refine x_inc (w := 100) (ls1 := [some (vR (some 2175)), some (vR (some pr)), some (vR (some k)), some (vI la), some (vI tw), some (vI rd), some (vL off), none, some (vI e), some (vI made), some (vI 100), some (vI z)]) T_142_367 rfl (w32_id (by omega) (by omega)) rfl ?_
  refine x_goto T_142_370 ?_
  refine x_li (z := 100) T_142_295 rfl ?_
  refine x_lr (z := some 2175) T_142_297 rfl ?_
  refine x_gR (z := some 2176) T_142_298 F_14_1 (hP.o xo_2175) (hP.rc xo_2175 rfl rfl) ?_
  refine x_cv1 T_142_301 mN_28 mL_28 (Nat.le_of_ble_eq_true rfl) mO_28 (hP.o xo_2176) (Nat.le_of_ble_eq_true rfl) (hsz σ V5 V6 hP hB6) ?_
  rintro _ σ ⟨rfl, rfl⟩
  refine cI ?_
  refine x_ic2 T_142_304 (fun _ => ?_) (fun h => absurd (show z ≤ 100 by omega) h)
  refine x_lr (z := some 2175) T_142_373 rfl ?_
  refine x_gR (z := some 129) T_142_374 F_14_0 (hP.o xo_2175) (hP.rc xo_2175 rfl rfl) ?_
  refine x_lr (z := some 2175) T_142_377 rfl ?_
  refine x_gR (z := some 2178) T_142_378 F_14_2 (hP.o xo_2175) (hP.rc xo_2175 rfl rfl) ?_
  refine x_cv2 T_142_381 mN_132 mL_132 (Nat.le_of_ble_eq_true rfl) mO_132 (hP.o xo_129) (Nat.le_of_ble_eq_true rfl) (hck σ V5 V6 hP hX5 hc5) ?_
  clear hP hck
  rintro _ σ ⟨e3, rfl, V7, V8, hP, hX7, hF7⟩
  refine cI ?_
  refine x_popI T_142_384 ?_
  refine x_li (z := e) T_142_385 rfl ?_
  refine x_ri T_142_387 ?_
  exact ⟨rfl, V7, V8, hP, XW.mono hX7 (by omega), FCM_tr hF (FCM_tr (FCM_fa hA5) (FCM_fa hF7))⟩
/-- a file that is there: it is opened -/
theorem ech_198 (hP : PX σ0 V V3 σ) (hX : XW K T2 U V V3 Q) (hT : T2 + 300 ≤ 2147483000) (hk : tX k = some (Sum.inl 16)) (hpo : tX pr = some (Sum.inl 6)) (hch : CHX V V3 2178 (s, f, pa, kd, cp)) (hcr : chR (s, f, pa, kd, cp)) (hB : BY V 2176 101 (ecX l z)) (h1 : 1 ≤ ((ecX l z).length : Int)) (h2 : ((ecX l z).length : Int) ≤ 100) (htw : tw = 0 ∨ tw = 1) (hF : FCM W V R V3) : WP fb (d + 10) 142 198 [some (vR (some 2175)), some (vR (some pr)), some (vR (some k)), some (vI la), some (vI tw), some (vI rd), some (vL 0), none, some (vI 0), some (vI 0), x10, x11] [] σ (XCM σ0 K (T2 + 16) U W R (ecO Q (s, f, pa, kd, cp) tw l z)) := by
  have hs : 0 ≤ s ∧ s < 3 := hcr.1
  have hf : 0 ≤ f ∧ f ≤ 47 := hcr.2.1
  have hf0 : V 2178 2161 = f := hch.2.1
  obtain ⟨md, hmd⟩ : ∃ md : Int, (if tw = 0 then (17 : Int) else 1) = md := ⟨_, rfl⟩
  have hmr : 0 ≤ md ∧ md ≤ 255 := by rw [← hmd]; split <;> decide
  have eK : ecO Q (s, f, pa, kd, cp) tw l z = if 0 < tE Q s (mOpen f md) then (tE Q s (mOpen f md), tP Q s (mOpen f md), [(s, f, pa, kd, cp)]) else if tw = 0 then ecW (tP Q s (mOpen f md)) (s, f, pa, kd, cp) 0 l z else ecS (tP Q s (mOpen f md)) (s, f, pa, kd, cp) l z := by
    rw [← hmd]
    rfl
  rw [eK]
  have hom := x_openingM (fb := fb) (d := d + 6) (f := f) (md := md) hP ⟨by omega, by omega⟩ hmr
  have hse := fun (σ : hM) (V4 : qR) (hP : PX σ0 V4 V3 σ) (hF : FR1 V V4) (hB : BY V4 138 300 (mFr (mOpen f md))) => mOpen_s (fb := fb) (d := d + 1) hP (hX.fr1 hF) (by omega) (hch.sf hF (by decide)).1 one_o hs hB
  have her : 0 ≤ tE Q s (mOpen f md) := tE_rng.1
  obtain ⟨e, he⟩ : ∃ q, tE Q s (mOpen f md) = q := ⟨_, rfl⟩
  obtain ⟨Q2, hQ2⟩ : ∃ q, tP Q s (mOpen f md) = q := ⟨_, rfl⟩
  rw [he] at her
  simp only [he, hQ2] at hse ⊢
  have hfin := fun (e : Int) (Q2 : qR) (off : Int) (he : ¬ e = 0) (σ : hM) (V5 : qR) (V6 : rR) (T3 : Int) (hT3 : T3 ≤ T2 + 8) (hP : PX σ0 V5 V6 σ) (hX5 : XW K T3 U V5 V6 Q2) (hA : FA V V5 V3 V6) => (ech_292e (fb := fb) (d := d) (pr := pr) (k := k) (la := la) (tw := tw) (rd := rd) (made := 0) (off := off) (x10 := x10) (x11 := x11) (e := e) hP hX5 (by omega) hk hpo (hch.fa hA (by decide) (by decide) hcr.2.2) hcr (hA.by hB (Or.inr (by decide)) (by decide) (Or.inr (by decide))) h1 (FCM_tr hF (FCM_fa hA)) he).mono (Q := XCM σ0 K (T2 + 16) U W R (e, Q2, [(s, f, pa, kd, cp)])) (fun r σ' h => by
    obtain ⟨r1, W2, R2, r2, r3, r4⟩ := h
    exact ⟨r1, W2, R2, r2, XW.mono r3 (by omega), r4⟩)
  have hwrt := fun (Q2 : qR) (off : Int) (ho : 0 ≤ off ∧ off ≤ 1000000) (σ : hM) (V5 : qR) (V6 : rR) (T3 : Int) (hT3 : T3 ≤ T2 + 8) (hP : PX σ0 V5 V6 σ) (hX5 : XW K T3 U V5 V6 Q2) (hA : FA V V5 V3 V6) => (ech_292 (fb := fb) (d := d) (pr := pr) (k := k) (la := la) (tw := tw) (rd := rd) (made := 0) (off := off) (x10 := x10) (x11 := x11) hP hX5 (by omega) hk hpo (hch.fa hA (by decide) (by decide) hcr.2.2) hcr (hA.by hB (Or.inr (by decide)) (by decide) (Or.inr (by decide))) h1 h2 ho (FCM_tr hF (FCM_fa hA))).mono (Q := XCM σ0 K (T2 + 16) U W R (ecW Q2 (s, f, pa, kd, cp) off l z)) (fun r σ' h => by
    obtain ⟨r1, W2, R2, r2, r3, r4⟩ := h
    exact ⟨r1, W2, R2, r2, XW.mono r3 (by omega), r4⟩)
  by_cases htw0 : tw = 0
  · rw [if_pos htw0] at hmd
    subst hmd
    rw [if_pos htw0]
    by_cases q : e = 0
    · subst q
      rw [if_neg (show ¬ (0 : Int) < 0 by decide)]
      have hgo := fun (σ : hM) (V5 : qR) (V6 : rR) (hP : PX σ0 V5 V6 σ) (hX5 : XW K (T2 + 4) U V5 V6 Q2) (hA : FA V V5 V3 V6) => hwrt Q2 0 (by decide) σ V5 V6 (T2 + 4) (by omega) hP hX5 hA
      refine x_li (z := 0) T_142_198 rfl ?_
      refine x_if T_142_200 (fun h => absurd (show ¬ (0 : Int) = 0 from h) (by decide)) (fun _ => ?_)
      refine x_lr (z := some 2175) T_142_203 rfl ?_
      refine x_lr (z := some 2175) T_142_204 rfl ?_
      refine x_gR (z := some 2178) T_142_205 F_14_2 (hP.o xo_2175) (hP.rc xo_2175 rfl rfl) ?_
      refine x_lr (z := some 2175) T_142_208 rfl ?_
      refine x_gR (z := some 129) T_142_209 F_14_0 (hP.o xo_2175) (hP.rc xo_2175 rfl rfl) ?_
      refine x_lr (z := some 2175) T_142_212 rfl ?_
      refine x_gR (z := some 2178) T_142_213 F_14_2 (hP.o xo_2175) (hP.rc xo_2175 rfl rfl) ?_
      refine x_gI (z := f) T_142_216 (Or.inl F_5_1) (hP.o xo_2178) (Eq.trans (hP.gi xo_2178 (key := 2161) rfl) hf0) ?_
      refine x_ic T_142_219 ?_
      refine x_li (z := tw) T_142_220 rfl ?_
      refine x_if T_142_222 (fun _ => ?_) (fun h => absurd (show tw = 0 by exact htw0) h)
      refine x_ic T_142_229 ?_
      refine x_ib (w := 17) T_142_231 (fun h => absurd h.1 (by decide)) (by decide) ?_
      refine x_cv3 T_142_232 mN_135 mL_135 (Nat.le_of_ble_eq_true rfl) mO_135 (hP.o xo_129) (Nat.le_of_ble_eq_true rfl) (hom) ?_
      clear hP hom
      rintro _ σ ⟨rfl, V4, hP, hB4, hF4⟩
      refine cR ?_
      refine x_cv3 T_142_235 mN_136 mL_136 (Nat.le_of_ble_eq_true rfl) mO_136 (hP.o xo_2175) (Nat.le_of_ble_eq_true rfl) (hse σ V4 hP hF4 hB4) ?_
      clear hP hse
      rintro _ σ ⟨rfl, V5, V6, hP, hX5, hB5, hF5⟩
      have hA5 := FA_tr (FA_fr hF4) (FA_fs hF5)
      refine cI ?_
      refine x_si (ls1 := [some (vR (some 2175)), some (vR (some pr)), some (vR (some k)), some (vI la), some (vI tw), some (vI rd), some (vL 0), none, some (vI 0), some (vI 0), x10, x11]) T_142_238 rfl ?_
      refine x_li (z := 0) T_142_240 rfl ?_
      refine x_if T_142_242 (fun h => absurd (show ¬ (0 : Int) = 0 from h) (by decide)) (fun _ => ?_)
      refine x_li (z := tw) T_142_245 rfl ?_
      refine x_if T_142_247 (fun _ => ?_) (fun h => absurd (show tw = 0 by exact htw0) h)
      exact hgo σ V5 V6 hP hX5 hA5
    · rw [if_pos (show 0 < e by omega)]
      have hgo := fun (σ : hM) (V5 : qR) (V6 : rR) (hP : PX σ0 V5 V6 σ) (hX5 : XW K (T2 + 4) U V5 V6 Q2) (hA : FA V V5 V3 V6) => hfin e Q2 0 q σ V5 V6 (T2 + 4) (by omega) hP hX5 hA
      refine x_li (z := 0) T_142_198 rfl ?_
      refine x_if T_142_200 (fun h => absurd (show ¬ (0 : Int) = 0 from h) (by decide)) (fun _ => ?_)
      refine x_lr (z := some 2175) T_142_203 rfl ?_
      refine x_lr (z := some 2175) T_142_204 rfl ?_
      refine x_gR (z := some 2178) T_142_205 F_14_2 (hP.o xo_2175) (hP.rc xo_2175 rfl rfl) ?_
      refine x_lr (z := some 2175) T_142_208 rfl ?_
      refine x_gR (z := some 129) T_142_209 F_14_0 (hP.o xo_2175) (hP.rc xo_2175 rfl rfl) ?_
      refine x_lr (z := some 2175) T_142_212 rfl ?_
      refine x_gR (z := some 2178) T_142_213 F_14_2 (hP.o xo_2175) (hP.rc xo_2175 rfl rfl) ?_
      refine x_gI (z := f) T_142_216 (Or.inl F_5_1) (hP.o xo_2178) (Eq.trans (hP.gi xo_2178 (key := 2161) rfl) hf0) ?_
      refine x_ic T_142_219 ?_
      refine x_li (z := tw) T_142_220 rfl ?_
      refine x_if T_142_222 (fun _ => ?_) (fun h => absurd (show tw = 0 by exact htw0) h)
      refine x_ic T_142_229 ?_
      refine x_ib (w := 17) T_142_231 (fun h => absurd h.1 (by decide)) (by decide) ?_
      refine x_cv3 T_142_232 mN_135 mL_135 (Nat.le_of_ble_eq_true rfl) mO_135 (hP.o xo_129) (Nat.le_of_ble_eq_true rfl) (hom) ?_
      clear hP hom
      rintro _ σ ⟨rfl, V4, hP, hB4, hF4⟩
      refine cR ?_
      refine x_cv3 T_142_235 mN_136 mL_136 (Nat.le_of_ble_eq_true rfl) mO_136 (hP.o xo_2175) (Nat.le_of_ble_eq_true rfl) (hse σ V4 hP hF4 hB4) ?_
      clear hP hse
      rintro _ σ ⟨rfl, V5, V6, hP, hX5, hB5, hF5⟩
      have hA5 := FA_tr (FA_fr hF4) (FA_fs hF5)
      refine cI ?_
      refine x_si (ls1 := [some (vR (some 2175)), some (vR (some pr)), some (vR (some k)), some (vI la), some (vI tw), some (vI rd), some (vL 0), none, some (vI e), some (vI 0), x10, x11]) T_142_238 rfl ?_
      refine x_li (z := e) T_142_240 rfl ?_
      refine x_if T_142_242 (fun _ => ?_) (fun h => absurd (show ¬ e = 0 by exact q) h)
      exact hgo σ V5 V6 hP hX5 hA5
  have htw1 : ¬ tw = 0 := htw0
  rw [if_neg htw1] at hmd
  subst hmd
  rw [if_neg htw1]
  by_cases q : e = 0
  rotate_left
  · rw [if_pos (show 0 < e by omega)]
    have hgo := fun (σ : hM) (V5 : qR) (V6 : rR) (hP : PX σ0 V5 V6 σ) (hX5 : XW K (T2 + 4) U V5 V6 Q2) (hA : FA V V5 V3 V6) => hfin e Q2 0 q σ V5 V6 (T2 + 4) (by omega) hP hX5 hA
    refine x_li (z := 0) T_142_198 rfl ?_
    refine x_if T_142_200 (fun h => absurd (show ¬ (0 : Int) = 0 from h) (by decide)) (fun _ => ?_)
    refine x_lr (z := some 2175) T_142_203 rfl ?_
    refine x_lr (z := some 2175) T_142_204 rfl ?_
    refine x_gR (z := some 2178) T_142_205 F_14_2 (hP.o xo_2175) (hP.rc xo_2175 rfl rfl) ?_
    refine x_lr (z := some 2175) T_142_208 rfl ?_
    refine x_gR (z := some 129) T_142_209 F_14_0 (hP.o xo_2175) (hP.rc xo_2175 rfl rfl) ?_
    refine x_lr (z := some 2175) T_142_212 rfl ?_
    refine x_gR (z := some 2178) T_142_213 F_14_2 (hP.o xo_2175) (hP.rc xo_2175 rfl rfl) ?_
    refine x_gI (z := f) T_142_216 (Or.inl F_5_1) (hP.o xo_2178) (Eq.trans (hP.gi xo_2178 (key := 2161) rfl) hf0) ?_
    refine x_ic T_142_219 ?_
    refine x_li (z := tw) T_142_220 rfl ?_
    refine x_if T_142_222 (fun h => absurd (show tw = 0 from h) (by exact htw1)) (fun _ => ?_)
    refine x_ic T_142_225 ?_
    refine x_goto T_142_226 ?_
    refine x_ib (w := 1) T_142_231 (fun h => absurd h.1 (by decide)) (by decide) ?_
    refine x_cv3 T_142_232 mN_135 mL_135 (Nat.le_of_ble_eq_true rfl) mO_135 (hP.o xo_129) (Nat.le_of_ble_eq_true rfl) (hom) ?_
    clear hP hom
    rintro _ σ ⟨rfl, V4, hP, hB4, hF4⟩
    refine cR ?_
    refine x_cv3 T_142_235 mN_136 mL_136 (Nat.le_of_ble_eq_true rfl) mO_136 (hP.o xo_2175) (Nat.le_of_ble_eq_true rfl) (hse σ V4 hP hF4 hB4) ?_
    clear hP hse
    rintro _ σ ⟨rfl, V5, V6, hP, hX5, hB5, hF5⟩
    have hA5 := FA_tr (FA_fr hF4) (FA_fs hF5)
    refine cI ?_
    refine x_si (ls1 := [some (vR (some 2175)), some (vR (some pr)), some (vR (some k)), some (vI la), some (vI tw), some (vI rd), some (vL 0), none, some (vI e), some (vI 0), x10, x11]) T_142_238 rfl ?_
    refine x_li (z := e) T_142_240 rfl ?_
    refine x_if T_142_242 (fun _ => ?_) (fun h => absurd (show ¬ e = 0 by exact q) h)
    exact hgo σ V5 V6 hP hX5 hA5
  subst q
  rw [if_neg (show ¬ (0 : Int) < 0 by decide)]
  have hab := fun (σ : hM) (V5 : qR) (V6 : rR) (hP : PX σ0 V5 V6 σ) => x_about (fb := fb) (d := d + 6) (t := 124) (f := f) hP (by decide) ⟨by omega, by omega⟩
  have hs2 := fun (σ : hM) (V5 V6 : qR) (V7 : rR) (hA : FA V V5 V3 V7) (hP : PX σ0 V6 V7 σ) (hX5 : XW K (T2 + 4) U V5 V7 Q2) (hF : FR1 V5 V6) (hB : BY V6 138 300 (mFr (mOne 124 f))) => mOne_s (fb := fb) (d := d + 1) hP (hX5.fr1 hF) (by omega) ((hch.fa hA (by decide) (by decide) hcr.2.2).sf hF (by decide)).1 one_o hs (Or.inr (Or.inr rfl)) hB
  have her2 : 0 ≤ tE Q2 s (mOne 124 f) := tE_rng.1
  have hsu := fun (V : qR) (V3 : rR) (hX : XW K (T2 + 4) U V V3 Q2) => stat_U (f := f) hX.1.2.2.2.1 hs
  have hfk : ∀ (V5 : qR) (V6 : rR), FA V V5 V3 V6 → V5 2178 2161 = f := fun V5 V6 hA => (hch.fa hA (by decide) (by decide) hcr.2.2).2.1
  have eS : ecS Q2 (s, f, pa, kd, cp) l z = if 0 < tE Q2 s (mOne 124 f) then (tE Q2 s (mOne 124 f), tP Q2 s (mOne 124 f), [(s, f, pa, kd, cp)]) else ecW (tP Q2 s (mOne 124 f)) (s, f, pa, kd, cp) (nu (lg (tA Q2 s (mOne 124 f))) 42 8) l z := rfl
  rw [eS]
  obtain ⟨A2, hA2⟩ : ∃ q, tA Q2 s (mOne 124 f) = q := ⟨_, rfl⟩
  obtain ⟨e2, he2⟩ : ∃ q, tE Q2 s (mOne 124 f) = q := ⟨_, rfl⟩
  obtain ⟨Q3, hQ3⟩ : ∃ q, tP Q2 s (mOne 124 f) = q := ⟨_, rfl⟩
  rw [he2] at her2
  simp only [he2, hQ3, hA2] at hs2 hsu ⊢
  have hn8 := fun (σ : hM) (V : qR) (V3 : rR) (hP : PX σ0 V V3 σ) (hB : BY V 134 300 A2) => x_number (fb := fb) (d := d + 9) (s := 42) (k := 8) hP hB rfl (by decide) (by decide)
  by_cases q2 : e2 = 0
  · subst q2
    rw [if_neg (show ¬ (0 : Int) < 0 by decide)]
    obtain ⟨ov, hov⟩ : ∃ q, nu (lg A2) 42 8 = q := ⟨_, rfl⟩
    rw [hov]
    simp only [hov] at hsu
    rw [show (8 : Int).toNat = 8 from rfl, hov] at hn8
    have hn8 := fun (n0 : Int) (h0 : 0 ≤ n0) (hl : (A2.length : Int) = 67 + n0) (ho : 0 ≤ ov ∧ ov ≤ 600) (σ : hM) (V : qR) (V3 : rR) (hP : PX σ0 V V3 σ) (hB : BY V 134 300 A2) => (show CL fb (d + 9) 29 [vR (some 134), vI 42, vI 8] σ (rPL ov σ) from by
      have := hn8 σ V V3 hP hB
      rw [if_pos (by omega), w64_id (by omega) (by omega)] at this
      exact this)
    have hgo := fun (σ : hM) (V7 : qR) (V8 : rR) (ho : 0 ≤ ov ∧ ov ≤ 600) (hP : PX σ0 V7 V8 σ) (hX5 : XW K (T2 + 4 + 4) U V7 V8 Q3) (hA : FA V V7 V3 V8) => hwrt Q3 ov ⟨ho.1, by omega⟩ σ V7 V8 (T2 + 4 + 4) (by omega) hP hX5 hA
    refine x_li (z := 0) T_142_198 rfl ?_
    refine x_if T_142_200 (fun h => absurd (show ¬ (0 : Int) = 0 from h) (by decide)) (fun _ => ?_)
    refine x_lr (z := some 2175) T_142_203 rfl ?_
    refine x_lr (z := some 2175) T_142_204 rfl ?_
    refine x_gR (z := some 2178) T_142_205 F_14_2 (hP.o xo_2175) (hP.rc xo_2175 rfl rfl) ?_
    refine x_lr (z := some 2175) T_142_208 rfl ?_
    refine x_gR (z := some 129) T_142_209 F_14_0 (hP.o xo_2175) (hP.rc xo_2175 rfl rfl) ?_
    refine x_lr (z := some 2175) T_142_212 rfl ?_
    refine x_gR (z := some 2178) T_142_213 F_14_2 (hP.o xo_2175) (hP.rc xo_2175 rfl rfl) ?_
    refine x_gI (z := f) T_142_216 (Or.inl F_5_1) (hP.o xo_2178) (Eq.trans (hP.gi xo_2178 (key := 2161) rfl) hf0) ?_
    refine x_ic T_142_219 ?_
    refine x_li (z := tw) T_142_220 rfl ?_
    refine x_if T_142_222 (fun h => absurd (show tw = 0 from h) (by exact htw1)) (fun _ => ?_)
    refine x_ic T_142_225 ?_
    refine x_goto T_142_226 ?_
    refine x_ib (w := 1) T_142_231 (fun h => absurd h.1 (by decide)) (by decide) ?_
    refine x_cv3 T_142_232 mN_135 mL_135 (Nat.le_of_ble_eq_true rfl) mO_135 (hP.o xo_129) (Nat.le_of_ble_eq_true rfl) (hom) ?_
    clear hP hom
    rintro _ σ ⟨rfl, V4, hP, hB4, hF4⟩
    refine cR ?_
    refine x_cv3 T_142_235 mN_136 mL_136 (Nat.le_of_ble_eq_true rfl) mO_136 (hP.o xo_2175) (Nat.le_of_ble_eq_true rfl) (hse σ V4 hP hF4 hB4) ?_
    clear hP hse
    rintro _ σ ⟨rfl, V5, V6, hP, hX5, hB5, hF5⟩
    have hA5 := FA_tr (FA_fr hF4) (FA_fs hF5)
    refine cI ?_
    refine x_si (ls1 := [some (vR (some 2175)), some (vR (some pr)), some (vR (some k)), some (vI la), some (vI tw), some (vI rd), some (vL 0), none, some (vI 0), some (vI 0), x10, x11]) T_142_238 rfl ?_
    refine x_li (z := 0) T_142_240 rfl ?_
    refine x_if T_142_242 (fun h => absurd (show ¬ (0 : Int) = 0 from h) (by decide)) (fun _ => ?_)
    refine x_li (z := tw) T_142_245 rfl ?_
    refine x_if T_142_247 (fun h => absurd (show tw = 0 from h) (by exact htw1)) (fun _ => ?_)
    refine x_lr (z := some 2175) T_142_250 rfl ?_
    refine x_lr (z := some 2175) T_142_251 rfl ?_
    refine x_gR (z := some 2178) T_142_252 F_14_2 (hP.o xo_2175) (hP.rc xo_2175 rfl rfl) ?_
    refine x_lr (z := some 2175) T_142_255 rfl ?_
    refine x_gR (z := some 129) T_142_256 F_14_0 (hP.o xo_2175) (hP.rc xo_2175 rfl rfl) ?_
    refine x_ic T_142_259 ?_
    refine x_lr (z := some 2175) T_142_261 rfl ?_
    refine x_gR (z := some 2178) T_142_262 F_14_2 (hP.o xo_2175) (hP.rc xo_2175 rfl rfl) ?_
    refine x_gI (z := f) T_142_265 (Or.inl F_5_1) (hP.o xo_2178) (Eq.trans (hP.gi xo_2178 (key := 2161) rfl) (hfk V5 V6 hA5)) ?_
    refine x_cv3 T_142_268 mN_131 mL_131 (Nat.le_of_ble_eq_true rfl) mO_131 (hP.o xo_129) (Nat.le_of_ble_eq_true rfl) (hab σ V5 V6 hP) ?_
    clear hP hab
    rintro _ σ ⟨rfl, Va, hP, hBa, hFa⟩
    refine cR ?_
    refine x_cv3 T_142_271 mN_136 mL_136 (Nat.le_of_ble_eq_true rfl) mO_136 (hP.o xo_2175) (Nat.le_of_ble_eq_true rfl) (hs2 σ V5 Va V6 hA5 hP hX5 hFa hBa) ?_
    clear hP hs2
    rintro _ σ ⟨rfl, V7, V8, hP, hX7, hB7, hF7⟩
    have hA7 := FA_tr hA5 (FA_tr (FA_fr hFa) (FA_fs hF7))
    obtain ⟨n0, g1, g2, g3, g4, g5, g6, g7⟩ := hsu V5 V6 hX5 trivial hB7.2.2.2.2.2.1
    refine cI ?_
    refine x_si (ls1 := [some (vR (some 2175)), some (vR (some pr)), some (vR (some k)), some (vI la), some (vI tw), some (vI rd), some (vL 0), none, some (vI 0), some (vI 0), x10, x11]) T_142_274 rfl ?_
    refine x_lr (z := some 2175) T_142_276 rfl ?_
    refine x_gR (z := some 129) T_142_277 F_14_0 (hP.o xo_2175) (hP.rc xo_2175 rfl rfl) ?_
    refine x_gR (z := some 134) T_142_280 F_1_2 (hP.o xo_129) (hP.rc xo_129 rfl rfl) ?_
    refine x_ic T_142_283 ?_
    refine x_ic T_142_285 ?_
    refine x_cv3 T_142_287 mN_29 mL_29 (Nat.le_of_ble_eq_true rfl) mO_29 (hP.o xo_134) (Nat.le_of_ble_eq_true rfl) (hn8 n0 g1 g4 ⟨g5, g6⟩ σ V7 V8 hP hB7) ?_
    rintro _ σ ⟨rfl, rfl⟩
    refine cL ?_
    refine x_sl (ls1 := [some (vR (some 2175)), some (vR (some pr)), some (vR (some k)), some (vI la), some (vI tw), some (vI rd), some (vL ov), none, some (vI 0), some (vI 0), x10, x11]) T_142_290 rfl ?_
    exact hgo σ V7 V8 ⟨g5, g6⟩ hP hX7 hA7
  · rw [if_pos (show 0 < e2 by omega)]
    obtain ⟨ov, hov⟩ : ∃ q, (if 0 ≤ (42 : Int) ∧ (42 : Int) + 8 ≤ (A2.length : Int) then w64 (nu (lg A2) 42 (8 : Int).toNat) else 0) = q := ⟨_, rfl⟩
    rw [hov] at hn8
    have hgo := fun (σ : hM) (V7 : qR) (V8 : rR) (hP : PX σ0 V7 V8 σ) (hX5 : XW K (T2 + 4 + 4) U V7 V8 Q3) (hA : FA V V7 V3 V8) => hfin e2 Q3 ov q2 σ V7 V8 (T2 + 4 + 4) (by omega) hP hX5 hA
    refine x_li (z := 0) T_142_198 rfl ?_
    refine x_if T_142_200 (fun h => absurd (show ¬ (0 : Int) = 0 from h) (by decide)) (fun _ => ?_)
    refine x_lr (z := some 2175) T_142_203 rfl ?_
    refine x_lr (z := some 2175) T_142_204 rfl ?_
    refine x_gR (z := some 2178) T_142_205 F_14_2 (hP.o xo_2175) (hP.rc xo_2175 rfl rfl) ?_
    refine x_lr (z := some 2175) T_142_208 rfl ?_
    refine x_gR (z := some 129) T_142_209 F_14_0 (hP.o xo_2175) (hP.rc xo_2175 rfl rfl) ?_
    refine x_lr (z := some 2175) T_142_212 rfl ?_
    refine x_gR (z := some 2178) T_142_213 F_14_2 (hP.o xo_2175) (hP.rc xo_2175 rfl rfl) ?_
    refine x_gI (z := f) T_142_216 (Or.inl F_5_1) (hP.o xo_2178) (Eq.trans (hP.gi xo_2178 (key := 2161) rfl) hf0) ?_
    refine x_ic T_142_219 ?_
    refine x_li (z := tw) T_142_220 rfl ?_
    refine x_if T_142_222 (fun h => absurd (show tw = 0 from h) (by exact htw1)) (fun _ => ?_)
    refine x_ic T_142_225 ?_
    refine x_goto T_142_226 ?_
    refine x_ib (w := 1) T_142_231 (fun h => absurd h.1 (by decide)) (by decide) ?_
    refine x_cv3 T_142_232 mN_135 mL_135 (Nat.le_of_ble_eq_true rfl) mO_135 (hP.o xo_129) (Nat.le_of_ble_eq_true rfl) (hom) ?_
    clear hP hom
    rintro _ σ ⟨rfl, V4, hP, hB4, hF4⟩
    refine cR ?_
    refine x_cv3 T_142_235 mN_136 mL_136 (Nat.le_of_ble_eq_true rfl) mO_136 (hP.o xo_2175) (Nat.le_of_ble_eq_true rfl) (hse σ V4 hP hF4 hB4) ?_
    clear hP hse
    rintro _ σ ⟨rfl, V5, V6, hP, hX5, hB5, hF5⟩
    have hA5 := FA_tr (FA_fr hF4) (FA_fs hF5)
    refine cI ?_
    refine x_si (ls1 := [some (vR (some 2175)), some (vR (some pr)), some (vR (some k)), some (vI la), some (vI tw), some (vI rd), some (vL 0), none, some (vI 0), some (vI 0), x10, x11]) T_142_238 rfl ?_
    refine x_li (z := 0) T_142_240 rfl ?_
    refine x_if T_142_242 (fun h => absurd (show ¬ (0 : Int) = 0 from h) (by decide)) (fun _ => ?_)
    refine x_li (z := tw) T_142_245 rfl ?_
    refine x_if T_142_247 (fun h => absurd (show tw = 0 from h) (by exact htw1)) (fun _ => ?_)
    refine x_lr (z := some 2175) T_142_250 rfl ?_
    refine x_lr (z := some 2175) T_142_251 rfl ?_
    refine x_gR (z := some 2178) T_142_252 F_14_2 (hP.o xo_2175) (hP.rc xo_2175 rfl rfl) ?_
    refine x_lr (z := some 2175) T_142_255 rfl ?_
    refine x_gR (z := some 129) T_142_256 F_14_0 (hP.o xo_2175) (hP.rc xo_2175 rfl rfl) ?_
    refine x_ic T_142_259 ?_
    refine x_lr (z := some 2175) T_142_261 rfl ?_
    refine x_gR (z := some 2178) T_142_262 F_14_2 (hP.o xo_2175) (hP.rc xo_2175 rfl rfl) ?_
    refine x_gI (z := f) T_142_265 (Or.inl F_5_1) (hP.o xo_2178) (Eq.trans (hP.gi xo_2178 (key := 2161) rfl) (hfk V5 V6 hA5)) ?_
    refine x_cv3 T_142_268 mN_131 mL_131 (Nat.le_of_ble_eq_true rfl) mO_131 (hP.o xo_129) (Nat.le_of_ble_eq_true rfl) (hab σ V5 V6 hP) ?_
    clear hP hab
    rintro _ σ ⟨rfl, Va, hP, hBa, hFa⟩
    refine cR ?_
    refine x_cv3 T_142_271 mN_136 mL_136 (Nat.le_of_ble_eq_true rfl) mO_136 (hP.o xo_2175) (Nat.le_of_ble_eq_true rfl) (hs2 σ V5 Va V6 hA5 hP hX5 hFa hBa) ?_
    clear hP hs2
    rintro _ σ ⟨rfl, V7, V8, hP, hX7, hB7, hF7⟩
    have hA7 := FA_tr hA5 (FA_tr (FA_fr hFa) (FA_fs hF7))
    refine cI ?_
    refine x_si (ls1 := [some (vR (some 2175)), some (vR (some pr)), some (vR (some k)), some (vI la), some (vI tw), some (vI rd), some (vL 0), none, some (vI e2), some (vI 0), x10, x11]) T_142_274 rfl ?_
    refine x_lr (z := some 2175) T_142_276 rfl ?_
    refine x_gR (z := some 129) T_142_277 F_14_0 (hP.o xo_2175) (hP.rc xo_2175 rfl rfl) ?_
    refine x_gR (z := some 134) T_142_280 F_1_2 (hP.o xo_129) (hP.rc xo_129 rfl rfl) ?_
    refine x_ic T_142_283 ?_
    refine x_ic T_142_285 ?_
    refine x_cv3 T_142_287 mN_29 mL_29 (Nat.le_of_ble_eq_true rfl) mO_29 (hP.o xo_134) (Nat.le_of_ble_eq_true rfl) (hn8 σ V7 V8 hP hB7) ?_
    rintro _ σ ⟨rfl, rfl⟩
    refine cL ?_
    refine x_sl (ls1 := [some (vR (some 2175)), some (vR (some pr)), some (vR (some k)), some (vI la), some (vI tw), some (vI rd), some (vL ov), none, some (vI e2), some (vI 0), x10, x11]) T_142_290 rfl ?_
    exact hgo σ V7 V8 hP hX7 hA7
end XECH
