/-! echo: the file it goes to. -/
theorem T_354_112 : hTab 354 112 = some ((3, 0, 2, []), 113) := rfl
theorem T_354_113 : hTab 354 113 = some ((24, 17, Int.ofNat 77, []), 116) := rfl
theorem T_354_116 : hTab 354 116 = some ((0, 0, 2, []), 117) := rfl
theorem T_354_117 : hTab 354 117 = some ((10, 1, 0, []), 118) := rfl
theorem T_354_118 : hTab 354 118 = some ((22, 0, Int.ofNat 125, []), 121) := rfl
theorem T_354_209 : hTab 354 209 = some ((3, 0, 2, []), 210) := rfl
theorem T_354_210 : hTab 354 210 = some ((3, 1, 0, []), 211) := rfl
theorem T_354_211 : hTab 354 211 = some ((3, 0, 2, []), 212) := rfl
theorem T_354_212 : hTab 354 212 = some ((24, 17, Int.ofNat 77, []), 215) := rfl
theorem T_354_215 : hTab 354 215 = some ((0, 0, 1, []), 216) := rfl
theorem T_354_216 : hTab 354 216 = some ((10, 1, 0, []), 217) := rfl
theorem T_354_217 : hTab 354 217 = some ((0, 0, 1, []), 218) := rfl
theorem T_354_218 : hTab 354 218 = some ((31, 327, 0, []), 221) := rfl
theorem T_354_221 : hTab 354 221 = some ((4, 5, 0, []), 223) := rfl
theorem T_354_223 : hTab 354 223 = some ((1, 0, 0, []), 224) := rfl
theorem T_354_224 : hTab 354 224 = some ((4, 6, 1, []), 226) := rfl
theorem T_354_226 : hTab 354 226 = some ((3, 5, 0, []), 228) := rfl
theorem T_354_228 : hTab 354 228 = some ((0, 0, 1, []), 229) := rfl
theorem T_354_229 : hTab 354 229 = some ((19, 1, Int.ofNat 252, []), 232) := rfl
theorem T_354_232 : hTab 354 232 = some ((3, 0, 2, []), 233) := rfl
theorem T_354_233 : hTab 354 233 = some ((3, 1, 0, []), 234) := rfl
theorem T_354_234 : hTab 354 234 = some ((3, 0, 2, []), 235) := rfl
theorem T_354_235 : hTab 354 235 = some ((24, 17, Int.ofNat 77, []), 238) := rfl
theorem T_354_238 : hTab 354 238 = some ((0, 0, 1, []), 239) := rfl
theorem T_354_239 : hTab 354 239 = some ((10, 1, 0, []), 240) := rfl
theorem T_354_240 : hTab 354 240 = some ((1, 0, 438, []), 243) := rfl
theorem T_354_243 : hTab 354 243 = some ((0, 0, 1, []), 244) := rfl
theorem T_354_244 : hTab 354 244 = some ((31, 355, 0, []), 247) := rfl
theorem T_354_247 : hTab 354 247 = some ((4, 5, 0, []), 249) := rfl
theorem T_354_249 : hTab 354 249 = some ((22, 0, Int.ofNat 344, []), 252) := rfl
theorem T_354_252 : hTab 354 252 = some ((3, 5, 0, []), 254) := rfl
theorem T_354_254 : hTab 354 254 = some ((18, 1, Int.ofNat 344, []), 257) := rfl
theorem T_354_257 : hTab 354 257 = some ((3, 0, 2, []), 258) := rfl
theorem T_354_258 : hTab 354 258 = some ((3, 0, 2, []), 259) := rfl
theorem T_354_259 : hTab 354 259 = some ((24, 17, Int.ofNat 86, []), 262) := rfl
theorem T_354_262 : hTab 354 262 = some ((3, 0, 2, []), 263) := rfl
theorem T_354_263 : hTab 354 263 = some ((24, 17, Int.ofNat 91, []), 266) := rfl
theorem T_354_266 : hTab 354 266 = some ((0, 0, 1, []), 267) := rfl
theorem T_354_267 : hTab 354 267 = some ((10, 1, 0, []), 268) := rfl
theorem T_354_268 : hTab 354 268 = some ((26, 0, 0, []), 269) := rfl
theorem T_354_269 : hTab 354 269 = some ((3, 0, 2, []), 270) := rfl
theorem T_354_270 : hTab 354 270 = some ((24, 17, Int.ofNat 87, []), 273) := rfl
theorem T_354_273 : hTab 354 273 = some ((3, 0, 2, []), 274) := rfl
theorem T_354_274 : hTab 354 274 = some ((24, 17, Int.ofNat 91, []), 277) := rfl
theorem T_354_277 : hTab 354 277 = some ((0, 0, 1, []), 278) := rfl
theorem T_354_278 : hTab 354 278 = some ((10, 1, 0, []), 279) := rfl
theorem T_354_279 : hTab 354 279 = some ((26, 0, 0, []), 280) := rfl
theorem T_354_280 : hTab 354 280 = some ((3, 2, 0, []), 281) := rfl
theorem T_354_281 : hTab 354 281 = some ((18, 0, Int.ofNat 288, []), 284) := rfl
theorem T_354_284 : hTab 354 284 = some ((0, 0, 1, []), 285) := rfl
theorem T_354_285 : hTab 354 285 = some ((22, 0, Int.ofNat 290, []), 288) := rfl
theorem T_354_288 : hTab 354 288 = some ((0, 0, 17, []), 290) := rfl
theorem T_354_290 : hTab 354 290 = some ((31, 349, 0, []), 293) := rfl
theorem T_354_293 : hTab 354 293 = some ((4, 5, 0, []), 295) := rfl
theorem T_354_295 : hTab 354 295 = some ((3, 5, 0, []), 297) := rfl
theorem T_354_297 : hTab 354 297 = some ((18, 1, Int.ofNat 344, []), 300) := rfl
theorem T_354_300 : hTab 354 300 = some ((3, 2, 0, []), 301) := rfl
theorem T_354_301 : hTab 354 301 = some ((18, 0, Int.ofNat 344, []), 304) := rfl
theorem T_354_304 : hTab 354 304 = some ((3, 0, 2, []), 305) := rfl
theorem T_354_305 : hTab 354 305 = some ((0, 0, 124, []), 307) := rfl
theorem T_354_307 : hTab 354 307 = some ((3, 0, 2, []), 308) := rfl
theorem T_354_308 : hTab 354 308 = some ((24, 17, Int.ofNat 86, []), 311) := rfl
theorem T_354_311 : hTab 354 311 = some ((3, 0, 2, []), 312) := rfl
theorem T_354_312 : hTab 354 312 = some ((24, 17, Int.ofNat 91, []), 315) := rfl
theorem T_354_315 : hTab 354 315 = some ((0, 0, 1, []), 316) := rfl
theorem T_354_316 : hTab 354 316 = some ((10, 1, 0, []), 317) := rfl
theorem T_354_317 : hTab 354 317 = some ((26, 0, 0, []), 318) := rfl
theorem T_354_318 : hTab 354 318 = some ((3, 0, 2, []), 319) := rfl
theorem T_354_319 : hTab 354 319 = some ((24, 17, Int.ofNat 87, []), 322) := rfl
theorem T_354_322 : hTab 354 322 = some ((3, 0, 2, []), 323) := rfl
theorem T_354_323 : hTab 354 323 = some ((24, 17, Int.ofNat 91, []), 326) := rfl
theorem T_354_326 : hTab 354 326 = some ((0, 0, 1, []), 327) := rfl
theorem T_354_327 : hTab 354 327 = some ((10, 1, 0, []), 328) := rfl
theorem T_354_328 : hTab 354 328 = some ((26, 0, 0, []), 329) := rfl
theorem T_354_329 : hTab 354 329 = some ((31, 345, 0, []), 332) := rfl
theorem T_354_332 : hTab 354 332 = some ((4, 5, 0, []), 334) := rfl
theorem T_354_334 : hTab 354 334 = some ((3, 0, 2, []), 335) := rfl
theorem T_354_335 : hTab 354 335 = some ((0, 0, 42, []), 337) := rfl
theorem T_354_337 : hTab 354 337 = some ((0, 0, 8, []), 339) := rfl
theorem T_354_339 : hTab 354 339 = some ((31, 339, 0, []), 342) := rfl
theorem T_354_342 : hTab 354 342 = some ((4, 6, 1, []), 344) := rfl
theorem T_354_344 : hTab 354 344 = some ((3, 5, 0, []), 346) := rfl
theorem T_354_346 : hTab 354 346 = some ((18, 5, Int.ofNat 352, []), 349) := rfl
theorem T_354_349 : hTab 354 349 = some ((3, 5, 0, []), 351) := rfl
theorem T_354_351 : hTab 354 351 = some ((33, 1, 0, []), 352) := rfl
section MECHO4
variable {fb : Bool} {d : Nat} {σ0 σ : hM} {P Q R S S1 S2 : qR} {T U s w g u p k e t z o thr pt off n N : Int} {l l1 l2 nm wd A : List Int} {h : List Ch} {a f : Int → Int} {x : Int × Int} {c : Ch} {fr fd md n0 : Int}
theorem m_echo_op0 {v3 : Int} (hP : PM σ0 P S σ) (hK : KS T U P S l [c]) (hT : T + 100 ≤ 2147483000) (hz : 1 ≤ z ∧ z ≤ ((lnW l).length : Int)) : WP fb (d + 12) 354 257 [some (vR (some 2281)), some (vI p), some (vI 0), some (vI v3), some (vI z), some (vI 0), some (vL 0), none, none, none] [] σ (KC (T + 12) U σ0 S l (ecO P c 0 l z).1 (ecO P c 0 l z).2.1 (ecO P c 0 l z).2.2) := by
  obtain ⟨g1, g2, g3, g4, g5, g6, g7⟩ := HS.last (h := []) hK.2.2.2.1
  obtain ⟨c1, c2, -⟩ := HS.ch (h := []) hK.2.2.1 hK.2.2.2.1
  unfold ecO
  rw [if_pos rfl, if_pos rfl]
  have her := tE_rng (P := P) (s := c.1) (l := mOpen c.2.1 17)
  obtain ⟨e, he⟩ : ∃ e, tE P c.1 (mOpen c.2.1 17) = e := ⟨_, rfl⟩
  obtain ⟨P1, hP1⟩ : ∃ P1, tP P c.1 (mOpen c.2.1 17) = P1 := ⟨_, rfl⟩
  rw [he] at her
  rw [he, hP1]
  by_cases q1 : 0 < e
  · rw [if_pos q1]
    dsimp only
    refine x_lr (z := some 2281) T_354_257 rfl ?_
    refine x_lr (z := some 2281) T_354_258 rfl ?_
    refine x_gR (z := some 2350) T_354_259 F_17_86 (PM.t hP) (PM.r hP 86 2350 rfl) ?_
    refine x_lr (z := some 2281) T_354_262 rfl ?_
    refine x_gI (z := 1) T_354_263 (Or.inl F_17_91) (PM.t hP) (Eq.trans (PM.nS hP 2281 91 91 rfl rfl rfl) g1) ?_
    refine x_ic T_354_266 ?_
    refine x_ib (w := 0) T_354_267 (fun h => absurd h.1 (by decide)) (by decide) ?_
    refine x_alI (z := c.1) T_354_268 (by decide) (PM.ta hP 2350 0 64 rfl rfl) (by omega) (by omega) (Eq.trans (PM.aS hP 2350 rfl rfl (by omega)) g3) ?_
    refine x_lr (z := some 2281) T_354_269 rfl ?_
    refine x_gR (z := some 2351) T_354_270 F_17_87 (PM.t hP) (PM.r hP 87 2351 rfl) ?_
    refine x_lr (z := some 2281) T_354_273 rfl ?_
    refine x_gI (z := 1) T_354_274 (Or.inl F_17_91) (PM.t hP) (Eq.trans (PM.nS hP 2281 91 91 rfl rfl rfl) g1) ?_
    refine x_ic T_354_277 ?_
    refine x_ib (w := 0) T_354_278 (fun h => absurd h.1 (by decide)) (by decide) ?_
    refine x_alI (z := c.2.1) T_354_279 (by decide) (PM.ta hP 2351 0 64 rfl rfl) (by omega) (by omega) (Eq.trans (PM.aS hP 2351 rfl rfl (by omega)) g4) ?_
    refine x_li (z := 0) T_354_280 rfl ?_
    refine x_if T_354_281 (fun _ => ?_) (fun h => absurd (show (0 : Int) = 0 by rfl) h)
    refine x_ic T_354_288 ?_
    refine x_cv4 T_354_290 mN_349 mL_349 (Nat.le_of_ble_eq_true rfl) mO_349 (PM.t hP) (Nat.le_of_ble_eq_true rfl) (g_askOpen hP hK.2.2.1 hK.1 (by omega) (by omega)) ?_
    clear hP
    intro r σ hr
    obtain ⟨S3, hr0, hP, hK3, hX3, -⟩ := hK.ask (T1 := T + 4) (by omega) hr
    rw [he] at hr0
    subst hr0
    rw [hP1] at hP hK3
    refine cI ?_
    refine x_si (ls1 := [some (vR (some 2281)), some (vI p), some (vI 0), some (vI v3), some (vI z), some (vI e), some (vL 0), none, none, none]) T_354_293 rfl ?_
    refine x_li (z := e) T_354_295 rfl ?_
    refine x_if T_354_297 (fun _ => ?_) (fun h => absurd (show ¬ e = 0 by omega) h)
    refine x_li (z := e) T_354_344 rfl ?_
    refine x_if T_354_346 (fun h => absurd (show e ≤ 0 from h) (by omega)) (fun _ => ?_)
    refine x_li (z := e) T_354_349 rfl ?_
    refine x_ri T_354_351 ?_
    exact ⟨S3, rfl, hP, hK3.mono (by omega), hX3⟩
  · rw [if_neg q1]
    have q2 : e = 0 := by omega
    subst q2
    unfold ecW
    dsimp only
    refine x_lr (z := some 2281) T_354_257 rfl ?_
    refine x_lr (z := some 2281) T_354_258 rfl ?_
    refine x_gR (z := some 2350) T_354_259 F_17_86 (PM.t hP) (PM.r hP 86 2350 rfl) ?_
    refine x_lr (z := some 2281) T_354_262 rfl ?_
    refine x_gI (z := 1) T_354_263 (Or.inl F_17_91) (PM.t hP) (Eq.trans (PM.nS hP 2281 91 91 rfl rfl rfl) g1) ?_
    refine x_ic T_354_266 ?_
    refine x_ib (w := 0) T_354_267 (fun h => absurd h.1 (by decide)) (by decide) ?_
    refine x_alI (z := c.1) T_354_268 (by decide) (PM.ta hP 2350 0 64 rfl rfl) (by omega) (by omega) (Eq.trans (PM.aS hP 2350 rfl rfl (by omega)) g3) ?_
    refine x_lr (z := some 2281) T_354_269 rfl ?_
    refine x_gR (z := some 2351) T_354_270 F_17_87 (PM.t hP) (PM.r hP 87 2351 rfl) ?_
    refine x_lr (z := some 2281) T_354_273 rfl ?_
    refine x_gI (z := 1) T_354_274 (Or.inl F_17_91) (PM.t hP) (Eq.trans (PM.nS hP 2281 91 91 rfl rfl rfl) g1) ?_
    refine x_ic T_354_277 ?_
    refine x_ib (w := 0) T_354_278 (fun h => absurd h.1 (by decide)) (by decide) ?_
    refine x_alI (z := c.2.1) T_354_279 (by decide) (PM.ta hP 2351 0 64 rfl rfl) (by omega) (by omega) (Eq.trans (PM.aS hP 2351 rfl rfl (by omega)) g4) ?_
    refine x_li (z := 0) T_354_280 rfl ?_
    refine x_if T_354_281 (fun _ => ?_) (fun h => absurd (show (0 : Int) = 0 by rfl) h)
    refine x_ic T_354_288 ?_
    refine x_cv4 T_354_290 mN_349 mL_349 (Nat.le_of_ble_eq_true rfl) mO_349 (PM.t hP) (Nat.le_of_ble_eq_true rfl) (g_askOpen hP hK.2.2.1 hK.1 (by omega) (by omega)) ?_
    clear hP
    intro r σ hr
    obtain ⟨S3, hr0, hP, hK3, hX3, -⟩ := hK.ask (T1 := T + 4) (by omega) hr
    rw [he] at hr0
    subst hr0
    rw [hP1] at hP hK3
    refine cI ?_
    refine x_si (ls1 := [some (vR (some 2281)), some (vI p), some (vI 0), some (vI v3), some (vI z), some (vI 0), some (vL 0), none, none, none]) T_354_293 rfl ?_
    refine x_li (z := 0) T_354_295 rfl ?_
    refine x_if T_354_297 (fun h => absurd (show ¬ (0 : Int) = 0 from h) (by decide)) (fun _ => ?_)
    refine x_li (z := 0) T_354_300 rfl ?_
    refine x_if T_354_301 (fun _ => ?_) (fun h => absurd (show (0 : Int) = 0 by rfl) h)
    refine x_li (z := 0) T_354_344 rfl ?_
    refine x_if T_354_346 (fun _ => ?_) (fun h => absurd (show (0 : Int) ≤ 0 by decide) h)
    refine WP.mono (m_echo_wr (d := d) (v2 := 0) (v3 := v3) (e0 := 0) (off := 0) hP hK3 (by omega) hz) ?_
    rintro r σ1 ⟨S4, rfl, a1, a2, a3⟩
    exact ⟨S4, rfl, a1, a2.mono (by omega), SX_tr hX3 a3⟩
theorem m_echo_op1 {v3 : Int} (hP : PM σ0 P S σ) (hK : KS T U P S l [c]) (hT : T + 100 ≤ 2147483000) (hz : 1 ≤ z ∧ z ≤ ((lnW l).length : Int)) : WP fb (d + 12) 354 257 [some (vR (some 2281)), some (vI p), some (vI 1), some (vI v3), some (vI z), some (vI 0), some (vL 0), none, none, none] [] σ (KC (T + 12) U σ0 S l (ecO P c 1 l z).1 (ecO P c 1 l z).2.1 (ecO P c 1 l z).2.2) := by
  obtain ⟨g1, g2, g3, g4, g5, g6, g7⟩ := HS.last (h := []) hK.2.2.2.1
  obtain ⟨c1, c2, -⟩ := HS.ch (h := []) hK.2.2.1 hK.2.2.2.1
  unfold ecO
  rw [if_neg (show ¬ (1 : Int) = 0 by decide), if_neg (show ¬ (1 : Int) = 0 by decide)]
  have her := tE_rng (P := P) (s := c.1) (l := mOpen c.2.1 1)
  obtain ⟨e, he⟩ : ∃ e, tE P c.1 (mOpen c.2.1 1) = e := ⟨_, rfl⟩
  obtain ⟨P1, hP1⟩ : ∃ P1, tP P c.1 (mOpen c.2.1 1) = P1 := ⟨_, rfl⟩
  rw [he] at her
  rw [he, hP1]
  by_cases q1 : 0 < e
  · rw [if_pos q1]
    dsimp only
    refine x_lr (z := some 2281) T_354_257 rfl ?_
    refine x_lr (z := some 2281) T_354_258 rfl ?_
    refine x_gR (z := some 2350) T_354_259 F_17_86 (PM.t hP) (PM.r hP 86 2350 rfl) ?_
    refine x_lr (z := some 2281) T_354_262 rfl ?_
    refine x_gI (z := 1) T_354_263 (Or.inl F_17_91) (PM.t hP) (Eq.trans (PM.nS hP 2281 91 91 rfl rfl rfl) g1) ?_
    refine x_ic T_354_266 ?_
    refine x_ib (w := 0) T_354_267 (fun h => absurd h.1 (by decide)) (by decide) ?_
    refine x_alI (z := c.1) T_354_268 (by decide) (PM.ta hP 2350 0 64 rfl rfl) (by omega) (by omega) (Eq.trans (PM.aS hP 2350 rfl rfl (by omega)) g3) ?_
    refine x_lr (z := some 2281) T_354_269 rfl ?_
    refine x_gR (z := some 2351) T_354_270 F_17_87 (PM.t hP) (PM.r hP 87 2351 rfl) ?_
    refine x_lr (z := some 2281) T_354_273 rfl ?_
    refine x_gI (z := 1) T_354_274 (Or.inl F_17_91) (PM.t hP) (Eq.trans (PM.nS hP 2281 91 91 rfl rfl rfl) g1) ?_
    refine x_ic T_354_277 ?_
    refine x_ib (w := 0) T_354_278 (fun h => absurd h.1 (by decide)) (by decide) ?_
    refine x_alI (z := c.2.1) T_354_279 (by decide) (PM.ta hP 2351 0 64 rfl rfl) (by omega) (by omega) (Eq.trans (PM.aS hP 2351 rfl rfl (by omega)) g4) ?_
    refine x_li (z := 1) T_354_280 rfl ?_
    refine x_if T_354_281 (fun h => absurd (show (1 : Int) = 0 from h) (by decide)) (fun _ => ?_)
    refine x_ic T_354_284 ?_
    refine x_goto T_354_285 ?_
    refine x_cv4 T_354_290 mN_349 mL_349 (Nat.le_of_ble_eq_true rfl) mO_349 (PM.t hP) (Nat.le_of_ble_eq_true rfl) (g_askOpen hP hK.2.2.1 hK.1 (by omega) (by omega)) ?_
    clear hP
    intro r σ hr
    obtain ⟨S3, hr0, hP, hK3, hX3, -⟩ := hK.ask (T1 := T + 4) (by omega) hr
    rw [he] at hr0
    subst hr0
    rw [hP1] at hP hK3
    refine cI ?_
    refine x_si (ls1 := [some (vR (some 2281)), some (vI p), some (vI 1), some (vI v3), some (vI z), some (vI e), some (vL 0), none, none, none]) T_354_293 rfl ?_
    refine x_li (z := e) T_354_295 rfl ?_
    refine x_if T_354_297 (fun _ => ?_) (fun h => absurd (show ¬ e = 0 by omega) h)
    refine x_li (z := e) T_354_344 rfl ?_
    refine x_if T_354_346 (fun h => absurd (show e ≤ 0 from h) (by omega)) (fun _ => ?_)
    refine x_li (z := e) T_354_349 rfl ?_
    refine x_ri T_354_351 ?_
    exact ⟨S3, rfl, hP, hK3.mono (by omega), hX3⟩
  · rw [if_neg q1]
    have q2 : e = 0 := by omega
    subst q2
    unfold ecS
    have her2 := tE_rng (P := P1) (s := c.1) (l := mOne 124 c.2.1)
    have hsA := fun (hG : GI (T + 4) U P1) (hs : 0 ≤ c.1 ∧ c.1 < 3) => stat_A (f0 := c.2.1) hG hs
    obtain ⟨e2, he2⟩ : ∃ e2, tE P1 c.1 (mOne 124 c.2.1) = e2 := ⟨_, rfl⟩
    obtain ⟨P2, hP2⟩ : ∃ P2, tP P1 c.1 (mOne 124 c.2.1) = P2 := ⟨_, rfl⟩
    obtain ⟨A, hA0⟩ : ∃ A, tA P1 c.1 (mOne 124 c.2.1) = A := ⟨_, rfl⟩
    rw [he2] at her2 hsA
    rw [hA0] at hsA
    rw [he2, hP2, hA0]
    by_cases q3 : 0 < e2
    · rw [if_pos q3]
      dsimp only
      refine x_lr (z := some 2281) T_354_257 rfl ?_
      refine x_lr (z := some 2281) T_354_258 rfl ?_
      refine x_gR (z := some 2350) T_354_259 F_17_86 (PM.t hP) (PM.r hP 86 2350 rfl) ?_
      refine x_lr (z := some 2281) T_354_262 rfl ?_
      refine x_gI (z := 1) T_354_263 (Or.inl F_17_91) (PM.t hP) (Eq.trans (PM.nS hP 2281 91 91 rfl rfl rfl) g1) ?_
      refine x_ic T_354_266 ?_
      refine x_ib (w := 0) T_354_267 (fun h => absurd h.1 (by decide)) (by decide) ?_
      refine x_alI (z := c.1) T_354_268 (by decide) (PM.ta hP 2350 0 64 rfl rfl) (by omega) (by omega) (Eq.trans (PM.aS hP 2350 rfl rfl (by omega)) g3) ?_
      refine x_lr (z := some 2281) T_354_269 rfl ?_
      refine x_gR (z := some 2351) T_354_270 F_17_87 (PM.t hP) (PM.r hP 87 2351 rfl) ?_
      refine x_lr (z := some 2281) T_354_273 rfl ?_
      refine x_gI (z := 1) T_354_274 (Or.inl F_17_91) (PM.t hP) (Eq.trans (PM.nS hP 2281 91 91 rfl rfl rfl) g1) ?_
      refine x_ic T_354_277 ?_
      refine x_ib (w := 0) T_354_278 (fun h => absurd h.1 (by decide)) (by decide) ?_
      refine x_alI (z := c.2.1) T_354_279 (by decide) (PM.ta hP 2351 0 64 rfl rfl) (by omega) (by omega) (Eq.trans (PM.aS hP 2351 rfl rfl (by omega)) g4) ?_
      refine x_li (z := 1) T_354_280 rfl ?_
      refine x_if T_354_281 (fun h => absurd (show (1 : Int) = 0 from h) (by decide)) (fun _ => ?_)
      refine x_ic T_354_284 ?_
      refine x_goto T_354_285 ?_
      refine x_cv4 T_354_290 mN_349 mL_349 (Nat.le_of_ble_eq_true rfl) mO_349 (PM.t hP) (Nat.le_of_ble_eq_true rfl) (g_askOpen hP hK.2.2.1 hK.1 (by omega) (by omega)) ?_
      clear hP
      intro r σ hr
      obtain ⟨S3, hr0, hP, hK3, hX3, -⟩ := hK.ask (T1 := T + 4) (by omega) hr
      rw [he] at hr0
      subst hr0
      rw [hP1] at hP hK3
      obtain ⟨j1, j2, j3, j4, j5, j6, j7⟩ := HS.last (h := []) hK3.2.2.2.1
      refine cI ?_
      refine x_si (ls1 := [some (vR (some 2281)), some (vI p), some (vI 1), some (vI v3), some (vI z), some (vI 0), some (vL 0), none, none, none]) T_354_293 rfl ?_
      refine x_li (z := 0) T_354_295 rfl ?_
      refine x_if T_354_297 (fun h => absurd (show ¬ (0 : Int) = 0 from h) (by decide)) (fun _ => ?_)
      refine x_li (z := 1) T_354_300 rfl ?_
      refine x_if T_354_301 (fun h => absurd (show (1 : Int) = 0 from h) (by decide)) (fun _ => ?_)
      refine x_lr (z := some 2281) T_354_304 rfl ?_
      refine x_ic T_354_305 ?_
      refine x_lr (z := some 2281) T_354_307 rfl ?_
      refine x_gR (z := some 2350) T_354_308 F_17_86 (PM.t hP) (PM.r hP 86 2350 rfl) ?_
      refine x_lr (z := some 2281) T_354_311 rfl ?_
      refine x_gI (z := 1) T_354_312 (Or.inl F_17_91) (PM.t hP) (Eq.trans (PM.nS hP 2281 91 91 rfl rfl rfl) j1) ?_
      refine x_ic T_354_315 ?_
      refine x_ib (w := 0) T_354_316 (fun h => absurd h.1 (by decide)) (by decide) ?_
      refine x_alI (z := c.1) T_354_317 (by decide) (PM.ta hP 2350 0 64 rfl rfl) (by omega) (by omega) (Eq.trans (PM.aS hP 2350 rfl rfl (by omega)) j3) ?_
      refine x_lr (z := some 2281) T_354_318 rfl ?_
      refine x_gR (z := some 2351) T_354_319 F_17_87 (PM.t hP) (PM.r hP 87 2351 rfl) ?_
      refine x_lr (z := some 2281) T_354_322 rfl ?_
      refine x_gI (z := 1) T_354_323 (Or.inl F_17_91) (PM.t hP) (Eq.trans (PM.nS hP 2281 91 91 rfl rfl rfl) j1) ?_
      refine x_ic T_354_326 ?_
      refine x_ib (w := 0) T_354_327 (fun h => absurd h.1 (by decide)) (by decide) ?_
      refine x_alI (z := c.2.1) T_354_328 (by decide) (PM.ta hP 2351 0 64 rfl rfl) (by omega) (by omega) (Eq.trans (PM.aS hP 2351 rfl rfl (by omega)) j4) ?_
      refine x_cv4 T_354_329 mN_345 mL_345 (Nat.le_of_ble_eq_true rfl) mO_345 (PM.t hP) (Nat.le_of_ble_eq_true rfl) (g_askOne hP hK3.2.2.1 hK3.1 (by omega) (by omega) (Or.inr (Or.inr rfl))) ?_
      clear hP
      intro r σ hr
      obtain ⟨S4, hr0, hP, hK4, hX4, hA⟩ := hK3.ask (T1 := T + 8) (by omega) hr
      rw [he2] at hr0
      subst hr0
      rw [hP2] at hP hK4
      refine cI ?_
      refine x_si (ls1 := [some (vR (some 2281)), some (vI p), some (vI 1), some (vI v3), some (vI z), some (vI e2), some (vL 0), none, none, none]) T_354_332 rfl ?_
      refine x_lr (z := some 2281) T_354_334 rfl ?_
      refine x_ic T_354_335 ?_
      refine x_ic T_354_337 ?_
      refine x_cv3 T_354_339 mN_339 mL_339 (Nat.le_of_ble_eq_true rfl) mO_339 (PM.t hP) (Nat.le_of_ble_eq_true rfl) ((m_told (n := 8) hP hK4.2.2.1 (by decide) (by decide) (by decide))) ?_
      rintro _ σ ⟨rfl, rfl⟩
      refine cL ?_
      refine x_sl (ls1 := [some (vR (some 2281)), some (vI p), some (vI 1), some (vI v3), some (vI z), some (vI e2), some (vL (w64 (nu (S4 2286) 42 8))), none, none, none]) T_354_342 rfl ?_
      refine x_li (z := e2) T_354_344 rfl ?_
      refine x_if T_354_346 (fun h => absurd (show e2 ≤ 0 from h) (by omega)) (fun _ => ?_)
      refine x_li (z := e2) T_354_349 rfl ?_
      refine x_ri T_354_351 ?_
      exact ⟨S4, rfl, hP, hK4.mono (by omega), SX_tr hX3 hX4⟩
    · rw [if_neg q3]
      have q4 : e2 = 0 := by omega
      subst q4
      unfold ecW
      dsimp only
      refine x_lr (z := some 2281) T_354_257 rfl ?_
      refine x_lr (z := some 2281) T_354_258 rfl ?_
      refine x_gR (z := some 2350) T_354_259 F_17_86 (PM.t hP) (PM.r hP 86 2350 rfl) ?_
      refine x_lr (z := some 2281) T_354_262 rfl ?_
      refine x_gI (z := 1) T_354_263 (Or.inl F_17_91) (PM.t hP) (Eq.trans (PM.nS hP 2281 91 91 rfl rfl rfl) g1) ?_
      refine x_ic T_354_266 ?_
      refine x_ib (w := 0) T_354_267 (fun h => absurd h.1 (by decide)) (by decide) ?_
      refine x_alI (z := c.1) T_354_268 (by decide) (PM.ta hP 2350 0 64 rfl rfl) (by omega) (by omega) (Eq.trans (PM.aS hP 2350 rfl rfl (by omega)) g3) ?_
      refine x_lr (z := some 2281) T_354_269 rfl ?_
      refine x_gR (z := some 2351) T_354_270 F_17_87 (PM.t hP) (PM.r hP 87 2351 rfl) ?_
      refine x_lr (z := some 2281) T_354_273 rfl ?_
      refine x_gI (z := 1) T_354_274 (Or.inl F_17_91) (PM.t hP) (Eq.trans (PM.nS hP 2281 91 91 rfl rfl rfl) g1) ?_
      refine x_ic T_354_277 ?_
      refine x_ib (w := 0) T_354_278 (fun h => absurd h.1 (by decide)) (by decide) ?_
      refine x_alI (z := c.2.1) T_354_279 (by decide) (PM.ta hP 2351 0 64 rfl rfl) (by omega) (by omega) (Eq.trans (PM.aS hP 2351 rfl rfl (by omega)) g4) ?_
      refine x_li (z := 1) T_354_280 rfl ?_
      refine x_if T_354_281 (fun h => absurd (show (1 : Int) = 0 from h) (by decide)) (fun _ => ?_)
      refine x_ic T_354_284 ?_
      refine x_goto T_354_285 ?_
      refine x_cv4 T_354_290 mN_349 mL_349 (Nat.le_of_ble_eq_true rfl) mO_349 (PM.t hP) (Nat.le_of_ble_eq_true rfl) (g_askOpen hP hK.2.2.1 hK.1 (by omega) (by omega)) ?_
      clear hP
      intro r σ hr
      obtain ⟨S3, hr0, hP, hK3, hX3, -⟩ := hK.ask (T1 := T + 4) (by omega) hr
      rw [he] at hr0
      subst hr0
      rw [hP1] at hP hK3
      obtain ⟨j1, j2, j3, j4, j5, j6, j7⟩ := HS.last (h := []) hK3.2.2.2.1
      refine cI ?_
      refine x_si (ls1 := [some (vR (some 2281)), some (vI p), some (vI 1), some (vI v3), some (vI z), some (vI 0), some (vL 0), none, none, none]) T_354_293 rfl ?_
      refine x_li (z := 0) T_354_295 rfl ?_
      refine x_if T_354_297 (fun h => absurd (show ¬ (0 : Int) = 0 from h) (by decide)) (fun _ => ?_)
      refine x_li (z := 1) T_354_300 rfl ?_
      refine x_if T_354_301 (fun h => absurd (show (1 : Int) = 0 from h) (by decide)) (fun _ => ?_)
      refine x_lr (z := some 2281) T_354_304 rfl ?_
      refine x_ic T_354_305 ?_
      refine x_lr (z := some 2281) T_354_307 rfl ?_
      refine x_gR (z := some 2350) T_354_308 F_17_86 (PM.t hP) (PM.r hP 86 2350 rfl) ?_
      refine x_lr (z := some 2281) T_354_311 rfl ?_
      refine x_gI (z := 1) T_354_312 (Or.inl F_17_91) (PM.t hP) (Eq.trans (PM.nS hP 2281 91 91 rfl rfl rfl) j1) ?_
      refine x_ic T_354_315 ?_
      refine x_ib (w := 0) T_354_316 (fun h => absurd h.1 (by decide)) (by decide) ?_
      refine x_alI (z := c.1) T_354_317 (by decide) (PM.ta hP 2350 0 64 rfl rfl) (by omega) (by omega) (Eq.trans (PM.aS hP 2350 rfl rfl (by omega)) j3) ?_
      refine x_lr (z := some 2281) T_354_318 rfl ?_
      refine x_gR (z := some 2351) T_354_319 F_17_87 (PM.t hP) (PM.r hP 87 2351 rfl) ?_
      refine x_lr (z := some 2281) T_354_322 rfl ?_
      refine x_gI (z := 1) T_354_323 (Or.inl F_17_91) (PM.t hP) (Eq.trans (PM.nS hP 2281 91 91 rfl rfl rfl) j1) ?_
      refine x_ic T_354_326 ?_
      refine x_ib (w := 0) T_354_327 (fun h => absurd h.1 (by decide)) (by decide) ?_
      refine x_alI (z := c.2.1) T_354_328 (by decide) (PM.ta hP 2351 0 64 rfl rfl) (by omega) (by omega) (Eq.trans (PM.aS hP 2351 rfl rfl (by omega)) j4) ?_
      refine x_cv4 T_354_329 mN_345 mL_345 (Nat.le_of_ble_eq_true rfl) mO_345 (PM.t hP) (Nat.le_of_ble_eq_true rfl) (g_askOne hP hK3.2.2.1 hK3.1 (by omega) (by omega) (Or.inr (Or.inr rfl))) ?_
      clear hP
      intro r σ hr
      obtain ⟨S4, hr0, hP, hK4, hX4, hA⟩ := hK3.ask (T1 := T + 8) (by omega) hr
      rw [he2] at hr0
      subst hr0
      rw [hP2] at hP hK4
      rw [hA0] at hA
      obtain ⟨n0, n1, n2, n3, n4, n5, n6⟩ := hsA hK3.1 (by omega) rfl
      refine cI ?_
      refine x_si (ls1 := [some (vR (some 2281)), some (vI p), some (vI 1), some (vI v3), some (vI z), some (vI 0), some (vL 0), none, none, none]) T_354_332 rfl ?_
      refine x_lr (z := some 2281) T_354_334 rfl ?_
      refine x_ic T_354_335 ?_
      refine x_ic T_354_337 ?_
      refine x_cv3 T_354_339 mN_339 mL_339 (Nat.le_of_ble_eq_true rfl) mO_339 (PM.t hP) (Nat.le_of_ble_eq_true rfl) ((CL.mono (m_told (n := 8) hP hK4.2.2.1 (by decide) (by decide) (by decide)) (fun r σ1 hr => by rw [show ((8 : Int)).toNat = 8 from rfl, AN_nu hA (by decide) (by omega), w64_id (by omega) (by omega)] at hr; exact hr) : CL fb _ 339 [vR (some 2281), vI 42, vI 8] σ (rPL (nu (lg A) 42 8) σ))) ?_
      rintro _ σ ⟨rfl, rfl⟩
      refine cL ?_
      refine x_sl (ls1 := [some (vR (some 2281)), some (vI p), some (vI 1), some (vI v3), some (vI z), some (vI 0), some (vL (nu (lg A) 42 8)), none, none, none]) T_354_342 rfl ?_
      refine x_li (z := 0) T_354_344 rfl ?_
      refine x_if T_354_346 (fun _ => ?_) (fun h => absurd (show (0 : Int) ≤ 0 by decide) h)
      refine WP.mono (m_echo_wr (d := d) (v2 := 1) (v3 := v3) (e0 := 0) (off := nu (lg A) 42 8) hP hK4 (by omega) hz) ?_
      rintro r σ1 ⟨S5, rfl, a1, a2, a3⟩
      exact ⟨S5, rfl, a1, a2.mono (by omega), SX_tr hX3 (SX_tr hX4 a3)⟩
theorem m_echo_yes {v2 v3 : Int} (hv : v2 = 0 ∨ v2 = 1) (hP : PM σ0 P S σ) (hK : KS T U P S l []) (hp : 0 ≤ p ∧ p < 8) (hT : T + 1200 ≤ 2147483000) (hN : N = ((lnW l).length : Int)) (hz : 1 ≤ z ∧ z < N) : WP fb (d + 16) 354 209 [some (vR (some 2281)), some (vI p), some (vI v2), some (vI v3), some (vI z), none, none, none, none, none] [] σ (KC (T + 624) U σ0 S l (cEcho1 P p v2 l z (lnB l (N - 1))).1 (cEcho1 P p v2 l z (lnB l (N - 1))).2.1 (cEcho1 P p v2 l z (lnB l (N - 1))).2.2) := by
  have hww := k_ww (fb := fb) (d := d) (thr := 1) (w := N - 1) hP hK hp (Or.inr rfl) (by omega) (by decide) ⟨by omega, by omega⟩
  have hkf := KF_kWW (thr := 1) (wd := lnB l (N - 1)) hK.1.iv hK.2.1 hp
  have h77 : S 2281 77 = N := hK.2.2.2.2.2.2.2.2.1.trans hN.symm
  have h50 := (lnW_ok hK.2.2.2.2.2.1).2
  have hmO := fun (S2 : qR) (hL : LN S2 l) => hL.word (w := N - 1) ⟨by omega, by omega⟩
  unfold cEcho1
  obtain ⟨wd, hwd⟩ : ∃ wd, lnB l (N - 1) = wd := ⟨_, rfl⟩
  rw [hwd] at hww hkf hmO ⊢
  obtain ⟨e, he⟩ : ∃ e, (kWW P p 1 wd).1 = e := ⟨_, rfl⟩
  obtain ⟨P1, hP1⟩ : ∃ P1, (kWW P p 1 wd).2.1 = P1 := ⟨_, rfl⟩
  obtain ⟨c, hc⟩ : ∃ c, (kWW P p 1 wd).2.2 = c := ⟨_, rfl⟩
  rw [he, hP1] at hkf
  rw [he, hP1, hc] at hww
  rw [he, hP1, hc]
  by_cases q1 : e = 1
  · rw [if_pos q1]
    rw [kHoldn (by omega)] at hww
    unfold ecC
    refine x_lr (z := some 2281) T_354_209 rfl ?_
    refine x_li (z := p) T_354_210 rfl ?_
    refine x_lr (z := some 2281) T_354_211 rfl ?_
    refine x_gI (z := N) T_354_212 (Or.inl F_17_77) (PM.t hP) (Eq.trans (PM.nS hP 2281 77 77 rfl rfl rfl) h77) ?_
    refine x_ic T_354_215 ?_
    refine x_ib (w := (N - 1)) T_354_216 (fun h => absurd h.1 (by decide)) (w32_id (by omega) (by omega)) ?_
    refine x_ic T_354_217 ?_
    refine x_cv4 T_354_218 mN_327 mL_327 (Nat.le_of_ble_eq_true rfl) mO_327 (PM.t hP) (Nat.le_of_ble_eq_true rfl) (hww) ?_
    clear hP hww
    rintro _ σ ⟨S2, rfl, hP, hK2, hX2, -⟩
    have h77 : S2 2281 77 = N := hK2.2.2.2.2.2.2.2.2.1.trans hN.symm
    refine cI ?_
    refine x_si (ls1 := [some (vR (some 2281)), some (vI p), some (vI v2), some (vI v3), some (vI z), some (vI e), none, none, none, none]) T_354_221 rfl ?_
    refine x_lc T_354_223 ?_
    refine x_sl (ls1 := [some (vR (some 2281)), some (vI p), some (vI v2), some (vI v3), some (vI z), some (vI e), some (vL 0), none, none, none]) T_354_224 rfl ?_
    refine x_li (z := e) T_354_226 rfl ?_
    refine x_ic T_354_228 ?_
    refine x_ic2 T_354_229 (fun h => absurd (show ¬ e = 1 from h) (by omega)) (fun _ => ?_)
    refine x_lr (z := some 2281) T_354_232 rfl ?_
    refine x_li (z := p) T_354_233 rfl ?_
    refine x_lr (z := some 2281) T_354_234 rfl ?_
    refine x_gI (z := N) T_354_235 (Or.inl F_17_77) (PM.t hP) (Eq.trans (PM.nS hP 2281 77 77 rfl rfl rfl) h77) ?_
    refine x_ic T_354_238 ?_
    refine x_ib (w := (N - 1)) T_354_239 (fun h => absurd h.1 (by decide)) (w32_id (by omega) (by omega)) ?_
    refine x_lc T_354_240 ?_
    refine x_ic T_354_243 ?_
    obtain ⟨hGI, hPT, hJ, hh, hL⟩ := hK2
    obtain ⟨b, b2, w1, w2, w3, w4, w5, w6, w7, w8⟩ := hmO S2 hL
    have hcr := m_create (fb := fb) (d := d) (perm := 438) (mode := 1) (w := N - 1) hP hJ hGI hPT hp (by omega) hh (by decide) ⟨by omega, by omega⟩ w1 w2 ⟨w3, w4, w6⟩ w8
    have hco := kCreate_ok (wd := wd) (perm := 438) (mode := 1) hGI.iv hPT hp
    obtain ⟨C, hC⟩ : ∃ C, kCreate P1 p wd 438 1 = C := ⟨_, rfl⟩
    rw [hC] at hcr hco ⊢
    obtain ⟨e3, he3⟩ : ∃ e3, C.1 = e3 := ⟨_, rfl⟩
    obtain ⟨P3, hP3⟩ : ∃ P3, C.2.1 = P3 := ⟨_, rfl⟩
    rw [he3, hP3] at hcr
    rw [he3] at hco
    rw [hP3] at hco
    by_cases q2 : 0 < e3
    · rw [if_pos (by rw [he3]; exact q2), he3, hP3]
      refine x_cv5 T_354_244 mN_355 mL_355 (Nat.le_of_ble_eq_true rfl) mO_355 (PM.t hP) (Nat.le_of_ble_eq_true rfl) (hcr) ?_
      clear hP hcr
      intro r σ hr
      obtain ⟨S3, rfl, hP, hK3, hX3⟩ := KX_KC hL (hPT.of hco.1) hr
      refine cI ?_
      refine x_si (ls1 := [some (vR (some 2281)), some (vI p), some (vI v2), some (vI v3), some (vI z), some (vI e3), some (vL 0), none, none, none]) T_354_247 rfl ?_
      refine x_goto T_354_249 ?_
      refine x_li (z := e3) T_354_344 rfl ?_
      refine x_if T_354_346 (fun h => absurd (show e3 ≤ 0 from h) (by omega)) (fun _ => ?_)
      refine x_li (z := e3) T_354_349 rfl ?_
      refine x_ri T_354_351 ?_
      exact ⟨S3, rfl, hP, hK3.mono (by omega), SX_tr hX2 hX3⟩
    · have q3 : e3 = 0 := by omega
      rw [if_neg (by rw [he3]; exact q2)]
      obtain ⟨cc, hcc⟩ := hco.2.2 q3
      rw [hcc] at hcr ⊢
      subst q3
      unfold ecW
      dsimp only
      rw [hP3]
      refine x_cv5 T_354_244 mN_355 mL_355 (Nat.le_of_ble_eq_true rfl) mO_355 (PM.t hP) (Nat.le_of_ble_eq_true rfl) (hcr) ?_
      clear hP hcr
      intro r σ hr
      obtain ⟨S3, rfl, hP, hK3, hX3⟩ := KX_KC hL (hPT.of hco.1) hr
      refine cI ?_
      refine x_si (ls1 := [some (vR (some 2281)), some (vI p), some (vI v2), some (vI v3), some (vI z), some (vI 0), some (vL 0), none, none, none]) T_354_247 rfl ?_
      refine x_goto T_354_249 ?_
      refine x_li (z := 0) T_354_344 rfl ?_
      refine x_if T_354_346 (fun _ => ?_) (fun h => absurd (show (0 : Int) ≤ 0 by decide) h)
      refine WP.mono (m_echo_wr (d := d + 4) (v2 := v2) (v3 := v3) (e0 := 0) (off := 0) hP hK3 (by omega) ⟨hz.1, by omega⟩) ?_
      rintro r σ1 ⟨S5, rfl, a1, a2, a3⟩
      exact ⟨S5, rfl, a1, a2.mono (by omega), SX_tr hX2 (SX_tr hX3 a3)⟩
  rw [if_neg q1]
  by_cases q2 : 0 < e
  · rw [if_pos q2]
    rw [kHoldn (by omega)] at hww
    dsimp only
    refine x_lr (z := some 2281) T_354_209 rfl ?_
    refine x_li (z := p) T_354_210 rfl ?_
    refine x_lr (z := some 2281) T_354_211 rfl ?_
    refine x_gI (z := N) T_354_212 (Or.inl F_17_77) (PM.t hP) (Eq.trans (PM.nS hP 2281 77 77 rfl rfl rfl) h77) ?_
    refine x_ic T_354_215 ?_
    refine x_ib (w := (N - 1)) T_354_216 (fun h => absurd h.1 (by decide)) (w32_id (by omega) (by omega)) ?_
    refine x_ic T_354_217 ?_
    refine x_cv4 T_354_218 mN_327 mL_327 (Nat.le_of_ble_eq_true rfl) mO_327 (PM.t hP) (Nat.le_of_ble_eq_true rfl) (hww) ?_
    clear hP hww
    rintro _ σ ⟨S2, rfl, hP, hK2, hX2, -⟩
    refine cI ?_
    refine x_si (ls1 := [some (vR (some 2281)), some (vI p), some (vI v2), some (vI v3), some (vI z), some (vI e), none, none, none, none]) T_354_221 rfl ?_
    refine x_lc T_354_223 ?_
    refine x_sl (ls1 := [some (vR (some 2281)), some (vI p), some (vI v2), some (vI v3), some (vI z), some (vI e), some (vL 0), none, none, none]) T_354_224 rfl ?_
    refine x_li (z := e) T_354_226 rfl ?_
    refine x_ic T_354_228 ?_
    refine x_ic2 T_354_229 (fun _ => ?_) (fun h => absurd (show ¬ e = 1 by omega) h)
    refine x_li (z := e) T_354_252 rfl ?_
    refine x_if T_354_254 (fun _ => ?_) (fun h => absurd (show ¬ e = 0 by omega) h)
    refine x_li (z := e) T_354_344 rfl ?_
    refine x_if T_354_346 (fun h => absurd (show e ≤ 0 from h) (by omega)) (fun _ => ?_)
    refine x_li (z := e) T_354_349 rfl ?_
    refine x_ri T_354_351 ?_
    exact ⟨S2, rfl, hP, hK2.mono (by omega), hX2⟩
  rw [if_neg q2]
  have q3 : e = 0 := by omega
  subst q3
  rw [kHold0] at hww
  rcases hv with rfl | rfl
  · skip
    refine x_lr (z := some 2281) T_354_209 rfl ?_
    refine x_li (z := p) T_354_210 rfl ?_
    refine x_lr (z := some 2281) T_354_211 rfl ?_
    refine x_gI (z := N) T_354_212 (Or.inl F_17_77) (PM.t hP) (Eq.trans (PM.nS hP 2281 77 77 rfl rfl rfl) h77) ?_
    refine x_ic T_354_215 ?_
    refine x_ib (w := (N - 1)) T_354_216 (fun h => absurd h.1 (by decide)) (w32_id (by omega) (by omega)) ?_
    refine x_ic T_354_217 ?_
    refine x_cv4 T_354_218 mN_327 mL_327 (Nat.le_of_ble_eq_true rfl) mO_327 (PM.t hP) (Nat.le_of_ble_eq_true rfl) (hww) ?_
    clear hP hww
    rintro _ σ ⟨S2, rfl, hP, hK2, hX2, -⟩
    refine cI ?_
    refine x_si (ls1 := [some (vR (some 2281)), some (vI p), some (vI 0), some (vI v3), some (vI z), some (vI 0), none, none, none, none]) T_354_221 rfl ?_
    refine x_lc T_354_223 ?_
    refine x_sl (ls1 := [some (vR (some 2281)), some (vI p), some (vI 0), some (vI v3), some (vI z), some (vI 0), some (vL 0), none, none, none]) T_354_224 rfl ?_
    refine x_li (z := 0) T_354_226 rfl ?_
    refine x_ic T_354_228 ?_
    refine x_ic2 T_354_229 (fun _ => ?_) (fun h => absurd (show ¬ (0 : Int) = 1 by decide) h)
    refine x_li (z := 0) T_354_252 rfl ?_
    refine x_if T_354_254 (fun h => absurd (show ¬ (0 : Int) = 0 from h) (by decide)) (fun _ => ?_)
    refine WP.mono (m_echo_op0 (d := d + 4) (v3 := v3) hP hK2 (by omega) ⟨hz.1, by omega⟩) ?_
    rintro r σ1 ⟨S5, rfl, a1, a2, a3⟩
    exact ⟨S5, rfl, a1, a2.mono (by omega), SX_tr hX2 a3⟩
  · skip
    refine x_lr (z := some 2281) T_354_209 rfl ?_
    refine x_li (z := p) T_354_210 rfl ?_
    refine x_lr (z := some 2281) T_354_211 rfl ?_
    refine x_gI (z := N) T_354_212 (Or.inl F_17_77) (PM.t hP) (Eq.trans (PM.nS hP 2281 77 77 rfl rfl rfl) h77) ?_
    refine x_ic T_354_215 ?_
    refine x_ib (w := (N - 1)) T_354_216 (fun h => absurd h.1 (by decide)) (w32_id (by omega) (by omega)) ?_
    refine x_ic T_354_217 ?_
    refine x_cv4 T_354_218 mN_327 mL_327 (Nat.le_of_ble_eq_true rfl) mO_327 (PM.t hP) (Nat.le_of_ble_eq_true rfl) (hww) ?_
    clear hP hww
    rintro _ σ ⟨S2, rfl, hP, hK2, hX2, -⟩
    refine cI ?_
    refine x_si (ls1 := [some (vR (some 2281)), some (vI p), some (vI 1), some (vI v3), some (vI z), some (vI 0), none, none, none, none]) T_354_221 rfl ?_
    refine x_lc T_354_223 ?_
    refine x_sl (ls1 := [some (vR (some 2281)), some (vI p), some (vI 1), some (vI v3), some (vI z), some (vI 0), some (vL 0), none, none, none]) T_354_224 rfl ?_
    refine x_li (z := 0) T_354_226 rfl ?_
    refine x_ic T_354_228 ?_
    refine x_ic2 T_354_229 (fun _ => ?_) (fun h => absurd (show ¬ (0 : Int) = 1 by decide) h)
    refine x_li (z := 0) T_354_252 rfl ?_
    refine x_if T_354_254 (fun h => absurd (show ¬ (0 : Int) = 0 from h) (by decide)) (fun _ => ?_)
    refine WP.mono (m_echo_op1 (d := d + 4) (v3 := v3) hP hK2 (by omega) ⟨hz.1, by omega⟩) ?_
    rintro r σ1 ⟨S5, rfl, a1, a2, a3⟩
    exact ⟨S5, rfl, a1, a2.mono (by omega), SX_tr hX2 a3⟩
theorem m_echo (hP : PM σ0 P S σ) (hK : KS T U P S l []) (hp : 0 ≤ p ∧ p < 8) (hT : T + 1200 ≤ 2147483000) (hw : 0 < ((lnW l).length : Int)) : CL fb (d + 16) 354 [vR (some 2281), vI p] σ (KC (T + 624) U σ0 S l (cEcho P p l).1 (cEcho P p l).2.1 (cEcho P p l).2.2) := by
  have hL := hK.2.2.2.2
  have h77 := hL.2.2.2.2.1
  have h50 := (lnW_ok hL.2.1).2
  have hno := fun (σ : hM) (hP : PM σ0 P S σ) => m_echo_no (fb := fb) (d := d + 15) hP hK hp hw
  have hE := ecM_rng (l := l)
  refine CL_in mL_354 rfl ?_
  show WP fb _ 354 0 [some (vR (some 2281)), some (vI p), none, none, none, none, none, none, none, none] [] σ _
  refine m_echo_hd (d := d + 15) hP hL ?_
  unfold cEcho
  obtain ⟨N, hN⟩ : ∃ N : Int, N = ((lnW l).length : Int) := ⟨_, rfl⟩
  rw [← hN] at hno hE h77 ⊢
  rcases hE with hE | ⟨h2, hE | hE⟩
  · rw [hE, if_pos rfl]
    refine WP.mono (hno σ hP) ?_
    rintro r σ1 ⟨S5, rfl, a1, a2, a3⟩
    exact ⟨S5, rfl, a1, a2.mono (by omega), a3⟩
  · rw [hE, if_neg (show ¬ (1 : Int) = 0 by decide)]
    have hy := fun (σ : hM) (hP : PM σ0 P S σ) => m_echo_yes (fb := fb) (d := d) (v2 := 0) (v3 := 1) (z := N - 2) (Or.inl rfl) hP hK hp hT hN ⟨by omega, by omega⟩
    show WP fb (d + 16) 354 104 [some (vR (some 2281)), some (vI p), some (vI 0), some (vI 1), none, none, none, none, none, none] [] σ (KC (T + 624) U σ0 S l (cEcho1 P p 0 l (N - 2) (lnB l (N - 1))).1 (cEcho1 P p 0 l (N - 2) (lnB l (N - 1))).2.1 (cEcho1 P p 0 l (N - 2) (lnB l (N - 1))).2.2)
    refine x_li (z := 0) T_354_104 rfl ?_
    refine x_if T_354_105 (fun h => absurd (show ¬ (0 : Int) = 0 from h) (by decide)) (fun _ => ?_)
    refine x_li (z := 1) T_354_108 rfl ?_
    refine x_if T_354_109 (fun h => absurd (show (1 : Int) = 0 from h) (by decide)) (fun _ => ?_)
    refine x_lr (z := some 2281) T_354_112 rfl ?_
    refine x_gI (z := N) T_354_113 (Or.inl F_17_77) (PM.t hP) (Eq.trans (PM.nS hP 2281 77 77 rfl rfl rfl) h77) ?_
    refine x_ic T_354_116 ?_
    refine x_ib (w := (N - 2)) T_354_117 (fun h => absurd h.1 (by decide)) (w32_id (by omega) (by omega)) ?_
    refine x_goto T_354_118 ?_
    refine x_si (ls1 := [some (vR (some 2281)), some (vI p), some (vI 0), some (vI 1), some (vI (N - 2)), none, none, none, none, none]) T_354_125 rfl ?_
    refine x_li (z := 0) T_354_127 rfl ?_
    refine x_if T_354_128 (fun h => absurd (show ¬ (0 : Int) = 0 from h) (by decide)) (fun _ => ?_)
    refine x_li (z := 1) T_354_131 rfl ?_
    refine x_if T_354_132 (fun _ => ?_) (fun h => absurd (show ¬ (1 : Int) = 0 by decide) h)
    exact hy σ hP
  · rw [hE, if_neg (show ¬ (2 : Int) = 0 by decide)]
    have hy := fun (σ : hM) (hP : PM σ0 P S σ) => m_echo_yes (fb := fb) (d := d) (v2 := 1) (v3 := 0) (z := N - 2) (Or.inr rfl) hP hK hp hT hN ⟨by omega, by omega⟩
    show WP fb (d + 16) 354 104 [some (vR (some 2281)), some (vI p), some (vI 1), some (vI 0), none, none, none, none, none, none] [] σ (KC (T + 624) U σ0 S l (cEcho1 P p 1 l (N - 2) (lnB l (N - 1))).1 (cEcho1 P p 1 l (N - 2) (lnB l (N - 1))).2.1 (cEcho1 P p 1 l (N - 2) (lnB l (N - 1))).2.2)
    refine x_li (z := 1) T_354_104 rfl ?_
    refine x_if T_354_105 (fun _ => ?_) (fun h => absurd (show ¬ (1 : Int) = 0 by decide) h)
    refine x_lr (z := some 2281) T_354_112 rfl ?_
    refine x_gI (z := N) T_354_113 (Or.inl F_17_77) (PM.t hP) (Eq.trans (PM.nS hP 2281 77 77 rfl rfl rfl) h77) ?_
    refine x_ic T_354_116 ?_
    refine x_ib (w := (N - 2)) T_354_117 (fun h => absurd h.1 (by decide)) (w32_id (by omega) (by omega)) ?_
    refine x_goto T_354_118 ?_
    refine x_si (ls1 := [some (vR (some 2281)), some (vI p), some (vI 1), some (vI 0), some (vI (N - 2)), none, none, none, none, none]) T_354_125 rfl ?_
    refine x_li (z := 1) T_354_127 rfl ?_
    refine x_if T_354_128 (fun _ => ?_) (fun h => absurd (show ¬ (1 : Int) = 0 by decide) h)
    exact hy σ hP
end MECHO4
