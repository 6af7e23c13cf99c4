/-! join2: as a whole. -/
theorem T_363_171 : hTab 363 171 = some ((3, 0, 2, []), 172) := rfl
theorem T_363_172 : hTab 363 172 = some ((24, 17, Int.ofNat 67, []), 175) := rfl
theorem T_363_175 : hTab 363 175 = some ((3, 9, 0, []), 177) := rfl
theorem T_363_177 : hTab 363 177 = some ((3, 0, 2, []), 178) := rfl
theorem T_363_178 : hTab 363 178 = some ((24, 17, Int.ofNat 99, []), 181) := rfl
theorem T_363_181 : hTab 363 181 = some ((27, 0, 0, []), 182) := rfl
theorem T_363_182 : hTab 363 182 = some ((0, 0, 0, []), 183) := rfl
theorem T_363_183 : hTab 363 183 = some ((4, 10, 0, []), 185) := rfl
theorem T_363_280 : hTab 363 280 = some ((3, 0, 2, []), 281) := rfl
theorem T_363_281 : hTab 363 281 = some ((0, 0, 0, []), 282) := rfl
theorem T_363_282 : hTab 363 282 = some ((25, 17, Int.ofNat 91, []), 285) := rfl
theorem T_363_285 : hTab 363 285 = some ((3, 8, 0, []), 287) := rfl
theorem T_363_287 : hTab 363 287 = some ((18, 1, Int.ofNat 309, []), 290) := rfl
theorem T_363_290 : hTab 363 290 = some ((3, 0, 2, []), 291) := rfl
theorem T_363_291 : hTab 363 291 = some ((0, 0, 120, []), 293) := rfl
theorem T_363_293 : hTab 363 293 = some ((3, 0, 2, []), 294) := rfl
theorem T_363_294 : hTab 363 294 = some ((24, 17, Int.ofNat 86, []), 297) := rfl
theorem T_363_297 : hTab 363 297 = some ((0, 0, 1, []), 298) := rfl
theorem T_363_298 : hTab 363 298 = some ((26, 0, 0, []), 299) := rfl
theorem T_363_299 : hTab 363 299 = some ((3, 0, 2, []), 300) := rfl
theorem T_363_300 : hTab 363 300 = some ((24, 17, Int.ofNat 87, []), 303) := rfl
theorem T_363_303 : hTab 363 303 = some ((0, 0, 1, []), 304) := rfl
theorem T_363_304 : hTab 363 304 = some ((26, 0, 0, []), 305) := rfl
theorem T_363_305 : hTab 363 305 = some ((31, 345, 0, []), 308) := rfl
theorem T_363_308 : hTab 363 308 = some ((7, 0, 0, []), 309) := rfl
theorem T_363_309 : hTab 363 309 = some ((33, 0, 0, []), 310) := rfl
section MJOIN3
variable {fb : Bool} {d : Nat} {σ0 σ : hM} {P Q R S S1 S2 : qR} {T U s w g u p k e t z o thr pt off n N v mk fr bf bh old : Int} {l l1 l2 nm wd A : List Int} {h : List Ch} {f : Int → Int} {x : Nw} {c c1 : Ch} {ns : List Nw}
theorem jnP_pts (hPT : ∀ g k : Int, 0 ≤ g → g < 8 → 0 ≤ k → k < P 2334 g → ¬ 8 * g + k = pt → 1 ≤ P 2337 (8 * g + k)) (hn : 1 ≤ ns.length) : PTS (jnP P pt ns) := fun g k a1 a2 a3 a4 => by
  have e1 : jnP P pt ns 2334 g = P 2334 g := (gSt_rf _ _ _ 2334 g rfl).trans (rU_f (by decide))
  rw [e1] at a4
  have e2 : jnP P pt ns 2337 (8 * g + k) = rU P 2337 pt (ns.length : Int) 2337 (8 * g + k) := gSt_rf _ _ _ 2337 _ rfl
  rw [e2]
  by_cases q : 8 * g + k = pt
  · rw [q, rU_s]
    omega
  · rw [rU_k q]
    exact hPT g k a1 a2 a3 a4 q
theorem NW.sk (hN : NW S ns) (hS : SK S S1) : NW S1 ns := by
  have e : ∀ f : Nat, scrR f = true → f ≠ 2285 → f ≠ 2286 → f ≠ 2287 → f ≠ 2288 → f ≠ 2350 → f ≠ 2351 → f ≠ 2352 → f ≠ 2353 → f ≠ 2354 → ∀ k, S1 f k = S f k := fun f a1 a2 a3 a4 a5 a6 a7 a8 a9 a10 k => hS.2 f k a1 a2 a3 a4 a5 a6 a7 a8 a9 a10
  refine ⟨(hS.1 99 (by decide) (by decide) (by decide) (by decide) (by decide) (by decide) (by decide) (by decide)).trans hN.1, hN.2.1, fun i hi => ?_⟩
  have := hN.2.2 i hi
  rw [e 2356 rfl (by decide) (by decide) (by decide) (by decide) (by decide) (by decide) (by decide) (by decide) (by decide), e 2357 rfl (by decide) (by decide) (by decide) (by decide) (by decide) (by decide) (by decide) (by decide) (by decide), e 2358 rfl (by decide) (by decide) (by decide) (by decide) (by decide) (by decide) (by decide) (by decide) (by decide), e 2359 rfl (by decide) (by decide) (by decide) (by decide) (by decide) (by decide) (by decide) (by decide) (by decide), e 2360 rfl (by decide) (by decide) (by decide) (by decide) (by decide) (by decide) (by decide) (by decide) (by decide)]
  exact this
theorem KS.none (hK : KS T U P S l h) : KS T U P (rU S 2281 91 0) l [] := ⟨hK.1, hK.2.1, hK.2.2.1.uN 91 91 rfl (by show (0 : Int) ≤ 0 ∧ (0 : Int) ≤ 64; decide), hK.2.2.2.1.less (j := 0) (Nat.zero_le _), hK.2.2.2.2.of (rU_k (by decide)) (rU_k (by decide)) (fun _ => rU_f (by decide)) (fun _ => rU_f (by decide)) (fun _ => rU_f (by decide))⟩
theorem m_join_tail {v0 : Int} (hP : PM σ0 P S σ) (hG : GI T U P) (hPT : ∀ g k : Int, 0 ≤ g → g < 8 → 0 ≤ k → k < P 2334 g → ¬ 8 * g + k = pt → 1 ≤ P 2337 (8 * g + k)) (hJ : IV true T U S) (hH : HS S h) (hL : LN S l) (hN : NW S ns) (hn1 : 1 ≤ ns.length) (hpt : 0 ≤ pt ∧ pt < 64) (hc1 : h[1]? = some c1) (hw : w = 0 ∨ w = 1) (hT : T + 100 ≤ 2147483000) : WP fb (d + 12) 363 171 [some (vR (some 2281)), some (vI p), some (vI old), some (vI fr), some (vI bf), some (vI bh), some (vI mk), some (vI v0), some (vI w), some (vI pt), none, none] [] σ (fun r σ' => ∃ S2 : qR, r = none ∧ PM σ0 (cJn P pt ns c1 w) S2 σ' ∧ KS (T + 4) U (cJn P pt ns c1 w) S2 l [] ∧ SX scR scN S S2) := by
  have h99 := hN.1
  have h6 := hN.2.1
  have hPTJ := jnP_pts hPT hn1
  have hci := HS.ci hJ hH hc1
  obtain ⟨f1, f2, f3, f4, f5⟩ := hH.get (z := 1) (i := 1) rfl hc1
  obtain ⟨n, hn⟩ : ∃ n : Int, (ns.length : Int) = n := ⟨_, rfl⟩
  rw [hn] at h99
  have h1 := GI_one (f := 2337) (j := pt) (v := n) (ty := 0) (len := 64) hG rfl (show 0 ≤ n ∧ n ≤ 6 by omega) rfl rfl rfl rfl rfl rfl rfl rfl rfl (by decide) (by decide)
  refine x_lr (z := some 2281) T_363_171 rfl ?_
  refine x_gR (z := some 2337) T_363_172 F_17_67 (PM.t hP) (PM.r hP 67 2337 rfl) ?_
  refine x_li (z := pt) T_363_175 rfl ?_
  refine x_lr (z := some 2281) T_363_177 rfl ?_
  refine x_gI (z := n) T_363_178 (Or.inl F_17_99) (PM.t hP) (Eq.trans (PM.nS hP 2281 99 99 rfl rfl rfl) h99) ?_
  refine y_aIP hP T_363_181 2337 64 rfl rfl rfl (by omega) (by omega) (fun σ hP => ?_)
  refine x_ic T_363_182 ?_
  refine x_si (ls1 := [some (vR (some 2281)), some (vI p), some (vI old), some (vI fr), some (vI bf), some (vI bh), some (vI mk), some (vI v0), some (vI w), some (vI pt), some (vI 0), none]) T_363_183 rfl ?_
  refine m_join_st (d := d + 12) hJ hN hpt ns 0 _ σ none (by omega) (fun i hi => by rw [Nat.zero_add]) hP h1 ?_
  clear hP
  intro σ l11 hG3 hP
  rw [hn]
  have hK3 : KS T U (gSt pt ns ((0 : Nat) : Int) (rU P 2337 pt n)) S l h := ⟨hG3, by rw [← hn]; exact hPTJ, hJ, hH, hL⟩
  have hK4 := hK3.none
  obtain ⟨P3, hP3⟩ : ∃ P3, gSt pt ns ((0 : Nat) : Int) (rU P 2337 pt n) = P3 := ⟨_, rfl⟩
  have hP3' : jnP P pt ns = P3 := by
    rw [← hP3, ← hn]
    rfl
  unfold cJn
  rw [hP3'] at hPTJ ⊢
  rw [hP3] at hP hK4
  rcases hw with rfl | rfl
  · rw [if_neg (show ¬ (0 : Int) = 1 by decide)]
    have f1 : (rU S 2281 91 0) 2350 1 = c1.1 := (rU_f (by decide)).trans f1
    have f2 : (rU S 2281 91 0) 2351 1 = c1.2.1 := (rU_f (by decide)).trans f2
    have ha := fun (σ : hM) (hP : PM σ0 P3 (rU S 2281 91 0) σ) => g_askOne (fb := fb) (d := d) (s := c1.1) (f := c1.2.1) hP hK4.2.2.1 hK4.1 (by omega) (by omega) (Or.inl rfl)
    refine x_lr (z := some 2281) T_363_280 rfl ?_
    refine x_ic T_363_281 ?_
    refine y_pIS hP T_363_282 F_17_91 91 rfl rfl (fun σ hP => ?_)
    refine x_li (z := 0) T_363_285 rfl ?_
    refine x_if T_363_287 (fun h => absurd (show ¬ (0 : Int) = 0 from h) (by decide)) (fun _ => ?_)
    refine x_lr (z := some 2281) T_363_290 rfl ?_
    refine x_ic T_363_291 ?_
    refine x_lr (z := some 2281) T_363_293 rfl ?_
    refine x_gR (z := some 2350) T_363_294 F_17_86 (PM.t hP) (PM.r hP 86 2350 rfl) ?_
    refine x_ic T_363_297 ?_
    refine x_alI (z := c1.1) T_363_298 (by decide) (PM.ta hP 2350 0 64 rfl rfl) (by omega) (by omega) (Eq.trans (PM.aS hP 2350 rfl rfl (by omega)) f1) ?_
    refine x_lr (z := some 2281) T_363_299 rfl ?_
    refine x_gR (z := some 2351) T_363_300 F_17_87 (PM.t hP) (PM.r hP 87 2351 rfl) ?_
    refine x_ic T_363_303 ?_
    refine x_alI (z := c1.2.1) T_363_304 (by decide) (PM.ta hP 2351 0 64 rfl rfl) (by omega) (by omega) (Eq.trans (PM.aS hP 2351 rfl rfl (by omega)) f2) ?_
    refine x_cv4 T_363_305 mN_345 mL_345 (Nat.le_of_ble_eq_true rfl) mO_345 (PM.t hP) (Nat.le_of_ble_eq_true rfl) (ha σ hP) ?_
    clear hP
    intro r σ hr
    obtain ⟨S2, rfl, hP, hK5, hX5, -⟩ := hK4.ask (T1 := T + 4) (by omega) hr
    refine cI ?_
    refine x_popI T_363_308 ?_
    refine x_rv T_363_309 ?_
    exact ⟨S2, rfl, hP, hK5, SX_tr (SX_un SX_rfl rfl) hX5⟩
  · rw [if_pos rfl]
    refine x_lr (z := some 2281) T_363_280 rfl ?_
    refine x_ic T_363_281 ?_
    refine y_pIS hP T_363_282 F_17_91 91 rfl rfl (fun σ hP => ?_)
    refine x_li (z := 1) T_363_285 rfl ?_
    refine x_if T_363_287 (fun _ => ?_) (fun h => absurd (show ¬ (1 : Int) = 0 by decide) h)
    refine x_rv T_363_309 ?_
    exact ⟨_, rfl, hP, hK4.mono (by omega), SX_un SX_rfl rfl⟩
end MJOIN3
