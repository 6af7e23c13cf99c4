/-! The class's servers: each type of message. -/
theorem T_26_92 : hTab 26 92 = some ((0, 0, 14, []), 94) := rfl
theorem T_26_94 : hTab 26 94 = some ((4, 7, 0, []), 96) := rfl
theorem T_26_96 : hTab 26 96 = some ((3, 2, 2, []), 97) := rfl
theorem T_26_97 : hTab 26 97 = some ((31, 28, 0, []), 100) := rfl
theorem T_26_100 : hTab 26 100 = some ((3, 0, 2, []), 101) := rfl
theorem T_26_101 : hTab 26 101 = some ((3, 1, 0, []), 102) := rfl
theorem T_26_102 : hTab 26 102 = some ((31, 34, 0, []), 105) := rfl
theorem T_26_105 : hTab 26 105 = some ((19, 4, Int.ofNat 368, []), 108) := rfl
theorem T_26_108 : hTab 26 108 = some ((3, 0, 2, []), 109) := rfl
theorem T_26_109 : hTab 26 109 = some ((3, 4, 0, []), 111) := rfl
theorem T_26_111 : hTab 26 111 = some ((31, 35, 0, []), 114) := rfl
theorem T_26_114 : hTab 26 114 = some ((18, 0, Int.ofNat 368, []), 117) := rfl
theorem T_26_117 : hTab 26 117 = some ((3, 4, 0, []), 119) := rfl
theorem T_26_119 : hTab 26 119 = some ((0, 0, 110, []), 121) := rfl
theorem T_26_121 : hTab 26 121 = some ((19, 3, Int.ofNat 128, []), 124) := rfl
theorem T_26_124 : hTab 26 124 = some ((2, 0, 0, []), 125) := rfl
theorem T_26_125 : hTab 26 125 = some ((22, 0, Int.ofNat 140, []), 128) := rfl
theorem T_26_128 : hTab 26 128 = some ((3, 0, 2, []), 129) := rfl
theorem T_26_129 : hTab 26 129 = some ((3, 1, 0, []), 130) := rfl
theorem T_26_130 : hTab 26 130 = some ((3, 2, 2, []), 131) := rfl
theorem T_26_131 : hTab 26 131 = some ((0, 0, 7, []), 133) := rfl
theorem T_26_133 : hTab 26 133 = some ((0, 0, 4, []), 134) := rfl
theorem T_26_134 : hTab 26 134 = some ((31, 29, 0, []), 137) := rfl
theorem T_26_137 : hTab 26 137 = some ((31, 39, 0, []), 140) := rfl
theorem T_26_140 : hTab 26 140 = some ((4, 8, 2, []), 142) := rfl
theorem T_26_142 : hTab 26 142 = some ((3, 4, 0, []), 144) := rfl
theorem T_26_144 : hTab 26 144 = some ((0, 0, 110, []), 146) := rfl
theorem T_26_146 : hTab 26 146 = some ((19, 3, Int.ofNat 183, []), 149) := rfl
theorem T_26_149 : hTab 26 149 = some ((3, 4, 0, []), 151) := rfl
theorem T_26_151 : hTab 26 151 = some ((0, 0, 100, []), 153) := rfl
theorem T_26_153 : hTab 26 153 = some ((19, 1, Int.ofNat 163, []), 156) := rfl
theorem T_26_156 : hTab 26 156 = some ((3, 0, 2, []), 157) := rfl
theorem T_26_157 : hTab 26 157 = some ((31, 40, 0, []), 160) := rfl
theorem T_26_160 : hTab 26 160 = some ((22, 0, Int.ofNat 178, []), 163) := rfl
theorem T_26_163 : hTab 26 163 = some ((3, 4, 0, []), 165) := rfl
theorem T_26_165 : hTab 26 165 = some ((0, 0, 104, []), 167) := rfl
theorem T_26_167 : hTab 26 167 = some ((19, 1, Int.ofNat 177, []), 170) := rfl
theorem T_26_170 : hTab 26 170 = some ((3, 0, 2, []), 171) := rfl
theorem T_26_171 : hTab 26 171 = some ((31, 48, 0, []), 174) := rfl
theorem T_26_174 : hTab 26 174 = some ((22, 0, Int.ofNat 178, []), 177) := rfl
theorem T_26_177 : hTab 26 177 = some ((0, 0, 0, []), 178) := rfl
theorem T_26_178 : hTab 26 178 = some ((4, 7, 0, []), 180) := rfl
theorem T_26_180 : hTab 26 180 = some ((22, 0, Int.ofNat 368, []), 183) := rfl
theorem T_26_183 : hTab 26 183 = some ((3, 8, 2, []), 185) := rfl
theorem T_26_185 : hTab 26 185 = some ((20, 1, Int.ofNat 195, []), 188) := rfl
theorem T_26_188 : hTab 26 188 = some ((0, 0, 6, []), 190) := rfl
theorem T_26_190 : hTab 26 190 = some ((4, 7, 0, []), 192) := rfl
theorem T_26_192 : hTab 26 192 = some ((22, 0, Int.ofNat 368, []), 195) := rfl
theorem T_26_195 : hTab 26 195 = some ((3, 4, 0, []), 197) := rfl
theorem T_26_197 : hTab 26 197 = some ((23, 360, 110, [272, 360, 283, 360, 294, 360, 305, 360, 316, 360, 327, 360, 338, 360, 349]), 272) := rfl
theorem T_26_272 : hTab 26 272 = some ((3, 0, 2, []), 273) := rfl
theorem T_26_273 : hTab 26 273 = some ((3, 8, 2, []), 275) := rfl
theorem T_26_275 : hTab 26 275 = some ((31, 54, 0, []), 278) := rfl
theorem T_26_278 : hTab 26 278 = some ((4, 7, 0, []), 280) := rfl
theorem T_26_280 : hTab 26 280 = some ((22, 0, Int.ofNat 368, []), 283) := rfl
theorem T_26_283 : hTab 26 283 = some ((3, 0, 2, []), 284) := rfl
theorem T_26_284 : hTab 26 284 = some ((3, 8, 2, []), 286) := rfl
theorem T_26_286 : hTab 26 286 = some ((31, 59, 0, []), 289) := rfl
theorem T_26_289 : hTab 26 289 = some ((4, 7, 0, []), 291) := rfl
theorem T_26_291 : hTab 26 291 = some ((22, 0, Int.ofNat 368, []), 294) := rfl
theorem T_26_294 : hTab 26 294 = some ((3, 0, 2, []), 295) := rfl
theorem T_26_295 : hTab 26 295 = some ((3, 8, 2, []), 297) := rfl
theorem T_26_297 : hTab 26 297 = some ((31, 64, 0, []), 300) := rfl
theorem T_26_300 : hTab 26 300 = some ((4, 7, 0, []), 302) := rfl
theorem T_26_302 : hTab 26 302 = some ((22, 0, Int.ofNat 368, []), 305) := rfl
theorem T_26_305 : hTab 26 305 = some ((3, 0, 2, []), 306) := rfl
theorem T_26_306 : hTab 26 306 = some ((3, 8, 2, []), 308) := rfl
theorem T_26_308 : hTab 26 308 = some ((31, 68, 0, []), 311) := rfl
theorem T_26_311 : hTab 26 311 = some ((4, 7, 0, []), 313) := rfl
theorem T_26_313 : hTab 26 313 = some ((22, 0, Int.ofNat 368, []), 316) := rfl
theorem T_26_316 : hTab 26 316 = some ((3, 0, 2, []), 317) := rfl
theorem T_26_317 : hTab 26 317 = some ((3, 8, 2, []), 319) := rfl
theorem T_26_319 : hTab 26 319 = some ((31, 78, 0, []), 322) := rfl
theorem T_26_322 : hTab 26 322 = some ((4, 7, 0, []), 324) := rfl
theorem T_26_324 : hTab 26 324 = some ((22, 0, Int.ofNat 368, []), 327) := rfl
theorem T_26_327 : hTab 26 327 = some ((3, 0, 2, []), 328) := rfl
theorem T_26_328 : hTab 26 328 = some ((3, 8, 2, []), 330) := rfl
theorem T_26_330 : hTab 26 330 = some ((31, 83, 0, []), 333) := rfl
theorem T_26_333 : hTab 26 333 = some ((4, 7, 0, []), 335) := rfl
theorem T_26_335 : hTab 26 335 = some ((22, 0, Int.ofNat 368, []), 338) := rfl
theorem T_26_338 : hTab 26 338 = some ((3, 0, 2, []), 339) := rfl
theorem T_26_339 : hTab 26 339 = some ((3, 8, 2, []), 341) := rfl
theorem T_26_341 : hTab 26 341 = some ((31, 84, 0, []), 344) := rfl
theorem T_26_344 : hTab 26 344 = some ((4, 7, 0, []), 346) := rfl
theorem T_26_346 : hTab 26 346 = some ((22, 0, Int.ofNat 368, []), 349) := rfl
theorem T_26_349 : hTab 26 349 = some ((3, 0, 2, []), 350) := rfl
theorem T_26_350 : hTab 26 350 = some ((3, 8, 2, []), 352) := rfl
theorem T_26_352 : hTab 26 352 = some ((31, 85, 0, []), 355) := rfl
theorem T_26_355 : hTab 26 355 = some ((4, 7, 0, []), 357) := rfl
theorem T_26_357 : hTab 26 357 = some ((22, 0, Int.ofNat 368, []), 360) := rfl
theorem T_26_360 : hTab 26 360 = some ((3, 0, 2, []), 361) := rfl
theorem T_26_361 : hTab 26 361 = some ((3, 8, 2, []), 363) := rfl
theorem T_26_363 : hTab 26 363 = some ((31, 86, 0, []), 366) := rfl
theorem T_26_366 : hTab 26 366 = some ((4, 7, 0, []), 368) := rfl
theorem mN_26 : hmN 26 = 4 := by decide +kernel
theorem mL_26 : hmL 26 = 9 := by decide +kernel
theorem mK_26 : hmK 26 = 1 := by decide +kernel
theorem mO_26 : hmO 26 = 7 := by decide +kernel
section XSRVB
variable {fb : Bool} {d S rp mb M : Nat} {σ0 σ : hM} {W P Q : qR} {R : rR} {z s e w K T U c tg : Int} {ord l l2 L : List Int} {t : Nat → Nat}
theorem sv_100 {Post : Option AV → hM → Prop} (hP : PX σ0 W R σ) (hS : VS S s) (hX : XV W R P S s ord t) (hK : CT K W R) (hG : GI T U P) (hD : PKK P) (hT : T + 98 ≤ 2147483000) (hIO : SCR W P) (hst : s = 2 → ∀ p, 0 ≤ p → p < 8 → ¬ P 2320 p = 0 → PST W R P p (295 + 125 * p.toNat)) (hr : R S 2233 = some mb) (hrp : R S 2234 = some rp) (hcn : W S 2235 = c) (hc : c = 0 ∨ c = 1) (hB : BY W mb M l) (hz : (l.length : Int) = z) (hz7 : 7 ≤ z) (hmo : mb + 1 < S ∨ S + 294 ≤ mb) (hBr : BY W rp 300 l2) (hro : rp + 1 < S ∨ S + 294 ≤ rp) (hmr : mb ≠ rp) (hroom : l2.length = 7) (n1 : rp ≠ 130) (n2 : rp ≠ 132) (m2 : mb ≠ 132) (hsz : z ≤ P 2313 (2 * s + c)) (he : srE P s c 100 (lg l) z = e) (hQ : srP P s c 100 (lg l) z = Q) (hL : srL P s c 100 (lg l) z = L) (hmid : ∀ (σ' : hM) (x8 : Option AV), XT σ0 K W R S rp s e Q (l2 ++ L) (some (vI e)) σ' → WP fb (d + 7) 26 368 [some (vR (some S)), some (vI c), some (vR (some mb)), some (vR (some rp)), some (vI 100), some (vL tg), none, some (vI e), x8] [] σ' Post) : WP fb (d + 7) 26 92 [some (vR (some S)), some (vI c), some (vR (some mb)), some (vR (some rp)), some (vI 100), some (vL tg), none, none, none] [] σ Post := by
  have hO := hS.o
  have hbm := hB.1
  have hsr := hS.1
  have hb8 := hB.2.2.2.2.2.1
  have hn1 := hB.2.2.1
  have hlz := hB.2.2.2.2.1
  have hsz0 := x_size (fb := fb) (d := d + 6) hP hB hz
  have hso := x_sizeOf (fb := fb) (d := d + 6) (z := P 2313 (2 * s + c)) hP hS hc (by rcases hc with rfl | rfl; (rw [Int.add_zero]; exact hX.2.2.1.1); exact hX.2.2.1.2.1)
  obtain ⟨mz, hmz⟩ : ∃ q, P 2313 (2 * s + c) = q := ⟨_, rfl⟩
  rw [hmz] at hso hsz
  have hIOQ : SCR W Q := by rw [← hQ]; exact hIO.iof (IOF_srP (by decide) (by decide))
  have hE : srE P s c 100 (lg l) z = vsE (lg l) z := rfl
  have hQ2 : srP P s c 100 (lg l) z = (if vsE (lg l) z = 0 then vsP P s c (lg l) else P) := rfl
  rw [he] at hE
  rw [hQ] at hQ2
  have hno : ∀ e0 : Int, ¬ e0 = 0 → e = e0 → Q = P → XT σ0 K W R S rp s e Q (l2 ++ L) (some (vI e0)) σ := fun e0 q1 q2 q3 => by
    rw [q2, q3]
    exact ⟨rfl, W, R, ord, t, l2, hP, hBr, fun c => absurd c q1, hX, hK, FVX_of FV_rfl, hIO⟩
  have hwh := x_isWhole (fb := fb) (d := d + 4) (k := 100) hP hS hr hB hz
  rw [show whlV (lg l) z 100 = (if sE (lg l) z 11 = z then 1 else 0) from rfl] at hwh
  by_cases hw : sE (lg l) z 11 = z
  rotate_left
  · rw [if_neg hw] at hwh
    have h14 : vsE (lg l) z = 14 := if_pos hw
    rw [h14] at hE
    rw [h14, if_neg (show ¬ (14 : Int) = 0 by decide)] at hQ2
    have hgo := hmid σ none (by rw [hE]; rw [hE] at hno; exact hno 14 (by decide) rfl hQ2)
    rw [hE] at hgo
    refine x_ic T_26_92 ?_
    refine x_si (ls1 := [some (vR (some S)), some (vI c), some (vR (some mb)), some (vR (some rp)), some (vI 100), some (vL tg), none, some (vI 14), none]) T_26_94 rfl ?_
    refine x_lr (z := some mb) T_26_96 rfl ?_
    refine x_cv1 T_26_97 mN_28 mL_28 (Nat.le_of_ble_eq_true rfl) mO_28 (hP.o hbm) (Nat.le_of_ble_eq_true rfl) (hsz0) ?_
    rintro _ σ ⟨rfl, rfl⟩
    refine cI ?_
    refine x_lr (z := some S) T_26_100 rfl ?_
    refine x_li (z := c) T_26_101 rfl ?_
    refine x_cv2 T_26_102 mN_34 mL_34 (Nat.le_of_ble_eq_true rfl) mO_34 (hP.o hO) (Nat.le_of_ble_eq_true rfl) (hso) ?_
    rintro _ σ ⟨rfl, rfl⟩
    refine cI ?_
    refine x_ic2 T_26_105 (fun h => absurd (show mz < z from h) (by omega)) (fun _ => ?_)
    refine x_lr (z := some S) T_26_108 rfl ?_
    refine x_li (z := 100) T_26_109 rfl ?_
    refine x_cv2 T_26_111 mN_35 mL_35 (Nat.le_of_ble_eq_true rfl) mO_35 (hP.o hO) (Nat.le_of_ble_eq_true rfl) (hwh) ?_
    rintro _ σ ⟨rfl, rfl⟩
    refine cI ?_
    refine x_if T_26_114 (fun _ => ?_) (fun h => absurd (show (0 : Int) = 0 by decide) h)
    exact hgo
  rw [if_pos hw] at hwh
  have hdo := x_doVersion (fb := fb) (d := d) hP hS hX hK hG hD.1 hT hr hrp hcn hc hB hz hmo hBr hro hmr (by omega) hw
  rw [← hQ2, ← hE] at hdo
  have hdo : CL fb (d + 6) 40 [vR (some S)] σ (XS σ0 K W R S rp s e Q (l2 ++ L)) := by rw [← hL]; exact hdo
  refine x_ic T_26_92 ?_
  refine x_si (ls1 := [some (vR (some S)), some (vI c), some (vR (some mb)), some (vR (some rp)), some (vI 100), some (vL tg), none, some (vI 14), none]) T_26_94 rfl ?_
  refine x_lr (z := some mb) T_26_96 rfl ?_
  refine x_cv1 T_26_97 mN_28 mL_28 (Nat.le_of_ble_eq_true rfl) mO_28 (hP.o hbm) (Nat.le_of_ble_eq_true rfl) (hsz0) ?_
  rintro _ σ ⟨rfl, rfl⟩
  refine cI ?_
  refine x_lr (z := some S) T_26_100 rfl ?_
  refine x_li (z := c) T_26_101 rfl ?_
  refine x_cv2 T_26_102 mN_34 mL_34 (Nat.le_of_ble_eq_true rfl) mO_34 (hP.o hO) (Nat.le_of_ble_eq_true rfl) (hso) ?_
  rintro _ σ ⟨rfl, rfl⟩
  refine cI ?_
  refine x_ic2 T_26_105 (fun h => absurd (show mz < z from h) (by omega)) (fun _ => ?_)
  refine x_lr (z := some S) T_26_108 rfl ?_
  refine x_li (z := 100) T_26_109 rfl ?_
  refine x_cv2 T_26_111 mN_35 mL_35 (Nat.le_of_ble_eq_true rfl) mO_35 (hP.o hO) (Nat.le_of_ble_eq_true rfl) (hwh) ?_
  rintro _ σ ⟨rfl, rfl⟩
  refine cI ?_
  refine x_if T_26_114 (fun h => absurd (show (1 : Int) = 0 from h) (by decide)) (fun _ => ?_)
  refine x_li (z := 100) T_26_117 rfl ?_
  refine x_ic T_26_119 ?_
  refine x_ic2 T_26_121 (fun h => absurd (show 110 ≤ (100 : Int) from h) (by decide)) (fun _ => ?_)
  refine x_nu T_26_124 ?_
  refine x_goto T_26_125 ?_
  refine x_sr (ls1 := [some (vR (some S)), some (vI c), some (vR (some mb)), some (vR (some rp)), some (vI 100), some (vL tg), none, some (vI 14), some (vR none)]) T_26_140 rfl ?_
  refine x_li (z := 100) T_26_142 rfl ?_
  refine x_ic T_26_144 ?_
  refine x_ic2 T_26_146 (fun h => absurd (show 110 ≤ (100 : Int) from h) (by decide)) (fun _ => ?_)
  refine x_li (z := 100) T_26_149 rfl ?_
  refine x_ic T_26_151 ?_
  refine x_ic2 T_26_153 (fun h => absurd (show ¬ (100 : Int) = 100 from h) (by decide)) (fun _ => ?_)
  refine x_lr (z := some S) T_26_156 rfl ?_
  refine x_cv1 T_26_157 mN_40 mL_40 (Nat.le_of_ble_eq_true rfl) mO_40 (hP.o hO) (Nat.le_of_ble_eq_true rfl) (hdo) ?_
  clear hP hX
  rintro _ σ h1
  obtain ⟨rfl, -⟩ := id h1
  refine cI ?_
  refine x_goto T_26_160 ?_
  refine x_si (ls1 := [some (vR (some S)), some (vI c), some (vR (some mb)), some (vR (some rp)), some (vI 100), some (vL tg), none, some (vI e), some (vR none)]) T_26_178 rfl ?_
  refine x_goto T_26_180 ?_
  exact hmid σ _ (XT_of h1 hS hIOQ n1 n2)
theorem sv_104 {Post : Option AV → hM → Prop} (hP : PX σ0 W R σ) (hS : VS S s) (hX : XV W R P S s ord t) (hK : CT K W R) (hG : GI T U P) (hD : PKK P) (hT : T + 98 ≤ 2147483000) (hIO : SCR W P) (hst : s = 2 → ∀ p, 0 ≤ p → p < 8 → ¬ P 2320 p = 0 → PST W R P p (295 + 125 * p.toNat)) (hr : R S 2233 = some mb) (hrp : R S 2234 = some rp) (hcn : W S 2235 = c) (hc : c = 0 ∨ c = 1) (hB : BY W mb M l) (hz : (l.length : Int) = z) (hz7 : 7 ≤ z) (hmo : mb + 1 < S ∨ S + 294 ≤ mb) (hBr : BY W rp 300 l2) (hro : rp + 1 < S ∨ S + 294 ≤ rp) (hmr : mb ≠ rp) (hroom : l2.length = 7) (n1 : rp ≠ 130) (n2 : rp ≠ 132) (m2 : mb ≠ 132) (hsz : z ≤ P 2313 (2 * s + c)) (he : srE P s c 104 (lg l) z = e) (hQ : srP P s c 104 (lg l) z = Q) (hL : srL P s c 104 (lg l) z = L) (hmid : ∀ (σ' : hM) (x8 : Option AV), XT σ0 K W R S rp s e Q (l2 ++ L) (some (vI e)) σ' → WP fb (d + 7) 26 368 [some (vR (some S)), some (vI c), some (vR (some mb)), some (vR (some rp)), some (vI 104), some (vL tg), none, some (vI e), x8] [] σ' Post) : WP fb (d + 7) 26 92 [some (vR (some S)), some (vI c), some (vR (some mb)), some (vR (some rp)), some (vI 104), some (vL tg), none, none, none] [] σ Post := by
  have hO := hS.o
  have hbm := hB.1
  have hsr := hS.1
  have hb8 := hB.2.2.2.2.2.1
  have hn1 := hB.2.2.1
  have hlz := hB.2.2.2.2.1
  have hsz0 := x_size (fb := fb) (d := d + 6) hP hB hz
  have hso := x_sizeOf (fb := fb) (d := d + 6) (z := P 2313 (2 * s + c)) hP hS hc (by rcases hc with rfl | rfl; (rw [Int.add_zero]; exact hX.2.2.1.1); exact hX.2.2.1.2.1)
  obtain ⟨mz, hmz⟩ : ∃ q, P 2313 (2 * s + c) = q := ⟨_, rfl⟩
  rw [hmz] at hso hsz
  have hIOQ : SCR W Q := by rw [← hQ]; exact hIO.iof (IOF_srP (by decide) (by decide))
  have hE : srE P s c 104 (lg l) z = atE P s c (lg l) z := rfl
  have hQ2 : srP P s c 104 (lg l) z = (if atE P s c (lg l) z = 0 then atP P s c (lg l) else P) := rfl
  rw [he] at hE
  rw [hQ] at hQ2
  have hno : ∀ e0 : Int, ¬ e0 = 0 → e = e0 → Q = P → XT σ0 K W R S rp s e Q (l2 ++ L) (some (vI e0)) σ := fun e0 q1 q2 q3 => by
    rw [q2, q3]
    exact ⟨rfl, W, R, ord, t, l2, hP, hBr, fun c => absurd c q1, hX, hK, FVX_of FV_rfl, hIO⟩
  have hwh := x_isWhole (fb := fb) (d := d + 4) (k := 104) hP hS hr hB hz
  rw [show whlV (lg l) z 104 = (if sE (lg l) z (sE (lg l) z 15) = z then 1 else 0) from rfl] at hwh
  by_cases hw : sE (lg l) z (sE (lg l) z 15) = z
  rotate_left
  · rw [if_neg hw] at hwh
    have h14 : atE P s c (lg l) z = 14 := if_pos hw
    rw [h14] at hE
    rw [h14, if_neg (show ¬ (14 : Int) = 0 by decide)] at hQ2
    have hgo := hmid σ none (by rw [hE]; rw [hE] at hno; exact hno 14 (by decide) rfl hQ2)
    rw [hE] at hgo
    refine x_ic T_26_92 ?_
    refine x_si (ls1 := [some (vR (some S)), some (vI c), some (vR (some mb)), some (vR (some rp)), some (vI 104), some (vL tg), none, some (vI 14), none]) T_26_94 rfl ?_
    refine x_lr (z := some mb) T_26_96 rfl ?_
    refine x_cv1 T_26_97 mN_28 mL_28 (Nat.le_of_ble_eq_true rfl) mO_28 (hP.o hbm) (Nat.le_of_ble_eq_true rfl) (hsz0) ?_
    rintro _ σ ⟨rfl, rfl⟩
    refine cI ?_
    refine x_lr (z := some S) T_26_100 rfl ?_
    refine x_li (z := c) T_26_101 rfl ?_
    refine x_cv2 T_26_102 mN_34 mL_34 (Nat.le_of_ble_eq_true rfl) mO_34 (hP.o hO) (Nat.le_of_ble_eq_true rfl) (hso) ?_
    rintro _ σ ⟨rfl, rfl⟩
    refine cI ?_
    refine x_ic2 T_26_105 (fun h => absurd (show mz < z from h) (by omega)) (fun _ => ?_)
    refine x_lr (z := some S) T_26_108 rfl ?_
    refine x_li (z := 104) T_26_109 rfl ?_
    refine x_cv2 T_26_111 mN_35 mL_35 (Nat.le_of_ble_eq_true rfl) mO_35 (hP.o hO) (Nat.le_of_ble_eq_true rfl) (hwh) ?_
    rintro _ σ ⟨rfl, rfl⟩
    refine cI ?_
    refine x_if T_26_114 (fun _ => ?_) (fun h => absurd (show (0 : Int) = 0 by decide) h)
    exact hgo
  rw [if_pos hw] at hwh
  have hdo := x_attS (fb := fb) (d := d + 4) hP hS hX hK hG hr hrp hB hz hBr hro hroom hc hcn hw
  rw [← hQ2, ← hE] at hdo
  have hdo : CL fb (d + 6) 48 [vR (some S)] σ (XS σ0 K W R S rp s e Q (l2 ++ L)) := by rw [← hL]; exact hdo
  refine x_ic T_26_92 ?_
  refine x_si (ls1 := [some (vR (some S)), some (vI c), some (vR (some mb)), some (vR (some rp)), some (vI 104), some (vL tg), none, some (vI 14), none]) T_26_94 rfl ?_
  refine x_lr (z := some mb) T_26_96 rfl ?_
  refine x_cv1 T_26_97 mN_28 mL_28 (Nat.le_of_ble_eq_true rfl) mO_28 (hP.o hbm) (Nat.le_of_ble_eq_true rfl) (hsz0) ?_
  rintro _ σ ⟨rfl, rfl⟩
  refine cI ?_
  refine x_lr (z := some S) T_26_100 rfl ?_
  refine x_li (z := c) T_26_101 rfl ?_
  refine x_cv2 T_26_102 mN_34 mL_34 (Nat.le_of_ble_eq_true rfl) mO_34 (hP.o hO) (Nat.le_of_ble_eq_true rfl) (hso) ?_
  rintro _ σ ⟨rfl, rfl⟩
  refine cI ?_
  refine x_ic2 T_26_105 (fun h => absurd (show mz < z from h) (by omega)) (fun _ => ?_)
  refine x_lr (z := some S) T_26_108 rfl ?_
  refine x_li (z := 104) T_26_109 rfl ?_
  refine x_cv2 T_26_111 mN_35 mL_35 (Nat.le_of_ble_eq_true rfl) mO_35 (hP.o hO) (Nat.le_of_ble_eq_true rfl) (hwh) ?_
  rintro _ σ ⟨rfl, rfl⟩
  refine cI ?_
  refine x_if T_26_114 (fun h => absurd (show (1 : Int) = 0 from h) (by decide)) (fun _ => ?_)
  refine x_li (z := 104) T_26_117 rfl ?_
  refine x_ic T_26_119 ?_
  refine x_ic2 T_26_121 (fun h => absurd (show 110 ≤ (104 : Int) from h) (by decide)) (fun _ => ?_)
  refine x_nu T_26_124 ?_
  refine x_goto T_26_125 ?_
  refine x_sr (ls1 := [some (vR (some S)), some (vI c), some (vR (some mb)), some (vR (some rp)), some (vI 104), some (vL tg), none, some (vI 14), some (vR none)]) T_26_140 rfl ?_
  refine x_li (z := 104) T_26_142 rfl ?_
  refine x_ic T_26_144 ?_
  refine x_ic2 T_26_146 (fun h => absurd (show 110 ≤ (104 : Int) from h) (by decide)) (fun _ => ?_)
  refine x_li (z := 104) T_26_149 rfl ?_
  refine x_ic T_26_151 ?_
  refine x_ic2 T_26_153 (fun _ => ?_) (fun h => absurd (show ¬ (104 : Int) = 100 by decide) h)
  refine x_li (z := 104) T_26_163 rfl ?_
  refine x_ic T_26_165 ?_
  refine x_ic2 T_26_167 (fun h => absurd (show ¬ (104 : Int) = 104 from h) (by decide)) (fun _ => ?_)
  refine x_lr (z := some S) T_26_170 rfl ?_
  refine x_cv1 T_26_171 mN_48 mL_48 (Nat.le_of_ble_eq_true rfl) mO_48 (hP.o hO) (Nat.le_of_ble_eq_true rfl) (hdo) ?_
  clear hP hX
  rintro _ σ h1
  obtain ⟨rfl, -⟩ := id h1
  refine cI ?_
  refine x_goto T_26_174 ?_
  refine x_si (ls1 := [some (vR (some S)), some (vI c), some (vR (some mb)), some (vR (some rp)), some (vI 104), some (vL tg), none, some (vI e), some (vR none)]) T_26_178 rfl ?_
  refine x_goto T_26_180 ?_
  exact hmid σ _ (XT_of h1 hS hIOQ n1 n2)
theorem sv_108 {Post : Option AV → hM → Prop} (hP : PX σ0 W R σ) (hS : VS S s) (hX : XV W R P S s ord t) (hK : CT K W R) (hG : GI T U P) (hD : PKK P) (hT : T + 98 ≤ 2147483000) (hIO : SCR W P) (hst : s = 2 → ∀ p, 0 ≤ p → p < 8 → ¬ P 2320 p = 0 → PST W R P p (295 + 125 * p.toNat)) (hr : R S 2233 = some mb) (hrp : R S 2234 = some rp) (hcn : W S 2235 = c) (hc : c = 0 ∨ c = 1) (hB : BY W mb M l) (hz : (l.length : Int) = z) (hz7 : 7 ≤ z) (hmo : mb + 1 < S ∨ S + 294 ≤ mb) (hBr : BY W rp 300 l2) (hro : rp + 1 < S ∨ S + 294 ≤ rp) (hmr : mb ≠ rp) (hroom : l2.length = 7) (n1 : rp ≠ 130) (n2 : rp ≠ 132) (m2 : mb ≠ 132) (hsz : z ≤ P 2313 (2 * s + c)) (he : srE P s c 108 (lg l) z = e) (hQ : srP P s c 108 (lg l) z = Q) (hL : srL P s c 108 (lg l) z = L) (hmid : ∀ (σ' : hM) (x8 : Option AV), XT σ0 K W R S rp s e Q (l2 ++ L) (some (vI e)) σ' → WP fb (d + 7) 26 368 [some (vR (some S)), some (vI c), some (vR (some mb)), some (vR (some rp)), some (vI 108), some (vL tg), none, some (vI e), x8] [] σ' Post) : WP fb (d + 7) 26 92 [some (vR (some S)), some (vI c), some (vR (some mb)), some (vR (some rp)), some (vI 108), some (vL tg), none, none, none] [] σ Post := by
  have hO := hS.o
  have hbm := hB.1
  have hsr := hS.1
  have hb8 := hB.2.2.2.2.2.1
  have hn1 := hB.2.2.1
  have hlz := hB.2.2.2.2.1
  have hsz0 := x_size (fb := fb) (d := d + 6) hP hB hz
  have hso := x_sizeOf (fb := fb) (d := d + 6) (z := P 2313 (2 * s + c)) hP hS hc (by rcases hc with rfl | rfl; (rw [Int.add_zero]; exact hX.2.2.1.1); exact hX.2.2.1.2.1)
  obtain ⟨mz, hmz⟩ : ∃ q, P 2313 (2 * s + c) = q := ⟨_, rfl⟩
  rw [hmz] at hso hsz
  have hIOQ : SCR W Q := by rw [← hQ]; exact hIO.iof (IOF_srP (by decide) (by decide))
  have hE : srE P s c 108 (lg l) z = (if z = 9 then (0 : Int) else 14) := rfl
  have hQ2 : srP P s c 108 (lg l) z = P := rfl
  rw [he] at hE
  rw [hQ] at hQ2
  have hno : ∀ e0 : Int, ¬ e0 = 0 → e = e0 → Q = P → XT σ0 K W R S rp s e Q (l2 ++ L) (some (vI e0)) σ := fun e0 q1 q2 q3 => by
    rw [q2, q3]
    exact ⟨rfl, W, R, ord, t, l2, hP, hBr, fun c => absurd c q1, hX, hK, FVX_of FV_rfl, hIO⟩
  have hwh := x_isWhole (fb := fb) (d := d + 4) (k := 108) hP hS hr hB hz
  rw [show whlV (lg l) z 108 = (if z = 9 then 1 else 0) from rfl] at hwh
  by_cases hw : z = 9
  rotate_left
  · rw [if_neg hw] at hwh
    have h14 : (if z = 9 then (0 : Int) else 14) = 14 := if_neg hw
    rw [h14] at hE
    have hgo := hmid σ none (by rw [hE]; rw [hE] at hno; exact hno 14 (by decide) rfl hQ2)
    rw [hE] at hgo
    refine x_ic T_26_92 ?_
    refine x_si (ls1 := [some (vR (some S)), some (vI c), some (vR (some mb)), some (vR (some rp)), some (vI 108), some (vL tg), none, some (vI 14), none]) T_26_94 rfl ?_
    refine x_lr (z := some mb) T_26_96 rfl ?_
    refine x_cv1 T_26_97 mN_28 mL_28 (Nat.le_of_ble_eq_true rfl) mO_28 (hP.o hbm) (Nat.le_of_ble_eq_true rfl) (hsz0) ?_
    rintro _ σ ⟨rfl, rfl⟩
    refine cI ?_
    refine x_lr (z := some S) T_26_100 rfl ?_
    refine x_li (z := c) T_26_101 rfl ?_
    refine x_cv2 T_26_102 mN_34 mL_34 (Nat.le_of_ble_eq_true rfl) mO_34 (hP.o hO) (Nat.le_of_ble_eq_true rfl) (hso) ?_
    rintro _ σ ⟨rfl, rfl⟩
    refine cI ?_
    refine x_ic2 T_26_105 (fun h => absurd (show mz < z from h) (by omega)) (fun _ => ?_)
    refine x_lr (z := some S) T_26_108 rfl ?_
    refine x_li (z := 108) T_26_109 rfl ?_
    refine x_cv2 T_26_111 mN_35 mL_35 (Nat.le_of_ble_eq_true rfl) mO_35 (hP.o hO) (Nat.le_of_ble_eq_true rfl) (hwh) ?_
    rintro _ σ ⟨rfl, rfl⟩
    refine cI ?_
    refine x_if T_26_114 (fun _ => ?_) (fun h => absurd (show (0 : Int) = 0 by decide) h)
    exact hgo
  rw [if_pos hw] at hwh
  rw [if_pos hw] at hE
  have hgo := hmid σ (some (vR none)) (by rw [hE, hQ2, ← hL]; exact ⟨rfl, W, R, ord, t, l2, hP, hBr, fun _ => (List.append_nil l2).symm, hX, hK, FVX_of FV_rfl, hIO⟩)
  rw [hE] at hgo
  refine x_ic T_26_92 ?_
  refine x_si (ls1 := [some (vR (some S)), some (vI c), some (vR (some mb)), some (vR (some rp)), some (vI 108), some (vL tg), none, some (vI 14), none]) T_26_94 rfl ?_
  refine x_lr (z := some mb) T_26_96 rfl ?_
  refine x_cv1 T_26_97 mN_28 mL_28 (Nat.le_of_ble_eq_true rfl) mO_28 (hP.o hbm) (Nat.le_of_ble_eq_true rfl) (hsz0) ?_
  rintro _ σ ⟨rfl, rfl⟩
  refine cI ?_
  refine x_lr (z := some S) T_26_100 rfl ?_
  refine x_li (z := c) T_26_101 rfl ?_
  refine x_cv2 T_26_102 mN_34 mL_34 (Nat.le_of_ble_eq_true rfl) mO_34 (hP.o hO) (Nat.le_of_ble_eq_true rfl) (hso) ?_
  rintro _ σ ⟨rfl, rfl⟩
  refine cI ?_
  refine x_ic2 T_26_105 (fun h => absurd (show mz < z from h) (by omega)) (fun _ => ?_)
  refine x_lr (z := some S) T_26_108 rfl ?_
  refine x_li (z := 108) T_26_109 rfl ?_
  refine x_cv2 T_26_111 mN_35 mL_35 (Nat.le_of_ble_eq_true rfl) mO_35 (hP.o hO) (Nat.le_of_ble_eq_true rfl) (hwh) ?_
  rintro _ σ ⟨rfl, rfl⟩
  refine cI ?_
  refine x_if T_26_114 (fun h => absurd (show (1 : Int) = 0 from h) (by decide)) (fun _ => ?_)
  refine x_li (z := 108) T_26_117 rfl ?_
  refine x_ic T_26_119 ?_
  refine x_ic2 T_26_121 (fun h => absurd (show 110 ≤ (108 : Int) from h) (by decide)) (fun _ => ?_)
  refine x_nu T_26_124 ?_
  refine x_goto T_26_125 ?_
  refine x_sr (ls1 := [some (vR (some S)), some (vI c), some (vR (some mb)), some (vR (some rp)), some (vI 108), some (vL tg), none, some (vI 14), some (vR none)]) T_26_140 rfl ?_
  refine x_li (z := 108) T_26_142 rfl ?_
  refine x_ic T_26_144 ?_
  refine x_ic2 T_26_146 (fun h => absurd (show 110 ≤ (108 : Int) from h) (by decide)) (fun _ => ?_)
  refine x_li (z := 108) T_26_149 rfl ?_
  refine x_ic T_26_151 ?_
  refine x_ic2 T_26_153 (fun _ => ?_) (fun h => absurd (show ¬ (108 : Int) = 100 by decide) h)
  refine x_li (z := 108) T_26_163 rfl ?_
  refine x_ic T_26_165 ?_
  refine x_ic2 T_26_167 (fun _ => ?_) (fun h => absurd (show ¬ (108 : Int) = 104 by decide) h)
  refine x_ic T_26_177 ?_
  refine x_si (ls1 := [some (vR (some S)), some (vI c), some (vR (some mb)), some (vR (some rp)), some (vI 108), some (vL tg), none, some (vI 0), some (vR none)]) T_26_178 rfl ?_
  refine x_goto T_26_180 ?_
  exact hgo
theorem sv_110 {Post : Option AV → hM → Prop} (hP : PX σ0 W R σ) (hS : VS S s) (hX : XV W R P S s ord t) (hK : CT K W R) (hG : GI T U P) (hD : PKK P) (hT : T + 98 ≤ 2147483000) (hIO : SCR W P) (hst : s = 2 → ∀ p, 0 ≤ p → p < 8 → ¬ P 2320 p = 0 → PST W R P p (295 + 125 * p.toNat)) (hr : R S 2233 = some mb) (hrp : R S 2234 = some rp) (hcn : W S 2235 = c) (hc : c = 0 ∨ c = 1) (hB : BY W mb M l) (hz : (l.length : Int) = z) (hz7 : 7 ≤ z) (hmo : mb + 1 < S ∨ S + 294 ≤ mb) (hBr : BY W rp 300 l2) (hro : rp + 1 < S ∨ S + 294 ≤ rp) (hmr : mb ≠ rp) (hroom : l2.length = 7) (n1 : rp ≠ 130) (n2 : rp ≠ 132) (m2 : mb ≠ 132) (hsz : z ≤ P 2313 (2 * s + c)) (he : srE P s c 110 (lg l) z = e) (hQ : srP P s c 110 (lg l) z = Q) (hL : srL P s c 110 (lg l) z = L) (hmid : ∀ (σ' : hM) (x8 : Option AV), XT σ0 K W R S rp s e Q (l2 ++ L) (some (vI e)) σ' → WP fb (d + 7) 26 368 [some (vR (some S)), some (vI c), some (vR (some mb)), some (vR (some rp)), some (vI 110), some (vL tg), none, some (vI e), x8] [] σ' Post) : WP fb (d + 7) 26 92 [some (vR (some S)), some (vI c), some (vR (some mb)), some (vR (some rp)), some (vI 110), some (vL tg), none, none, none] [] σ Post := by
  have hO := hS.o
  have hbm := hB.1
  have hsr := hS.1
  have hb8 := hB.2.2.2.2.2.1
  have hn1 := hB.2.2.1
  have hlz := hB.2.2.2.2.1
  have hsz0 := x_size (fb := fb) (d := d + 6) hP hB hz
  have hso := x_sizeOf (fb := fb) (d := d + 6) (z := P 2313 (2 * s + c)) hP hS hc (by rcases hc with rfl | rfl; (rw [Int.add_zero]; exact hX.2.2.1.1); exact hX.2.2.1.2.1)
  obtain ⟨mz, hmz⟩ : ∃ q, P 2313 (2 * s + c) = q := ⟨_, rfl⟩
  rw [hmz] at hso hsz
  have hIOQ : SCR W Q := by rw [← hQ]; exact hIO.iof (IOF_srP (by decide) (by decide))
  have hE : srE P s c 110 (lg l) z = wlE P s c (lg l) z := rfl
  have hQ2 : srP P s c 110 (lg l) z = (if wlE P s c (lg l) z = 0 then wlP P s c (lg l) z else P) := rfl
  rw [he] at hE
  rw [hQ] at hQ2
  have hno : ∀ e0 : Int, ¬ e0 = 0 → e = e0 → Q = P → XT σ0 K W R S rp s e Q (l2 ++ L) (some (vI e0)) σ := fun e0 q1 q2 q3 => by
    rw [q2, q3]
    exact ⟨rfl, W, R, ord, t, l2, hP, hBr, fun c => absurd c q1, hX, hK, FVX_of FV_rfl, hIO⟩
  have hwh := x_isWhole (fb := fb) (d := d + 4) (k := 110) hP hS hr hB hz
  rw [show whlV (lg l) z 110 = (if 17 ≤ z ∧ wkE (lg l) z (nu (lg l) 15 2).toNat 17 = z then 1 else 0) from rfl] at hwh
  by_cases hw : 17 ≤ z ∧ wkE (lg l) z (nu (lg l) 15 2).toNat 17 = z
  rotate_left
  · rw [if_neg hw] at hwh
    have h14 : wlE P s c (lg l) z = 14 := if_pos hw
    rw [h14] at hE
    rw [h14, if_neg (show ¬ (14 : Int) = 0 by decide)] at hQ2
    have hgo := hmid σ none (by rw [hE]; rw [hE] at hno; exact hno 14 (by decide) rfl hQ2)
    rw [hE] at hgo
    refine x_ic T_26_92 ?_
    refine x_si (ls1 := [some (vR (some S)), some (vI c), some (vR (some mb)), some (vR (some rp)), some (vI 110), some (vL tg), none, some (vI 14), none]) T_26_94 rfl ?_
    refine x_lr (z := some mb) T_26_96 rfl ?_
    refine x_cv1 T_26_97 mN_28 mL_28 (Nat.le_of_ble_eq_true rfl) mO_28 (hP.o hbm) (Nat.le_of_ble_eq_true rfl) (hsz0) ?_
    rintro _ σ ⟨rfl, rfl⟩
    refine cI ?_
    refine x_lr (z := some S) T_26_100 rfl ?_
    refine x_li (z := c) T_26_101 rfl ?_
    refine x_cv2 T_26_102 mN_34 mL_34 (Nat.le_of_ble_eq_true rfl) mO_34 (hP.o hO) (Nat.le_of_ble_eq_true rfl) (hso) ?_
    rintro _ σ ⟨rfl, rfl⟩
    refine cI ?_
    refine x_ic2 T_26_105 (fun h => absurd (show mz < z from h) (by omega)) (fun _ => ?_)
    refine x_lr (z := some S) T_26_108 rfl ?_
    refine x_li (z := 110) T_26_109 rfl ?_
    refine x_cv2 T_26_111 mN_35 mL_35 (Nat.le_of_ble_eq_true rfl) mO_35 (hP.o hO) (Nat.le_of_ble_eq_true rfl) (hwh) ?_
    rintro _ σ ⟨rfl, rfl⟩
    refine cI ?_
    refine x_if T_26_114 (fun _ => ?_) (fun h => absurd (show (0 : Int) = 0 by decide) h)
    exact hgo
  rw [if_pos hw] at hwh
  have hz11 : 11 ≤ z := by omega
  obtain ⟨num, hnm⟩ : ∃ q, nu (lg l) 7 4 = q := ⟨_, rfl⟩
  have hnum := x_num (fb := fb) (d := d + 6) (s := 7) (k := 4) 4 hP hB hz rfl (by decide) (by decide) (by omega) hnm
  have hfd := x_find (fb := fb) (d := d + 6) (v := num) hP hS hX.2.1.fu hc
  by_cases hf : qFid P s c num < 0
  · rw [show fdA S s (qFid P s c num) = none from if_pos hf] at hfd
    have h6 : wlE P s c (lg l) z = 6 := by unfold wlE; rw [if_neg (fun c => c hw), hnm, if_pos hf]
    rw [h6] at hE
    rw [h6, if_neg (show ¬ (6 : Int) = 0 by decide)] at hQ2
    have hgo := hmid σ (some (vR none)) (by rw [hE]; rw [hE] at hno; exact hno 6 (by decide) rfl hQ2)
    rw [hE] at hgo
    refine x_ic T_26_92 ?_
    refine x_si (ls1 := [some (vR (some S)), some (vI c), some (vR (some mb)), some (vR (some rp)), some (vI 110), some (vL tg), none, some (vI 14), none]) T_26_94 rfl ?_
    refine x_lr (z := some mb) T_26_96 rfl ?_
    refine x_cv1 T_26_97 mN_28 mL_28 (Nat.le_of_ble_eq_true rfl) mO_28 (hP.o hbm) (Nat.le_of_ble_eq_true rfl) (hsz0) ?_
    rintro _ σ ⟨rfl, rfl⟩
    refine cI ?_
    refine x_lr (z := some S) T_26_100 rfl ?_
    refine x_li (z := c) T_26_101 rfl ?_
    refine x_cv2 T_26_102 mN_34 mL_34 (Nat.le_of_ble_eq_true rfl) mO_34 (hP.o hO) (Nat.le_of_ble_eq_true rfl) (hso) ?_
    rintro _ σ ⟨rfl, rfl⟩
    refine cI ?_
    refine x_ic2 T_26_105 (fun h => absurd (show mz < z from h) (by omega)) (fun _ => ?_)
    refine x_lr (z := some S) T_26_108 rfl ?_
    refine x_li (z := 110) T_26_109 rfl ?_
    refine x_cv2 T_26_111 mN_35 mL_35 (Nat.le_of_ble_eq_true rfl) mO_35 (hP.o hO) (Nat.le_of_ble_eq_true rfl) (hwh) ?_
    rintro _ σ ⟨rfl, rfl⟩
    refine cI ?_
    refine x_if T_26_114 (fun h => absurd (show (1 : Int) = 0 from h) (by decide)) (fun _ => ?_)
    refine x_li (z := 110) T_26_117 rfl ?_
    refine x_ic T_26_119 ?_
    refine x_ic2 T_26_121 (fun _ => ?_) (fun h => absurd (show 110 ≤ (110 : Int) by decide) h)
    refine x_lr (z := some S) T_26_128 rfl ?_
    refine x_li (z := c) T_26_129 rfl ?_
    refine x_lr (z := some mb) T_26_130 rfl ?_
    refine x_ic T_26_131 ?_
    refine x_ic T_26_133 ?_
    refine x_cv3 T_26_134 mN_29 mL_29 (Nat.le_of_ble_eq_true rfl) mO_29 (hP.o hbm) (Nat.le_of_ble_eq_true rfl) (hnum) ?_
    rintro _ σ ⟨rfl, rfl⟩
    refine cL ?_
    refine x_cv3 T_26_137 mN_39 mL_39 (Nat.le_of_ble_eq_true rfl) mO_39 (hP.o hO) (Nat.le_of_ble_eq_true rfl) (hfd) ?_
    rintro _ σ ⟨rfl, rfl⟩
    refine cR ?_
    refine x_sr (ls1 := [some (vR (some S)), some (vI c), some (vR (some mb)), some (vR (some rp)), some (vI 110), some (vL tg), none, some (vI 14), some (vR none)]) T_26_140 rfl ?_
    refine x_li (z := 110) T_26_142 rfl ?_
    refine x_ic T_26_144 ?_
    refine x_ic2 T_26_146 (fun _ => ?_) (fun h => absurd (show 110 ≤ (110 : Int) by decide) h)
    refine x_lr (z := none) T_26_183 rfl ?_
    refine x_nnul T_26_185 (fun a0 h0 => absurd h0 (by simp)) (fun _ => ?_)
    refine x_ic T_26_188 ?_
    refine x_si (ls1 := [some (vR (some S)), some (vI c), some (vR (some mb)), some (vR (some rp)), some (vI 110), some (vL tg), none, some (vI 6), some (vR none)]) T_26_190 rfl ?_
    refine x_goto T_26_192 ?_
    exact hgo
  obtain ⟨⟨i, hi, hk⟩, hu⟩ := qFid_f (P := P) hsr (by omega) (show 0 ≤ qFid P s c num by omega)
  rw [hk] at hu
  rw [hk, show fdA S s (96 * s + i) = some (S + 198 + i.toNat) by unfold fdA; rw [if_neg (by omega), show 96 * s + i - 96 * s = i by omega]] at hfd
  have hfo := hS.fd hi
  rw [← hnm] at hk
  have hdo := x_doWalk (fb := fb) (d := d + 2) hP hS hX hK hG hD.1 UNq2 hr hrp hcn hc hB hz hmo hBr hro hmr hroom hw hi hk hu
  rw [← hQ2, ← hE] at hdo
  have hdo : CL fb (d + 6) 54 [vR (some S), vR (some (S + 198 + i.toNat))] σ (XS σ0 K W R S rp s e Q (l2 ++ L)) := by
    rw [← hL]
    exact hdo
  clear hX hK hG hD hIO hst
  obtain ⟨fa, hfa⟩ : ∃ fa, S + 198 + i.toNat = fa := ⟨_, rfl⟩
  rw [hfa] at hfd hdo hfo
  refine x_ic T_26_92 ?_
  refine x_si (ls1 := [some (vR (some S)), some (vI c), some (vR (some mb)), some (vR (some rp)), some (vI 110), some (vL tg), none, some (vI 14), none]) T_26_94 rfl ?_
  refine x_lr (z := some mb) T_26_96 rfl ?_
  refine x_cv1 T_26_97 mN_28 mL_28 (Nat.le_of_ble_eq_true rfl) mO_28 (hP.o hbm) (Nat.le_of_ble_eq_true rfl) (hsz0) ?_
  rintro _ σ ⟨rfl, rfl⟩
  refine cI ?_
  refine x_lr (z := some S) T_26_100 rfl ?_
  refine x_li (z := c) T_26_101 rfl ?_
  refine x_cv2 T_26_102 mN_34 mL_34 (Nat.le_of_ble_eq_true rfl) mO_34 (hP.o hO) (Nat.le_of_ble_eq_true rfl) (hso) ?_
  rintro _ σ ⟨rfl, rfl⟩
  refine cI ?_
  refine x_ic2 T_26_105 (fun h => absurd (show mz < z from h) (by omega)) (fun _ => ?_)
  refine x_lr (z := some S) T_26_108 rfl ?_
  refine x_li (z := 110) T_26_109 rfl ?_
  refine x_cv2 T_26_111 mN_35 mL_35 (Nat.le_of_ble_eq_true rfl) mO_35 (hP.o hO) (Nat.le_of_ble_eq_true rfl) (hwh) ?_
  rintro _ σ ⟨rfl, rfl⟩
  refine cI ?_
  refine x_if T_26_114 (fun h => absurd (show (1 : Int) = 0 from h) (by decide)) (fun _ => ?_)
  refine x_li (z := 110) T_26_117 rfl ?_
  refine x_ic T_26_119 ?_
  refine x_ic2 T_26_121 (fun _ => ?_) (fun h => absurd (show 110 ≤ (110 : Int) by decide) h)
  refine x_lr (z := some S) T_26_128 rfl ?_
  refine x_li (z := c) T_26_129 rfl ?_
  refine x_lr (z := some mb) T_26_130 rfl ?_
  refine x_ic T_26_131 ?_
  refine x_ic T_26_133 ?_
  refine x_cv3 T_26_134 mN_29 mL_29 (Nat.le_of_ble_eq_true rfl) mO_29 (hP.o hbm) (Nat.le_of_ble_eq_true rfl) (hnum) ?_
  rintro _ σ ⟨rfl, rfl⟩
  refine cL ?_
  refine x_cv3 T_26_137 mN_39 mL_39 (Nat.le_of_ble_eq_true rfl) mO_39 (hP.o hO) (Nat.le_of_ble_eq_true rfl) (hfd) ?_
  rintro _ σ ⟨rfl, rfl⟩
  refine cR ?_
  refine x_sr (ls1 := [some (vR (some S)), some (vI c), some (vR (some mb)), some (vR (some rp)), some (vI 110), some (vL tg), none, some (vI 14), some (vR (some fa))]) T_26_140 rfl ?_
  refine x_li (z := 110) T_26_142 rfl ?_
  refine x_ic T_26_144 ?_
  refine x_ic2 T_26_146 (fun _ => ?_) (fun h => absurd (show 110 ≤ (110 : Int) by decide) h)
  refine x_lr (z := some fa) T_26_183 rfl ?_
  refine x_nnul T_26_185 (fun _ _ => ?_) (fun h0 => absurd h0 (by simp))
  refine x_li (z := 110) T_26_195 rfl ?_
  refine x_swIn T_26_197 (by decide) (by decide) rfl ?_
  refine x_lr (z := some S) T_26_272 rfl ?_
  refine x_lr (z := some fa) T_26_273 rfl ?_
  refine x_cv2 T_26_275 mN_54 mL_54 (Nat.le_of_ble_eq_true rfl) mO_54 (hP.o hO) (Nat.le_of_ble_eq_true rfl) (hdo) ?_
  clear hP
  rintro _ σ h1
  obtain ⟨rfl, -⟩ := id h1
  refine cI ?_
  refine x_si (ls1 := [some (vR (some S)), some (vI c), some (vR (some mb)), some (vR (some rp)), some (vI 110), some (vL tg), none, some (vI e), some (vR (some fa))]) T_26_278 rfl ?_
  refine x_goto T_26_280 ?_
  exact hmid σ _ (XT_of h1 hS hIOQ n1 n2)
theorem sv_112 {Post : Option AV → hM → Prop} (hP : PX σ0 W R σ) (hS : VS S s) (hX : XV W R P S s ord t) (hK : CT K W R) (hG : GI T U P) (hD : PKK P) (hT : T + 98 ≤ 2147483000) (hIO : SCR W P) (hst : s = 2 → ∀ p, 0 ≤ p → p < 8 → ¬ P 2320 p = 0 → PST W R P p (295 + 125 * p.toNat)) (hr : R S 2233 = some mb) (hrp : R S 2234 = some rp) (hcn : W S 2235 = c) (hc : c = 0 ∨ c = 1) (hB : BY W mb M l) (hz : (l.length : Int) = z) (hz7 : 7 ≤ z) (hmo : mb + 1 < S ∨ S + 294 ≤ mb) (hBr : BY W rp 300 l2) (hro : rp + 1 < S ∨ S + 294 ≤ rp) (hmr : mb ≠ rp) (hroom : l2.length = 7) (n1 : rp ≠ 130) (n2 : rp ≠ 132) (m2 : mb ≠ 132) (hsz : z ≤ P 2313 (2 * s + c)) (he : srE P s c 112 (lg l) z = e) (hQ : srP P s c 112 (lg l) z = Q) (hL : srL P s c 112 (lg l) z = L) (hmid : ∀ (σ' : hM) (x8 : Option AV), XT σ0 K W R S rp s e Q (l2 ++ L) (some (vI e)) σ' → WP fb (d + 7) 26 368 [some (vR (some S)), some (vI c), some (vR (some mb)), some (vR (some rp)), some (vI 112), some (vL tg), none, some (vI e), x8] [] σ' Post) : WP fb (d + 7) 26 92 [some (vR (some S)), some (vI c), some (vR (some mb)), some (vR (some rp)), some (vI 112), some (vL tg), none, none, none] [] σ Post := by
  have hO := hS.o
  have hbm := hB.1
  have hsr := hS.1
  have hb8 := hB.2.2.2.2.2.1
  have hn1 := hB.2.2.1
  have hlz := hB.2.2.2.2.1
  have hsz0 := x_size (fb := fb) (d := d + 6) hP hB hz
  have hso := x_sizeOf (fb := fb) (d := d + 6) (z := P 2313 (2 * s + c)) hP hS hc (by rcases hc with rfl | rfl; (rw [Int.add_zero]; exact hX.2.2.1.1); exact hX.2.2.1.2.1)
  obtain ⟨mz, hmz⟩ : ∃ q, P 2313 (2 * s + c) = q := ⟨_, rfl⟩
  rw [hmz] at hso hsz
  have hIOQ : SCR W Q := by rw [← hQ]; exact hIO.iof (IOF_srP (by decide) (by decide))
  have hE : srE P s c 112 (lg l) z = opE P s c (lg l) z := rfl
  have hQ2 : srP P s c 112 (lg l) z = (if opE P s c (lg l) z = 0 then opP P s c (lg l) else P) := rfl
  rw [he] at hE
  rw [hQ] at hQ2
  have hno : ∀ e0 : Int, ¬ e0 = 0 → e = e0 → Q = P → XT σ0 K W R S rp s e Q (l2 ++ L) (some (vI e0)) σ := fun e0 q1 q2 q3 => by
    rw [q2, q3]
    exact ⟨rfl, W, R, ord, t, l2, hP, hBr, fun c => absurd c q1, hX, hK, FVX_of FV_rfl, hIO⟩
  have hwh := x_isWhole (fb := fb) (d := d + 4) (k := 112) hP hS hr hB hz
  rw [show whlV (lg l) z 112 = (if z = 12 then 1 else 0) from rfl] at hwh
  by_cases hw : z = 12
  rotate_left
  · rw [if_neg hw] at hwh
    have h14 : opE P s c (lg l) z = 14 := if_pos hw
    rw [h14] at hE
    rw [h14, if_neg (show ¬ (14 : Int) = 0 by decide)] at hQ2
    have hgo := hmid σ none (by rw [hE]; rw [hE] at hno; exact hno 14 (by decide) rfl hQ2)
    rw [hE] at hgo
    refine x_ic T_26_92 ?_
    refine x_si (ls1 := [some (vR (some S)), some (vI c), some (vR (some mb)), some (vR (some rp)), some (vI 112), some (vL tg), none, some (vI 14), none]) T_26_94 rfl ?_
    refine x_lr (z := some mb) T_26_96 rfl ?_
    refine x_cv1 T_26_97 mN_28 mL_28 (Nat.le_of_ble_eq_true rfl) mO_28 (hP.o hbm) (Nat.le_of_ble_eq_true rfl) (hsz0) ?_
    rintro _ σ ⟨rfl, rfl⟩
    refine cI ?_
    refine x_lr (z := some S) T_26_100 rfl ?_
    refine x_li (z := c) T_26_101 rfl ?_
    refine x_cv2 T_26_102 mN_34 mL_34 (Nat.le_of_ble_eq_true rfl) mO_34 (hP.o hO) (Nat.le_of_ble_eq_true rfl) (hso) ?_
    rintro _ σ ⟨rfl, rfl⟩
    refine cI ?_
    refine x_ic2 T_26_105 (fun h => absurd (show mz < z from h) (by omega)) (fun _ => ?_)
    refine x_lr (z := some S) T_26_108 rfl ?_
    refine x_li (z := 112) T_26_109 rfl ?_
    refine x_cv2 T_26_111 mN_35 mL_35 (Nat.le_of_ble_eq_true rfl) mO_35 (hP.o hO) (Nat.le_of_ble_eq_true rfl) (hwh) ?_
    rintro _ σ ⟨rfl, rfl⟩
    refine cI ?_
    refine x_if T_26_114 (fun _ => ?_) (fun h => absurd (show (0 : Int) = 0 by decide) h)
    exact hgo
  rw [if_pos hw] at hwh
  have hz11 : 11 ≤ z := by omega
  obtain ⟨num, hnm⟩ : ∃ q, nu (lg l) 7 4 = q := ⟨_, rfl⟩
  have hnum := x_num (fb := fb) (d := d + 6) (s := 7) (k := 4) 4 hP hB hz rfl (by decide) (by decide) (by omega) hnm
  have hfd := x_find (fb := fb) (d := d + 6) (v := num) hP hS hX.2.1.fu hc
  by_cases hf : qFid P s c num < 0
  · rw [show fdA S s (qFid P s c num) = none from if_pos hf] at hfd
    have h6 : opE P s c (lg l) z = 6 := by unfold opE; rw [if_neg (fun c => c hw), hnm, if_pos hf]
    rw [h6] at hE
    rw [h6, if_neg (show ¬ (6 : Int) = 0 by decide)] at hQ2
    have hgo := hmid σ (some (vR none)) (by rw [hE]; rw [hE] at hno; exact hno 6 (by decide) rfl hQ2)
    rw [hE] at hgo
    refine x_ic T_26_92 ?_
    refine x_si (ls1 := [some (vR (some S)), some (vI c), some (vR (some mb)), some (vR (some rp)), some (vI 112), some (vL tg), none, some (vI 14), none]) T_26_94 rfl ?_
    refine x_lr (z := some mb) T_26_96 rfl ?_
    refine x_cv1 T_26_97 mN_28 mL_28 (Nat.le_of_ble_eq_true rfl) mO_28 (hP.o hbm) (Nat.le_of_ble_eq_true rfl) (hsz0) ?_
    rintro _ σ ⟨rfl, rfl⟩
    refine cI ?_
    refine x_lr (z := some S) T_26_100 rfl ?_
    refine x_li (z := c) T_26_101 rfl ?_
    refine x_cv2 T_26_102 mN_34 mL_34 (Nat.le_of_ble_eq_true rfl) mO_34 (hP.o hO) (Nat.le_of_ble_eq_true rfl) (hso) ?_
    rintro _ σ ⟨rfl, rfl⟩
    refine cI ?_
    refine x_ic2 T_26_105 (fun h => absurd (show mz < z from h) (by omega)) (fun _ => ?_)
    refine x_lr (z := some S) T_26_108 rfl ?_
    refine x_li (z := 112) T_26_109 rfl ?_
    refine x_cv2 T_26_111 mN_35 mL_35 (Nat.le_of_ble_eq_true rfl) mO_35 (hP.o hO) (Nat.le_of_ble_eq_true rfl) (hwh) ?_
    rintro _ σ ⟨rfl, rfl⟩
    refine cI ?_
    refine x_if T_26_114 (fun h => absurd (show (1 : Int) = 0 from h) (by decide)) (fun _ => ?_)
    refine x_li (z := 112) T_26_117 rfl ?_
    refine x_ic T_26_119 ?_
    refine x_ic2 T_26_121 (fun _ => ?_) (fun h => absurd (show 110 ≤ (112 : Int) by decide) h)
    refine x_lr (z := some S) T_26_128 rfl ?_
    refine x_li (z := c) T_26_129 rfl ?_
    refine x_lr (z := some mb) T_26_130 rfl ?_
    refine x_ic T_26_131 ?_
    refine x_ic T_26_133 ?_
    refine x_cv3 T_26_134 mN_29 mL_29 (Nat.le_of_ble_eq_true rfl) mO_29 (hP.o hbm) (Nat.le_of_ble_eq_true rfl) (hnum) ?_
    rintro _ σ ⟨rfl, rfl⟩
    refine cL ?_
    refine x_cv3 T_26_137 mN_39 mL_39 (Nat.le_of_ble_eq_true rfl) mO_39 (hP.o hO) (Nat.le_of_ble_eq_true rfl) (hfd) ?_
    rintro _ σ ⟨rfl, rfl⟩
    refine cR ?_
    refine x_sr (ls1 := [some (vR (some S)), some (vI c), some (vR (some mb)), some (vR (some rp)), some (vI 112), some (vL tg), none, some (vI 14), some (vR none)]) T_26_140 rfl ?_
    refine x_li (z := 112) T_26_142 rfl ?_
    refine x_ic T_26_144 ?_
    refine x_ic2 T_26_146 (fun _ => ?_) (fun h => absurd (show 110 ≤ (112 : Int) by decide) h)
    refine x_lr (z := none) T_26_183 rfl ?_
    refine x_nnul T_26_185 (fun a0 h0 => absurd h0 (by simp)) (fun _ => ?_)
    refine x_ic T_26_188 ?_
    refine x_si (ls1 := [some (vR (some S)), some (vI c), some (vR (some mb)), some (vR (some rp)), some (vI 112), some (vL tg), none, some (vI 6), some (vR none)]) T_26_190 rfl ?_
    refine x_goto T_26_192 ?_
    exact hgo
  obtain ⟨⟨i, hi, hk⟩, hu⟩ := qFid_f (P := P) hsr (by omega) (show 0 ≤ qFid P s c num by omega)
  rw [hk] at hu
  rw [hk, show fdA S s (96 * s + i) = some (S + 198 + i.toNat) by unfold fdA; rw [if_neg (by omega), show 96 * s + i - 96 * s = i by omega]] at hfd
  have hfo := hS.fd hi
  rw [← hnm] at hk
  have hdo := x_doOpen (fb := fb) (d := d + 2) hP hS hX hK hG hD.1 (by omega) hr hrp hB hz hmo hBr hro hmr hroom hw hi hk hu
  rw [← hQ2, ← hE] at hdo
  have hdo : CL fb (d + 6) 59 [vR (some S), vR (some (S + 198 + i.toNat))] σ (XS σ0 K W R S rp s e Q (l2 ++ L)) := by
    rw [← hL]
    exact hdo
  clear hX hK hG hD hIO hst
  obtain ⟨fa, hfa⟩ : ∃ fa, S + 198 + i.toNat = fa := ⟨_, rfl⟩
  rw [hfa] at hfd hdo hfo
  refine x_ic T_26_92 ?_
  refine x_si (ls1 := [some (vR (some S)), some (vI c), some (vR (some mb)), some (vR (some rp)), some (vI 112), some (vL tg), none, some (vI 14), none]) T_26_94 rfl ?_
  refine x_lr (z := some mb) T_26_96 rfl ?_
  refine x_cv1 T_26_97 mN_28 mL_28 (Nat.le_of_ble_eq_true rfl) mO_28 (hP.o hbm) (Nat.le_of_ble_eq_true rfl) (hsz0) ?_
  rintro _ σ ⟨rfl, rfl⟩
  refine cI ?_
  refine x_lr (z := some S) T_26_100 rfl ?_
  refine x_li (z := c) T_26_101 rfl ?_
  refine x_cv2 T_26_102 mN_34 mL_34 (Nat.le_of_ble_eq_true rfl) mO_34 (hP.o hO) (Nat.le_of_ble_eq_true rfl) (hso) ?_
  rintro _ σ ⟨rfl, rfl⟩
  refine cI ?_
  refine x_ic2 T_26_105 (fun h => absurd (show mz < z from h) (by omega)) (fun _ => ?_)
  refine x_lr (z := some S) T_26_108 rfl ?_
  refine x_li (z := 112) T_26_109 rfl ?_
  refine x_cv2 T_26_111 mN_35 mL_35 (Nat.le_of_ble_eq_true rfl) mO_35 (hP.o hO) (Nat.le_of_ble_eq_true rfl) (hwh) ?_
  rintro _ σ ⟨rfl, rfl⟩
  refine cI ?_
  refine x_if T_26_114 (fun h => absurd (show (1 : Int) = 0 from h) (by decide)) (fun _ => ?_)
  refine x_li (z := 112) T_26_117 rfl ?_
  refine x_ic T_26_119 ?_
  refine x_ic2 T_26_121 (fun _ => ?_) (fun h => absurd (show 110 ≤ (112 : Int) by decide) h)
  refine x_lr (z := some S) T_26_128 rfl ?_
  refine x_li (z := c) T_26_129 rfl ?_
  refine x_lr (z := some mb) T_26_130 rfl ?_
  refine x_ic T_26_131 ?_
  refine x_ic T_26_133 ?_
  refine x_cv3 T_26_134 mN_29 mL_29 (Nat.le_of_ble_eq_true rfl) mO_29 (hP.o hbm) (Nat.le_of_ble_eq_true rfl) (hnum) ?_
  rintro _ σ ⟨rfl, rfl⟩
  refine cL ?_
  refine x_cv3 T_26_137 mN_39 mL_39 (Nat.le_of_ble_eq_true rfl) mO_39 (hP.o hO) (Nat.le_of_ble_eq_true rfl) (hfd) ?_
  rintro _ σ ⟨rfl, rfl⟩
  refine cR ?_
  refine x_sr (ls1 := [some (vR (some S)), some (vI c), some (vR (some mb)), some (vR (some rp)), some (vI 112), some (vL tg), none, some (vI 14), some (vR (some fa))]) T_26_140 rfl ?_
  refine x_li (z := 112) T_26_142 rfl ?_
  refine x_ic T_26_144 ?_
  refine x_ic2 T_26_146 (fun _ => ?_) (fun h => absurd (show 110 ≤ (112 : Int) by decide) h)
  refine x_lr (z := some fa) T_26_183 rfl ?_
  refine x_nnul T_26_185 (fun _ _ => ?_) (fun h0 => absurd h0 (by simp))
  refine x_li (z := 112) T_26_195 rfl ?_
  refine x_swIn T_26_197 (by decide) (by decide) rfl ?_
  refine x_lr (z := some S) T_26_283 rfl ?_
  refine x_lr (z := some fa) T_26_284 rfl ?_
  refine x_cv2 T_26_286 mN_59 mL_59 (Nat.le_of_ble_eq_true rfl) mO_59 (hP.o hO) (Nat.le_of_ble_eq_true rfl) (hdo) ?_
  clear hP
  rintro _ σ h1
  obtain ⟨rfl, -⟩ := id h1
  refine cI ?_
  refine x_si (ls1 := [some (vR (some S)), some (vI c), some (vR (some mb)), some (vR (some rp)), some (vI 112), some (vL tg), none, some (vI e), some (vR (some fa))]) T_26_289 rfl ?_
  refine x_goto T_26_291 ?_
  exact hmid σ _ (XT_of h1 hS hIOQ n1 n2)
theorem sv_114 {Post : Option AV → hM → Prop} (hP : PX σ0 W R σ) (hS : VS S s) (hX : XV W R P S s ord t) (hK : CT K W R) (hG : GI T U P) (hD : PKK P) (hT : T + 98 ≤ 2147483000) (hIO : SCR W P) (hst : s = 2 → ∀ p, 0 ≤ p → p < 8 → ¬ P 2320 p = 0 → PST W R P p (295 + 125 * p.toNat)) (hr : R S 2233 = some mb) (hrp : R S 2234 = some rp) (hcn : W S 2235 = c) (hc : c = 0 ∨ c = 1) (hB : BY W mb M l) (hz : (l.length : Int) = z) (hz7 : 7 ≤ z) (hmo : mb + 1 < S ∨ S + 294 ≤ mb) (hBr : BY W rp 300 l2) (hro : rp + 1 < S ∨ S + 294 ≤ rp) (hmr : mb ≠ rp) (hroom : l2.length = 7) (n1 : rp ≠ 130) (n2 : rp ≠ 132) (m2 : mb ≠ 132) (hsz : z ≤ P 2313 (2 * s + c)) (he : srE P s c 114 (lg l) z = e) (hQ : srP P s c 114 (lg l) z = Q) (hL : srL P s c 114 (lg l) z = L) (hmid : ∀ (σ' : hM) (x8 : Option AV), XT σ0 K W R S rp s e Q (l2 ++ L) (some (vI e)) σ' → WP fb (d + 7) 26 368 [some (vR (some S)), some (vI c), some (vR (some mb)), some (vR (some rp)), some (vI 114), some (vL tg), none, some (vI e), x8] [] σ' Post) : WP fb (d + 7) 26 92 [some (vR (some S)), some (vI c), some (vR (some mb)), some (vR (some rp)), some (vI 114), some (vL tg), none, none, none] [] σ Post := by
  have hO := hS.o
  have hbm := hB.1
  have hsr := hS.1
  have hb8 := hB.2.2.2.2.2.1
  have hn1 := hB.2.2.1
  have hlz := hB.2.2.2.2.1
  have hsz0 := x_size (fb := fb) (d := d + 6) hP hB hz
  have hso := x_sizeOf (fb := fb) (d := d + 6) (z := P 2313 (2 * s + c)) hP hS hc (by rcases hc with rfl | rfl; (rw [Int.add_zero]; exact hX.2.2.1.1); exact hX.2.2.1.2.1)
  obtain ⟨mz, hmz⟩ : ∃ q, P 2313 (2 * s + c) = q := ⟨_, rfl⟩
  rw [hmz] at hso hsz
  have hIOQ : SCR W Q := by rw [← hQ]; exact hIO.iof (IOF_srP (by decide) (by decide))
  have hE : srE P s c 114 (lg l) z = crE P s c (lg l) z := rfl
  have hQ2 : srP P s c 114 (lg l) z = (if crE P s c (lg l) z = 0 then crP P s c (lg l) z else P) := rfl
  rw [he] at hE
  rw [hQ] at hQ2
  have hno : ∀ e0 : Int, ¬ e0 = 0 → e = e0 → Q = P → XT σ0 K W R S rp s e Q (l2 ++ L) (some (vI e0)) σ := fun e0 q1 q2 q3 => by
    rw [q2, q3]
    exact ⟨rfl, W, R, ord, t, l2, hP, hBr, fun c => absurd c q1, hX, hK, FVX_of FV_rfl, hIO⟩
  have hwh := x_isWhole (fb := fb) (d := d + 4) (k := 114) hP hS hr hB hz
  rw [show whlV (lg l) z 114 = (if sE (lg l) z 11 = z - 5 then 1 else 0) from rfl] at hwh
  by_cases hw : sE (lg l) z 11 = z - 5
  rotate_left
  · rw [if_neg hw] at hwh
    have h14 : crE P s c (lg l) z = 14 := if_pos (by omega)
    rw [h14] at hE
    rw [h14, if_neg (show ¬ (14 : Int) = 0 by decide)] at hQ2
    have hgo := hmid σ none (by rw [hE]; rw [hE] at hno; exact hno 14 (by decide) rfl hQ2)
    rw [hE] at hgo
    refine x_ic T_26_92 ?_
    refine x_si (ls1 := [some (vR (some S)), some (vI c), some (vR (some mb)), some (vR (some rp)), some (vI 114), some (vL tg), none, some (vI 14), none]) T_26_94 rfl ?_
    refine x_lr (z := some mb) T_26_96 rfl ?_
    refine x_cv1 T_26_97 mN_28 mL_28 (Nat.le_of_ble_eq_true rfl) mO_28 (hP.o hbm) (Nat.le_of_ble_eq_true rfl) (hsz0) ?_
    rintro _ σ ⟨rfl, rfl⟩
    refine cI ?_
    refine x_lr (z := some S) T_26_100 rfl ?_
    refine x_li (z := c) T_26_101 rfl ?_
    refine x_cv2 T_26_102 mN_34 mL_34 (Nat.le_of_ble_eq_true rfl) mO_34 (hP.o hO) (Nat.le_of_ble_eq_true rfl) (hso) ?_
    rintro _ σ ⟨rfl, rfl⟩
    refine cI ?_
    refine x_ic2 T_26_105 (fun h => absurd (show mz < z from h) (by omega)) (fun _ => ?_)
    refine x_lr (z := some S) T_26_108 rfl ?_
    refine x_li (z := 114) T_26_109 rfl ?_
    refine x_cv2 T_26_111 mN_35 mL_35 (Nat.le_of_ble_eq_true rfl) mO_35 (hP.o hO) (Nat.le_of_ble_eq_true rfl) (hwh) ?_
    rintro _ σ ⟨rfl, rfl⟩
    refine cI ?_
    refine x_if T_26_114 (fun _ => ?_) (fun h => absurd (show (0 : Int) = 0 by decide) h)
    exact hgo
  rw [if_pos hw] at hwh
  have hz11 : 11 ≤ z := by have := sE_ge (a := lg l) (z := z) (p := 11) (by rw [hw]; omega); have := (nu_rng (f := lg l) (i := 11) 2 (fun j _ => hb8 _ (by omega))).1; omega
  obtain ⟨num, hnm⟩ : ∃ q, nu (lg l) 7 4 = q := ⟨_, rfl⟩
  have hnum := x_num (fb := fb) (d := d + 6) (s := 7) (k := 4) 4 hP hB hz rfl (by decide) (by decide) (by omega) hnm
  have hfd := x_find (fb := fb) (d := d + 6) (v := num) hP hS hX.2.1.fu hc
  by_cases hf : qFid P s c num < 0
  · rw [show fdA S s (qFid P s c num) = none from if_pos hf] at hfd
    have h6 : crE P s c (lg l) z = 6 := by unfold crE qCre; rw [if_neg (fun c => c ⟨by omega, by omega⟩), hnm, if_pos hf]
    rw [h6] at hE
    rw [h6, if_neg (show ¬ (6 : Int) = 0 by decide)] at hQ2
    have hgo := hmid σ (some (vR none)) (by rw [hE]; rw [hE] at hno; exact hno 6 (by decide) rfl hQ2)
    rw [hE] at hgo
    refine x_ic T_26_92 ?_
    refine x_si (ls1 := [some (vR (some S)), some (vI c), some (vR (some mb)), some (vR (some rp)), some (vI 114), some (vL tg), none, some (vI 14), none]) T_26_94 rfl ?_
    refine x_lr (z := some mb) T_26_96 rfl ?_
    refine x_cv1 T_26_97 mN_28 mL_28 (Nat.le_of_ble_eq_true rfl) mO_28 (hP.o hbm) (Nat.le_of_ble_eq_true rfl) (hsz0) ?_
    rintro _ σ ⟨rfl, rfl⟩
    refine cI ?_
    refine x_lr (z := some S) T_26_100 rfl ?_
    refine x_li (z := c) T_26_101 rfl ?_
    refine x_cv2 T_26_102 mN_34 mL_34 (Nat.le_of_ble_eq_true rfl) mO_34 (hP.o hO) (Nat.le_of_ble_eq_true rfl) (hso) ?_
    rintro _ σ ⟨rfl, rfl⟩
    refine cI ?_
    refine x_ic2 T_26_105 (fun h => absurd (show mz < z from h) (by omega)) (fun _ => ?_)
    refine x_lr (z := some S) T_26_108 rfl ?_
    refine x_li (z := 114) T_26_109 rfl ?_
    refine x_cv2 T_26_111 mN_35 mL_35 (Nat.le_of_ble_eq_true rfl) mO_35 (hP.o hO) (Nat.le_of_ble_eq_true rfl) (hwh) ?_
    rintro _ σ ⟨rfl, rfl⟩
    refine cI ?_
    refine x_if T_26_114 (fun h => absurd (show (1 : Int) = 0 from h) (by decide)) (fun _ => ?_)
    refine x_li (z := 114) T_26_117 rfl ?_
    refine x_ic T_26_119 ?_
    refine x_ic2 T_26_121 (fun _ => ?_) (fun h => absurd (show 110 ≤ (114 : Int) by decide) h)
    refine x_lr (z := some S) T_26_128 rfl ?_
    refine x_li (z := c) T_26_129 rfl ?_
    refine x_lr (z := some mb) T_26_130 rfl ?_
    refine x_ic T_26_131 ?_
    refine x_ic T_26_133 ?_
    refine x_cv3 T_26_134 mN_29 mL_29 (Nat.le_of_ble_eq_true rfl) mO_29 (hP.o hbm) (Nat.le_of_ble_eq_true rfl) (hnum) ?_
    rintro _ σ ⟨rfl, rfl⟩
    refine cL ?_
    refine x_cv3 T_26_137 mN_39 mL_39 (Nat.le_of_ble_eq_true rfl) mO_39 (hP.o hO) (Nat.le_of_ble_eq_true rfl) (hfd) ?_
    rintro _ σ ⟨rfl, rfl⟩
    refine cR ?_
    refine x_sr (ls1 := [some (vR (some S)), some (vI c), some (vR (some mb)), some (vR (some rp)), some (vI 114), some (vL tg), none, some (vI 14), some (vR none)]) T_26_140 rfl ?_
    refine x_li (z := 114) T_26_142 rfl ?_
    refine x_ic T_26_144 ?_
    refine x_ic2 T_26_146 (fun _ => ?_) (fun h => absurd (show 110 ≤ (114 : Int) by decide) h)
    refine x_lr (z := none) T_26_183 rfl ?_
    refine x_nnul T_26_185 (fun a0 h0 => absurd h0 (by simp)) (fun _ => ?_)
    refine x_ic T_26_188 ?_
    refine x_si (ls1 := [some (vR (some S)), some (vI c), some (vR (some mb)), some (vR (some rp)), some (vI 114), some (vL tg), none, some (vI 6), some (vR none)]) T_26_190 rfl ?_
    refine x_goto T_26_192 ?_
    exact hgo
  obtain ⟨⟨i, hi, hk⟩, hu⟩ := qFid_f (P := P) hsr (by omega) (show 0 ≤ qFid P s c num by omega)
  rw [hk] at hu
  rw [hk, show fdA S s (96 * s + i) = some (S + 198 + i.toNat) by unfold fdA; rw [if_neg (by omega), show 96 * s + i - 96 * s = i by omega]] at hfd
  have hfo := hS.fd hi
  rw [← hnm] at hk
  have hdo := x_doCreate (fb := fb) (d := d + 2) hP hS hX hK hG hD.1 UNq2 (by omega) hr hrp hB hz hmo hBr hro hmr hroom hw (by have := sE_ge (a := lg l) (z := z) (p := 11) (by rw [hw]; omega); have := (nu_rng (f := lg l) (i := 11) 2 (fun j _ => hb8 _ (by omega))).1; omega) hi hk hu
  rw [← hQ2, ← hE] at hdo
  have hdo : CL fb (d + 6) 64 [vR (some S), vR (some (S + 198 + i.toNat))] σ (XS σ0 K W R S rp s e Q (l2 ++ L)) := by
    rw [← hL]
    exact hdo
  clear hX hK hG hD hIO hst
  obtain ⟨fa, hfa⟩ : ∃ fa, S + 198 + i.toNat = fa := ⟨_, rfl⟩
  rw [hfa] at hfd hdo hfo
  refine x_ic T_26_92 ?_
  refine x_si (ls1 := [some (vR (some S)), some (vI c), some (vR (some mb)), some (vR (some rp)), some (vI 114), some (vL tg), none, some (vI 14), none]) T_26_94 rfl ?_
  refine x_lr (z := some mb) T_26_96 rfl ?_
  refine x_cv1 T_26_97 mN_28 mL_28 (Nat.le_of_ble_eq_true rfl) mO_28 (hP.o hbm) (Nat.le_of_ble_eq_true rfl) (hsz0) ?_
  rintro _ σ ⟨rfl, rfl⟩
  refine cI ?_
  refine x_lr (z := some S) T_26_100 rfl ?_
  refine x_li (z := c) T_26_101 rfl ?_
  refine x_cv2 T_26_102 mN_34 mL_34 (Nat.le_of_ble_eq_true rfl) mO_34 (hP.o hO) (Nat.le_of_ble_eq_true rfl) (hso) ?_
  rintro _ σ ⟨rfl, rfl⟩
  refine cI ?_
  refine x_ic2 T_26_105 (fun h => absurd (show mz < z from h) (by omega)) (fun _ => ?_)
  refine x_lr (z := some S) T_26_108 rfl ?_
  refine x_li (z := 114) T_26_109 rfl ?_
  refine x_cv2 T_26_111 mN_35 mL_35 (Nat.le_of_ble_eq_true rfl) mO_35 (hP.o hO) (Nat.le_of_ble_eq_true rfl) (hwh) ?_
  rintro _ σ ⟨rfl, rfl⟩
  refine cI ?_
  refine x_if T_26_114 (fun h => absurd (show (1 : Int) = 0 from h) (by decide)) (fun _ => ?_)
  refine x_li (z := 114) T_26_117 rfl ?_
  refine x_ic T_26_119 ?_
  refine x_ic2 T_26_121 (fun _ => ?_) (fun h => absurd (show 110 ≤ (114 : Int) by decide) h)
  refine x_lr (z := some S) T_26_128 rfl ?_
  refine x_li (z := c) T_26_129 rfl ?_
  refine x_lr (z := some mb) T_26_130 rfl ?_
  refine x_ic T_26_131 ?_
  refine x_ic T_26_133 ?_
  refine x_cv3 T_26_134 mN_29 mL_29 (Nat.le_of_ble_eq_true rfl) mO_29 (hP.o hbm) (Nat.le_of_ble_eq_true rfl) (hnum) ?_
  rintro _ σ ⟨rfl, rfl⟩
  refine cL ?_
  refine x_cv3 T_26_137 mN_39 mL_39 (Nat.le_of_ble_eq_true rfl) mO_39 (hP.o hO) (Nat.le_of_ble_eq_true rfl) (hfd) ?_
  rintro _ σ ⟨rfl, rfl⟩
  refine cR ?_
  refine x_sr (ls1 := [some (vR (some S)), some (vI c), some (vR (some mb)), some (vR (some rp)), some (vI 114), some (vL tg), none, some (vI 14), some (vR (some fa))]) T_26_140 rfl ?_
  refine x_li (z := 114) T_26_142 rfl ?_
  refine x_ic T_26_144 ?_
  refine x_ic2 T_26_146 (fun _ => ?_) (fun h => absurd (show 110 ≤ (114 : Int) by decide) h)
  refine x_lr (z := some fa) T_26_183 rfl ?_
  refine x_nnul T_26_185 (fun _ _ => ?_) (fun h0 => absurd h0 (by simp))
  refine x_li (z := 114) T_26_195 rfl ?_
  refine x_swIn T_26_197 (by decide) (by decide) rfl ?_
  refine x_lr (z := some S) T_26_294 rfl ?_
  refine x_lr (z := some fa) T_26_295 rfl ?_
  refine x_cv2 T_26_297 mN_64 mL_64 (Nat.le_of_ble_eq_true rfl) mO_64 (hP.o hO) (Nat.le_of_ble_eq_true rfl) (hdo) ?_
  clear hP
  rintro _ σ h1
  obtain ⟨rfl, -⟩ := id h1
  refine cI ?_
  refine x_si (ls1 := [some (vR (some S)), some (vI c), some (vR (some mb)), some (vR (some rp)), some (vI 114), some (vL tg), none, some (vI e), some (vR (some fa))]) T_26_300 rfl ?_
  refine x_goto T_26_302 ?_
  exact hmid σ _ (XT_of h1 hS hIOQ n1 n2)
theorem sv_116 {Post : Option AV → hM → Prop} (hP : PX σ0 W R σ) (hS : VS S s) (hX : XV W R P S s ord t) (hK : CT K W R) (hG : GI T U P) (hD : PKK P) (hT : T + 98 ≤ 2147483000) (hIO : SCR W P) (hst : s = 2 → ∀ p, 0 ≤ p → p < 8 → ¬ P 2320 p = 0 → PST W R P p (295 + 125 * p.toNat)) (hr : R S 2233 = some mb) (hrp : R S 2234 = some rp) (hcn : W S 2235 = c) (hc : c = 0 ∨ c = 1) (hB : BY W mb M l) (hz : (l.length : Int) = z) (hz7 : 7 ≤ z) (hmo : mb + 1 < S ∨ S + 294 ≤ mb) (hBr : BY W rp 300 l2) (hro : rp + 1 < S ∨ S + 294 ≤ rp) (hmr : mb ≠ rp) (hroom : l2.length = 7) (n1 : rp ≠ 130) (n2 : rp ≠ 132) (m2 : mb ≠ 132) (hsz : z ≤ P 2313 (2 * s + c)) (he : srE P s c 116 (lg l) z = e) (hQ : srP P s c 116 (lg l) z = Q) (hL : srL P s c 116 (lg l) z = L) (hmid : ∀ (σ' : hM) (x8 : Option AV), XT σ0 K W R S rp s e Q (l2 ++ L) (some (vI e)) σ' → WP fb (d + 7) 26 368 [some (vR (some S)), some (vI c), some (vR (some mb)), some (vR (some rp)), some (vI 116), some (vL tg), none, some (vI e), x8] [] σ' Post) : WP fb (d + 7) 26 92 [some (vR (some S)), some (vI c), some (vR (some mb)), some (vR (some rp)), some (vI 116), some (vL tg), none, none, none] [] σ Post := by
  have hO := hS.o
  have hbm := hB.1
  have hsr := hS.1
  have hb8 := hB.2.2.2.2.2.1
  have hn1 := hB.2.2.1
  have hlz := hB.2.2.2.2.1
  have hsz0 := x_size (fb := fb) (d := d + 6) hP hB hz
  have hso := x_sizeOf (fb := fb) (d := d + 6) (z := P 2313 (2 * s + c)) hP hS hc (by rcases hc with rfl | rfl; (rw [Int.add_zero]; exact hX.2.2.1.1); exact hX.2.2.1.2.1)
  obtain ⟨mz, hmz⟩ : ∃ q, P 2313 (2 * s + c) = q := ⟨_, rfl⟩
  rw [hmz] at hso hsz
  have hE : srE P s c 116 (lg l) z = rdErr P s c (lg l) z := rfl
  have hQ2 : srP P s c 116 (lg l) z = (if rdErr P s c (lg l) z = 0 then rdP P s (qFid P s c (nu (lg l) 7 4)) (w64 (nu (lg l) 11 8)) (nu (lg l) 19 4) else P) := rfl
  rw [he] at hE
  rw [hQ] at hQ2
  have hno : ∀ e0 : Int, ¬ e0 = 0 → e = e0 → Q = P → XT σ0 K W R S rp s e Q (l2 ++ L) (some (vI e0)) σ := fun e0 q1 q2 q3 => by
    rw [q2, q3]
    exact ⟨rfl, W, R, ord, t, l2, hP, hBr, fun c => absurd c q1, hX, hK, FVX_of FV_rfl, hIO⟩
  have hwh := x_isWhole (fb := fb) (d := d + 4) (k := 116) hP hS hr hB hz
  rw [show whlV (lg l) z 116 = (if z = 23 then 1 else 0) from rfl] at hwh
  by_cases hw : z = 23
  rotate_left
  · rw [if_neg hw] at hwh
    have h14 : rdErr P s c (lg l) z = 14 := if_pos hw
    rw [h14] at hE
    rw [h14, if_neg (show ¬ (14 : Int) = 0 by decide)] at hQ2
    have hgo := hmid σ none (by rw [hE]; rw [hE] at hno; exact hno 14 (by decide) rfl hQ2)
    rw [hE] at hgo
    refine x_ic T_26_92 ?_
    refine x_si (ls1 := [some (vR (some S)), some (vI c), some (vR (some mb)), some (vR (some rp)), some (vI 116), some (vL tg), none, some (vI 14), none]) T_26_94 rfl ?_
    refine x_lr (z := some mb) T_26_96 rfl ?_
    refine x_cv1 T_26_97 mN_28 mL_28 (Nat.le_of_ble_eq_true rfl) mO_28 (hP.o hbm) (Nat.le_of_ble_eq_true rfl) (hsz0) ?_
    rintro _ σ ⟨rfl, rfl⟩
    refine cI ?_
    refine x_lr (z := some S) T_26_100 rfl ?_
    refine x_li (z := c) T_26_101 rfl ?_
    refine x_cv2 T_26_102 mN_34 mL_34 (Nat.le_of_ble_eq_true rfl) mO_34 (hP.o hO) (Nat.le_of_ble_eq_true rfl) (hso) ?_
    rintro _ σ ⟨rfl, rfl⟩
    refine cI ?_
    refine x_ic2 T_26_105 (fun h => absurd (show mz < z from h) (by omega)) (fun _ => ?_)
    refine x_lr (z := some S) T_26_108 rfl ?_
    refine x_li (z := 116) T_26_109 rfl ?_
    refine x_cv2 T_26_111 mN_35 mL_35 (Nat.le_of_ble_eq_true rfl) mO_35 (hP.o hO) (Nat.le_of_ble_eq_true rfl) (hwh) ?_
    rintro _ σ ⟨rfl, rfl⟩
    refine cI ?_
    refine x_if T_26_114 (fun _ => ?_) (fun h => absurd (show (0 : Int) = 0 by decide) h)
    exact hgo
  rw [if_pos hw] at hwh
  have hz11 : 11 ≤ z := by omega
  obtain ⟨num, hnm⟩ : ∃ q, nu (lg l) 7 4 = q := ⟨_, rfl⟩
  have hnum := x_num (fb := fb) (d := d + 6) (s := 7) (k := 4) 4 hP hB hz rfl (by decide) (by decide) (by omega) hnm
  have hfd := x_find (fb := fb) (d := d + 6) (v := num) hP hS hX.2.1.fu hc
  by_cases hf : qFid P s c num < 0
  · rw [show fdA S s (qFid P s c num) = none from if_pos hf] at hfd
    have h6 : rdErr P s c (lg l) z = 6 := by unfold rdErr rdX; rw [if_neg (fun c => c hw), hnm, if_pos hf]
    rw [h6] at hE
    rw [h6, if_neg (show ¬ (6 : Int) = 0 by decide)] at hQ2
    have hgo := hmid σ (some (vR none)) (by rw [hE]; rw [hE] at hno; exact hno 6 (by decide) rfl hQ2)
    rw [hE] at hgo
    refine x_ic T_26_92 ?_
    refine x_si (ls1 := [some (vR (some S)), some (vI c), some (vR (some mb)), some (vR (some rp)), some (vI 116), some (vL tg), none, some (vI 14), none]) T_26_94 rfl ?_
    refine x_lr (z := some mb) T_26_96 rfl ?_
    refine x_cv1 T_26_97 mN_28 mL_28 (Nat.le_of_ble_eq_true rfl) mO_28 (hP.o hbm) (Nat.le_of_ble_eq_true rfl) (hsz0) ?_
    rintro _ σ ⟨rfl, rfl⟩
    refine cI ?_
    refine x_lr (z := some S) T_26_100 rfl ?_
    refine x_li (z := c) T_26_101 rfl ?_
    refine x_cv2 T_26_102 mN_34 mL_34 (Nat.le_of_ble_eq_true rfl) mO_34 (hP.o hO) (Nat.le_of_ble_eq_true rfl) (hso) ?_
    rintro _ σ ⟨rfl, rfl⟩
    refine cI ?_
    refine x_ic2 T_26_105 (fun h => absurd (show mz < z from h) (by omega)) (fun _ => ?_)
    refine x_lr (z := some S) T_26_108 rfl ?_
    refine x_li (z := 116) T_26_109 rfl ?_
    refine x_cv2 T_26_111 mN_35 mL_35 (Nat.le_of_ble_eq_true rfl) mO_35 (hP.o hO) (Nat.le_of_ble_eq_true rfl) (hwh) ?_
    rintro _ σ ⟨rfl, rfl⟩
    refine cI ?_
    refine x_if T_26_114 (fun h => absurd (show (1 : Int) = 0 from h) (by decide)) (fun _ => ?_)
    refine x_li (z := 116) T_26_117 rfl ?_
    refine x_ic T_26_119 ?_
    refine x_ic2 T_26_121 (fun _ => ?_) (fun h => absurd (show 110 ≤ (116 : Int) by decide) h)
    refine x_lr (z := some S) T_26_128 rfl ?_
    refine x_li (z := c) T_26_129 rfl ?_
    refine x_lr (z := some mb) T_26_130 rfl ?_
    refine x_ic T_26_131 ?_
    refine x_ic T_26_133 ?_
    refine x_cv3 T_26_134 mN_29 mL_29 (Nat.le_of_ble_eq_true rfl) mO_29 (hP.o hbm) (Nat.le_of_ble_eq_true rfl) (hnum) ?_
    rintro _ σ ⟨rfl, rfl⟩
    refine cL ?_
    refine x_cv3 T_26_137 mN_39 mL_39 (Nat.le_of_ble_eq_true rfl) mO_39 (hP.o hO) (Nat.le_of_ble_eq_true rfl) (hfd) ?_
    rintro _ σ ⟨rfl, rfl⟩
    refine cR ?_
    refine x_sr (ls1 := [some (vR (some S)), some (vI c), some (vR (some mb)), some (vR (some rp)), some (vI 116), some (vL tg), none, some (vI 14), some (vR none)]) T_26_140 rfl ?_
    refine x_li (z := 116) T_26_142 rfl ?_
    refine x_ic T_26_144 ?_
    refine x_ic2 T_26_146 (fun _ => ?_) (fun h => absurd (show 110 ≤ (116 : Int) by decide) h)
    refine x_lr (z := none) T_26_183 rfl ?_
    refine x_nnul T_26_185 (fun a0 h0 => absurd h0 (by simp)) (fun _ => ?_)
    refine x_ic T_26_188 ?_
    refine x_si (ls1 := [some (vR (some S)), some (vI c), some (vR (some mb)), some (vR (some rp)), some (vI 116), some (vL tg), none, some (vI 6), some (vR none)]) T_26_190 rfl ?_
    refine x_goto T_26_192 ?_
    exact hgo
  obtain ⟨⟨i, hi, hk⟩, hu⟩ := qFid_f (P := P) hsr (by omega) (show 0 ≤ qFid P s c num by omega)
  rw [hk] at hu
  rw [hk, show fdA S s (96 * s + i) = some (S + 198 + i.toNat) by unfold fdA; rw [if_neg (by omega), show 96 * s + i - 96 * s = i by omega]] at hfd
  have hfo := hS.fd hi
  rw [← hnm] at hk
  have hdo := x_doRead (fb := fb) (d := d + 3) hP hS hX hK hG hD.1 hIO hst hD.2.1 hr hrp hB hz hw hBr hro hroom n1 n2 hc hcn hi hk hu
  rw [hk] at hQ2
  rw [← hQ2, ← hE] at hdo
  have hdo : CL fb (d + 6) 68 [vR (some S), vR (some (S + 198 + i.toNat))] σ (XT σ0 K W R S rp s e Q (l2 ++ L)) := by
    rw [← hL]
    rw [show srL P s c 116 (lg l) z = (leb 4 ((rdD P s (qFid P s c (nu (lg l) 7 4)) (w64 (nu (lg l) 11 8)) (nu (lg l) 19 4)).length : Int) ++ rdD P s (qFid P s c (nu (lg l) 7 4)) (w64 (nu (lg l) 11 8)) (nu (lg l) 19 4)) from rfl, hk]
    exact hdo
  clear hX hK hG hD hIO hst
  obtain ⟨fa, hfa⟩ : ∃ fa, S + 198 + i.toNat = fa := ⟨_, rfl⟩
  rw [hfa] at hfd hdo hfo
  refine x_ic T_26_92 ?_
  refine x_si (ls1 := [some (vR (some S)), some (vI c), some (vR (some mb)), some (vR (some rp)), some (vI 116), some (vL tg), none, some (vI 14), none]) T_26_94 rfl ?_
  refine x_lr (z := some mb) T_26_96 rfl ?_
  refine x_cv1 T_26_97 mN_28 mL_28 (Nat.le_of_ble_eq_true rfl) mO_28 (hP.o hbm) (Nat.le_of_ble_eq_true rfl) (hsz0) ?_
  rintro _ σ ⟨rfl, rfl⟩
  refine cI ?_
  refine x_lr (z := some S) T_26_100 rfl ?_
  refine x_li (z := c) T_26_101 rfl ?_
  refine x_cv2 T_26_102 mN_34 mL_34 (Nat.le_of_ble_eq_true rfl) mO_34 (hP.o hO) (Nat.le_of_ble_eq_true rfl) (hso) ?_
  rintro _ σ ⟨rfl, rfl⟩
  refine cI ?_
  refine x_ic2 T_26_105 (fun h => absurd (show mz < z from h) (by omega)) (fun _ => ?_)
  refine x_lr (z := some S) T_26_108 rfl ?_
  refine x_li (z := 116) T_26_109 rfl ?_
  refine x_cv2 T_26_111 mN_35 mL_35 (Nat.le_of_ble_eq_true rfl) mO_35 (hP.o hO) (Nat.le_of_ble_eq_true rfl) (hwh) ?_
  rintro _ σ ⟨rfl, rfl⟩
  refine cI ?_
  refine x_if T_26_114 (fun h => absurd (show (1 : Int) = 0 from h) (by decide)) (fun _ => ?_)
  refine x_li (z := 116) T_26_117 rfl ?_
  refine x_ic T_26_119 ?_
  refine x_ic2 T_26_121 (fun _ => ?_) (fun h => absurd (show 110 ≤ (116 : Int) by decide) h)
  refine x_lr (z := some S) T_26_128 rfl ?_
  refine x_li (z := c) T_26_129 rfl ?_
  refine x_lr (z := some mb) T_26_130 rfl ?_
  refine x_ic T_26_131 ?_
  refine x_ic T_26_133 ?_
  refine x_cv3 T_26_134 mN_29 mL_29 (Nat.le_of_ble_eq_true rfl) mO_29 (hP.o hbm) (Nat.le_of_ble_eq_true rfl) (hnum) ?_
  rintro _ σ ⟨rfl, rfl⟩
  refine cL ?_
  refine x_cv3 T_26_137 mN_39 mL_39 (Nat.le_of_ble_eq_true rfl) mO_39 (hP.o hO) (Nat.le_of_ble_eq_true rfl) (hfd) ?_
  rintro _ σ ⟨rfl, rfl⟩
  refine cR ?_
  refine x_sr (ls1 := [some (vR (some S)), some (vI c), some (vR (some mb)), some (vR (some rp)), some (vI 116), some (vL tg), none, some (vI 14), some (vR (some fa))]) T_26_140 rfl ?_
  refine x_li (z := 116) T_26_142 rfl ?_
  refine x_ic T_26_144 ?_
  refine x_ic2 T_26_146 (fun _ => ?_) (fun h => absurd (show 110 ≤ (116 : Int) by decide) h)
  refine x_lr (z := some fa) T_26_183 rfl ?_
  refine x_nnul T_26_185 (fun _ _ => ?_) (fun h0 => absurd h0 (by simp))
  refine x_li (z := 116) T_26_195 rfl ?_
  refine x_swIn T_26_197 (by decide) (by decide) rfl ?_
  refine x_lr (z := some S) T_26_305 rfl ?_
  refine x_lr (z := some fa) T_26_306 rfl ?_
  refine x_cv2 T_26_308 mN_68 mL_68 (Nat.le_of_ble_eq_true rfl) mO_68 (hP.o hO) (Nat.le_of_ble_eq_true rfl) (hdo) ?_
  clear hP
  rintro _ σ h1
  obtain ⟨rfl, -⟩ := id h1
  refine cI ?_
  refine x_si (ls1 := [some (vR (some S)), some (vI c), some (vR (some mb)), some (vR (some rp)), some (vI 116), some (vL tg), none, some (vI e), some (vR (some fa))]) T_26_311 rfl ?_
  refine x_goto T_26_313 ?_
  exact hmid σ _ h1
theorem sv_118 {Post : Option AV → hM → Prop} (hP : PX σ0 W R σ) (hS : VS S s) (hX : XV W R P S s ord t) (hK : CT K W R) (hG : GI T U P) (hD : PKK P) (hT : T + 98 ≤ 2147483000) (hIO : SCR W P) (hst : s = 2 → ∀ p, 0 ≤ p → p < 8 → ¬ P 2320 p = 0 → PST W R P p (295 + 125 * p.toNat)) (hr : R S 2233 = some mb) (hrp : R S 2234 = some rp) (hcn : W S 2235 = c) (hc : c = 0 ∨ c = 1) (hB : BY W mb M l) (hz : (l.length : Int) = z) (hz7 : 7 ≤ z) (hmo : mb + 1 < S ∨ S + 294 ≤ mb) (hBr : BY W rp 300 l2) (hro : rp + 1 < S ∨ S + 294 ≤ rp) (hmr : mb ≠ rp) (hroom : l2.length = 7) (n1 : rp ≠ 130) (n2 : rp ≠ 132) (m2 : mb ≠ 132) (hsz : z ≤ P 2313 (2 * s + c)) (he : srE P s c 118 (lg l) z = e) (hQ : srP P s c 118 (lg l) z = Q) (hL : srL P s c 118 (lg l) z = L) (hmid : ∀ (σ' : hM) (x8 : Option AV), XT σ0 K W R S rp s e Q (l2 ++ L) (some (vI e)) σ' → WP fb (d + 7) 26 368 [some (vR (some S)), some (vI c), some (vR (some mb)), some (vR (some rp)), some (vI 118), some (vL tg), none, some (vI e), x8] [] σ' Post) : WP fb (d + 7) 26 92 [some (vR (some S)), some (vI c), some (vR (some mb)), some (vR (some rp)), some (vI 118), some (vL tg), none, none, none] [] σ Post := by
  have hO := hS.o
  have hbm := hB.1
  have hsr := hS.1
  have hb8 := hB.2.2.2.2.2.1
  have hn1 := hB.2.2.1
  have hlz := hB.2.2.2.2.1
  have hsz0 := x_size (fb := fb) (d := d + 6) hP hB hz
  have hso := x_sizeOf (fb := fb) (d := d + 6) (z := P 2313 (2 * s + c)) hP hS hc (by rcases hc with rfl | rfl; (rw [Int.add_zero]; exact hX.2.2.1.1); exact hX.2.2.1.2.1)
  obtain ⟨mz, hmz⟩ : ∃ q, P 2313 (2 * s + c) = q := ⟨_, rfl⟩
  rw [hmz] at hso hsz
  have hE : srE P s c 118 (lg l) z = wrErr P s c (lg l) z := rfl
  have hQ2 : srP P s c 118 (lg l) z = (if wrErr P s c (lg l) z = 0 then wrP P s (qFid P s c (nu (lg l) 7 4)) (w64 (nu (lg l) 11 8)) (z - 23) (lg l) else P) := rfl
  rw [he] at hE
  rw [hQ] at hQ2
  have hno : ∀ e0 : Int, ¬ e0 = 0 → e = e0 → Q = P → XT σ0 K W R S rp s e Q (l2 ++ L) (some (vI e0)) σ := fun e0 q1 q2 q3 => by
    rw [q2, q3]
    exact ⟨rfl, W, R, ord, t, l2, hP, hBr, fun c => absurd c q1, hX, hK, FVX_of FV_rfl, hIO⟩
  have hwh := x_isWhole (fb := fb) (d := d + 4) (k := 118) hP hS hr hB hz
  rw [show whlV (lg l) z 118 = (if 23 ≤ z ∧ nu (lg l) 19 4 = z - 23 then 1 else 0) from rfl] at hwh
  by_cases hw : 23 ≤ z ∧ nu (lg l) 19 4 = z - 23
  rotate_left
  · rw [if_neg hw] at hwh
    have h14 : wrErr P s c (lg l) z = 14 := if_pos hw
    rw [h14] at hE
    rw [h14, if_neg (show ¬ (14 : Int) = 0 by decide)] at hQ2
    have hgo := hmid σ none (by rw [hE]; rw [hE] at hno; exact hno 14 (by decide) rfl hQ2)
    rw [hE] at hgo
    refine x_ic T_26_92 ?_
    refine x_si (ls1 := [some (vR (some S)), some (vI c), some (vR (some mb)), some (vR (some rp)), some (vI 118), some (vL tg), none, some (vI 14), none]) T_26_94 rfl ?_
    refine x_lr (z := some mb) T_26_96 rfl ?_
    refine x_cv1 T_26_97 mN_28 mL_28 (Nat.le_of_ble_eq_true rfl) mO_28 (hP.o hbm) (Nat.le_of_ble_eq_true rfl) (hsz0) ?_
    rintro _ σ ⟨rfl, rfl⟩
    refine cI ?_
    refine x_lr (z := some S) T_26_100 rfl ?_
    refine x_li (z := c) T_26_101 rfl ?_
    refine x_cv2 T_26_102 mN_34 mL_34 (Nat.le_of_ble_eq_true rfl) mO_34 (hP.o hO) (Nat.le_of_ble_eq_true rfl) (hso) ?_
    rintro _ σ ⟨rfl, rfl⟩
    refine cI ?_
    refine x_ic2 T_26_105 (fun h => absurd (show mz < z from h) (by omega)) (fun _ => ?_)
    refine x_lr (z := some S) T_26_108 rfl ?_
    refine x_li (z := 118) T_26_109 rfl ?_
    refine x_cv2 T_26_111 mN_35 mL_35 (Nat.le_of_ble_eq_true rfl) mO_35 (hP.o hO) (Nat.le_of_ble_eq_true rfl) (hwh) ?_
    rintro _ σ ⟨rfl, rfl⟩
    refine cI ?_
    refine x_if T_26_114 (fun _ => ?_) (fun h => absurd (show (0 : Int) = 0 by decide) h)
    exact hgo
  rw [if_pos hw] at hwh
  have hz11 : 11 ≤ z := by omega
  obtain ⟨num, hnm⟩ : ∃ q, nu (lg l) 7 4 = q := ⟨_, rfl⟩
  have hnum := x_num (fb := fb) (d := d + 6) (s := 7) (k := 4) 4 hP hB hz rfl (by decide) (by decide) (by omega) hnm
  have hfd := x_find (fb := fb) (d := d + 6) (v := num) hP hS hX.2.1.fu hc
  by_cases hf : qFid P s c num < 0
  · rw [show fdA S s (qFid P s c num) = none from if_pos hf] at hfd
    have h6 : wrErr P s c (lg l) z = 6 := by unfold wrErr wrX; rw [if_neg (fun c => c hw), hnm, if_pos hf]
    rw [h6] at hE
    rw [h6, if_neg (show ¬ (6 : Int) = 0 by decide)] at hQ2
    have hgo := hmid σ (some (vR none)) (by rw [hE]; rw [hE] at hno; exact hno 6 (by decide) rfl hQ2)
    rw [hE] at hgo
    refine x_ic T_26_92 ?_
    refine x_si (ls1 := [some (vR (some S)), some (vI c), some (vR (some mb)), some (vR (some rp)), some (vI 118), some (vL tg), none, some (vI 14), none]) T_26_94 rfl ?_
    refine x_lr (z := some mb) T_26_96 rfl ?_
    refine x_cv1 T_26_97 mN_28 mL_28 (Nat.le_of_ble_eq_true rfl) mO_28 (hP.o hbm) (Nat.le_of_ble_eq_true rfl) (hsz0) ?_
    rintro _ σ ⟨rfl, rfl⟩
    refine cI ?_
    refine x_lr (z := some S) T_26_100 rfl ?_
    refine x_li (z := c) T_26_101 rfl ?_
    refine x_cv2 T_26_102 mN_34 mL_34 (Nat.le_of_ble_eq_true rfl) mO_34 (hP.o hO) (Nat.le_of_ble_eq_true rfl) (hso) ?_
    rintro _ σ ⟨rfl, rfl⟩
    refine cI ?_
    refine x_ic2 T_26_105 (fun h => absurd (show mz < z from h) (by omega)) (fun _ => ?_)
    refine x_lr (z := some S) T_26_108 rfl ?_
    refine x_li (z := 118) T_26_109 rfl ?_
    refine x_cv2 T_26_111 mN_35 mL_35 (Nat.le_of_ble_eq_true rfl) mO_35 (hP.o hO) (Nat.le_of_ble_eq_true rfl) (hwh) ?_
    rintro _ σ ⟨rfl, rfl⟩
    refine cI ?_
    refine x_if T_26_114 (fun h => absurd (show (1 : Int) = 0 from h) (by decide)) (fun _ => ?_)
    refine x_li (z := 118) T_26_117 rfl ?_
    refine x_ic T_26_119 ?_
    refine x_ic2 T_26_121 (fun _ => ?_) (fun h => absurd (show 110 ≤ (118 : Int) by decide) h)
    refine x_lr (z := some S) T_26_128 rfl ?_
    refine x_li (z := c) T_26_129 rfl ?_
    refine x_lr (z := some mb) T_26_130 rfl ?_
    refine x_ic T_26_131 ?_
    refine x_ic T_26_133 ?_
    refine x_cv3 T_26_134 mN_29 mL_29 (Nat.le_of_ble_eq_true rfl) mO_29 (hP.o hbm) (Nat.le_of_ble_eq_true rfl) (hnum) ?_
    rintro _ σ ⟨rfl, rfl⟩
    refine cL ?_
    refine x_cv3 T_26_137 mN_39 mL_39 (Nat.le_of_ble_eq_true rfl) mO_39 (hP.o hO) (Nat.le_of_ble_eq_true rfl) (hfd) ?_
    rintro _ σ ⟨rfl, rfl⟩
    refine cR ?_
    refine x_sr (ls1 := [some (vR (some S)), some (vI c), some (vR (some mb)), some (vR (some rp)), some (vI 118), some (vL tg), none, some (vI 14), some (vR none)]) T_26_140 rfl ?_
    refine x_li (z := 118) T_26_142 rfl ?_
    refine x_ic T_26_144 ?_
    refine x_ic2 T_26_146 (fun _ => ?_) (fun h => absurd (show 110 ≤ (118 : Int) by decide) h)
    refine x_lr (z := none) T_26_183 rfl ?_
    refine x_nnul T_26_185 (fun a0 h0 => absurd h0 (by simp)) (fun _ => ?_)
    refine x_ic T_26_188 ?_
    refine x_si (ls1 := [some (vR (some S)), some (vI c), some (vR (some mb)), some (vR (some rp)), some (vI 118), some (vL tg), none, some (vI 6), some (vR none)]) T_26_190 rfl ?_
    refine x_goto T_26_192 ?_
    exact hgo
  obtain ⟨⟨i, hi, hk⟩, hu⟩ := qFid_f (P := P) hsr (by omega) (show 0 ≤ qFid P s c num by omega)
  rw [hk] at hu
  rw [hk, show fdA S s (96 * s + i) = some (S + 198 + i.toNat) by unfold fdA; rw [if_neg (by omega), show 96 * s + i - 96 * s = i by omega]] at hfd
  have hfo := hS.fd hi
  rw [← hnm] at hk
  have hdo := x_doWrite (fb := fb) (d := d) hP hS hX hK hG hD.1 (by omega) hIO hD.2.2 hr hrp hB hz hw hmo hBr hro hmr hroom n1 n2 m2 hi hk hu
  rw [hk] at hQ2
  rw [← hQ2, ← hE] at hdo
  have hdo : CL fb (d + 6) 78 [vR (some S), vR (some (S + 198 + i.toNat))] σ (XT σ0 K W R S rp s e Q (l2 ++ L)) := by
    rw [← hL]
    exact hdo
  clear hX hK hG hD hIO hst
  obtain ⟨fa, hfa⟩ : ∃ fa, S + 198 + i.toNat = fa := ⟨_, rfl⟩
  rw [hfa] at hfd hdo hfo
  refine x_ic T_26_92 ?_
  refine x_si (ls1 := [some (vR (some S)), some (vI c), some (vR (some mb)), some (vR (some rp)), some (vI 118), some (vL tg), none, some (vI 14), none]) T_26_94 rfl ?_
  refine x_lr (z := some mb) T_26_96 rfl ?_
  refine x_cv1 T_26_97 mN_28 mL_28 (Nat.le_of_ble_eq_true rfl) mO_28 (hP.o hbm) (Nat.le_of_ble_eq_true rfl) (hsz0) ?_
  rintro _ σ ⟨rfl, rfl⟩
  refine cI ?_
  refine x_lr (z := some S) T_26_100 rfl ?_
  refine x_li (z := c) T_26_101 rfl ?_
  refine x_cv2 T_26_102 mN_34 mL_34 (Nat.le_of_ble_eq_true rfl) mO_34 (hP.o hO) (Nat.le_of_ble_eq_true rfl) (hso) ?_
  rintro _ σ ⟨rfl, rfl⟩
  refine cI ?_
  refine x_ic2 T_26_105 (fun h => absurd (show mz < z from h) (by omega)) (fun _ => ?_)
  refine x_lr (z := some S) T_26_108 rfl ?_
  refine x_li (z := 118) T_26_109 rfl ?_
  refine x_cv2 T_26_111 mN_35 mL_35 (Nat.le_of_ble_eq_true rfl) mO_35 (hP.o hO) (Nat.le_of_ble_eq_true rfl) (hwh) ?_
  rintro _ σ ⟨rfl, rfl⟩
  refine cI ?_
  refine x_if T_26_114 (fun h => absurd (show (1 : Int) = 0 from h) (by decide)) (fun _ => ?_)
  refine x_li (z := 118) T_26_117 rfl ?_
  refine x_ic T_26_119 ?_
  refine x_ic2 T_26_121 (fun _ => ?_) (fun h => absurd (show 110 ≤ (118 : Int) by decide) h)
  refine x_lr (z := some S) T_26_128 rfl ?_
  refine x_li (z := c) T_26_129 rfl ?_
  refine x_lr (z := some mb) T_26_130 rfl ?_
  refine x_ic T_26_131 ?_
  refine x_ic T_26_133 ?_
  refine x_cv3 T_26_134 mN_29 mL_29 (Nat.le_of_ble_eq_true rfl) mO_29 (hP.o hbm) (Nat.le_of_ble_eq_true rfl) (hnum) ?_
  rintro _ σ ⟨rfl, rfl⟩
  refine cL ?_
  refine x_cv3 T_26_137 mN_39 mL_39 (Nat.le_of_ble_eq_true rfl) mO_39 (hP.o hO) (Nat.le_of_ble_eq_true rfl) (hfd) ?_
  rintro _ σ ⟨rfl, rfl⟩
  refine cR ?_
  refine x_sr (ls1 := [some (vR (some S)), some (vI c), some (vR (some mb)), some (vR (some rp)), some (vI 118), some (vL tg), none, some (vI 14), some (vR (some fa))]) T_26_140 rfl ?_
  refine x_li (z := 118) T_26_142 rfl ?_
  refine x_ic T_26_144 ?_
  refine x_ic2 T_26_146 (fun _ => ?_) (fun h => absurd (show 110 ≤ (118 : Int) by decide) h)
  refine x_lr (z := some fa) T_26_183 rfl ?_
  refine x_nnul T_26_185 (fun _ _ => ?_) (fun h0 => absurd h0 (by simp))
  refine x_li (z := 118) T_26_195 rfl ?_
  refine x_swIn T_26_197 (by decide) (by decide) rfl ?_
  refine x_lr (z := some S) T_26_316 rfl ?_
  refine x_lr (z := some fa) T_26_317 rfl ?_
  refine x_cv2 T_26_319 mN_78 mL_78 (Nat.le_of_ble_eq_true rfl) mO_78 (hP.o hO) (Nat.le_of_ble_eq_true rfl) (hdo) ?_
  clear hP
  rintro _ σ h1
  obtain ⟨rfl, -⟩ := id h1
  refine cI ?_
  refine x_si (ls1 := [some (vR (some S)), some (vI c), some (vR (some mb)), some (vR (some rp)), some (vI 118), some (vL tg), none, some (vI e), some (vR (some fa))]) T_26_322 rfl ?_
  refine x_goto T_26_324 ?_
  exact hmid σ _ h1
theorem sv_120 {Post : Option AV → hM → Prop} (hP : PX σ0 W R σ) (hS : VS S s) (hX : XV W R P S s ord t) (hK : CT K W R) (hG : GI T U P) (hD : PKK P) (hT : T + 98 ≤ 2147483000) (hIO : SCR W P) (hst : s = 2 → ∀ p, 0 ≤ p → p < 8 → ¬ P 2320 p = 0 → PST W R P p (295 + 125 * p.toNat)) (hr : R S 2233 = some mb) (hrp : R S 2234 = some rp) (hcn : W S 2235 = c) (hc : c = 0 ∨ c = 1) (hB : BY W mb M l) (hz : (l.length : Int) = z) (hz7 : 7 ≤ z) (hmo : mb + 1 < S ∨ S + 294 ≤ mb) (hBr : BY W rp 300 l2) (hro : rp + 1 < S ∨ S + 294 ≤ rp) (hmr : mb ≠ rp) (hroom : l2.length = 7) (n1 : rp ≠ 130) (n2 : rp ≠ 132) (m2 : mb ≠ 132) (hsz : z ≤ P 2313 (2 * s + c)) (he : srE P s c 120 (lg l) z = e) (hQ : srP P s c 120 (lg l) z = Q) (hL : srL P s c 120 (lg l) z = L) (hmid : ∀ (σ' : hM) (x8 : Option AV), XT σ0 K W R S rp s e Q (l2 ++ L) (some (vI e)) σ' → WP fb (d + 7) 26 368 [some (vR (some S)), some (vI c), some (vR (some mb)), some (vR (some rp)), some (vI 120), some (vL tg), none, some (vI e), x8] [] σ' Post) : WP fb (d + 7) 26 92 [some (vR (some S)), some (vI c), some (vR (some mb)), some (vR (some rp)), some (vI 120), some (vL tg), none, none, none] [] σ Post := by
  have hO := hS.o
  have hbm := hB.1
  have hsr := hS.1
  have hb8 := hB.2.2.2.2.2.1
  have hn1 := hB.2.2.1
  have hlz := hB.2.2.2.2.1
  have hsz0 := x_size (fb := fb) (d := d + 6) hP hB hz
  have hso := x_sizeOf (fb := fb) (d := d + 6) (z := P 2313 (2 * s + c)) hP hS hc (by rcases hc with rfl | rfl; (rw [Int.add_zero]; exact hX.2.2.1.1); exact hX.2.2.1.2.1)
  obtain ⟨mz, hmz⟩ : ∃ q, P 2313 (2 * s + c) = q := ⟨_, rfl⟩
  rw [hmz] at hso hsz
  have hIOQ : SCR W Q := by rw [← hQ]; exact hIO.iof (IOF_srP (by decide) (by decide))
  have hE : srE P s c 120 (lg l) z = (if z = 11 then onE P s (qFid P s c (nu (lg l) 7 4)) 120 else 14) := rfl
  have hQ2 : srP P s c 120 (lg l) z = (if z = 11 then onP P s (qFid P s c (nu (lg l) 7 4)) 120 else P) := rfl
  rw [he] at hE
  rw [hQ] at hQ2
  have hno : ∀ e0 : Int, ¬ e0 = 0 → e = e0 → Q = P → XT σ0 K W R S rp s e Q (l2 ++ L) (some (vI e0)) σ := fun e0 q1 q2 q3 => by
    rw [q2, q3]
    exact ⟨rfl, W, R, ord, t, l2, hP, hBr, fun c => absurd c q1, hX, hK, FVX_of FV_rfl, hIO⟩
  have hwh := x_isWhole (fb := fb) (d := d + 4) (k := 120) hP hS hr hB hz
  rw [show whlV (lg l) z 120 = (if z = 11 then 1 else 0) from rfl] at hwh
  by_cases hw : z = 11
  rotate_left
  · rw [if_neg hw] at hwh
    have h14 : (if z = 11 then onE P s (qFid P s c (nu (lg l) 7 4)) 120 else 14) = 14 := if_neg hw
    rw [h14] at hE
    rw [if_neg hw] at hQ2
    have hgo := hmid σ none (by rw [hE]; rw [hE] at hno; exact hno 14 (by decide) rfl hQ2)
    rw [hE] at hgo
    refine x_ic T_26_92 ?_
    refine x_si (ls1 := [some (vR (some S)), some (vI c), some (vR (some mb)), some (vR (some rp)), some (vI 120), some (vL tg), none, some (vI 14), none]) T_26_94 rfl ?_
    refine x_lr (z := some mb) T_26_96 rfl ?_
    refine x_cv1 T_26_97 mN_28 mL_28 (Nat.le_of_ble_eq_true rfl) mO_28 (hP.o hbm) (Nat.le_of_ble_eq_true rfl) (hsz0) ?_
    rintro _ σ ⟨rfl, rfl⟩
    refine cI ?_
    refine x_lr (z := some S) T_26_100 rfl ?_
    refine x_li (z := c) T_26_101 rfl ?_
    refine x_cv2 T_26_102 mN_34 mL_34 (Nat.le_of_ble_eq_true rfl) mO_34 (hP.o hO) (Nat.le_of_ble_eq_true rfl) (hso) ?_
    rintro _ σ ⟨rfl, rfl⟩
    refine cI ?_
    refine x_ic2 T_26_105 (fun h => absurd (show mz < z from h) (by omega)) (fun _ => ?_)
    refine x_lr (z := some S) T_26_108 rfl ?_
    refine x_li (z := 120) T_26_109 rfl ?_
    refine x_cv2 T_26_111 mN_35 mL_35 (Nat.le_of_ble_eq_true rfl) mO_35 (hP.o hO) (Nat.le_of_ble_eq_true rfl) (hwh) ?_
    rintro _ σ ⟨rfl, rfl⟩
    refine cI ?_
    refine x_if T_26_114 (fun _ => ?_) (fun h => absurd (show (0 : Int) = 0 by decide) h)
    exact hgo
  rw [if_pos hw] at hwh
  have hz11 : 11 ≤ z := by omega
  rw [if_pos hw] at hE hQ2
  obtain ⟨num, hnm⟩ : ∃ q, nu (lg l) 7 4 = q := ⟨_, rfl⟩
  have hnum := x_num (fb := fb) (d := d + 6) (s := 7) (k := 4) 4 hP hB hz rfl (by decide) (by decide) (by omega) hnm
  have hfd := x_find (fb := fb) (d := d + 6) (v := num) hP hS hX.2.1.fu hc
  by_cases hf : qFid P s c num < 0
  · rw [show fdA S s (qFid P s c num) = none from if_pos hf] at hfd
    rw [hnm] at hE hQ2
    rw [show onE P s (qFid P s c num) 120 = 6 from if_pos hf] at hE
    rw [show onP P s (qFid P s c num) 120 = P from if_pos hf] at hQ2
    have hgo := hmid σ (some (vR none)) (by rw [hE]; rw [hE] at hno; exact hno 6 (by decide) rfl hQ2)
    rw [hE] at hgo
    refine x_ic T_26_92 ?_
    refine x_si (ls1 := [some (vR (some S)), some (vI c), some (vR (some mb)), some (vR (some rp)), some (vI 120), some (vL tg), none, some (vI 14), none]) T_26_94 rfl ?_
    refine x_lr (z := some mb) T_26_96 rfl ?_
    refine x_cv1 T_26_97 mN_28 mL_28 (Nat.le_of_ble_eq_true rfl) mO_28 (hP.o hbm) (Nat.le_of_ble_eq_true rfl) (hsz0) ?_
    rintro _ σ ⟨rfl, rfl⟩
    refine cI ?_
    refine x_lr (z := some S) T_26_100 rfl ?_
    refine x_li (z := c) T_26_101 rfl ?_
    refine x_cv2 T_26_102 mN_34 mL_34 (Nat.le_of_ble_eq_true rfl) mO_34 (hP.o hO) (Nat.le_of_ble_eq_true rfl) (hso) ?_
    rintro _ σ ⟨rfl, rfl⟩
    refine cI ?_
    refine x_ic2 T_26_105 (fun h => absurd (show mz < z from h) (by omega)) (fun _ => ?_)
    refine x_lr (z := some S) T_26_108 rfl ?_
    refine x_li (z := 120) T_26_109 rfl ?_
    refine x_cv2 T_26_111 mN_35 mL_35 (Nat.le_of_ble_eq_true rfl) mO_35 (hP.o hO) (Nat.le_of_ble_eq_true rfl) (hwh) ?_
    rintro _ σ ⟨rfl, rfl⟩
    refine cI ?_
    refine x_if T_26_114 (fun h => absurd (show (1 : Int) = 0 from h) (by decide)) (fun _ => ?_)
    refine x_li (z := 120) T_26_117 rfl ?_
    refine x_ic T_26_119 ?_
    refine x_ic2 T_26_121 (fun _ => ?_) (fun h => absurd (show 110 ≤ (120 : Int) by decide) h)
    refine x_lr (z := some S) T_26_128 rfl ?_
    refine x_li (z := c) T_26_129 rfl ?_
    refine x_lr (z := some mb) T_26_130 rfl ?_
    refine x_ic T_26_131 ?_
    refine x_ic T_26_133 ?_
    refine x_cv3 T_26_134 mN_29 mL_29 (Nat.le_of_ble_eq_true rfl) mO_29 (hP.o hbm) (Nat.le_of_ble_eq_true rfl) (hnum) ?_
    rintro _ σ ⟨rfl, rfl⟩
    refine cL ?_
    refine x_cv3 T_26_137 mN_39 mL_39 (Nat.le_of_ble_eq_true rfl) mO_39 (hP.o hO) (Nat.le_of_ble_eq_true rfl) (hfd) ?_
    rintro _ σ ⟨rfl, rfl⟩
    refine cR ?_
    refine x_sr (ls1 := [some (vR (some S)), some (vI c), some (vR (some mb)), some (vR (some rp)), some (vI 120), some (vL tg), none, some (vI 14), some (vR none)]) T_26_140 rfl ?_
    refine x_li (z := 120) T_26_142 rfl ?_
    refine x_ic T_26_144 ?_
    refine x_ic2 T_26_146 (fun _ => ?_) (fun h => absurd (show 110 ≤ (120 : Int) by decide) h)
    refine x_lr (z := none) T_26_183 rfl ?_
    refine x_nnul T_26_185 (fun a0 h0 => absurd h0 (by simp)) (fun _ => ?_)
    refine x_ic T_26_188 ?_
    refine x_si (ls1 := [some (vR (some S)), some (vI c), some (vR (some mb)), some (vR (some rp)), some (vI 120), some (vL tg), none, some (vI 6), some (vR none)]) T_26_190 rfl ?_
    refine x_goto T_26_192 ?_
    exact hgo
  obtain ⟨⟨i, hi, hk⟩, hu⟩ := qFid_f (P := P) hsr (by omega) (show 0 ≤ qFid P s c num by omega)
  rw [hk] at hu
  rw [hk, show fdA S s (96 * s + i) = some (S + 198 + i.toNat) by unfold fdA; rw [if_neg (by omega), show 96 * s + i - 96 * s = i by omega]] at hfd
  have hfo := hS.fd hi
  rw [← hnm] at hk
  have hdo := x_doClunk (fb := fb) (d := d + 4) hP hS hX hK hG hD.1 (by omega) hi hu
  rw [hk] at hE hQ2
  have eE : onE P s (96 * s + i) 120 = 0 := (if_neg (by omega)).trans (if_pos rfl)
  have eQ : onP P s (96 * s + i) 120 = gClunk P s (96 * s + i) := (if_neg (by omega)).trans (if_pos rfl)
  rw [← eE, ← eQ] at hdo
  rw [← hE, ← hQ2] at hdo
  have hLn : L = [] := by rw [← hL]; rfl
  rw [hLn, List.append_nil] at hmid
  clear hX hK hG hD hst
  obtain ⟨fa, hfa⟩ : ∃ fa, S + 198 + i.toNat = fa := ⟨_, rfl⟩
  rw [hfa] at hfd hdo hfo
  refine x_ic T_26_92 ?_
  refine x_si (ls1 := [some (vR (some S)), some (vI c), some (vR (some mb)), some (vR (some rp)), some (vI 120), some (vL tg), none, some (vI 14), none]) T_26_94 rfl ?_
  refine x_lr (z := some mb) T_26_96 rfl ?_
  refine x_cv1 T_26_97 mN_28 mL_28 (Nat.le_of_ble_eq_true rfl) mO_28 (hP.o hbm) (Nat.le_of_ble_eq_true rfl) (hsz0) ?_
  rintro _ σ ⟨rfl, rfl⟩
  refine cI ?_
  refine x_lr (z := some S) T_26_100 rfl ?_
  refine x_li (z := c) T_26_101 rfl ?_
  refine x_cv2 T_26_102 mN_34 mL_34 (Nat.le_of_ble_eq_true rfl) mO_34 (hP.o hO) (Nat.le_of_ble_eq_true rfl) (hso) ?_
  rintro _ σ ⟨rfl, rfl⟩
  refine cI ?_
  refine x_ic2 T_26_105 (fun h => absurd (show mz < z from h) (by omega)) (fun _ => ?_)
  refine x_lr (z := some S) T_26_108 rfl ?_
  refine x_li (z := 120) T_26_109 rfl ?_
  refine x_cv2 T_26_111 mN_35 mL_35 (Nat.le_of_ble_eq_true rfl) mO_35 (hP.o hO) (Nat.le_of_ble_eq_true rfl) (hwh) ?_
  rintro _ σ ⟨rfl, rfl⟩
  refine cI ?_
  refine x_if T_26_114 (fun h => absurd (show (1 : Int) = 0 from h) (by decide)) (fun _ => ?_)
  refine x_li (z := 120) T_26_117 rfl ?_
  refine x_ic T_26_119 ?_
  refine x_ic2 T_26_121 (fun _ => ?_) (fun h => absurd (show 110 ≤ (120 : Int) by decide) h)
  refine x_lr (z := some S) T_26_128 rfl ?_
  refine x_li (z := c) T_26_129 rfl ?_
  refine x_lr (z := some mb) T_26_130 rfl ?_
  refine x_ic T_26_131 ?_
  refine x_ic T_26_133 ?_
  refine x_cv3 T_26_134 mN_29 mL_29 (Nat.le_of_ble_eq_true rfl) mO_29 (hP.o hbm) (Nat.le_of_ble_eq_true rfl) (hnum) ?_
  rintro _ σ ⟨rfl, rfl⟩
  refine cL ?_
  refine x_cv3 T_26_137 mN_39 mL_39 (Nat.le_of_ble_eq_true rfl) mO_39 (hP.o hO) (Nat.le_of_ble_eq_true rfl) (hfd) ?_
  rintro _ σ ⟨rfl, rfl⟩
  refine cR ?_
  refine x_sr (ls1 := [some (vR (some S)), some (vI c), some (vR (some mb)), some (vR (some rp)), some (vI 120), some (vL tg), none, some (vI 14), some (vR (some fa))]) T_26_140 rfl ?_
  refine x_li (z := 120) T_26_142 rfl ?_
  refine x_ic T_26_144 ?_
  refine x_ic2 T_26_146 (fun _ => ?_) (fun h => absurd (show 110 ≤ (120 : Int) by decide) h)
  refine x_lr (z := some fa) T_26_183 rfl ?_
  refine x_nnul T_26_185 (fun _ _ => ?_) (fun h0 => absurd h0 (by simp))
  refine x_li (z := 120) T_26_195 rfl ?_
  refine x_swIn T_26_197 (by decide) (by decide) rfl ?_
  refine x_lr (z := some S) T_26_327 rfl ?_
  refine x_lr (z := some fa) T_26_328 rfl ?_
  refine x_cv2 T_26_330 mN_83 mL_83 (Nat.le_of_ble_eq_true rfl) mO_83 (hP.o hO) (Nat.le_of_ble_eq_true rfl) (hdo) ?_
  clear hP
  rintro _ σ h1
  obtain ⟨rfl, -⟩ := id h1
  refine cI ?_
  refine x_si (ls1 := [some (vR (some S)), some (vI c), some (vR (some mb)), some (vR (some rp)), some (vI 120), some (vL tg), none, some (vI e), some (vR (some fa))]) T_26_333 rfl ?_
  refine x_goto T_26_335 ?_
  exact hmid σ _ (XT_xo h1 hS hBr hro hIOQ)
theorem sv_122 {Post : Option AV → hM → Prop} (hP : PX σ0 W R σ) (hS : VS S s) (hX : XV W R P S s ord t) (hK : CT K W R) (hG : GI T U P) (hD : PKK P) (hT : T + 98 ≤ 2147483000) (hIO : SCR W P) (hst : s = 2 → ∀ p, 0 ≤ p → p < 8 → ¬ P 2320 p = 0 → PST W R P p (295 + 125 * p.toNat)) (hr : R S 2233 = some mb) (hrp : R S 2234 = some rp) (hcn : W S 2235 = c) (hc : c = 0 ∨ c = 1) (hB : BY W mb M l) (hz : (l.length : Int) = z) (hz7 : 7 ≤ z) (hmo : mb + 1 < S ∨ S + 294 ≤ mb) (hBr : BY W rp 300 l2) (hro : rp + 1 < S ∨ S + 294 ≤ rp) (hmr : mb ≠ rp) (hroom : l2.length = 7) (n1 : rp ≠ 130) (n2 : rp ≠ 132) (m2 : mb ≠ 132) (hsz : z ≤ P 2313 (2 * s + c)) (he : srE P s c 122 (lg l) z = e) (hQ : srP P s c 122 (lg l) z = Q) (hL : srL P s c 122 (lg l) z = L) (hmid : ∀ (σ' : hM) (x8 : Option AV), XT σ0 K W R S rp s e Q (l2 ++ L) (some (vI e)) σ' → WP fb (d + 7) 26 368 [some (vR (some S)), some (vI c), some (vR (some mb)), some (vR (some rp)), some (vI 122), some (vL tg), none, some (vI e), x8] [] σ' Post) : WP fb (d + 7) 26 92 [some (vR (some S)), some (vI c), some (vR (some mb)), some (vR (some rp)), some (vI 122), some (vL tg), none, none, none] [] σ Post := by
  have hO := hS.o
  have hbm := hB.1
  have hsr := hS.1
  have hb8 := hB.2.2.2.2.2.1
  have hn1 := hB.2.2.1
  have hlz := hB.2.2.2.2.1
  have hsz0 := x_size (fb := fb) (d := d + 6) hP hB hz
  have hso := x_sizeOf (fb := fb) (d := d + 6) (z := P 2313 (2 * s + c)) hP hS hc (by rcases hc with rfl | rfl; (rw [Int.add_zero]; exact hX.2.2.1.1); exact hX.2.2.1.2.1)
  obtain ⟨mz, hmz⟩ : ∃ q, P 2313 (2 * s + c) = q := ⟨_, rfl⟩
  rw [hmz] at hso hsz
  have hIOQ : SCR W Q := by rw [← hQ]; exact hIO.iof (IOF_srP (by decide) (by decide))
  have hE : srE P s c 122 (lg l) z = (if z = 11 then onE P s (qFid P s c (nu (lg l) 7 4)) 122 else 14) := rfl
  have hQ2 : srP P s c 122 (lg l) z = (if z = 11 then onP P s (qFid P s c (nu (lg l) 7 4)) 122 else P) := rfl
  rw [he] at hE
  rw [hQ] at hQ2
  have hno : ∀ e0 : Int, ¬ e0 = 0 → e = e0 → Q = P → XT σ0 K W R S rp s e Q (l2 ++ L) (some (vI e0)) σ := fun e0 q1 q2 q3 => by
    rw [q2, q3]
    exact ⟨rfl, W, R, ord, t, l2, hP, hBr, fun c => absurd c q1, hX, hK, FVX_of FV_rfl, hIO⟩
  have hwh := x_isWhole (fb := fb) (d := d + 4) (k := 122) hP hS hr hB hz
  rw [show whlV (lg l) z 122 = (if z = 11 then 1 else 0) from rfl] at hwh
  by_cases hw : z = 11
  rotate_left
  · rw [if_neg hw] at hwh
    have h14 : (if z = 11 then onE P s (qFid P s c (nu (lg l) 7 4)) 122 else 14) = 14 := if_neg hw
    rw [h14] at hE
    rw [if_neg hw] at hQ2
    have hgo := hmid σ none (by rw [hE]; rw [hE] at hno; exact hno 14 (by decide) rfl hQ2)
    rw [hE] at hgo
    refine x_ic T_26_92 ?_
    refine x_si (ls1 := [some (vR (some S)), some (vI c), some (vR (some mb)), some (vR (some rp)), some (vI 122), some (vL tg), none, some (vI 14), none]) T_26_94 rfl ?_
    refine x_lr (z := some mb) T_26_96 rfl ?_
    refine x_cv1 T_26_97 mN_28 mL_28 (Nat.le_of_ble_eq_true rfl) mO_28 (hP.o hbm) (Nat.le_of_ble_eq_true rfl) (hsz0) ?_
    rintro _ σ ⟨rfl, rfl⟩
    refine cI ?_
    refine x_lr (z := some S) T_26_100 rfl ?_
    refine x_li (z := c) T_26_101 rfl ?_
    refine x_cv2 T_26_102 mN_34 mL_34 (Nat.le_of_ble_eq_true rfl) mO_34 (hP.o hO) (Nat.le_of_ble_eq_true rfl) (hso) ?_
    rintro _ σ ⟨rfl, rfl⟩
    refine cI ?_
    refine x_ic2 T_26_105 (fun h => absurd (show mz < z from h) (by omega)) (fun _ => ?_)
    refine x_lr (z := some S) T_26_108 rfl ?_
    refine x_li (z := 122) T_26_109 rfl ?_
    refine x_cv2 T_26_111 mN_35 mL_35 (Nat.le_of_ble_eq_true rfl) mO_35 (hP.o hO) (Nat.le_of_ble_eq_true rfl) (hwh) ?_
    rintro _ σ ⟨rfl, rfl⟩
    refine cI ?_
    refine x_if T_26_114 (fun _ => ?_) (fun h => absurd (show (0 : Int) = 0 by decide) h)
    exact hgo
  rw [if_pos hw] at hwh
  have hz11 : 11 ≤ z := by omega
  rw [if_pos hw] at hE hQ2
  obtain ⟨num, hnm⟩ : ∃ q, nu (lg l) 7 4 = q := ⟨_, rfl⟩
  have hnum := x_num (fb := fb) (d := d + 6) (s := 7) (k := 4) 4 hP hB hz rfl (by decide) (by decide) (by omega) hnm
  have hfd := x_find (fb := fb) (d := d + 6) (v := num) hP hS hX.2.1.fu hc
  by_cases hf : qFid P s c num < 0
  · rw [show fdA S s (qFid P s c num) = none from if_pos hf] at hfd
    rw [hnm] at hE hQ2
    rw [show onE P s (qFid P s c num) 122 = 6 from if_pos hf] at hE
    rw [show onP P s (qFid P s c num) 122 = P from if_pos hf] at hQ2
    have hgo := hmid σ (some (vR none)) (by rw [hE]; rw [hE] at hno; exact hno 6 (by decide) rfl hQ2)
    rw [hE] at hgo
    refine x_ic T_26_92 ?_
    refine x_si (ls1 := [some (vR (some S)), some (vI c), some (vR (some mb)), some (vR (some rp)), some (vI 122), some (vL tg), none, some (vI 14), none]) T_26_94 rfl ?_
    refine x_lr (z := some mb) T_26_96 rfl ?_
    refine x_cv1 T_26_97 mN_28 mL_28 (Nat.le_of_ble_eq_true rfl) mO_28 (hP.o hbm) (Nat.le_of_ble_eq_true rfl) (hsz0) ?_
    rintro _ σ ⟨rfl, rfl⟩
    refine cI ?_
    refine x_lr (z := some S) T_26_100 rfl ?_
    refine x_li (z := c) T_26_101 rfl ?_
    refine x_cv2 T_26_102 mN_34 mL_34 (Nat.le_of_ble_eq_true rfl) mO_34 (hP.o hO) (Nat.le_of_ble_eq_true rfl) (hso) ?_
    rintro _ σ ⟨rfl, rfl⟩
    refine cI ?_
    refine x_ic2 T_26_105 (fun h => absurd (show mz < z from h) (by omega)) (fun _ => ?_)
    refine x_lr (z := some S) T_26_108 rfl ?_
    refine x_li (z := 122) T_26_109 rfl ?_
    refine x_cv2 T_26_111 mN_35 mL_35 (Nat.le_of_ble_eq_true rfl) mO_35 (hP.o hO) (Nat.le_of_ble_eq_true rfl) (hwh) ?_
    rintro _ σ ⟨rfl, rfl⟩
    refine cI ?_
    refine x_if T_26_114 (fun h => absurd (show (1 : Int) = 0 from h) (by decide)) (fun _ => ?_)
    refine x_li (z := 122) T_26_117 rfl ?_
    refine x_ic T_26_119 ?_
    refine x_ic2 T_26_121 (fun _ => ?_) (fun h => absurd (show 110 ≤ (122 : Int) by decide) h)
    refine x_lr (z := some S) T_26_128 rfl ?_
    refine x_li (z := c) T_26_129 rfl ?_
    refine x_lr (z := some mb) T_26_130 rfl ?_
    refine x_ic T_26_131 ?_
    refine x_ic T_26_133 ?_
    refine x_cv3 T_26_134 mN_29 mL_29 (Nat.le_of_ble_eq_true rfl) mO_29 (hP.o hbm) (Nat.le_of_ble_eq_true rfl) (hnum) ?_
    rintro _ σ ⟨rfl, rfl⟩
    refine cL ?_
    refine x_cv3 T_26_137 mN_39 mL_39 (Nat.le_of_ble_eq_true rfl) mO_39 (hP.o hO) (Nat.le_of_ble_eq_true rfl) (hfd) ?_
    rintro _ σ ⟨rfl, rfl⟩
    refine cR ?_
    refine x_sr (ls1 := [some (vR (some S)), some (vI c), some (vR (some mb)), some (vR (some rp)), some (vI 122), some (vL tg), none, some (vI 14), some (vR none)]) T_26_140 rfl ?_
    refine x_li (z := 122) T_26_142 rfl ?_
    refine x_ic T_26_144 ?_
    refine x_ic2 T_26_146 (fun _ => ?_) (fun h => absurd (show 110 ≤ (122 : Int) by decide) h)
    refine x_lr (z := none) T_26_183 rfl ?_
    refine x_nnul T_26_185 (fun a0 h0 => absurd h0 (by simp)) (fun _ => ?_)
    refine x_ic T_26_188 ?_
    refine x_si (ls1 := [some (vR (some S)), some (vI c), some (vR (some mb)), some (vR (some rp)), some (vI 122), some (vL tg), none, some (vI 6), some (vR none)]) T_26_190 rfl ?_
    refine x_goto T_26_192 ?_
    exact hgo
  obtain ⟨⟨i, hi, hk⟩, hu⟩ := qFid_f (P := P) hsr (by omega) (show 0 ≤ qFid P s c num by omega)
  rw [hk] at hu
  rw [hk, show fdA S s (96 * s + i) = some (S + 198 + i.toNat) by unfold fdA; rw [if_neg (by omega), show 96 * s + i - 96 * s = i by omega]] at hfd
  have hfo := hS.fd hi
  rw [← hnm] at hk
  have hdo := x_doRemove (fb := fb) (d := d + 4) hP hS hX hK hG hD.1 (by omega) hi hu
  rw [hk] at hE hQ2
  rw [← hE, ← hQ2] at hdo
  have hLn : L = [] := by rw [← hL]; rfl
  rw [hLn, List.append_nil] at hmid
  clear hX hK hG hD hst
  obtain ⟨fa, hfa⟩ : ∃ fa, S + 198 + i.toNat = fa := ⟨_, rfl⟩
  rw [hfa] at hfd hdo hfo
  refine x_ic T_26_92 ?_
  refine x_si (ls1 := [some (vR (some S)), some (vI c), some (vR (some mb)), some (vR (some rp)), some (vI 122), some (vL tg), none, some (vI 14), none]) T_26_94 rfl ?_
  refine x_lr (z := some mb) T_26_96 rfl ?_
  refine x_cv1 T_26_97 mN_28 mL_28 (Nat.le_of_ble_eq_true rfl) mO_28 (hP.o hbm) (Nat.le_of_ble_eq_true rfl) (hsz0) ?_
  rintro _ σ ⟨rfl, rfl⟩
  refine cI ?_
  refine x_lr (z := some S) T_26_100 rfl ?_
  refine x_li (z := c) T_26_101 rfl ?_
  refine x_cv2 T_26_102 mN_34 mL_34 (Nat.le_of_ble_eq_true rfl) mO_34 (hP.o hO) (Nat.le_of_ble_eq_true rfl) (hso) ?_
  rintro _ σ ⟨rfl, rfl⟩
  refine cI ?_
  refine x_ic2 T_26_105 (fun h => absurd (show mz < z from h) (by omega)) (fun _ => ?_)
  refine x_lr (z := some S) T_26_108 rfl ?_
  refine x_li (z := 122) T_26_109 rfl ?_
  refine x_cv2 T_26_111 mN_35 mL_35 (Nat.le_of_ble_eq_true rfl) mO_35 (hP.o hO) (Nat.le_of_ble_eq_true rfl) (hwh) ?_
  rintro _ σ ⟨rfl, rfl⟩
  refine cI ?_
  refine x_if T_26_114 (fun h => absurd (show (1 : Int) = 0 from h) (by decide)) (fun _ => ?_)
  refine x_li (z := 122) T_26_117 rfl ?_
  refine x_ic T_26_119 ?_
  refine x_ic2 T_26_121 (fun _ => ?_) (fun h => absurd (show 110 ≤ (122 : Int) by decide) h)
  refine x_lr (z := some S) T_26_128 rfl ?_
  refine x_li (z := c) T_26_129 rfl ?_
  refine x_lr (z := some mb) T_26_130 rfl ?_
  refine x_ic T_26_131 ?_
  refine x_ic T_26_133 ?_
  refine x_cv3 T_26_134 mN_29 mL_29 (Nat.le_of_ble_eq_true rfl) mO_29 (hP.o hbm) (Nat.le_of_ble_eq_true rfl) (hnum) ?_
  rintro _ σ ⟨rfl, rfl⟩
  refine cL ?_
  refine x_cv3 T_26_137 mN_39 mL_39 (Nat.le_of_ble_eq_true rfl) mO_39 (hP.o hO) (Nat.le_of_ble_eq_true rfl) (hfd) ?_
  rintro _ σ ⟨rfl, rfl⟩
  refine cR ?_
  refine x_sr (ls1 := [some (vR (some S)), some (vI c), some (vR (some mb)), some (vR (some rp)), some (vI 122), some (vL tg), none, some (vI 14), some (vR (some fa))]) T_26_140 rfl ?_
  refine x_li (z := 122) T_26_142 rfl ?_
  refine x_ic T_26_144 ?_
  refine x_ic2 T_26_146 (fun _ => ?_) (fun h => absurd (show 110 ≤ (122 : Int) by decide) h)
  refine x_lr (z := some fa) T_26_183 rfl ?_
  refine x_nnul T_26_185 (fun _ _ => ?_) (fun h0 => absurd h0 (by simp))
  refine x_li (z := 122) T_26_195 rfl ?_
  refine x_swIn T_26_197 (by decide) (by decide) rfl ?_
  refine x_lr (z := some S) T_26_338 rfl ?_
  refine x_lr (z := some fa) T_26_339 rfl ?_
  refine x_cv2 T_26_341 mN_84 mL_84 (Nat.le_of_ble_eq_true rfl) mO_84 (hP.o hO) (Nat.le_of_ble_eq_true rfl) (hdo) ?_
  clear hP
  rintro _ σ h1
  obtain ⟨rfl, -⟩ := id h1
  refine cI ?_
  refine x_si (ls1 := [some (vR (some S)), some (vI c), some (vR (some mb)), some (vR (some rp)), some (vI 122), some (vL tg), none, some (vI e), some (vR (some fa))]) T_26_344 rfl ?_
  refine x_goto T_26_346 ?_
  exact hmid σ _ (XT_xo h1 hS hBr hro hIOQ)
theorem sv_124 {Post : Option AV → hM → Prop} (hP : PX σ0 W R σ) (hS : VS S s) (hX : XV W R P S s ord t) (hK : CT K W R) (hG : GI T U P) (hD : PKK P) (hT : T + 98 ≤ 2147483000) (hIO : SCR W P) (hst : s = 2 → ∀ p, 0 ≤ p → p < 8 → ¬ P 2320 p = 0 → PST W R P p (295 + 125 * p.toNat)) (hr : R S 2233 = some mb) (hrp : R S 2234 = some rp) (hcn : W S 2235 = c) (hc : c = 0 ∨ c = 1) (hB : BY W mb M l) (hz : (l.length : Int) = z) (hz7 : 7 ≤ z) (hmo : mb + 1 < S ∨ S + 294 ≤ mb) (hBr : BY W rp 300 l2) (hro : rp + 1 < S ∨ S + 294 ≤ rp) (hmr : mb ≠ rp) (hroom : l2.length = 7) (n1 : rp ≠ 130) (n2 : rp ≠ 132) (m2 : mb ≠ 132) (hsz : z ≤ P 2313 (2 * s + c)) (he : srE P s c 124 (lg l) z = e) (hQ : srP P s c 124 (lg l) z = Q) (hL : srL P s c 124 (lg l) z = L) (hmid : ∀ (σ' : hM) (x8 : Option AV), XT σ0 K W R S rp s e Q (l2 ++ L) (some (vI e)) σ' → WP fb (d + 7) 26 368 [some (vR (some S)), some (vI c), some (vR (some mb)), some (vR (some rp)), some (vI 124), some (vL tg), none, some (vI e), x8] [] σ' Post) : WP fb (d + 7) 26 92 [some (vR (some S)), some (vI c), some (vR (some mb)), some (vR (some rp)), some (vI 124), some (vL tg), none, none, none] [] σ Post := by
  have hO := hS.o
  have hbm := hB.1
  have hsr := hS.1
  have hb8 := hB.2.2.2.2.2.1
  have hn1 := hB.2.2.1
  have hlz := hB.2.2.2.2.1
  have hsz0 := x_size (fb := fb) (d := d + 6) hP hB hz
  have hso := x_sizeOf (fb := fb) (d := d + 6) (z := P 2313 (2 * s + c)) hP hS hc (by rcases hc with rfl | rfl; (rw [Int.add_zero]; exact hX.2.2.1.1); exact hX.2.2.1.2.1)
  obtain ⟨mz, hmz⟩ : ∃ q, P 2313 (2 * s + c) = q := ⟨_, rfl⟩
  rw [hmz] at hso hsz
  have hIOQ : SCR W Q := by rw [← hQ]; exact hIO.iof (IOF_srP (by decide) (by decide))
  have hE : srE P s c 124 (lg l) z = (if z = 11 then onE P s (qFid P s c (nu (lg l) 7 4)) 124 else 14) := rfl
  have hQ2 : srP P s c 124 (lg l) z = (if z = 11 then onP P s (qFid P s c (nu (lg l) 7 4)) 124 else P) := rfl
  rw [he] at hE
  rw [hQ] at hQ2
  have hno : ∀ e0 : Int, ¬ e0 = 0 → e = e0 → Q = P → XT σ0 K W R S rp s e Q (l2 ++ L) (some (vI e0)) σ := fun e0 q1 q2 q3 => by
    rw [q2, q3]
    exact ⟨rfl, W, R, ord, t, l2, hP, hBr, fun c => absurd c q1, hX, hK, FVX_of FV_rfl, hIO⟩
  have hwh := x_isWhole (fb := fb) (d := d + 4) (k := 124) hP hS hr hB hz
  rw [show whlV (lg l) z 124 = (if z = 11 then 1 else 0) from rfl] at hwh
  by_cases hw : z = 11
  rotate_left
  · rw [if_neg hw] at hwh
    have h14 : (if z = 11 then onE P s (qFid P s c (nu (lg l) 7 4)) 124 else 14) = 14 := if_neg hw
    rw [h14] at hE
    rw [if_neg hw] at hQ2
    have hgo := hmid σ none (by rw [hE]; rw [hE] at hno; exact hno 14 (by decide) rfl hQ2)
    rw [hE] at hgo
    refine x_ic T_26_92 ?_
    refine x_si (ls1 := [some (vR (some S)), some (vI c), some (vR (some mb)), some (vR (some rp)), some (vI 124), some (vL tg), none, some (vI 14), none]) T_26_94 rfl ?_
    refine x_lr (z := some mb) T_26_96 rfl ?_
    refine x_cv1 T_26_97 mN_28 mL_28 (Nat.le_of_ble_eq_true rfl) mO_28 (hP.o hbm) (Nat.le_of_ble_eq_true rfl) (hsz0) ?_
    rintro _ σ ⟨rfl, rfl⟩
    refine cI ?_
    refine x_lr (z := some S) T_26_100 rfl ?_
    refine x_li (z := c) T_26_101 rfl ?_
    refine x_cv2 T_26_102 mN_34 mL_34 (Nat.le_of_ble_eq_true rfl) mO_34 (hP.o hO) (Nat.le_of_ble_eq_true rfl) (hso) ?_
    rintro _ σ ⟨rfl, rfl⟩
    refine cI ?_
    refine x_ic2 T_26_105 (fun h => absurd (show mz < z from h) (by omega)) (fun _ => ?_)
    refine x_lr (z := some S) T_26_108 rfl ?_
    refine x_li (z := 124) T_26_109 rfl ?_
    refine x_cv2 T_26_111 mN_35 mL_35 (Nat.le_of_ble_eq_true rfl) mO_35 (hP.o hO) (Nat.le_of_ble_eq_true rfl) (hwh) ?_
    rintro _ σ ⟨rfl, rfl⟩
    refine cI ?_
    refine x_if T_26_114 (fun _ => ?_) (fun h => absurd (show (0 : Int) = 0 by decide) h)
    exact hgo
  rw [if_pos hw] at hwh
  have hz11 : 11 ≤ z := by omega
  rw [if_pos hw] at hE hQ2
  obtain ⟨num, hnm⟩ : ∃ q, nu (lg l) 7 4 = q := ⟨_, rfl⟩
  have hnum := x_num (fb := fb) (d := d + 6) (s := 7) (k := 4) 4 hP hB hz rfl (by decide) (by decide) (by omega) hnm
  have hfd := x_find (fb := fb) (d := d + 6) (v := num) hP hS hX.2.1.fu hc
  by_cases hf : qFid P s c num < 0
  · rw [show fdA S s (qFid P s c num) = none from if_pos hf] at hfd
    rw [hnm] at hE hQ2
    rw [show onE P s (qFid P s c num) 124 = 6 from if_pos hf] at hE
    rw [show onP P s (qFid P s c num) 124 = P from if_pos hf] at hQ2
    have hgo := hmid σ (some (vR none)) (by rw [hE]; rw [hE] at hno; exact hno 6 (by decide) rfl hQ2)
    rw [hE] at hgo
    refine x_ic T_26_92 ?_
    refine x_si (ls1 := [some (vR (some S)), some (vI c), some (vR (some mb)), some (vR (some rp)), some (vI 124), some (vL tg), none, some (vI 14), none]) T_26_94 rfl ?_
    refine x_lr (z := some mb) T_26_96 rfl ?_
    refine x_cv1 T_26_97 mN_28 mL_28 (Nat.le_of_ble_eq_true rfl) mO_28 (hP.o hbm) (Nat.le_of_ble_eq_true rfl) (hsz0) ?_
    rintro _ σ ⟨rfl, rfl⟩
    refine cI ?_
    refine x_lr (z := some S) T_26_100 rfl ?_
    refine x_li (z := c) T_26_101 rfl ?_
    refine x_cv2 T_26_102 mN_34 mL_34 (Nat.le_of_ble_eq_true rfl) mO_34 (hP.o hO) (Nat.le_of_ble_eq_true rfl) (hso) ?_
    rintro _ σ ⟨rfl, rfl⟩
    refine cI ?_
    refine x_ic2 T_26_105 (fun h => absurd (show mz < z from h) (by omega)) (fun _ => ?_)
    refine x_lr (z := some S) T_26_108 rfl ?_
    refine x_li (z := 124) T_26_109 rfl ?_
    refine x_cv2 T_26_111 mN_35 mL_35 (Nat.le_of_ble_eq_true rfl) mO_35 (hP.o hO) (Nat.le_of_ble_eq_true rfl) (hwh) ?_
    rintro _ σ ⟨rfl, rfl⟩
    refine cI ?_
    refine x_if T_26_114 (fun h => absurd (show (1 : Int) = 0 from h) (by decide)) (fun _ => ?_)
    refine x_li (z := 124) T_26_117 rfl ?_
    refine x_ic T_26_119 ?_
    refine x_ic2 T_26_121 (fun _ => ?_) (fun h => absurd (show 110 ≤ (124 : Int) by decide) h)
    refine x_lr (z := some S) T_26_128 rfl ?_
    refine x_li (z := c) T_26_129 rfl ?_
    refine x_lr (z := some mb) T_26_130 rfl ?_
    refine x_ic T_26_131 ?_
    refine x_ic T_26_133 ?_
    refine x_cv3 T_26_134 mN_29 mL_29 (Nat.le_of_ble_eq_true rfl) mO_29 (hP.o hbm) (Nat.le_of_ble_eq_true rfl) (hnum) ?_
    rintro _ σ ⟨rfl, rfl⟩
    refine cL ?_
    refine x_cv3 T_26_137 mN_39 mL_39 (Nat.le_of_ble_eq_true rfl) mO_39 (hP.o hO) (Nat.le_of_ble_eq_true rfl) (hfd) ?_
    rintro _ σ ⟨rfl, rfl⟩
    refine cR ?_
    refine x_sr (ls1 := [some (vR (some S)), some (vI c), some (vR (some mb)), some (vR (some rp)), some (vI 124), some (vL tg), none, some (vI 14), some (vR none)]) T_26_140 rfl ?_
    refine x_li (z := 124) T_26_142 rfl ?_
    refine x_ic T_26_144 ?_
    refine x_ic2 T_26_146 (fun _ => ?_) (fun h => absurd (show 110 ≤ (124 : Int) by decide) h)
    refine x_lr (z := none) T_26_183 rfl ?_
    refine x_nnul T_26_185 (fun a0 h0 => absurd h0 (by simp)) (fun _ => ?_)
    refine x_ic T_26_188 ?_
    refine x_si (ls1 := [some (vR (some S)), some (vI c), some (vR (some mb)), some (vR (some rp)), some (vI 124), some (vL tg), none, some (vI 6), some (vR none)]) T_26_190 rfl ?_
    refine x_goto T_26_192 ?_
    exact hgo
  obtain ⟨⟨i, hi, hk⟩, hu⟩ := qFid_f (P := P) hsr (by omega) (show 0 ≤ qFid P s c num by omega)
  rw [hk] at hu
  rw [hk, show fdA S s (96 * s + i) = some (S + 198 + i.toNat) by unfold fdA; rw [if_neg (by omega), show 96 * s + i - 96 * s = i by omega]] at hfd
  have hfo := hS.fd hi
  rw [← hnm] at hk
  have hdo := x_statS (fb := fb) (d := d + 4) hP hS hX hK hG hD.1 hrp hBr hro hroom hi hu
  rw [hk] at hE hQ2
  have eE : onE P s (96 * s + i) 124 = if ¬ P 2310 (96 * s + i) = 0 then 1 else 0 := by
    unfold onE
    rw [if_neg (by omega), if_neg (by decide)]
    split
    · rfl
    · exact if_neg (by decide)
  have eQ : onP P s (96 * s + i) 124 = P := (if_neg (by omega)).trans ((if_neg (by decide)).trans (if_neg (by decide)))
  rw [← eE, ← hE] at hdo
  rw [eQ] at hQ2
  have hdo : CL fb (d + 6) 85 [vR (some S), vR (some (S + 198 + i.toNat))] σ (XS σ0 K W R S rp s e Q (l2 ++ L)) := by
    rw [hQ2, ← hL, show srL P s c 124 (lg l) z = onL P s (qFid P s c (nu (lg l) 7 4)) 124 from rfl, hk]
    exact hdo
  clear hX hK hG hD hIO hst
  obtain ⟨fa, hfa⟩ : ∃ fa, S + 198 + i.toNat = fa := ⟨_, rfl⟩
  rw [hfa] at hfd hdo hfo
  refine x_ic T_26_92 ?_
  refine x_si (ls1 := [some (vR (some S)), some (vI c), some (vR (some mb)), some (vR (some rp)), some (vI 124), some (vL tg), none, some (vI 14), none]) T_26_94 rfl ?_
  refine x_lr (z := some mb) T_26_96 rfl ?_
  refine x_cv1 T_26_97 mN_28 mL_28 (Nat.le_of_ble_eq_true rfl) mO_28 (hP.o hbm) (Nat.le_of_ble_eq_true rfl) (hsz0) ?_
  rintro _ σ ⟨rfl, rfl⟩
  refine cI ?_
  refine x_lr (z := some S) T_26_100 rfl ?_
  refine x_li (z := c) T_26_101 rfl ?_
  refine x_cv2 T_26_102 mN_34 mL_34 (Nat.le_of_ble_eq_true rfl) mO_34 (hP.o hO) (Nat.le_of_ble_eq_true rfl) (hso) ?_
  rintro _ σ ⟨rfl, rfl⟩
  refine cI ?_
  refine x_ic2 T_26_105 (fun h => absurd (show mz < z from h) (by omega)) (fun _ => ?_)
  refine x_lr (z := some S) T_26_108 rfl ?_
  refine x_li (z := 124) T_26_109 rfl ?_
  refine x_cv2 T_26_111 mN_35 mL_35 (Nat.le_of_ble_eq_true rfl) mO_35 (hP.o hO) (Nat.le_of_ble_eq_true rfl) (hwh) ?_
  rintro _ σ ⟨rfl, rfl⟩
  refine cI ?_
  refine x_if T_26_114 (fun h => absurd (show (1 : Int) = 0 from h) (by decide)) (fun _ => ?_)
  refine x_li (z := 124) T_26_117 rfl ?_
  refine x_ic T_26_119 ?_
  refine x_ic2 T_26_121 (fun _ => ?_) (fun h => absurd (show 110 ≤ (124 : Int) by decide) h)
  refine x_lr (z := some S) T_26_128 rfl ?_
  refine x_li (z := c) T_26_129 rfl ?_
  refine x_lr (z := some mb) T_26_130 rfl ?_
  refine x_ic T_26_131 ?_
  refine x_ic T_26_133 ?_
  refine x_cv3 T_26_134 mN_29 mL_29 (Nat.le_of_ble_eq_true rfl) mO_29 (hP.o hbm) (Nat.le_of_ble_eq_true rfl) (hnum) ?_
  rintro _ σ ⟨rfl, rfl⟩
  refine cL ?_
  refine x_cv3 T_26_137 mN_39 mL_39 (Nat.le_of_ble_eq_true rfl) mO_39 (hP.o hO) (Nat.le_of_ble_eq_true rfl) (hfd) ?_
  rintro _ σ ⟨rfl, rfl⟩
  refine cR ?_
  refine x_sr (ls1 := [some (vR (some S)), some (vI c), some (vR (some mb)), some (vR (some rp)), some (vI 124), some (vL tg), none, some (vI 14), some (vR (some fa))]) T_26_140 rfl ?_
  refine x_li (z := 124) T_26_142 rfl ?_
  refine x_ic T_26_144 ?_
  refine x_ic2 T_26_146 (fun _ => ?_) (fun h => absurd (show 110 ≤ (124 : Int) by decide) h)
  refine x_lr (z := some fa) T_26_183 rfl ?_
  refine x_nnul T_26_185 (fun _ _ => ?_) (fun h0 => absurd h0 (by simp))
  refine x_li (z := 124) T_26_195 rfl ?_
  refine x_swIn T_26_197 (by decide) (by decide) rfl ?_
  refine x_lr (z := some S) T_26_349 rfl ?_
  refine x_lr (z := some fa) T_26_350 rfl ?_
  refine x_cv2 T_26_352 mN_85 mL_85 (Nat.le_of_ble_eq_true rfl) mO_85 (hP.o hO) (Nat.le_of_ble_eq_true rfl) (hdo) ?_
  clear hP
  rintro _ σ h1
  obtain ⟨rfl, -⟩ := id h1
  refine cI ?_
  refine x_si (ls1 := [some (vR (some S)), some (vI c), some (vR (some mb)), some (vR (some rp)), some (vI 124), some (vL tg), none, some (vI e), some (vR (some fa))]) T_26_355 rfl ?_
  refine x_goto T_26_357 ?_
  exact hmid σ _ (XT_of h1 hS hIOQ n1 n2)
theorem sv_126 {Post : Option AV → hM → Prop} (hP : PX σ0 W R σ) (hS : VS S s) (hX : XV W R P S s ord t) (hK : CT K W R) (hG : GI T U P) (hD : PKK P) (hT : T + 98 ≤ 2147483000) (hIO : SCR W P) (hst : s = 2 → ∀ p, 0 ≤ p → p < 8 → ¬ P 2320 p = 0 → PST W R P p (295 + 125 * p.toNat)) (hr : R S 2233 = some mb) (hrp : R S 2234 = some rp) (hcn : W S 2235 = c) (hc : c = 0 ∨ c = 1) (hB : BY W mb M l) (hz : (l.length : Int) = z) (hz7 : 7 ≤ z) (hmo : mb + 1 < S ∨ S + 294 ≤ mb) (hBr : BY W rp 300 l2) (hro : rp + 1 < S ∨ S + 294 ≤ rp) (hmr : mb ≠ rp) (hroom : l2.length = 7) (n1 : rp ≠ 130) (n2 : rp ≠ 132) (m2 : mb ≠ 132) (hsz : z ≤ P 2313 (2 * s + c)) (he : srE P s c 126 (lg l) z = e) (hQ : srP P s c 126 (lg l) z = Q) (hL : srL P s c 126 (lg l) z = L) (hmid : ∀ (σ' : hM) (x8 : Option AV), XT σ0 K W R S rp s e Q (l2 ++ L) (some (vI e)) σ' → WP fb (d + 7) 26 368 [some (vR (some S)), some (vI c), some (vR (some mb)), some (vR (some rp)), some (vI 126), some (vL tg), none, some (vI e), x8] [] σ' Post) : WP fb (d + 7) 26 92 [some (vR (some S)), some (vI c), some (vR (some mb)), some (vR (some rp)), some (vI 126), some (vL tg), none, none, none] [] σ Post := by
  have hO := hS.o
  have hbm := hB.1
  have hsr := hS.1
  have hb8 := hB.2.2.2.2.2.1
  have hn1 := hB.2.2.1
  have hlz := hB.2.2.2.2.1
  have hsz0 := x_size (fb := fb) (d := d + 6) hP hB hz
  have hso := x_sizeOf (fb := fb) (d := d + 6) (z := P 2313 (2 * s + c)) hP hS hc (by rcases hc with rfl | rfl; (rw [Int.add_zero]; exact hX.2.2.1.1); exact hX.2.2.1.2.1)
  obtain ⟨mz, hmz⟩ : ∃ q, P 2313 (2 * s + c) = q := ⟨_, rfl⟩
  rw [hmz] at hso hsz
  have hIOQ : SCR W Q := by rw [← hQ]; exact hIO.iof (IOF_srP (by decide) (by decide))
  have hE : srE P s c 126 (lg l) z = wsE P s c (lg l) z := rfl
  have hQ2 : srP P s c 126 (lg l) z = (if wsE P s c (lg l) z = 0 then wsQ P s c (lg l) z else P) := rfl
  rw [he] at hE
  rw [hQ] at hQ2
  have hno : ∀ e0 : Int, ¬ e0 = 0 → e = e0 → Q = P → XT σ0 K W R S rp s e Q (l2 ++ L) (some (vI e0)) σ := fun e0 q1 q2 q3 => by
    rw [q2, q3]
    exact ⟨rfl, W, R, ord, t, l2, hP, hBr, fun c => absurd c q1, hX, hK, FVX_of FV_rfl, hIO⟩
  have hwh := x_isWhole (fb := fb) (d := d + 4) (k := 126) hP hS hr hB hz
  rw [show whlV (lg l) z 126 = (if 54 ≤ z ∧ nu (lg l) 11 2 = z - 13 ∧ nu (lg l) 13 2 = z - 15 ∧ wkE (lg l) z 4 54 = z then 1 else 0) from rfl] at hwh
  by_cases hw : 54 ≤ z ∧ nu (lg l) 11 2 = z - 13 ∧ nu (lg l) 13 2 = z - 15 ∧ wkE (lg l) z 4 54 = z
  rotate_left
  · rw [if_neg hw] at hwh
    have h14 : wsE P s c (lg l) z = 14 := if_pos (by omega)
    rw [h14] at hE
    rw [h14, if_neg (show ¬ (14 : Int) = 0 by decide)] at hQ2
    have hgo := hmid σ none (by rw [hE]; rw [hE] at hno; exact hno 14 (by decide) rfl hQ2)
    rw [hE] at hgo
    refine x_ic T_26_92 ?_
    refine x_si (ls1 := [some (vR (some S)), some (vI c), some (vR (some mb)), some (vR (some rp)), some (vI 126), some (vL tg), none, some (vI 14), none]) T_26_94 rfl ?_
    refine x_lr (z := some mb) T_26_96 rfl ?_
    refine x_cv1 T_26_97 mN_28 mL_28 (Nat.le_of_ble_eq_true rfl) mO_28 (hP.o hbm) (Nat.le_of_ble_eq_true rfl) (hsz0) ?_
    rintro _ σ ⟨rfl, rfl⟩
    refine cI ?_
    refine x_lr (z := some S) T_26_100 rfl ?_
    refine x_li (z := c) T_26_101 rfl ?_
    refine x_cv2 T_26_102 mN_34 mL_34 (Nat.le_of_ble_eq_true rfl) mO_34 (hP.o hO) (Nat.le_of_ble_eq_true rfl) (hso) ?_
    rintro _ σ ⟨rfl, rfl⟩
    refine cI ?_
    refine x_ic2 T_26_105 (fun h => absurd (show mz < z from h) (by omega)) (fun _ => ?_)
    refine x_lr (z := some S) T_26_108 rfl ?_
    refine x_li (z := 126) T_26_109 rfl ?_
    refine x_cv2 T_26_111 mN_35 mL_35 (Nat.le_of_ble_eq_true rfl) mO_35 (hP.o hO) (Nat.le_of_ble_eq_true rfl) (hwh) ?_
    rintro _ σ ⟨rfl, rfl⟩
    refine cI ?_
    refine x_if T_26_114 (fun _ => ?_) (fun h => absurd (show (0 : Int) = 0 by decide) h)
    exact hgo
  rw [if_pos hw] at hwh
  have hz11 : 11 ≤ z := by omega
  obtain ⟨num, hnm⟩ : ∃ q, nu (lg l) 7 4 = q := ⟨_, rfl⟩
  have hnum := x_num (fb := fb) (d := d + 6) (s := 7) (k := 4) 4 hP hB hz rfl (by decide) (by decide) (by omega) hnm
  have hfd := x_find (fb := fb) (d := d + 6) (v := num) hP hS hX.2.1.fu hc
  by_cases hf : qFid P s c num < 0
  · rw [show fdA S s (qFid P s c num) = none from if_pos hf] at hfd
    have h6 : wsE P s c (lg l) z = 6 := by unfold wsE wsX; rw [if_neg (by omega), hnm, if_pos hf]
    rw [h6] at hE
    rw [h6, if_neg (show ¬ (6 : Int) = 0 by decide)] at hQ2
    have hgo := hmid σ (some (vR none)) (by rw [hE]; rw [hE] at hno; exact hno 6 (by decide) rfl hQ2)
    rw [hE] at hgo
    refine x_ic T_26_92 ?_
    refine x_si (ls1 := [some (vR (some S)), some (vI c), some (vR (some mb)), some (vR (some rp)), some (vI 126), some (vL tg), none, some (vI 14), none]) T_26_94 rfl ?_
    refine x_lr (z := some mb) T_26_96 rfl ?_
    refine x_cv1 T_26_97 mN_28 mL_28 (Nat.le_of_ble_eq_true rfl) mO_28 (hP.o hbm) (Nat.le_of_ble_eq_true rfl) (hsz0) ?_
    rintro _ σ ⟨rfl, rfl⟩
    refine cI ?_
    refine x_lr (z := some S) T_26_100 rfl ?_
    refine x_li (z := c) T_26_101 rfl ?_
    refine x_cv2 T_26_102 mN_34 mL_34 (Nat.le_of_ble_eq_true rfl) mO_34 (hP.o hO) (Nat.le_of_ble_eq_true rfl) (hso) ?_
    rintro _ σ ⟨rfl, rfl⟩
    refine cI ?_
    refine x_ic2 T_26_105 (fun h => absurd (show mz < z from h) (by omega)) (fun _ => ?_)
    refine x_lr (z := some S) T_26_108 rfl ?_
    refine x_li (z := 126) T_26_109 rfl ?_
    refine x_cv2 T_26_111 mN_35 mL_35 (Nat.le_of_ble_eq_true rfl) mO_35 (hP.o hO) (Nat.le_of_ble_eq_true rfl) (hwh) ?_
    rintro _ σ ⟨rfl, rfl⟩
    refine cI ?_
    refine x_if T_26_114 (fun h => absurd (show (1 : Int) = 0 from h) (by decide)) (fun _ => ?_)
    refine x_li (z := 126) T_26_117 rfl ?_
    refine x_ic T_26_119 ?_
    refine x_ic2 T_26_121 (fun _ => ?_) (fun h => absurd (show 110 ≤ (126 : Int) by decide) h)
    refine x_lr (z := some S) T_26_128 rfl ?_
    refine x_li (z := c) T_26_129 rfl ?_
    refine x_lr (z := some mb) T_26_130 rfl ?_
    refine x_ic T_26_131 ?_
    refine x_ic T_26_133 ?_
    refine x_cv3 T_26_134 mN_29 mL_29 (Nat.le_of_ble_eq_true rfl) mO_29 (hP.o hbm) (Nat.le_of_ble_eq_true rfl) (hnum) ?_
    rintro _ σ ⟨rfl, rfl⟩
    refine cL ?_
    refine x_cv3 T_26_137 mN_39 mL_39 (Nat.le_of_ble_eq_true rfl) mO_39 (hP.o hO) (Nat.le_of_ble_eq_true rfl) (hfd) ?_
    rintro _ σ ⟨rfl, rfl⟩
    refine cR ?_
    refine x_sr (ls1 := [some (vR (some S)), some (vI c), some (vR (some mb)), some (vR (some rp)), some (vI 126), some (vL tg), none, some (vI 14), some (vR none)]) T_26_140 rfl ?_
    refine x_li (z := 126) T_26_142 rfl ?_
    refine x_ic T_26_144 ?_
    refine x_ic2 T_26_146 (fun _ => ?_) (fun h => absurd (show 110 ≤ (126 : Int) by decide) h)
    refine x_lr (z := none) T_26_183 rfl ?_
    refine x_nnul T_26_185 (fun a0 h0 => absurd h0 (by simp)) (fun _ => ?_)
    refine x_ic T_26_188 ?_
    refine x_si (ls1 := [some (vR (some S)), some (vI c), some (vR (some mb)), some (vR (some rp)), some (vI 126), some (vL tg), none, some (vI 6), some (vR none)]) T_26_190 rfl ?_
    refine x_goto T_26_192 ?_
    exact hgo
  obtain ⟨⟨i, hi, hk⟩, hu⟩ := qFid_f (P := P) hsr (by omega) (show 0 ≤ qFid P s c num by omega)
  rw [hk] at hu
  rw [hk, show fdA S s (96 * s + i) = some (S + 198 + i.toNat) by unfold fdA; rw [if_neg (by omega), show 96 * s + i - 96 * s = i by omega]] at hfd
  have hfo := hS.fd hi
  rw [← hnm] at hk
  have hdo := x_doWstat (fb := fb) (d := d + 2) hP hS hX hK hG hD.1 (by omega) hr hB hz hmo ⟨hw.1, hw.2.2.2, by omega, hw.2.1⟩ hBr hro hi hk hu
  rw [← hQ2, ← hE] at hdo
  have hdo : CL fb (d + 6) 86 [vR (some S), vR (some (S + 198 + i.toNat))] σ (XS σ0 K W R S rp s e Q (l2 ++ L)) := by
    rw [← hL]
    rw [show srL P s c 126 (lg l) z = [] from rfl, List.append_nil]
    exact hdo
  clear hX hK hG hD hIO hst
  obtain ⟨fa, hfa⟩ : ∃ fa, S + 198 + i.toNat = fa := ⟨_, rfl⟩
  rw [hfa] at hfd hdo hfo
  refine x_ic T_26_92 ?_
  refine x_si (ls1 := [some (vR (some S)), some (vI c), some (vR (some mb)), some (vR (some rp)), some (vI 126), some (vL tg), none, some (vI 14), none]) T_26_94 rfl ?_
  refine x_lr (z := some mb) T_26_96 rfl ?_
  refine x_cv1 T_26_97 mN_28 mL_28 (Nat.le_of_ble_eq_true rfl) mO_28 (hP.o hbm) (Nat.le_of_ble_eq_true rfl) (hsz0) ?_
  rintro _ σ ⟨rfl, rfl⟩
  refine cI ?_
  refine x_lr (z := some S) T_26_100 rfl ?_
  refine x_li (z := c) T_26_101 rfl ?_
  refine x_cv2 T_26_102 mN_34 mL_34 (Nat.le_of_ble_eq_true rfl) mO_34 (hP.o hO) (Nat.le_of_ble_eq_true rfl) (hso) ?_
  rintro _ σ ⟨rfl, rfl⟩
  refine cI ?_
  refine x_ic2 T_26_105 (fun h => absurd (show mz < z from h) (by omega)) (fun _ => ?_)
  refine x_lr (z := some S) T_26_108 rfl ?_
  refine x_li (z := 126) T_26_109 rfl ?_
  refine x_cv2 T_26_111 mN_35 mL_35 (Nat.le_of_ble_eq_true rfl) mO_35 (hP.o hO) (Nat.le_of_ble_eq_true rfl) (hwh) ?_
  rintro _ σ ⟨rfl, rfl⟩
  refine cI ?_
  refine x_if T_26_114 (fun h => absurd (show (1 : Int) = 0 from h) (by decide)) (fun _ => ?_)
  refine x_li (z := 126) T_26_117 rfl ?_
  refine x_ic T_26_119 ?_
  refine x_ic2 T_26_121 (fun _ => ?_) (fun h => absurd (show 110 ≤ (126 : Int) by decide) h)
  refine x_lr (z := some S) T_26_128 rfl ?_
  refine x_li (z := c) T_26_129 rfl ?_
  refine x_lr (z := some mb) T_26_130 rfl ?_
  refine x_ic T_26_131 ?_
  refine x_ic T_26_133 ?_
  refine x_cv3 T_26_134 mN_29 mL_29 (Nat.le_of_ble_eq_true rfl) mO_29 (hP.o hbm) (Nat.le_of_ble_eq_true rfl) (hnum) ?_
  rintro _ σ ⟨rfl, rfl⟩
  refine cL ?_
  refine x_cv3 T_26_137 mN_39 mL_39 (Nat.le_of_ble_eq_true rfl) mO_39 (hP.o hO) (Nat.le_of_ble_eq_true rfl) (hfd) ?_
  rintro _ σ ⟨rfl, rfl⟩
  refine cR ?_
  refine x_sr (ls1 := [some (vR (some S)), some (vI c), some (vR (some mb)), some (vR (some rp)), some (vI 126), some (vL tg), none, some (vI 14), some (vR (some fa))]) T_26_140 rfl ?_
  refine x_li (z := 126) T_26_142 rfl ?_
  refine x_ic T_26_144 ?_
  refine x_ic2 T_26_146 (fun _ => ?_) (fun h => absurd (show 110 ≤ (126 : Int) by decide) h)
  refine x_lr (z := some fa) T_26_183 rfl ?_
  refine x_nnul T_26_185 (fun _ _ => ?_) (fun h0 => absurd h0 (by simp))
  refine x_li (z := 126) T_26_195 rfl ?_
  refine x_swOut T_26_197 (by decide) ?_
  refine x_lr (z := some S) T_26_360 rfl ?_
  refine x_lr (z := some fa) T_26_361 rfl ?_
  refine x_cv2 T_26_363 mN_86 mL_86 (Nat.le_of_ble_eq_true rfl) mO_86 (hP.o hO) (Nat.le_of_ble_eq_true rfl) (hdo) ?_
  clear hP
  rintro _ σ h1
  obtain ⟨rfl, -⟩ := id h1
  refine cI ?_
  refine x_si (ls1 := [some (vR (some S)), some (vI c), some (vR (some mb)), some (vR (some rp)), some (vI 126), some (vL tg), none, some (vI e), some (vR (some fa))]) T_26_366 rfl ?_
  exact hmid σ _ (XT_of h1 hS hIOQ n1 n2)
theorem sv_k {k : Int} {Post : Option AV → hM → Prop} (hP : PX σ0 W R σ) (hS : VS S s) (hX : XV W R P S s ord t) (hK : CT K W R) (hG : GI T U P) (hD : PKK P) (hT : T + 98 ≤ 2147483000) (hIO : SCR W P) (hst : s = 2 → ∀ p, 0 ≤ p → p < 8 → ¬ P 2320 p = 0 → PST W R P p (295 + 125 * p.toNat)) (hr : R S 2233 = some mb) (hrp : R S 2234 = some rp) (hcn : W S 2235 = c) (hc : c = 0 ∨ c = 1) (hB : BY W mb M l) (hz : (l.length : Int) = z) (hz7 : 7 ≤ z) (hmo : mb + 1 < S ∨ S + 294 ≤ mb) (hBr : BY W rp 300 l2) (hro : rp + 1 < S ∨ S + 294 ≤ rp) (hmr : mb ≠ rp) (hroom : l2.length = 7) (n1 : rp ≠ 130) (n2 : rp ≠ 132) (m2 : mb ≠ 132) (hsz : z ≤ P 2313 (2 * s + c)) (hk : ¬ (k = 100 ∨ k = 104 ∨ k = 108 ∨ k = 110 ∨ k = 112 ∨ k = 114 ∨ k = 116 ∨ k = 118 ∨ k = 120 ∨ k = 122 ∨ k = 124 ∨ k = 126)) (he : srE P s c k (lg l) z = e) (hQ : srP P s c k (lg l) z = Q) (hL : srL P s c k (lg l) z = L) (hmid : ∀ (σ' : hM) (x8 : Option AV), XT σ0 K W R S rp s e Q (l2 ++ L) (some (vI e)) σ' → WP fb (d + 7) 26 368 [some (vR (some S)), some (vI c), some (vR (some mb)), some (vR (some rp)), some (vI k), some (vL tg), none, some (vI e), x8] [] σ' Post) : WP fb (d + 7) 26 92 [some (vR (some S)), some (vI c), some (vR (some mb)), some (vR (some rp)), some (vI k), some (vL tg), none, none, none] [] σ Post := by
  have hO := hS.o
  have hbm := hB.1
  have hsr := hS.1
  have hb8 := hB.2.2.2.2.2.1
  have hn1 := hB.2.2.1
  have hlz := hB.2.2.2.2.1
  have hsz0 := x_size (fb := fb) (d := d + 6) hP hB hz
  have hso := x_sizeOf (fb := fb) (d := d + 6) (z := P 2313 (2 * s + c)) hP hS hc (by rcases hc with rfl | rfl; (rw [Int.add_zero]; exact hX.2.2.1.1); exact hX.2.2.1.2.1)
  obtain ⟨mz, hmz⟩ : ∃ q, P 2313 (2 * s + c) = q := ⟨_, rfl⟩
  rw [hmz] at hso hsz
  obtain ⟨e1, e2⟩ := sr_no (P := P) (s := s) (c := c) (z := z) (a := lg l) hk
  have hE := he.symm.trans e1
  have hQ2 := hQ.symm.trans e2
  have hno : ∀ e0 : Int, ¬ e0 = 0 → e = e0 → Q = P → XT σ0 K W R S rp s e Q (l2 ++ L) (some (vI e0)) σ := fun e0 q1 q2 q3 => by
    rw [q2, q3]
    exact ⟨rfl, W, R, ord, t, l2, hP, hBr, fun c => absurd c q1, hX, hK, FVX_of FV_rfl, hIO⟩
  have hwh := x_isWhole (fb := fb) (d := d + 4) (k := k) hP hS hr hB hz
  have ew : whlV (lg l) z k = 0 := by
    unfold whlV
    rw [if_neg (by omega), if_neg (by omega), if_neg (by omega), if_neg (by omega), if_neg (by omega), if_neg (by omega), if_neg (by omega), if_neg (by omega), if_neg (by omega), if_neg (by omega)]
  rw [ew] at hwh
  have hgo := hmid σ none (by rw [hE]; rw [hE] at hno; exact hno 14 (by decide) rfl hQ2)
  rw [hE] at hgo
  refine x_ic T_26_92 ?_
  refine x_si (ls1 := [some (vR (some S)), some (vI c), some (vR (some mb)), some (vR (some rp)), some (vI k), some (vL tg), none, some (vI 14), none]) T_26_94 rfl ?_
  refine x_lr (z := some mb) T_26_96 rfl ?_
  refine x_cv1 T_26_97 mN_28 mL_28 (Nat.le_of_ble_eq_true rfl) mO_28 (hP.o hbm) (Nat.le_of_ble_eq_true rfl) (hsz0) ?_
  rintro _ σ ⟨rfl, rfl⟩
  refine cI ?_
  refine x_lr (z := some S) T_26_100 rfl ?_
  refine x_li (z := c) T_26_101 rfl ?_
  refine x_cv2 T_26_102 mN_34 mL_34 (Nat.le_of_ble_eq_true rfl) mO_34 (hP.o hO) (Nat.le_of_ble_eq_true rfl) (hso) ?_
  rintro _ σ ⟨rfl, rfl⟩
  refine cI ?_
  refine x_ic2 T_26_105 (fun h => absurd (show mz < z from h) (by omega)) (fun _ => ?_)
  refine x_lr (z := some S) T_26_108 rfl ?_
  refine x_li (z := k) T_26_109 rfl ?_
  refine x_cv2 T_26_111 mN_35 mL_35 (Nat.le_of_ble_eq_true rfl) mO_35 (hP.o hO) (Nat.le_of_ble_eq_true rfl) (hwh) ?_
  rintro _ σ ⟨rfl, rfl⟩
  refine cI ?_
  refine x_if T_26_114 (fun _ => ?_) (fun h => absurd (show (0 : Int) = 0 by decide) h)
  exact hgo
end XSRVB
