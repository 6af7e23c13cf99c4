/-! stat: the command. -/
theorem T_378_0 : hTab 378 0 = some ((3, 0, 2, []), 1) := rfl
theorem T_378_1 : hTab 378 1 = some ((3, 1, 0, []), 2) := rfl
theorem T_378_2 : hTab 378 2 = some ((0, 0, 1, []), 3) := rfl
theorem T_378_3 : hTab 378 3 = some ((0, 0, 1, []), 4) := rfl
theorem T_378_4 : hTab 378 4 = some ((31, 327, 0, []), 7) := rfl
theorem T_378_7 : hTab 378 7 = some ((4, 2, 0, []), 8) := rfl
theorem T_378_8 : hTab 378 8 = some ((3, 2, 0, []), 9) := rfl
theorem T_378_9 : hTab 378 9 = some ((18, 5, Int.ofNat 14, []), 12) := rfl
theorem T_378_12 : hTab 378 12 = some ((3, 2, 0, []), 13) := rfl
theorem T_378_13 : hTab 378 13 = some ((33, 1, 0, []), 14) := rfl
theorem T_378_14 : hTab 378 14 = some ((3, 0, 2, []), 15) := rfl
theorem T_378_15 : hTab 378 15 = some ((0, 0, 124, []), 17) := rfl
theorem T_378_17 : hTab 378 17 = some ((3, 0, 2, []), 18) := rfl
theorem T_378_18 : hTab 378 18 = some ((24, 17, Int.ofNat 86, []), 21) := rfl
theorem T_378_21 : hTab 378 21 = some ((3, 0, 2, []), 22) := rfl
theorem T_378_22 : hTab 378 22 = some ((24, 17, Int.ofNat 91, []), 25) := rfl
theorem T_378_25 : hTab 378 25 = some ((0, 0, 1, []), 26) := rfl
theorem T_378_26 : hTab 378 26 = some ((10, 1, 0, []), 27) := rfl
theorem T_378_27 : hTab 378 27 = some ((26, 0, 0, []), 28) := rfl
theorem T_378_28 : hTab 378 28 = some ((3, 0, 2, []), 29) := rfl
theorem T_378_29 : hTab 378 29 = some ((24, 17, Int.ofNat 87, []), 32) := rfl
theorem T_378_32 : hTab 378 32 = some ((3, 0, 2, []), 33) := rfl
theorem T_378_33 : hTab 378 33 = some ((24, 17, Int.ofNat 91, []), 36) := rfl
theorem T_378_36 : hTab 378 36 = some ((0, 0, 1, []), 37) := rfl
theorem T_378_37 : hTab 378 37 = some ((10, 1, 0, []), 38) := rfl
theorem T_378_38 : hTab 378 38 = some ((26, 0, 0, []), 39) := rfl
theorem T_378_39 : hTab 378 39 = some ((31, 345, 0, []), 42) := rfl
theorem T_378_42 : hTab 378 42 = some ((4, 2, 0, []), 43) := rfl
theorem T_378_43 : hTab 378 43 = some ((3, 2, 0, []), 44) := rfl
theorem T_378_44 : hTab 378 44 = some ((18, 5, Int.ofNat 49, []), 47) := rfl
theorem T_378_47 : hTab 378 47 = some ((3, 2, 0, []), 48) := rfl
theorem T_378_48 : hTab 378 48 = some ((33, 1, 0, []), 49) := rfl
theorem T_378_49 : hTab 378 49 = some ((3, 0, 2, []), 50) := rfl
theorem T_378_50 : hTab 378 50 = some ((0, 0, 50, []), 52) := rfl
theorem T_378_52 : hTab 378 52 = some ((0, 0, 2, []), 53) := rfl
theorem T_378_53 : hTab 378 53 = some ((31, 339, 0, []), 56) := rfl
theorem T_378_56 : hTab 378 56 = some ((15, 0, 0, []), 57) := rfl
theorem T_378_57 : hTab 378 57 = some ((4, 3, 0, []), 58) := rfl
theorem T_378_58 : hTab 378 58 = some ((3, 0, 2, []), 59) := rfl
theorem T_378_59 : hTab 378 59 = some ((0, 0, 30, []), 61) := rfl
theorem T_378_61 : hTab 378 61 = some ((0, 0, 4, []), 62) := rfl
theorem T_378_62 : hTab 378 62 = some ((31, 339, 0, []), 65) := rfl
theorem T_378_65 : hTab 378 65 = some ((4, 4, 1, []), 67) := rfl
theorem T_378_67 : hTab 378 67 = some ((3, 0, 2, []), 68) := rfl
theorem T_378_68 : hTab 378 68 = some ((0, 0, 42, []), 70) := rfl
theorem T_378_70 : hTab 378 70 = some ((0, 0, 8, []), 72) := rfl
theorem T_378_72 : hTab 378 72 = some ((31, 339, 0, []), 75) := rfl
theorem T_378_75 : hTab 378 75 = some ((4, 6, 1, []), 77) := rfl
theorem T_378_77 : hTab 378 77 = some ((3, 0, 2, []), 78) := rfl
theorem T_378_78 : hTab 378 78 = some ((0, 0, 18, []), 80) := rfl
theorem T_378_80 : hTab 378 80 = some ((0, 0, 4, []), 81) := rfl
theorem T_378_81 : hTab 378 81 = some ((31, 339, 0, []), 84) := rfl
theorem T_378_84 : hTab 378 84 = some ((4, 8, 1, []), 86) := rfl
theorem T_378_86 : hTab 378 86 = some ((0, 0, 52, []), 88) := rfl
theorem T_378_88 : hTab 378 88 = some ((3, 3, 0, []), 89) := rfl
theorem T_378_89 : hTab 378 89 = some ((10, 0, 0, []), 90) := rfl
theorem T_378_90 : hTab 378 90 = some ((0, 0, 2, []), 91) := rfl
theorem T_378_91 : hTab 378 91 = some ((10, 0, 0, []), 92) := rfl
theorem T_378_92 : hTab 378 92 = some ((4, 10, 0, []), 94) := rfl
theorem T_378_94 : hTab 378 94 = some ((3, 0, 2, []), 95) := rfl
theorem T_378_95 : hTab 378 95 = some ((24, 17, Int.ofNat 5, []), 98) := rfl
theorem T_378_98 : hTab 378 98 = some ((3, 10, 0, []), 100) := rfl
theorem T_378_100 : hTab 378 100 = some ((26, 0, 0, []), 101) := rfl
theorem T_378_101 : hTab 378 101 = some ((4, 11, 0, []), 103) := rfl
theorem T_378_103 : hTab 378 103 = some ((3, 0, 2, []), 104) := rfl
theorem T_378_104 : hTab 378 104 = some ((24, 17, Int.ofNat 5, []), 107) := rfl
theorem T_378_107 : hTab 378 107 = some ((3, 10, 0, []), 109) := rfl
theorem T_378_109 : hTab 378 109 = some ((0, 0, 1, []), 110) := rfl
theorem T_378_110 : hTab 378 110 = some ((10, 0, 0, []), 111) := rfl
theorem T_378_111 : hTab 378 111 = some ((26, 0, 0, []), 112) := rfl
theorem T_378_112 : hTab 378 112 = some ((4, 12, 0, []), 114) := rfl
theorem T_378_114 : hTab 378 114 = some ((3, 0, 2, []), 115) := rfl
theorem T_378_115 : hTab 378 115 = some ((24, 17, Int.ofNat 5, []), 118) := rfl
theorem T_378_118 : hTab 378 118 = some ((3, 10, 0, []), 120) := rfl
theorem T_378_120 : hTab 378 120 = some ((0, 0, 2, []), 121) := rfl
theorem T_378_121 : hTab 378 121 = some ((10, 0, 0, []), 122) := rfl
theorem T_378_122 : hTab 378 122 = some ((26, 0, 0, []), 123) := rfl
theorem T_378_123 : hTab 378 123 = some ((4, 13, 0, []), 125) := rfl
theorem T_378_125 : hTab 378 125 = some ((0, 0, 0, []), 126) := rfl
theorem T_378_126 : hTab 378 126 = some ((4, 14, 0, []), 128) := rfl
theorem T_378_157 : hTab 378 157 = some ((3, 0, 2, []), 158) := rfl
theorem T_378_158 : hTab 378 158 = some ((31, 344, 0, []), 161) := rfl
theorem T_378_161 : hTab 378 161 = some ((0, 0, 0, []), 162) := rfl
theorem T_378_162 : hTab 378 162 = some ((4, 14, 0, []), 164) := rfl
theorem T_378_188 : hTab 378 188 = some ((3, 0, 2, []), 189) := rfl
theorem T_378_189 : hTab 378 189 = some ((3, 1, 0, []), 190) := rfl
theorem T_378_190 : hTab 378 190 = some ((0, 0, 32, []), 192) := rfl
theorem T_378_192 : hTab 378 192 = some ((31, 351, 0, []), 195) := rfl
theorem T_378_195 : hTab 378 195 = some ((3, 0, 2, []), 196) := rfl
theorem T_378_196 : hTab 378 196 = some ((3, 1, 0, []), 197) := rfl
theorem T_378_197 : hTab 378 197 = some ((3, 4, 1, []), 199) := rfl
theorem T_378_199 : hTab 378 199 = some ((1, 0, 2147483648, []), 202) := rfl
theorem T_378_202 : hTab 378 202 = some ((11, 5, 0, []), 203) := rfl
theorem T_378_203 : hTab 378 203 = some ((1, 0, 0, []), 204) := rfl
theorem T_378_204 : hTab 378 204 = some ((17, 0, 0, []), 205) := rfl
theorem T_378_205 : hTab 378 205 = some ((18, 0, Int.ofNat 213, []), 208) := rfl
theorem T_378_208 : hTab 378 208 = some ((0, 0, 100, []), 210) := rfl
theorem T_378_210 : hTab 378 210 = some ((22, 0, Int.ofNat 231, []), 213) := rfl
theorem T_378_213 : hTab 378 213 = some ((3, 4, 1, []), 215) := rfl
theorem T_378_215 : hTab 378 215 = some ((1, 0, 1073741824, []), 218) := rfl
theorem T_378_218 : hTab 378 218 = some ((11, 5, 0, []), 219) := rfl
theorem T_378_219 : hTab 378 219 = some ((1, 0, 0, []), 220) := rfl
theorem T_378_220 : hTab 378 220 = some ((17, 0, 0, []), 221) := rfl
theorem T_378_221 : hTab 378 221 = some ((18, 0, Int.ofNat 229, []), 224) := rfl
theorem T_378_224 : hTab 378 224 = some ((0, 0, 97, []), 226) := rfl
theorem T_378_226 : hTab 378 226 = some ((22, 0, Int.ofNat 231, []), 229) := rfl
theorem T_378_229 : hTab 378 229 = some ((0, 0, 45, []), 231) := rfl
theorem T_378_231 : hTab 378 231 = some ((31, 351, 0, []), 234) := rfl
theorem T_378_234 : hTab 378 234 = some ((0, 0, 6, []), 236) := rfl
theorem T_378_236 : hTab 378 236 = some ((4, 14, 0, []), 238) := rfl
theorem T_378_268 : hTab 378 268 = some ((3, 0, 2, []), 269) := rfl
theorem T_378_269 : hTab 378 269 = some ((3, 1, 0, []), 270) := rfl
theorem T_378_270 : hTab 378 270 = some ((0, 0, 32, []), 272) := rfl
theorem T_378_272 : hTab 378 272 = some ((31, 351, 0, []), 275) := rfl
theorem T_378_275 : hTab 378 275 = some ((3, 0, 2, []), 276) := rfl
theorem T_378_276 : hTab 378 276 = some ((3, 1, 0, []), 277) := rfl
theorem T_378_277 : hTab 378 277 = some ((3, 6, 1, []), 279) := rfl
theorem T_378_279 : hTab 378 279 = some ((31, 379, 0, []), 282) := rfl
theorem T_378_282 : hTab 378 282 = some ((3, 0, 2, []), 283) := rfl
theorem T_378_283 : hTab 378 283 = some ((3, 1, 0, []), 284) := rfl
theorem T_378_284 : hTab 378 284 = some ((0, 0, 32, []), 286) := rfl
theorem T_378_286 : hTab 378 286 = some ((31, 351, 0, []), 289) := rfl
theorem T_378_289 : hTab 378 289 = some ((3, 0, 2, []), 290) := rfl
theorem T_378_290 : hTab 378 290 = some ((3, 1, 0, []), 291) := rfl
theorem T_378_291 : hTab 378 291 = some ((3, 11, 0, []), 293) := rfl
theorem T_378_293 : hTab 378 293 = some ((31, 351, 0, []), 296) := rfl
theorem T_378_296 : hTab 378 296 = some ((3, 0, 2, []), 297) := rfl
theorem T_378_297 : hTab 378 297 = some ((3, 1, 0, []), 298) := rfl
theorem T_378_298 : hTab 378 298 = some ((3, 12, 0, []), 300) := rfl
theorem T_378_300 : hTab 378 300 = some ((31, 351, 0, []), 303) := rfl
theorem T_378_303 : hTab 378 303 = some ((3, 0, 2, []), 304) := rfl
theorem T_378_304 : hTab 378 304 = some ((3, 1, 0, []), 305) := rfl
theorem T_378_305 : hTab 378 305 = some ((3, 13, 0, []), 307) := rfl
theorem T_378_307 : hTab 378 307 = some ((31, 351, 0, []), 310) := rfl
theorem T_378_310 : hTab 378 310 = some ((3, 0, 2, []), 311) := rfl
theorem T_378_311 : hTab 378 311 = some ((3, 1, 0, []), 312) := rfl
theorem T_378_312 : hTab 378 312 = some ((0, 0, 32, []), 314) := rfl
theorem T_378_314 : hTab 378 314 = some ((31, 351, 0, []), 317) := rfl
theorem T_378_317 : hTab 378 317 = some ((3, 0, 2, []), 318) := rfl
theorem T_378_318 : hTab 378 318 = some ((3, 1, 0, []), 319) := rfl
theorem T_378_319 : hTab 378 319 = some ((3, 8, 1, []), 321) := rfl
theorem T_378_321 : hTab 378 321 = some ((31, 379, 0, []), 324) := rfl
theorem T_378_324 : hTab 378 324 = some ((3, 0, 2, []), 325) := rfl
theorem T_378_325 : hTab 378 325 = some ((3, 1, 0, []), 326) := rfl
theorem T_378_326 : hTab 378 326 = some ((0, 0, 10, []), 328) := rfl
theorem T_378_328 : hTab 378 328 = some ((31, 351, 0, []), 331) := rfl
theorem T_378_331 : hTab 378 331 = some ((0, 0, 0, []), 332) := rfl
theorem T_378_332 : hTab 378 332 = some ((33, 1, 0, []), 333) := rfl
section MSTAT2
variable {fb : Bool} {d : Nat} {σ0 σ : hM} {P Q R S S1 S2 : qR} {T U s w g u p k e t z o thr pt off : Int} {l l1 l2 nm wd A : List Int} {h : List Ch} {a f : Int → Int} {x : Int × Int} {c : Ch} {fr fd md n0 : Int}
theorem KS.kept (hK : KS T U P S l h) (hb : byt l1) (hl : l1.length ≤ 12) : KS T U P (rW S 2355 0 l1) l h := by
  have hg : ∀ f : Nat, f ≠ 2355 → ∀ k, rW S 2355 0 l1 f k = S f k := fun f h1 k => rW_f h1
  obtain ⟨a1, a2, a3, a4, a5⟩ := hK
  refine ⟨a1, a2, a3.wA 2355 rfl (fun k h1 h2 => hb _ (by omega)), ⟨(hg _ (by decide) _).trans a4.1, a4.2.1, fun i hi => ?_⟩, a5.of (hg _ (by decide) _) (hg _ (by decide) _) (fun _ => hg _ (by decide) _) (fun _ => hg _ (by decide) _) (fun _ => hg _ (by decide) _)⟩
  rw [hg _ (by decide), hg _ (by decide), hg _ (by decide), hg _ (by decide), hg _ (by decide)]
  exact a4.2.2 i hi
theorem SX_kept : SX scR scN S (rW S 2355 0 l1) := ⟨fun k _ => rW_f (by decide), fun f k a b => rW_f (fun q => by rw [q] at b; exact absurd b (by decide))⟩
theorem m_stat_end {e0 b0 b1 b2 le ve : Int} (hp : 0 ≤ p ∧ p < 8) (hK : KS T U P S l []) (hb : (0 ≤ b0 ∧ b0 ≤ 255) ∧ (0 ≤ b1 ∧ b1 ≤ 255) ∧ 0 ≤ b2 ∧ b2 ≤ 255) (hm : 0 ≤ md) (hle : 0 ≤ le ∧ le ≤ 600) (hve : 0 ≤ ve ∧ ve < 4294967296) {Q : Option AV → hM → Prop} {k0 : Int} (hG : GI T U (gOut P p l1)) (hP : PM σ0 (gOut P p l1) S σ) (hQ : ∀ σ : hM, GI T U (gOut P p (l1 ++ [32] ++ [tyC md] ++ dg3 md 3 ++ [32] ++ decL le ++ [32] ++ [b0] ++ [b1] ++ [b2] ++ [32] ++ decL ve ++ [10])) → PM σ0 (gOut P p (l1 ++ [32] ++ [tyC md] ++ dg3 md 3 ++ [32] ++ decL le ++ [32] ++ [b0] ++ [b1] ++ [b2] ++ [32] ++ decL ve ++ [10])) S σ → Q (some (vI 0)) σ) : WP fb (d + 2) 378 188 [some (vR (some 2281)), some (vI p), some (vI e0), some (vI n0), some (vL md), none, some (vL le), none, some (vL ve), none, some (vI k0), some (vI b0), some (vI b1), some (vI b2), some (vI n0)] [] σ Q := by
  have tl := fun (σ : hM) (l : List Int) (b : Int) (hG : GI T U (gOut P p l)) (hP : PM σ0 (gOut P p l) S σ) => (CL.mono (m_tell (fb := fb) (d := d + 1) (b := b) hP hG.iv hp) (fun r σ1 hr => by rw [← gOut_snoc] at hr; exact hr) : CL fb (d + 1) 351 [vR (some 2281), vI p, vI b] σ (rV σ0 (gOut P p (l ++ [b])) S))
  have tn := fun (σ : hM) (l : List Int) (v : Int) (hv : 0 ≤ v ∧ v < 4294967296) (hG : GI T U (gOut P p l)) (hP : PM σ0 (gOut P p l) S σ) => (CL.mono (m_tellNumber (fb := fb) (d := d) (v := v) hP hG hp (by omega)) (fun r σ1 hr => by rw [← gOut_app] at hr; exact hr) : CL fb (d + 1) 379 [vR (some 2281), vI p, vL v] σ (rV σ0 (gOut P p (l ++ decL v)) S))
  have hG1 := GO_snoc hG hp (b := 32) (by decide)
  have hty : 0 ≤ tyC md ∧ tyC md ≤ 255 := by
    unfold tyC
    repeat' split
    all_goals decide
  have hG2 := GO_snoc hG1 hp hty
  obtain ⟨L2, hL2⟩ : ∃ L2, l1 ++ [32] ++ [tyC md] = L2 := ⟨_, rfl⟩
  rw [hL2] at hG2 hQ
  obtain ⟨L3, hL3⟩ : ∃ L3, L2 ++ dg3 md 3 = L3 := ⟨_, rfl⟩
  rw [hL3] at hQ
  obtain ⟨L1, hL1⟩ : ∃ L1, l1 ++ [32] = L1 := ⟨_, rfl⟩
  have fin : ∀ σ : hM, PM σ0 (gOut P p L1) S σ → WP fb (d + 2) 378 231 [some (vR (some 2281)), some (vI p), some (vI e0), some (vI n0), some (vL md), none, some (vL le), none, some (vL ve), none, some (vI k0), some (vI b0), some (vI b1), some (vI b2), some (vI n0)] [vI (tyC md), vI p, vR (some 2281)] σ Q := by
    intro σ hP
    rw [hL1] at hL2 hG1
    refine x_cv3 T_378_231 mN_351 mL_351 (Nat.le_of_ble_eq_true rfl) mO_351 (PM.t hP) (Nat.le_of_ble_eq_true rfl) (tl σ _ (tyC md) hG1 hP) ?_
    clear hP
    rintro _ σ ⟨rfl, hP⟩
    rw [hL2] at hP
    refine cV ?_
    refine x_ic T_378_234 ?_
    refine x_si (ls1 := [some (vR (some 2281)), some (vI p), some (vI e0), some (vI n0), some (vL md), none, some (vL le), none, some (vL ve), none, some (vI k0), some (vI b0), some (vI b1), some (vI b2), some (vI 6)]) T_378_236 rfl ?_
    refine m_stat_dig (d := d + 1) hp 3 L2 6 σ (by decide) (by decide) hP hG2 ?_
    clear hP
    intro σ hP hG3
    rw [hL3] at hP hG3
    have hG4 := GO_snoc hG3 hp (b := 32) (by decide)
    have hG5 := GO_dec hG4 hp hle.1
    have hG6 := GO_snoc hG5 hp (b := 32) (by decide)
    have hG7 := GO_snoc hG6 hp hb.1
    have hG8 := GO_snoc hG7 hp hb.2.1
    have hG9 := GO_snoc hG8 hp hb.2.2
    have hG10 := GO_snoc hG9 hp (b := 32) (by decide)
    have hG11 := GO_dec hG10 hp hve.1
    have hG12 := GO_snoc hG11 hp (b := 10) (by decide)
    refine x_lr (z := some 2281) T_378_268 rfl ?_
    refine x_li (z := p) T_378_269 rfl ?_
    refine x_ic T_378_270 ?_
    refine x_cv3 T_378_272 mN_351 mL_351 (Nat.le_of_ble_eq_true rfl) mO_351 (PM.t hP) (Nat.le_of_ble_eq_true rfl) (tl σ _ 32 hG3 hP) ?_
    clear hP
    rintro _ σ ⟨rfl, hP⟩
    refine cV ?_
    refine x_lr (z := some 2281) T_378_275 rfl ?_
    refine x_li (z := p) T_378_276 rfl ?_
    refine x_ll (z := le) T_378_277 rfl ?_
    refine x_cv3 T_378_279 mN_379 mL_379 (Nat.le_of_ble_eq_true rfl) mO_379 (PM.t hP) (Nat.le_of_ble_eq_true rfl) (tn σ _ le ⟨hle.1, by omega⟩ hG4 hP) ?_
    clear hP
    rintro _ σ ⟨rfl, hP⟩
    refine cV ?_
    refine x_lr (z := some 2281) T_378_282 rfl ?_
    refine x_li (z := p) T_378_283 rfl ?_
    refine x_ic T_378_284 ?_
    refine x_cv3 T_378_286 mN_351 mL_351 (Nat.le_of_ble_eq_true rfl) mO_351 (PM.t hP) (Nat.le_of_ble_eq_true rfl) (tl σ _ 32 hG5 hP) ?_
    clear hP
    rintro _ σ ⟨rfl, hP⟩
    refine cV ?_
    refine x_lr (z := some 2281) T_378_289 rfl ?_
    refine x_li (z := p) T_378_290 rfl ?_
    refine x_li (z := b0) T_378_291 rfl ?_
    refine x_cv3 T_378_293 mN_351 mL_351 (Nat.le_of_ble_eq_true rfl) mO_351 (PM.t hP) (Nat.le_of_ble_eq_true rfl) (tl σ _ b0 hG6 hP) ?_
    clear hP
    rintro _ σ ⟨rfl, hP⟩
    refine cV ?_
    refine x_lr (z := some 2281) T_378_296 rfl ?_
    refine x_li (z := p) T_378_297 rfl ?_
    refine x_li (z := b1) T_378_298 rfl ?_
    refine x_cv3 T_378_300 mN_351 mL_351 (Nat.le_of_ble_eq_true rfl) mO_351 (PM.t hP) (Nat.le_of_ble_eq_true rfl) (tl σ _ b1 hG7 hP) ?_
    clear hP
    rintro _ σ ⟨rfl, hP⟩
    refine cV ?_
    refine x_lr (z := some 2281) T_378_303 rfl ?_
    refine x_li (z := p) T_378_304 rfl ?_
    refine x_li (z := b2) T_378_305 rfl ?_
    refine x_cv3 T_378_307 mN_351 mL_351 (Nat.le_of_ble_eq_true rfl) mO_351 (PM.t hP) (Nat.le_of_ble_eq_true rfl) (tl σ _ b2 hG8 hP) ?_
    clear hP
    rintro _ σ ⟨rfl, hP⟩
    refine cV ?_
    refine x_lr (z := some 2281) T_378_310 rfl ?_
    refine x_li (z := p) T_378_311 rfl ?_
    refine x_ic T_378_312 ?_
    refine x_cv3 T_378_314 mN_351 mL_351 (Nat.le_of_ble_eq_true rfl) mO_351 (PM.t hP) (Nat.le_of_ble_eq_true rfl) (tl σ _ 32 hG9 hP) ?_
    clear hP
    rintro _ σ ⟨rfl, hP⟩
    refine cV ?_
    refine x_lr (z := some 2281) T_378_317 rfl ?_
    refine x_li (z := p) T_378_318 rfl ?_
    refine x_ll (z := ve) T_378_319 rfl ?_
    refine x_cv3 T_378_321 mN_379 mL_379 (Nat.le_of_ble_eq_true rfl) mO_379 (PM.t hP) (Nat.le_of_ble_eq_true rfl) (tn σ _ ve hve hG10 hP) ?_
    clear hP
    rintro _ σ ⟨rfl, hP⟩
    refine cV ?_
    refine x_lr (z := some 2281) T_378_324 rfl ?_
    refine x_li (z := p) T_378_325 rfl ?_
    refine x_ic T_378_326 ?_
    refine x_cv3 T_378_328 mN_351 mL_351 (Nat.le_of_ble_eq_true rfl) mO_351 (PM.t hP) (Nat.le_of_ble_eq_true rfl) (tl σ _ 10 hG11 hP) ?_
    clear hP
    rintro _ σ ⟨rfl, hP⟩
    refine cV ?_
    refine x_ic T_378_331 ?_
    refine x_ri T_378_332 ?_
    exact hQ σ hG12 hP
  have hfin : ∀ (σ : hM) (v : Int), PM σ0 (gOut P p L1) S σ → tyC md = v → WP fb (d + 2) 378 231 [some (vR (some 2281)), some (vI p), some (vI e0), some (vI n0), some (vL md), none, some (vL le), none, some (vL ve), none, some (vI k0), some (vI b0), some (vI b1), some (vI b2), some (vI n0)] [vI v, vI p, vR (some 2281)] σ Q := fun σ v hP e => by
    rw [← e]
    exact fin σ hP
  rw [hL1] at hG1
  by_cases q1 : and64 md 2147483648 = 0
  · by_cases q2 : and64 md 1073741824 = 0
    · have ev : tyC md = 45 := by unfold tyC; rw [if_pos q1, if_pos q2]
      refine x_lr (z := some 2281) T_378_188 rfl ?_
      refine x_li (z := p) T_378_189 rfl ?_
      refine x_ic T_378_190 ?_
      refine x_cv3 T_378_192 mN_351 mL_351 (Nat.le_of_ble_eq_true rfl) mO_351 (PM.t hP) (Nat.le_of_ble_eq_true rfl) (tl σ _ 32 hG hP) ?_
      clear hP
      rintro _ σ ⟨rfl, hP⟩
      rw [hL1] at hP
      refine cV ?_
      refine x_lr (z := some 2281) T_378_195 rfl ?_
      refine x_li (z := p) T_378_196 rfl ?_
      refine x_ll (z := md) T_378_197 rfl ?_
      refine x_lc T_378_199 ?_
      refine x_lb (w := (and64 md 2147483648)) T_378_202 (fun h => absurd h.1 (by decide)) rfl ?_
      refine x_lc T_378_203 ?_
      refine x_lif T_378_204 T_378_205 (fun _ => ?_) (fun h => absurd (show (and64 md 2147483648) = 0 by exact q1) h)
      refine x_ll (z := md) T_378_213 rfl ?_
      refine x_lc T_378_215 ?_
      refine x_lb (w := (and64 md 1073741824)) T_378_218 (fun h => absurd h.1 (by decide)) rfl ?_
      refine x_lc T_378_219 ?_
      refine x_lif T_378_220 T_378_221 (fun _ => ?_) (fun h => absurd (show (and64 md 1073741824) = 0 by exact q2) h)
      refine x_ic T_378_229 ?_
      exact hfin σ _ hP ev
    · have ev : tyC md = 97 := by unfold tyC; rw [if_pos q1, if_neg q2]
      refine x_lr (z := some 2281) T_378_188 rfl ?_
      refine x_li (z := p) T_378_189 rfl ?_
      refine x_ic T_378_190 ?_
      refine x_cv3 T_378_192 mN_351 mL_351 (Nat.le_of_ble_eq_true rfl) mO_351 (PM.t hP) (Nat.le_of_ble_eq_true rfl) (tl σ _ 32 hG hP) ?_
      clear hP
      rintro _ σ ⟨rfl, hP⟩
      rw [hL1] at hP
      refine cV ?_
      refine x_lr (z := some 2281) T_378_195 rfl ?_
      refine x_li (z := p) T_378_196 rfl ?_
      refine x_ll (z := md) T_378_197 rfl ?_
      refine x_lc T_378_199 ?_
      refine x_lb (w := (and64 md 2147483648)) T_378_202 (fun h => absurd h.1 (by decide)) rfl ?_
      refine x_lc T_378_203 ?_
      refine x_lif T_378_204 T_378_205 (fun _ => ?_) (fun h => absurd (show (and64 md 2147483648) = 0 by exact q1) h)
      refine x_ll (z := md) T_378_213 rfl ?_
      refine x_lc T_378_215 ?_
      refine x_lb (w := (and64 md 1073741824)) T_378_218 (fun h => absurd h.1 (by decide)) rfl ?_
      refine x_lc T_378_219 ?_
      refine x_lif T_378_220 T_378_221 (fun h => absurd (show (and64 md 1073741824) = 0 from h) (by exact q2)) (fun _ => ?_)
      refine x_ic T_378_224 ?_
      refine x_goto T_378_226 ?_
      exact hfin σ _ hP ev
  · have ev : tyC md = 100 := by unfold tyC; rw [if_neg q1]
    refine x_lr (z := some 2281) T_378_188 rfl ?_
    refine x_li (z := p) T_378_189 rfl ?_
    refine x_ic T_378_190 ?_
    refine x_cv3 T_378_192 mN_351 mL_351 (Nat.le_of_ble_eq_true rfl) mO_351 (PM.t hP) (Nat.le_of_ble_eq_true rfl) (tl σ _ 32 hG hP) ?_
    clear hP
    rintro _ σ ⟨rfl, hP⟩
    rw [hL1] at hP
    refine cV ?_
    refine x_lr (z := some 2281) T_378_195 rfl ?_
    refine x_li (z := p) T_378_196 rfl ?_
    refine x_ll (z := md) T_378_197 rfl ?_
    refine x_lc T_378_199 ?_
    refine x_lb (w := (and64 md 2147483648)) T_378_202 (fun h => absurd h.1 (by decide)) rfl ?_
    refine x_lc T_378_203 ?_
    refine x_lif T_378_204 T_378_205 (fun h => absurd (show (and64 md 2147483648) = 0 from h) (by exact q1)) (fun _ => ?_)
    refine x_ic T_378_208 ?_
    refine x_goto T_378_210 ?_
    exact hfin σ _ hP ev
theorem m_stat (hP : PM σ0 P S σ) (hK : KS T U P S l []) (hp : 0 ≤ p ∧ p < 8) (hT : T + 800 ≤ 2147483000) (hw : 1 < ((lnW l).length : Int)) : CL fb (d + 16) 378 [vR (some 2281), vI p] σ (KC (T + 308) U σ0 S l (cStat P p (lnB l 1)).1 (cStat P p (lnB l 1)).2.1 (cStat P p (lnB l 1)).2.2) := by
  have hww := k_ww (fb := fb) (d := d) (thr := 1) hP hK hp (Or.inr rfl) (by omega) (by decide) (w := 1) ⟨by decide, by omega⟩
  have hkf := KF_kWW (thr := 1) (wd := lnB l 1) hK.1.iv hK.2.1 hp
  have hm42 : 0 ≤ P 2281 42 ∧ P 2281 42 ≤ T := IV.n hK.1.iv 42 42 rfl rfl (by decide)
  unfold cStat
  obtain ⟨e, he⟩ : ∃ e, (kWW P p 1 (lnB l 1)).1 = e := ⟨_, rfl⟩
  obtain ⟨P1, hP1⟩ : ∃ P1, (kWW P p 1 (lnB l 1)).2.1 = P1 := ⟨_, rfl⟩
  obtain ⟨c, hc⟩ : ∃ c, (kWW P p 1 (lnB l 1)).2.2 = c := ⟨_, rfl⟩
  rw [he, hP1] at hkf
  rw [he, hP1, hc] at hww
  rw [he, hP1, hc]
  by_cases q1 : 0 < e
  · rw [if_pos q1]
    dsimp only
    rw [kHoldn (by omega)] at hww
    refine CL_in mL_378 rfl ?_
    show WP fb _ 378 0 [some (vR (some 2281)), some (vI p), none, none, none, none, none, none, none, none, none, none, none, none, none] [] σ _
    refine x_lr (z := some 2281) T_378_0 rfl ?_
    refine x_li (z := p) T_378_1 rfl ?_
    refine x_ic T_378_2 ?_
    refine x_ic T_378_3 ?_
    refine x_cv4 T_378_4 mN_327 mL_327 (Nat.le_of_ble_eq_true rfl) mO_327 (PM.t hP) (Nat.le_of_ble_eq_true rfl) (hww) ?_
    clear hP hww
    rintro _ σ ⟨S2, rfl, hP, hK2, hX2, -⟩
    refine cI ?_
    refine x_si (ls1 := [some (vR (some 2281)), some (vI p), some (vI e), none, none, none, none, none, none, none, none, none, none, none, none]) T_378_7 rfl ?_
    refine x_li (z := e) T_378_8 rfl ?_
    refine x_if T_378_9 (fun h => absurd (show e ≤ 0 from h) (by omega)) (fun _ => ?_)
    refine x_li (z := e) T_378_12 rfl ?_
    refine x_ri T_378_13 ?_
    exact ⟨S2, rfl, hP, hK2.mono (by omega), hX2⟩
  rw [if_neg q1]
  have q2 : e = 0 := by omega
  subst q2
  rw [kHold0] at hww
  have her := tE_rng (P := P1) (s := c.1) (l := mOne 124 c.2.1)
  have hsA := fun (hG : GI (T + 300) U P1) (hs : 0 ≤ c.1 ∧ c.1 < 3) => stat_A (f0 := c.2.1) hG hs
  obtain ⟨e2, he2⟩ : ∃ e2, tE P1 c.1 (mOne 124 c.2.1) = e2 := ⟨_, rfl⟩
  obtain ⟨P2, hP2⟩ : ∃ P2, tP P1 c.1 (mOne 124 c.2.1) = P2 := ⟨_, rfl⟩
  obtain ⟨A, hA0⟩ : ∃ A, tA P1 c.1 (mOne 124 c.2.1) = A := ⟨_, rfl⟩
  rw [he2] at her hsA
  rw [hA0] at hsA
  rw [he2, hP2, hA0]
  by_cases q4 : 0 < e2
  · rw [if_pos q4]
    dsimp only
    refine CL_in mL_378 rfl ?_
    show WP fb _ 378 0 [some (vR (some 2281)), some (vI p), none, none, none, none, none, none, none, none, none, none, none, none, none] [] σ _
    refine x_lr (z := some 2281) T_378_0 rfl ?_
    refine x_li (z := p) T_378_1 rfl ?_
    refine x_ic T_378_2 ?_
    refine x_ic T_378_3 ?_
    refine x_cv4 T_378_4 mN_327 mL_327 (Nat.le_of_ble_eq_true rfl) mO_327 (PM.t hP) (Nat.le_of_ble_eq_true rfl) (hww) ?_
    clear hP hww
    rintro _ σ ⟨S2, rfl, hP, hK2, hX2, -⟩
    obtain ⟨g1, g2, g3, g4, g5, g6, g7⟩ := hK2.2.2.2.1.last
    obtain ⟨c1, c2, -⟩ := hK2.2.2.2.1.ch hK2.2.2.1
    refine cI ?_
    refine x_si (ls1 := [some (vR (some 2281)), some (vI p), some (vI 0), none, none, none, none, none, none, none, none, none, none, none, none]) T_378_7 rfl ?_
    refine x_li (z := 0) T_378_8 rfl ?_
    refine x_if T_378_9 (fun _ => ?_) (fun h => absurd (show (0 : Int) ≤ 0 by decide) h)
    refine x_lr (z := some 2281) T_378_14 rfl ?_
    refine x_ic T_378_15 ?_
    refine x_lr (z := some 2281) T_378_17 rfl ?_
    refine x_gR (z := some 2350) T_378_18 F_17_86 (PM.t hP) (PM.r hP 86 2350 rfl) ?_
    refine x_lr (z := some 2281) T_378_21 rfl ?_
    refine x_gI (z := 1) T_378_22 (Or.inl F_17_91) (PM.t hP) (Eq.trans (PM.nS hP 2281 91 91 rfl rfl rfl) g1) ?_
    refine x_ic T_378_25 ?_
    refine x_ib (w := 0) T_378_26 (fun h => absurd h.1 (by decide)) (by decide) ?_
    refine x_alI (z := c.1) T_378_27 (by decide) (PM.ta hP 2350 0 64 rfl rfl) (by omega) (by omega) (Eq.trans (PM.aS hP 2350 rfl rfl (by omega)) g3) ?_
    refine x_lr (z := some 2281) T_378_28 rfl ?_
    refine x_gR (z := some 2351) T_378_29 F_17_87 (PM.t hP) (PM.r hP 87 2351 rfl) ?_
    refine x_lr (z := some 2281) T_378_32 rfl ?_
    refine x_gI (z := 1) T_378_33 (Or.inl F_17_91) (PM.t hP) (Eq.trans (PM.nS hP 2281 91 91 rfl rfl rfl) g1) ?_
    refine x_ic T_378_36 ?_
    refine x_ib (w := 0) T_378_37 (fun h => absurd h.1 (by decide)) (by decide) ?_
    refine x_alI (z := c.2.1) T_378_38 (by decide) (PM.ta hP 2351 0 64 rfl rfl) (by omega) (by omega) (Eq.trans (PM.aS hP 2351 rfl rfl (by omega)) g4) ?_
    refine x_cv4 T_378_39 mN_345 mL_345 (Nat.le_of_ble_eq_true rfl) mO_345 (PM.t hP) (Nat.le_of_ble_eq_true rfl) (g_askOne hP hK2.2.2.1 hK2.1 (by omega) (by omega) (Or.inr (Or.inr rfl))) ?_
    clear hP
    intro r σ hr
    obtain ⟨S3, hr0, hP, hK3, hX3, -⟩ := hK2.ask (T1 := T + 304) (by omega) hr
    rw [he2] at hr0
    subst hr0
    rw [hP2] at hP hK3
    refine cI ?_
    refine x_si (ls1 := [some (vR (some 2281)), some (vI p), some (vI e2), none, none, none, none, none, none, none, none, none, none, none, none]) T_378_42 rfl ?_
    refine x_li (z := e2) T_378_43 rfl ?_
    refine x_if T_378_44 (fun h => absurd (show e2 ≤ 0 from h) (by omega)) (fun _ => ?_)
    refine x_li (z := e2) T_378_47 rfl ?_
    refine x_ri T_378_48 ?_
    exact ⟨S3, rfl, hP, hK3.mono (by omega), SX_tr hX2 hX3⟩
  · rw [if_neg q4]
    dsimp only
    have q5 : e2 = 0 := by omega
    subst q5
    refine CL_in mL_378 rfl ?_
    show WP fb _ 378 0 [some (vR (some 2281)), some (vI p), none, none, none, none, none, none, none, none, none, none, none, none, none] [] σ _
    refine x_lr (z := some 2281) T_378_0 rfl ?_
    refine x_li (z := p) T_378_1 rfl ?_
    refine x_ic T_378_2 ?_
    refine x_ic T_378_3 ?_
    refine x_cv4 T_378_4 mN_327 mL_327 (Nat.le_of_ble_eq_true rfl) mO_327 (PM.t hP) (Nat.le_of_ble_eq_true rfl) (hww) ?_
    clear hP hww
    rintro _ σ ⟨S2, rfl, hP, hK2, hX2, -⟩
    obtain ⟨g1, g2, g3, g4, g5, g6, g7⟩ := hK2.2.2.2.1.last
    obtain ⟨c1, c2, -⟩ := hK2.2.2.2.1.ch hK2.2.2.1
    refine cI ?_
    refine x_si (ls1 := [some (vR (some 2281)), some (vI p), some (vI 0), none, none, none, none, none, none, none, none, none, none, none, none]) T_378_7 rfl ?_
    refine x_li (z := 0) T_378_8 rfl ?_
    refine x_if T_378_9 (fun _ => ?_) (fun h => absurd (show (0 : Int) ≤ 0 by decide) h)
    refine x_lr (z := some 2281) T_378_14 rfl ?_
    refine x_ic T_378_15 ?_
    refine x_lr (z := some 2281) T_378_17 rfl ?_
    refine x_gR (z := some 2350) T_378_18 F_17_86 (PM.t hP) (PM.r hP 86 2350 rfl) ?_
    refine x_lr (z := some 2281) T_378_21 rfl ?_
    refine x_gI (z := 1) T_378_22 (Or.inl F_17_91) (PM.t hP) (Eq.trans (PM.nS hP 2281 91 91 rfl rfl rfl) g1) ?_
    refine x_ic T_378_25 ?_
    refine x_ib (w := 0) T_378_26 (fun h => absurd h.1 (by decide)) (by decide) ?_
    refine x_alI (z := c.1) T_378_27 (by decide) (PM.ta hP 2350 0 64 rfl rfl) (by omega) (by omega) (Eq.trans (PM.aS hP 2350 rfl rfl (by omega)) g3) ?_
    refine x_lr (z := some 2281) T_378_28 rfl ?_
    refine x_gR (z := some 2351) T_378_29 F_17_87 (PM.t hP) (PM.r hP 87 2351 rfl) ?_
    refine x_lr (z := some 2281) T_378_32 rfl ?_
    refine x_gI (z := 1) T_378_33 (Or.inl F_17_91) (PM.t hP) (Eq.trans (PM.nS hP 2281 91 91 rfl rfl rfl) g1) ?_
    refine x_ic T_378_36 ?_
    refine x_ib (w := 0) T_378_37 (fun h => absurd h.1 (by decide)) (by decide) ?_
    refine x_alI (z := c.2.1) T_378_38 (by decide) (PM.ta hP 2351 0 64 rfl rfl) (by omega) (by omega) (Eq.trans (PM.aS hP 2351 rfl rfl (by omega)) g4) ?_
    refine x_cv4 T_378_39 mN_345 mL_345 (Nat.le_of_ble_eq_true rfl) mO_345 (PM.t hP) (Nat.le_of_ble_eq_true rfl) (g_askOne hP hK2.2.2.1 hK2.1 (by omega) (by omega) (Or.inr (Or.inr rfl))) ?_
    clear hP
    intro r σ hr
    obtain ⟨S3, hr0, hP, hK3, hX3, hA⟩ := hK2.ask (T1 := T + 304) (by omega) hr
    rw [he2] at hr0
    subst hr0
    rw [hP2] at hP hK3
    rw [hA0] at hA
    refine cI ?_
    refine x_si (ls1 := [some (vR (some 2281)), some (vI p), some (vI 0), none, none, none, none, none, none, none, none, none, none, none, none]) T_378_42 rfl ?_
    refine x_li (z := 0) T_378_43 rfl ?_
    refine x_if T_378_44 (fun _ => ?_) (fun h => absurd (show (0 : Int) ≤ 0 by decide) h)
    obtain ⟨n0, n1, n2, n3, n4, n5, n6⟩ := hsA hK2.1 (by omega) rfl
    have told := fun (σ : hM) (o : Int) (n : Nat) (hn : n ≤ 8) (ho : 0 ≤ o) (ho2 : o + n ≤ A.length) (hw : w64 (nu (lg A) o n) = nu (lg A) o n) (hP : PM σ0 P2 S3 σ) => (CL.mono (m_told (fb := fb) (d := d + 15) hP hK3.2.2.1 (p := o) (n := (n : Int)) (by omega) ho (by omega)) (fun r σ1 hr => by rw [Int.toNat_natCast, AN_nu hA ho ho2, hw] at hr; exact hr) : CL fb (d + 15) 339 [vR (some 2281), vI o, vI (n : Int)] σ (rPL (nu (lg A) o n) σ))
    have r4 : ∀ o, 0 ≤ o → 0 ≤ nu (lg A) o 4 ∧ nu (lg A) o 4 < 4294967296 := fun o ho => by
      have := nu_rng (f := lg A) (i := o) 4 (fun k hk => hA.2.2.2 _ (by omega))
      rw [show (256 : Int) ^ 4 = 4294967296 by decide] at this
      exact this
    have r30 := r4 30 (by decide)
    have r18 := r4 18 (by decide)
    have hx : ∀ k, 54 + n0 ≤ k → k ≤ 56 + n0 → S3 2286 k = lg A k ∧ 0 ≤ lg A k ∧ lg A k ≤ 255 := fun k a b => ⟨hA.2.1 k (by omega) (by omega), hA.2.2.2 k (by omega)⟩
    have hx0 := hx (54 + n0) (by omega) (by omega)
    have hx1 := hx (54 + n0 + 1) (by omega) (by omega)
    have hx2 := hx (54 + n0 + 2) (by omega) (by omega)
    unfold stT
    rw [n3]
    have t50 := fun (σ : hM) (hP : PM σ0 P2 S3 σ) => told σ 50 2 (by decide) (by decide) (by omega) (by rw [n3]; exact w64_id (by omega) (by omega)) hP
    have t30 := fun (σ : hM) (hP : PM σ0 P2 S3 σ) => told σ 30 4 (by decide) (by decide) (by omega) (w64_id (by omega) (by omega)) hP
    have t42 := fun (σ : hM) (hP : PM σ0 P2 S3 σ) => told σ 42 8 (by decide) (by decide) (by omega) (w64_id (by omega) (by omega)) hP
    have t18 := fun (σ : hM) (hP : PM σ0 P2 S3 σ) => told σ 18 4 (by decide) (by decide) (by omega) (w64_id (by omega) (by omega)) hP
    rw [n3] at t50
    obtain ⟨md, hmd⟩ : ∃ md, nu (lg A) 30 4 = md := ⟨_, rfl⟩
    obtain ⟨le, hle⟩ : ∃ le, nu (lg A) 42 8 = le := ⟨_, rfl⟩
    obtain ⟨ve, hve⟩ : ∃ ve, nu (lg A) 18 4 = ve := ⟨_, rfl⟩
    rw [hmd] at t30 r30 ⊢
    rw [hle] at t42 n5 n6 ⊢
    rw [hve] at t18 r18 ⊢
    obtain ⟨b0, hb0⟩ : ∃ b0, lg A (54 + n0) = b0 := ⟨_, rfl⟩
    obtain ⟨b1, hb1⟩ : ∃ b1, lg A (54 + n0 + 1) = b1 := ⟨_, rfl⟩
    obtain ⟨b2, hb2⟩ : ∃ b2, lg A (54 + n0 + 2) = b2 := ⟨_, rfl⟩
    rw [hb0] at hx0 ⊢
    rw [hb1] at hx1 ⊢
    rw [hb2] at hx2 ⊢
    refine x_lr (z := some 2281) T_378_49 rfl ?_
    refine x_ic T_378_50 ?_
    refine x_ic T_378_52 ?_
    refine x_cv3 T_378_53 mN_339 mL_339 (Nat.le_of_ble_eq_true rfl) mO_339 (PM.t hP) (Nat.le_of_ble_eq_true rfl) (t50 σ hP) ?_
    rintro _ σ ⟨rfl, rfl⟩
    refine cL ?_
    refine x_l2i (w := n0) T_378_56 (w32_id (by omega) (by omega)) ?_
    refine x_si (ls1 := [some (vR (some 2281)), some (vI p), some (vI 0), some (vI n0), none, none, none, none, none, none, none, none, none, none, none]) T_378_57 rfl ?_
    refine x_lr (z := some 2281) T_378_58 rfl ?_
    refine x_ic T_378_59 ?_
    refine x_ic T_378_61 ?_
    refine x_cv3 T_378_62 mN_339 mL_339 (Nat.le_of_ble_eq_true rfl) mO_339 (PM.t hP) (Nat.le_of_ble_eq_true rfl) (t30 σ hP) ?_
    rintro _ σ ⟨rfl, rfl⟩
    refine cL ?_
    refine x_sl (ls1 := [some (vR (some 2281)), some (vI p), some (vI 0), some (vI n0), some (vL md), none, none, none, none, none, none, none, none, none, none]) T_378_65 rfl ?_
    refine x_lr (z := some 2281) T_378_67 rfl ?_
    refine x_ic T_378_68 ?_
    refine x_ic T_378_70 ?_
    refine x_cv3 T_378_72 mN_339 mL_339 (Nat.le_of_ble_eq_true rfl) mO_339 (PM.t hP) (Nat.le_of_ble_eq_true rfl) (t42 σ hP) ?_
    rintro _ σ ⟨rfl, rfl⟩
    refine cL ?_
    refine x_sl (ls1 := [some (vR (some 2281)), some (vI p), some (vI 0), some (vI n0), some (vL md), none, some (vL le), none, none, none, none, none, none, none, none]) T_378_75 rfl ?_
    refine x_lr (z := some 2281) T_378_77 rfl ?_
    refine x_ic T_378_78 ?_
    refine x_ic T_378_80 ?_
    refine x_cv3 T_378_81 mN_339 mL_339 (Nat.le_of_ble_eq_true rfl) mO_339 (PM.t hP) (Nat.le_of_ble_eq_true rfl) (t18 σ hP) ?_
    rintro _ σ ⟨rfl, rfl⟩
    refine cL ?_
    refine x_sl (ls1 := [some (vR (some 2281)), some (vI p), some (vI 0), some (vI n0), some (vL md), none, some (vL le), none, some (vL ve), none, none, none, none, none, none]) T_378_84 rfl ?_
    refine x_ic T_378_86 ?_
    refine x_li (z := n0) T_378_88 rfl ?_
    refine x_ib (w := (52 + n0)) T_378_89 (fun h => absurd h.1 (by decide)) (w32_id (by omega) (by omega)) ?_
    refine x_ic T_378_90 ?_
    refine x_ib (w := (54 + n0)) T_378_91 (fun h => absurd h.1 (by decide)) (w32_e (by omega) (by omega) (by omega)) ?_
    refine x_si (ls1 := [some (vR (some 2281)), some (vI p), some (vI 0), some (vI n0), some (vL md), none, some (vL le), none, some (vL ve), none, some (vI (54 + n0)), none, none, none, none]) T_378_92 rfl ?_
    refine x_lr (z := some 2281) T_378_94 rfl ?_
    refine x_gR (z := some 2286) T_378_95 F_17_5 (PM.t hP) (PM.r hP 5 2286 rfl) ?_
    refine x_li (z := (54 + n0)) T_378_98 rfl ?_
    refine x_alI (z := b0) T_378_100 (by decide) (PM.ta hP 2286 0 512 rfl rfl) (by omega) (by omega) (Eq.trans (PM.aS hP 2286 rfl rfl (by omega)) hx0.1) ?_
    refine x_si (ls1 := [some (vR (some 2281)), some (vI p), some (vI 0), some (vI n0), some (vL md), none, some (vL le), none, some (vL ve), none, some (vI (54 + n0)), some (vI b0), none, none, none]) T_378_101 rfl ?_
    refine x_lr (z := some 2281) T_378_103 rfl ?_
    refine x_gR (z := some 2286) T_378_104 F_17_5 (PM.t hP) (PM.r hP 5 2286 rfl) ?_
    refine x_li (z := (54 + n0)) T_378_107 rfl ?_
    refine x_ic T_378_109 ?_
    refine x_ib (w := ((54 + n0) + 1)) T_378_110 (fun h => absurd h.1 (by decide)) (w32_id (by omega) (by omega)) ?_
    refine x_alI (z := b1) T_378_111 (by decide) (PM.ta hP 2286 0 512 rfl rfl) (by omega) (by omega) (Eq.trans (PM.aS hP 2286 rfl rfl (by omega)) hx1.1) ?_
    refine x_si (ls1 := [some (vR (some 2281)), some (vI p), some (vI 0), some (vI n0), some (vL md), none, some (vL le), none, some (vL ve), none, some (vI (54 + n0)), some (vI b0), some (vI b1), none, none]) T_378_112 rfl ?_
    refine x_lr (z := some 2281) T_378_114 rfl ?_
    refine x_gR (z := some 2286) T_378_115 F_17_5 (PM.t hP) (PM.r hP 5 2286 rfl) ?_
    refine x_li (z := (54 + n0)) T_378_118 rfl ?_
    refine x_ic T_378_120 ?_
    refine x_ib (w := ((54 + n0) + 2)) T_378_121 (fun h => absurd h.1 (by decide)) (w32_id (by omega) (by omega)) ?_
    refine x_alI (z := b2) T_378_122 (by decide) (PM.ta hP 2286 0 512 rfl rfl) (by omega) (by omega) (Eq.trans (PM.aS hP 2286 rfl rfl (by omega)) hx2.1) ?_
    refine x_si (ls1 := [some (vR (some 2281)), some (vI p), some (vI 0), some (vI n0), some (vL md), none, some (vL le), none, some (vL ve), none, some (vI (54 + n0)), some (vI b0), some (vI b1), some (vI b2), none]) T_378_123 rfl ?_
    refine x_ic T_378_125 ?_
    refine x_si (ls1 := [some (vR (some 2281)), some (vI p), some (vI 0), some (vI n0), some (vL md), none, some (vL le), none, some (vL ve), none, some (vI (54 + n0)), some (vI b0), some (vI b1), some (vI b2), some (vI 0)]) T_378_126 rfl ?_
    refine m_stat_keep (d := d + 16) hA hK3.2.2.1 ⟨n1, n2⟩ n4 ?_ n0.toNat 0 σ (by omega) (by decide) (by show PM σ0 P2 (rW S3 2355 0 []) σ; rw [rW_nil]; exact hP)
    clear hP
    intro σ hP
    have hsl : ((seg (lg A) 52 n0.toNat).length : Int) = n0 := by rw [seg_len]; omega
    have hK4 := hK3.kept (l1 := seg (lg A) 52 n0.toNat) (byt_seg (fun i a b => hA.2.2.2 _ (by omega))) (by omega)
    refine x_lr (z := some 2281) T_378_157 rfl ?_
    refine x_cv1 T_378_158 mN_344 mL_344 (Nat.le_of_ble_eq_true rfl) mO_344 (PM.t hP) (Nat.le_of_ble_eq_true rfl) (m_drop (h := []) hP hK4.2.2.1 hK4.1 (by omega) hK4.2.2.2.1) ?_
    clear hP
    intro r σ hr
    obtain ⟨S5, rfl, hP, hK5, hX5, hS5⟩ := KS.drop (h := []) hK4 hr
    refine cV ?_
    refine x_ic T_378_161 ?_
    refine x_si (ls1 := [some (vR (some 2281)), some (vI p), some (vI 0), some (vI n0), some (vL md), none, some (vL le), none, some (vL ve), none, some (vI (54 + n0)), some (vI b0), some (vI b1), some (vI b2), some (vI 0)]) T_378_162 rfl ?_
    have hkk : ∀ i, 0 ≤ i → i < n0 → S5 2355 i = lg A (52 + i) := fun i a b => by
      rw [hS5.2 2355 i rfl (by decide) (by decide) (by decide) (by decide) (by decide) (by decide) (by decide) (by decide) (by decide), rW_i ⟨a, by omega⟩, Int.sub_zero, lg_seg _ _ _ _ a (by omega)]
    refine m_stat_tell (d := d + 15) (P := kDrop P2 c) hp ⟨n1, n2⟩ hkk hA.2.2.2 hK5.1 ?_ n0.toNat 0 σ (by omega) (by decide) hP hK5.1
    clear hP
    intro σ hP
    have hG6 : GI (T + 308) U (gOut (kDrop P2 c) p (seg (lg A) 52 n0.toNat)) := GI_out hp _ _ (hK5.1.mono (by omega)) (byt_mem (byt_seg (fun i a b => hA.2.2.2 _ (by omega))))
    refine m_stat_end (d := d + 14) hp (hK5.mono (show T + 304 + 4 ≤ T + 308 by omega)) ⟨hx0.2, hx1.2, hx2.2⟩ r30.1 ⟨n5, n6⟩ r18 hG6 hP ?_
    intro σ hG hP
    exact ⟨S5, rfl, hP, (hK5.mono (by omega)).gout hG, SX_tr hX2 (SX_tr hX3 (SX_tr SX_kept hX5))⟩
end MSTAT2
