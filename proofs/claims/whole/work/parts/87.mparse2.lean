/-! A word parsed as a path. -/
theorem T_328_0 : hTab 328 0 = some ((3, 0, 2, []), 1) := rfl
theorem T_328_1 : hTab 328 1 = some ((24, 17, Int.ofNat 75, []), 4) := rfl
theorem T_328_4 : hTab 328 4 = some ((3, 2, 0, []), 5) := rfl
theorem T_328_5 : hTab 328 5 = some ((26, 0, 0, []), 6) := rfl
theorem T_328_6 : hTab 328 6 = some ((4, 3, 0, []), 7) := rfl
theorem T_328_7 : hTab 328 7 = some ((3, 0, 2, []), 8) := rfl
theorem T_328_8 : hTab 328 8 = some ((24, 17, Int.ofNat 76, []), 11) := rfl
theorem T_328_11 : hTab 328 11 = some ((3, 2, 0, []), 12) := rfl
theorem T_328_12 : hTab 328 12 = some ((26, 0, 0, []), 13) := rfl
theorem T_328_13 : hTab 328 13 = some ((3, 3, 0, []), 14) := rfl
theorem T_328_14 : hTab 328 14 = some ((10, 1, 0, []), 15) := rfl
theorem T_328_15 : hTab 328 15 = some ((4, 4, 0, []), 17) := rfl
theorem T_328_17 : hTab 328 17 = some ((3, 0, 2, []), 18) := rfl
theorem T_328_18 : hTab 328 18 = some ((24, 17, Int.ofNat 73, []), 21) := rfl
theorem T_328_21 : hTab 328 21 = some ((3, 3, 0, []), 22) := rfl
theorem T_328_22 : hTab 328 22 = some ((26, 0, 0, []), 23) := rfl
theorem T_328_23 : hTab 328 23 = some ((0, 0, 47, []), 25) := rfl
theorem T_328_25 : hTab 328 25 = some ((19, 0, Int.ofNat 43, []), 28) := rfl
theorem T_328_28 : hTab 328 28 = some ((3, 0, 2, []), 29) := rfl
theorem T_328_29 : hTab 328 29 = some ((24, 17, Int.ofNat 73, []), 32) := rfl
theorem T_328_32 : hTab 328 32 = some ((3, 3, 0, []), 33) := rfl
theorem T_328_33 : hTab 328 33 = some ((26, 0, 0, []), 34) := rfl
theorem T_328_34 : hTab 328 34 = some ((0, 0, 35, []), 36) := rfl
theorem T_328_36 : hTab 328 36 = some ((19, 0, Int.ofNat 43, []), 39) := rfl
theorem T_328_39 : hTab 328 39 = some ((0, 0, 1, []), 40) := rfl
theorem T_328_40 : hTab 328 40 = some ((22, 0, Int.ofNat 44, []), 43) := rfl
theorem T_328_43 : hTab 328 43 = some ((0, 0, 0, []), 44) := rfl
theorem T_328_44 : hTab 328 44 = some ((4, 5, 0, []), 46) := rfl
theorem T_328_46 : hTab 328 46 = some ((3, 0, 2, []), 47) := rfl
theorem T_328_47 : hTab 328 47 = some ((0, 0, 0, []), 48) := rfl
theorem T_328_48 : hTab 328 48 = some ((25, 17, Int.ofNat 79, []), 51) := rfl
theorem T_328_51 : hTab 328 51 = some ((0, 0, 0, []), 52) := rfl
theorem T_328_52 : hTab 328 52 = some ((4, 6, 0, []), 54) := rfl
theorem T_328_107 : hTab 328 107 = some ((3, 5, 0, []), 109) := rfl
theorem T_328_109 : hTab 328 109 = some ((18, 0, Int.ofNat 133, []), 112) := rfl
theorem T_328_112 : hTab 328 112 = some ((3, 0, 2, []), 113) := rfl
theorem T_328_113 : hTab 328 113 = some ((24, 17, Int.ofNat 78, []), 116) := rfl
theorem T_328_116 : hTab 328 116 = some ((3, 0, 2, []), 117) := rfl
theorem T_328_117 : hTab 328 117 = some ((24, 17, Int.ofNat 79, []), 120) := rfl
theorem T_328_120 : hTab 328 120 = some ((0, 0, 47, []), 122) := rfl
theorem T_328_122 : hTab 328 122 = some ((27, 0, 0, []), 123) := rfl
theorem T_328_123 : hTab 328 123 = some ((3, 0, 2, []), 124) := rfl
theorem T_328_124 : hTab 328 124 = some ((6, 0, 0, []), 125) := rfl
theorem T_328_125 : hTab 328 125 = some ((24, 17, Int.ofNat 79, []), 128) := rfl
theorem T_328_128 : hTab 328 128 = some ((0, 0, 1, []), 129) := rfl
theorem T_328_129 : hTab 328 129 = some ((10, 0, 0, []), 130) := rfl
theorem T_328_130 : hTab 328 130 = some ((25, 17, Int.ofNat 79, []), 133) := rfl
theorem T_328_133 : hTab 328 133 = some ((0, 0, 0, []), 134) := rfl
theorem T_328_134 : hTab 328 134 = some ((4, 6, 0, []), 136) := rfl
theorem T_328_177 : hTab 328 177 = some ((0, 0, 1, []), 178) := rfl
theorem T_328_178 : hTab 328 178 = some ((4, 6, 0, []), 180) := rfl
theorem T_328_180 : hTab 328 180 = some ((3, 0, 2, []), 181) := rfl
theorem T_328_181 : hTab 328 181 = some ((0, 0, (-1), []), 182) := rfl
theorem T_328_182 : hTab 328 182 = some ((25, 17, Int.ofNat 80, []), 185) := rfl
theorem T_328_185 : hTab 328 185 = some ((3, 0, 2, []), 186) := rfl
theorem T_328_186 : hTab 328 186 = some ((24, 17, Int.ofNat 78, []), 189) := rfl
theorem T_328_189 : hTab 328 189 = some ((0, 0, 0, []), 190) := rfl
theorem T_328_190 : hTab 328 190 = some ((26, 0, 0, []), 191) := rfl
theorem T_328_191 : hTab 328 191 = some ((0, 0, 35, []), 193) := rfl
theorem T_328_193 : hTab 328 193 = some ((19, 1, Int.ofNat 251, []), 196) := rfl
theorem T_328_196 : hTab 328 196 = some ((3, 0, 2, []), 197) := rfl
theorem T_328_197 : hTab 328 197 = some ((0, 0, 1, []), 198) := rfl
theorem T_328_198 : hTab 328 198 = some ((31, 329, 0, []), 201) := rfl
theorem T_328_201 : hTab 328 201 = some ((14, 0, 0, []), 202) := rfl
theorem T_328_202 : hTab 328 202 = some ((1, 0, 48, []), 205) := rfl
theorem T_328_205 : hTab 328 205 = some ((1, 0, 50, []), 208) := rfl
theorem T_328_208 : hTab 328 208 = some ((31, 282, 0, []), 211) := rfl
theorem T_328_211 : hTab 328 211 = some ((18, 0, Int.ofNat 233, []), 214) := rfl
theorem T_328_214 : hTab 328 214 = some ((3, 0, 2, []), 215) := rfl
theorem T_328_215 : hTab 328 215 = some ((24, 17, Int.ofNat 79, []), 218) := rfl
theorem T_328_218 : hTab 328 218 = some ((0, 0, 2, []), 219) := rfl
theorem T_328_219 : hTab 328 219 = some ((19, 5, Int.ofNat 235, []), 222) := rfl
theorem T_328_222 : hTab 328 222 = some ((3, 0, 2, []), 223) := rfl
theorem T_328_223 : hTab 328 223 = some ((24, 17, Int.ofNat 78, []), 226) := rfl
theorem T_328_226 : hTab 328 226 = some ((0, 0, 2, []), 227) := rfl
theorem T_328_227 : hTab 328 227 = some ((26, 0, 0, []), 228) := rfl
theorem T_328_228 : hTab 328 228 = some ((0, 0, 47, []), 230) := rfl
theorem T_328_230 : hTab 328 230 = some ((19, 0, Int.ofNat 235, []), 233) := rfl
theorem T_328_233 : hTab 328 233 = some ((0, 0, 5, []), 234) := rfl
theorem T_328_234 : hTab 328 234 = some ((33, 1, 0, []), 235) := rfl
theorem T_328_235 : hTab 328 235 = some ((3, 0, 2, []), 236) := rfl
theorem T_328_236 : hTab 328 236 = some ((3, 0, 2, []), 237) := rfl
theorem T_328_237 : hTab 328 237 = some ((24, 17, Int.ofNat 78, []), 240) := rfl
theorem T_328_240 : hTab 328 240 = some ((0, 0, 1, []), 241) := rfl
theorem T_328_241 : hTab 328 241 = some ((26, 0, 0, []), 242) := rfl
theorem T_328_242 : hTab 328 242 = some ((0, 0, 48, []), 244) := rfl
theorem T_328_244 : hTab 328 244 = some ((10, 1, 0, []), 245) := rfl
theorem T_328_245 : hTab 328 245 = some ((25, 17, Int.ofNat 80, []), 248) := rfl
theorem T_328_248 : hTab 328 248 = some ((0, 0, 2, []), 249) := rfl
theorem T_328_249 : hTab 328 249 = some ((4, 6, 0, []), 251) := rfl
theorem T_328_251 : hTab 328 251 = some ((3, 0, 2, []), 252) := rfl
theorem T_328_252 : hTab 328 252 = some ((3, 6, 0, []), 254) := rfl
theorem T_328_254 : hTab 328 254 = some ((31, 330, 0, []), 257) := rfl
theorem T_328_257 : hTab 328 257 = some ((3, 0, 2, []), 258) := rfl
theorem T_328_258 : hTab 328 258 = some ((24, 17, Int.ofNat 83, []), 261) := rfl
theorem T_328_261 : hTab 328 261 = some ((0, 0, 10, []), 263) := rfl
theorem T_328_263 : hTab 328 263 = some ((19, 5, Int.ofNat 268, []), 266) := rfl
theorem T_328_266 : hTab 328 266 = some ((0, 0, 5, []), 267) := rfl
theorem T_328_267 : hTab 328 267 = some ((33, 1, 0, []), 268) := rfl
theorem T_328_268 : hTab 328 268 = some ((3, 0, 2, []), 269) := rfl
theorem T_328_269 : hTab 328 269 = some ((3, 6, 0, []), 271) := rfl
theorem T_328_271 : hTab 328 271 = some ((31, 331, 0, []), 274) := rfl
theorem T_328_274 : hTab 328 274 = some ((18, 0, Int.ofNat 281, []), 277) := rfl
theorem T_328_277 : hTab 328 277 = some ((0, 0, 0, []), 278) := rfl
theorem T_328_278 : hTab 328 278 = some ((22, 0, Int.ofNat 282, []), 281) := rfl
theorem T_328_281 : hTab 328 281 = some ((0, 0, 5, []), 282) := rfl
theorem T_328_282 : hTab 328 282 = some ((33, 1, 0, []), 283) := rfl
theorem T_329_0 : hTab 329 0 = some ((3, 1, 0, []), 1) := rfl
theorem T_329_1 : hTab 329 1 = some ((3, 0, 2, []), 2) := rfl
theorem T_329_2 : hTab 329 2 = some ((24, 17, Int.ofNat 79, []), 5) := rfl
theorem T_329_5 : hTab 329 5 = some ((19, 3, Int.ofNat 17, []), 8) := rfl
theorem T_329_8 : hTab 329 8 = some ((3, 0, 2, []), 9) := rfl
theorem T_329_9 : hTab 329 9 = some ((24, 17, Int.ofNat 78, []), 12) := rfl
theorem T_329_12 : hTab 329 12 = some ((3, 1, 0, []), 13) := rfl
theorem T_329_13 : hTab 329 13 = some ((26, 0, 0, []), 14) := rfl
theorem T_329_14 : hTab 329 14 = some ((22, 0, Int.ofNat 18, []), 17) := rfl
theorem T_329_17 : hTab 329 17 = some ((0, 0, (-1), []), 18) := rfl
theorem T_329_18 : hTab 329 18 = some ((33, 1, 0, []), 19) := rfl
theorem F_17_75 : (hFd 17 75).2.2.1 = 4 := rfl
theorem F_17_76 : (hFd 17 76).2.2.1 = 4 := rfl
theorem mN_329 : hmN 329 = 2 := by decide +kernel
theorem mL_329 : hmL 329 = 2 := by decide +kernel
theorem mK_329 : hmK 329 = 1 := by decide +kernel
theorem mO_329 : hmO 329 = 17 := by decide +kernel
section MPARSE2
variable {fb : Bool} {d : Nat} {σ0 σ : hM} {P Q R S S1 S2 : qR} {T U s w g u p k e t z o : Int} {l nm wd : List Int} {h : List Ch} {a f : Int → Int} {rows : List Nat} {sc : List Int} {ns : List (Int × Int)} {x : Int × Int}
theorem m_rawAt (hP : PM σ0 P S σ) (hR : RAWS S l) (hk : 0 ≤ k) : CL fb d 329 [vR (some 2281), vI k] σ (rP (if k < l.length then lg l k else -1) σ) := by
  have h79 := hR.1
  have hl := hR.2.1
  by_cases q : k < l.length
  · have hx := hR.2.2.2 k hk q
    rw [if_pos q]
    refine CL_in mL_329 rfl ?_
    show WP fb _ 329 0 [some (vR (some 2281)), some (vI k)] [] σ _
    refine x_li (z := k) T_329_0 rfl ?_
    refine x_lr (z := some 2281) T_329_1 rfl ?_
    refine x_gI (z := (l.length : Int)) T_329_2 (Or.inl F_17_79) (PM.t hP) (Eq.trans (PM.nS hP 2281 79 79 rfl rfl rfl) h79) ?_
    refine x_ic2 T_329_5 (fun h => absurd (show (l.length : Int) ≤ k from h) (by omega)) (fun _ => ?_)
    refine x_lr (z := some 2281) T_329_8 rfl ?_
    refine x_gR (z := some 2346) T_329_9 F_17_78 (PM.t hP) (PM.r hP 78 2346 rfl) ?_
    refine x_li (z := k) T_329_12 rfl ?_
    refine x_alI (z := lg l k) T_329_13 (by decide) (PM.ta hP 2346 0 200 rfl rfl) (by omega) (by omega) (Eq.trans (PM.aS hP 2346 rfl rfl (by omega)) hx) ?_
    refine x_goto T_329_14 ?_
    refine x_ri T_329_18 ?_
    exact ⟨rfl, rfl⟩
  · rw [if_neg q]
    refine CL_in mL_329 rfl ?_
    show WP fb _ 329 0 [some (vR (some 2281)), some (vI k)] [] σ _
    refine x_li (z := k) T_329_0 rfl ?_
    refine x_lr (z := some 2281) T_329_1 rfl ?_
    refine x_gI (z := (l.length : Int)) T_329_2 (Or.inl F_17_79) (PM.t hP) (Eq.trans (PM.nS hP 2281 79 79 rfl rfl rfl) h79) ?_
    refine x_ic2 T_329_5 (fun _ => ?_) (fun h => absurd (show (l.length : Int) ≤ k by omega) h)
    refine x_ic T_329_17 ?_
    refine x_ri T_329_18 ?_
    exact ⟨rfl, rfl⟩
theorem paN_ok (hl : 1 ≤ l.length) : NV (l.length : Int) (paN l) ∧ 2 * ((paN l).length : Int) ≤ l.length + 1 := by
  unfold paN paB
  refine cuL_ok _ _ _ (by split <;> decide) (fun i hi => absurd hi (Nat.not_lt_zero i)) (by show 2 * ((0 : Nat) : Int) ≤ _; split <;> decide) (by split <;> omega)
/-- what a parsed word leaves -/
abbrev PA (T U : Int) (σ0 : hM) (P S : qR) (l : List Int) : Option AV → hM → Prop := fun r σ' => ∃ S2, r = some (vI (paE l)) ∧ PM σ0 P S2 σ' ∧ IV true T U S2 ∧ SX spR spN S S2 ∧ (paE l = 0 → S2 2281 80 = paO l ∧ NMS S2 (paN l) ∧ RAWS S2 l ∧ PLS S2 (paL l))
theorem m_parse_tail {from_ size own : Int} (hP : PM σ0 P S1 σ) (hJ : IV true T U S1) (hX : SX spR spN S S1) (hR : RAWS S1 l) (hl : 1 ≤ l.length) (ho : S1 2281 80 = paO l) (hbo : -1 ≤ paO l ∧ paO l ≤ 2) (hgood : ¬ (lg l 0 = 35 ∧ (¬ (2 ≤ l.length ∧ 48 ≤ lg l 1 ∧ lg l 1 ≤ 50) ∨ (3 ≤ l.length ∧ ¬ lg l 2 = 47)))) : WP fb (d + 1) 328 251 [some (vR (some 2281)), some (vI p), some (vI w), some (vI from_), some (vI size), some (vI own), some (vI (paB l))] [] σ (PA T U σ0 P S l) := by
  have hb : 1 ≤ paB l ∧ paB l ≤ 2 := by unfold paB; split <;> decide
  have hc := m_cut (fb := fb) (d := d) hP hJ hR hb hl
  have hsub : ∀ S2, SX [2347, 2348] [83] S1 S2 → SX spR spN S S2 := fun S2 c => SX_tr hX (c.mono (fun _ => elem_sub (by decide)) (fun _ => elem_sub (by decide)))
  have hN := paN_ok hl
  have hlen := hR.2.1
  have e1 : cuL (lg l) (l.length : Int) l.length (paB l) [] = paN l := rfl
  rw [e1] at hc
  have hE : paE l = if 10 < (paN l).length then 5 else if 60 < (paL l).length then 5 else 0 := if_neg hgood
  by_cases q : 10 < (paN l).length
  · rw [if_pos q] at hE
    unfold PA
    rw [hE]
    refine x_lr (z := some 2281) T_328_251 rfl ?_
    refine x_li (z := (paB l)) T_328_252 rfl ?_
    refine x_cv2 T_328_254 mN_330 mL_330 (Nat.le_of_ble_eq_true rfl) mO_330 (PM.t hP) (Nat.le_of_ble_eq_true rfl) (hc) ?_
    clear hP hc
    rintro _ σ ⟨S2, rfl, hP, hJ2, hX2, hR2, hN2⟩
    have h83 := hN2.1
    refine cV ?_
    refine x_lr (z := some 2281) T_328_257 rfl ?_
    refine x_gI (z := ((paN l).length : Int)) T_328_258 (Or.inl F_17_83) (PM.t hP) (Eq.trans (PM.nS hP 2281 83 83 rfl rfl rfl) h83) ?_
    refine x_ic T_328_261 ?_
    refine x_ic2 T_328_263 (fun h => absurd (show ((paN l).length : Int) ≤ 10 from h) (by omega)) (fun _ => ?_)
    refine x_ic T_328_266 ?_
    refine x_ri T_328_267 ?_
    exact ⟨S2, rfl, hP, hJ2, hsub _ hX2, fun c => absurd c (by decide)⟩
  · rw [if_neg q] at hE
    have hly := fun (σ : hM) (S2 : qR) (a1 : PM σ0 P S2 σ) (a2 : IV true T U S2) (a3 : RAWS S2 l) (a4 : NMS S2 (paN l)) (a5 : S2 2281 80 = paO l) => m_lay (fb := fb) (d := d) a1 a2 a3 a4 hN.1 hb a5 (fun c => by
      unfold paB
      split
      · rename_i c2
        have : ¬ (¬ (2 ≤ l.length ∧ 48 ≤ lg l 1 ∧ lg l 1 ≤ 50) ∨ (3 ≤ l.length ∧ ¬ lg l 2 = 47)) := fun c3 => hgood ⟨c2, c3⟩
        omega
      · omega)
    have e2 : plL (paO l) l (paB l) (paN l) = paL l := rfl
    rw [e2] at hly
    have hly3 := fun (σ : hM) (S2 S3 : qR) (c : LY T U S2 S3) (a4 : NMS S2 (paN l)) => (show NMS S3 (paN l) from a4.of (c.n (by decide)) c.nf c.nt)
    have hsub2 : ∀ S2 S3, SX spR spN S S2 → LY T U S2 S3 → SX spR spN S S3 := fun S2 S3 c1 c2 => SX_tr c1 (c2.2.mono (fun _ => elem_sub (by decide)) (fun _ => elem_sub (by decide)))
    by_cases q2 : 60 < (paL l).length
    · rw [if_pos q2] at hE
      rw [if_pos (show 60 < ((paL l).length : Int) by omega)] at hly
      unfold PA
      rw [hE]
      refine x_lr (z := some 2281) T_328_251 rfl ?_
      refine x_li (z := (paB l)) T_328_252 rfl ?_
      refine x_cv2 T_328_254 mN_330 mL_330 (Nat.le_of_ble_eq_true rfl) mO_330 (PM.t hP) (Nat.le_of_ble_eq_true rfl) (hc) ?_
      clear hP hc
      rintro _ σ ⟨S2, rfl, hP, hJ2, hX2, hR2, hN2⟩
      have h83 := hN2.1
      have hly2 := hly σ S2 hP hJ2 hR2 hN2 ((hX2.1 80 rfl).trans ho)
      refine cV ?_
      refine x_lr (z := some 2281) T_328_257 rfl ?_
      refine x_gI (z := ((paN l).length : Int)) T_328_258 (Or.inl F_17_83) (PM.t hP) (Eq.trans (PM.nS hP 2281 83 83 rfl rfl rfl) h83) ?_
      refine x_ic T_328_261 ?_
      refine x_ic2 T_328_263 (fun _ => ?_) (fun h => absurd (show ((paN l).length : Int) ≤ 10 by omega) h)
      refine x_lr (z := some 2281) T_328_268 rfl ?_
      refine x_li (z := (paB l)) T_328_269 rfl ?_
      refine x_cv2 T_328_271 mN_331 mL_331 (Nat.le_of_ble_eq_true rfl) mO_331 (PM.t hP) (Nat.le_of_ble_eq_true rfl) (hly2) ?_
      clear hP hly2
      rintro _ σ ⟨S3, rfl, hP, hL3, hp3⟩
      refine cI ?_
      refine x_if T_328_274 (fun _ => ?_) (fun h => absurd (show (0 : Int) = 0 by decide) h)
      refine x_ic T_328_281 ?_
      refine x_ri T_328_282 ?_
      exact ⟨S3, rfl, hP, hL3.1, hsub2 _ _ (hsub _ hX2) hL3, fun c => absurd c (by decide)⟩
    · rw [if_neg q2] at hE
      rw [if_neg (show ¬ 60 < ((paL l).length : Int) by omega)] at hly
      unfold PA
      rw [hE]
      refine x_lr (z := some 2281) T_328_251 rfl ?_
      refine x_li (z := (paB l)) T_328_252 rfl ?_
      refine x_cv2 T_328_254 mN_330 mL_330 (Nat.le_of_ble_eq_true rfl) mO_330 (PM.t hP) (Nat.le_of_ble_eq_true rfl) (hc) ?_
      clear hP hc
      rintro _ σ ⟨S2, rfl, hP, hJ2, hX2, hR2, hN2⟩
      have h83 := hN2.1
      have hly2 := hly σ S2 hP hJ2 hR2 hN2 ((hX2.1 80 rfl).trans ho)
      refine cV ?_
      refine x_lr (z := some 2281) T_328_257 rfl ?_
      refine x_gI (z := ((paN l).length : Int)) T_328_258 (Or.inl F_17_83) (PM.t hP) (Eq.trans (PM.nS hP 2281 83 83 rfl rfl rfl) h83) ?_
      refine x_ic T_328_261 ?_
      refine x_ic2 T_328_263 (fun _ => ?_) (fun h => absurd (show ((paN l).length : Int) ≤ 10 by omega) h)
      refine x_lr (z := some 2281) T_328_268 rfl ?_
      refine x_li (z := (paB l)) T_328_269 rfl ?_
      refine x_cv2 T_328_271 mN_331 mL_331 (Nat.le_of_ble_eq_true rfl) mO_331 (PM.t hP) (Nat.le_of_ble_eq_true rfl) (hly2) ?_
      clear hP hly2
      rintro _ σ ⟨S3, rfl, hP, hL3, hp3⟩
      refine cI ?_
      refine x_if T_328_274 (fun h => absurd (show (1 : Int) = 0 from h) (by decide)) (fun _ => ?_)
      refine x_ic T_328_277 ?_
      refine x_goto T_328_278 ?_
      refine x_ri T_328_282 ?_
      exact ⟨S3, rfl, hP, hL3.1, hsub2 _ _ (hsub _ hX2) hL3, fun _ => ⟨(hL3.n (by decide)).trans ((hX2.1 80 rfl).trans ho), hly3 σ S2 S3 hL3 hN2, hR2.of (hL3.n (by decide)) hL3.raw, hp3 (by omega)⟩⟩
theorem m_parse {b c : Int} (hP : PM σ0 P S σ) (hJ : IV true T U S) (hI : IV false T U P) (hp : 0 ≤ p ∧ p < 8) (hw : 0 ≤ w ∧ w < 60) (ef : S 2344 w = b) (et : S 2345 w = c) (hbc : 0 ≤ b ∧ b < c ∧ c ≤ 100) (hwd : seg (S 2343) b (c - b).toNat = wd) (hl0 : paRaw P p wd = l) : CL fb (d + 2) 328 [vR (some 2281), vI p, vI w] σ (PA T U σ0 P S l) := by
  have hwl : (wd.length : Int) = c - b := by rw [← hwd, seg_len]; omega
  have hx0 : S 2343 b = lg wd 0 := by
    rw [← hwd, lg_seg _ _ _ _ (by decide) (by omega), show b + 0 = b by omega]
  have bz : 0 ≤ P 2326 p ∧ P 2326 p ≤ 60 := IV.a hI 2326 0 8 rfl rfl rfl (by omega) (by omega)
  -- from where the path's bytes lie there
  have main : ∀ (σ : hM) (S1 : qR) (own : Int) (l6 : Option AV), PM σ0 P S1 σ → IV true T U S1 → SX spR spN S S1 → RAWS S1 l → WP fb (d + 2) 328 177 [some (vR (some 2281)), some (vI p), some (vI w), some (vI b), some (vI (c - b)), some (vI own), l6] [] σ (PA T U σ0 P S l) := by
    intro σ S1 own l6 hP hJ1 hX1 hR1
    have hll : 1 ≤ l.length := by
      rw [← hl0]
      unfold paRaw
      rw [List.length_append]
      omega
    have hR2 : RAWS (rU S1 2281 80 (-1)) l := hR1.of (rU_k (by decide)) (fun _ => rU_f (by decide))
    have hJ2 : IV true T U (rU S1 2281 80 (-1)) := hJ1.uN 80 80 rfl (by show (-1 : Int) ≤ -1 ∧ (-1 : Int) ≤ 2; decide)
    have hX2 : SX spR spN S (rU S1 2281 80 (-1)) := SX_un hX1 rfl
    have r0 := hR1.2.2.2 0 (by decide) (by omega)
    have r79 := hR1.1
    have hlz := hR1.2.1
    by_cases q : lg l 0 = 35
    · have hra := fun (σ : hM) (hP : PM σ0 P (rU S1 2281 80 (-1)) σ) => m_rawAt (fb := fb) (d := d + 1) (k := 1) hP hR2 (by decide)
      by_cases q1 : 2 ≤ l.length ∧ 48 ≤ lg l 1 ∧ lg l 1 ≤ 50
      · have r1 := hR1.2.2.2 1 (by decide) (by omega)
        rw [if_pos (show (1 : Int) < l.length by omega)] at hra
        have hO : paO l = lg l 1 - 48 := if_pos q
        have hB : paB l = 2 := if_pos q
        by_cases q2 : 3 ≤ l.length ∧ ¬ lg l 2 = 47
        · have r2 := hR1.2.2.2 2 (by decide) (by omega)
          have hE : paE l = 5 := if_pos ⟨q, Or.inr q2⟩
          unfold PA
          rw [hE]
          refine x_ic T_328_177 ?_
          refine x_si (ls1 := [some (vR (some 2281)), some (vI p), some (vI w), some (vI b), some (vI (c - b)), some (vI own), some (vI 1)]) T_328_178 rfl ?_
          refine x_lr (z := some 2281) T_328_180 rfl ?_
          refine x_ic T_328_181 ?_
          refine y_pIS hP T_328_182 F_17_80 80 rfl rfl (fun σ hP => ?_)
          refine x_lr (z := some 2281) T_328_185 rfl ?_
          refine x_gR (z := some 2346) T_328_186 F_17_78 (PM.t hP) (PM.r hP 78 2346 rfl) ?_
          refine x_ic T_328_189 ?_
          refine x_alI (z := lg l 0) T_328_190 (by decide) (PM.ta hP 2346 0 200 rfl rfl) (by omega) (by omega) (Eq.trans (Eq.trans (PM.aS hP 2346 rfl rfl (by omega)) (rU_f (Nat.ne_of_beq_eq_false rfl))) r0) ?_
          refine x_ic T_328_191 ?_
          refine x_ic2 T_328_193 (fun h => absurd (show ¬ lg l 0 = 35 from h) (by exact fun z => z q)) (fun _ => ?_)
          refine x_lr (z := some 2281) T_328_196 rfl ?_
          refine x_ic T_328_197 ?_
          refine x_cv2 T_328_198 mN_329 mL_329 (Nat.le_of_ble_eq_true rfl) mO_329 (PM.t hP) (Nat.le_of_ble_eq_true rfl) (hra σ hP) ?_
          rintro _ σ ⟨rfl, rfl⟩
          refine cI ?_
          refine x_i2l T_328_201 ?_
          refine x_lc T_328_202 ?_
          refine x_lc T_328_205 ?_
          refine x_cs3 T_328_208 mN_282 mL_282 (Nat.le_of_ble_eq_true rfl) mK_282 (Nat.le_of_ble_eq_true rfl) (m_in) ?_
          rintro _ σ ⟨rfl, rfl⟩
          refine cI ?_
          refine x_if T_328_211 (fun h => absurd (show (if 48 ≤ (lg l 1) ∧ (lg l 1) ≤ 50 then (1 : Int) else 0) = 0 from h) (by rw [if_pos q1.2]; decide)) (fun _ => ?_)
          refine x_lr (z := some 2281) T_328_214 rfl ?_
          refine x_gI (z := (l.length : Int)) T_328_215 (Or.inl F_17_79) (PM.t hP) (Eq.trans (Eq.trans (PM.nS hP 2281 79 79 rfl rfl rfl) (rU_k (by decide))) r79) ?_
          refine x_ic T_328_218 ?_
          refine x_ic2 T_328_219 (fun h => absurd (show (l.length : Int) ≤ 2 from h) (by omega)) (fun _ => ?_)
          refine x_lr (z := some 2281) T_328_222 rfl ?_
          refine x_gR (z := some 2346) T_328_223 F_17_78 (PM.t hP) (PM.r hP 78 2346 rfl) ?_
          refine x_ic T_328_226 ?_
          refine x_alI (z := lg l 2) T_328_227 (by decide) (PM.ta hP 2346 0 200 rfl rfl) (by omega) (by omega) (Eq.trans (Eq.trans (PM.aS hP 2346 rfl rfl (by omega)) (rU_f (Nat.ne_of_beq_eq_false rfl))) r2) ?_
          refine x_ic T_328_228 ?_
          refine x_ic2 T_328_230 (fun h => absurd (show lg l 2 = 47 from h) (by exact q2.2)) (fun _ => ?_)
          refine x_ic T_328_233 ?_
          refine x_ri T_328_234 ?_
          exact ⟨_, rfl, hP, hJ2, hX2, fun z => absurd z (by decide)⟩
        · have hgood : ¬ (lg l 0 = 35 ∧ (¬ (2 ≤ l.length ∧ 48 ≤ lg l 1 ∧ lg l 1 ≤ 50) ∨ (3 ≤ l.length ∧ ¬ lg l 2 = 47))) := fun z => z.2.elim (fun z1 => z1 q1) q2
          have fin : ∀ (σ : hM), PM σ0 P (rU (rU S1 2281 80 (-1)) 2281 80 (lg l 1 - 48)) σ → WP fb (d + 2) 328 251 [some (vR (some 2281)), some (vI p), some (vI w), some (vI b), some (vI (c - b)), some (vI own), some (vI 2)] [] σ (PA T U σ0 P S l) := by
            intro σ hP3
            rw [← hB]
            exact m_parse_tail (d := d + 1) hP3 (hJ2.uN 80 80 rfl (by show (-1 : Int) ≤ lg l 1 - 48 ∧ lg l 1 - 48 ≤ 2; omega)) (SX_un hX2 rfl) (hR2.of (rU_k (by decide)) (fun _ => rU_f (by decide))) hll (by rw [rU_s, hO]) (by omega) hgood
          by_cases q3 : 3 ≤ l.length
          · have r2 := hR1.2.2.2 2 (by decide) (by omega)
            have q4 : lg l 2 = 47 := Classical.byContradiction (fun z => q2 ⟨q3, z⟩)
            refine x_ic T_328_177 ?_
            refine x_si (ls1 := [some (vR (some 2281)), some (vI p), some (vI w), some (vI b), some (vI (c - b)), some (vI own), some (vI 1)]) T_328_178 rfl ?_
            refine x_lr (z := some 2281) T_328_180 rfl ?_
            refine x_ic T_328_181 ?_
            refine y_pIS hP T_328_182 F_17_80 80 rfl rfl (fun σ hP => ?_)
            refine x_lr (z := some 2281) T_328_185 rfl ?_
            refine x_gR (z := some 2346) T_328_186 F_17_78 (PM.t hP) (PM.r hP 78 2346 rfl) ?_
            refine x_ic T_328_189 ?_
            refine x_alI (z := lg l 0) T_328_190 (by decide) (PM.ta hP 2346 0 200 rfl rfl) (by omega) (by omega) (Eq.trans (Eq.trans (PM.aS hP 2346 rfl rfl (by omega)) (rU_f (Nat.ne_of_beq_eq_false rfl))) r0) ?_
            refine x_ic T_328_191 ?_
            refine x_ic2 T_328_193 (fun h => absurd (show ¬ lg l 0 = 35 from h) (by exact fun z => z q)) (fun _ => ?_)
            refine x_lr (z := some 2281) T_328_196 rfl ?_
            refine x_ic T_328_197 ?_
            refine x_cv2 T_328_198 mN_329 mL_329 (Nat.le_of_ble_eq_true rfl) mO_329 (PM.t hP) (Nat.le_of_ble_eq_true rfl) (hra σ hP) ?_
            rintro _ σ ⟨rfl, rfl⟩
            refine cI ?_
            refine x_i2l T_328_201 ?_
            refine x_lc T_328_202 ?_
            refine x_lc T_328_205 ?_
            refine x_cs3 T_328_208 mN_282 mL_282 (Nat.le_of_ble_eq_true rfl) mK_282 (Nat.le_of_ble_eq_true rfl) (m_in) ?_
            rintro _ σ ⟨rfl, rfl⟩
            refine cI ?_
            refine x_if T_328_211 (fun h => absurd (show (if 48 ≤ (lg l 1) ∧ (lg l 1) ≤ 50 then (1 : Int) else 0) = 0 from h) (by rw [if_pos q1.2]; decide)) (fun _ => ?_)
            refine x_lr (z := some 2281) T_328_214 rfl ?_
            refine x_gI (z := (l.length : Int)) T_328_215 (Or.inl F_17_79) (PM.t hP) (Eq.trans (Eq.trans (PM.nS hP 2281 79 79 rfl rfl rfl) (rU_k (by decide))) r79) ?_
            refine x_ic T_328_218 ?_
            refine x_ic2 T_328_219 (fun h => absurd (show (l.length : Int) ≤ 2 from h) (by omega)) (fun _ => ?_)
            refine x_lr (z := some 2281) T_328_222 rfl ?_
            refine x_gR (z := some 2346) T_328_223 F_17_78 (PM.t hP) (PM.r hP 78 2346 rfl) ?_
            refine x_ic T_328_226 ?_
            refine x_alI (z := lg l 2) T_328_227 (by decide) (PM.ta hP 2346 0 200 rfl rfl) (by omega) (by omega) (Eq.trans (Eq.trans (PM.aS hP 2346 rfl rfl (by omega)) (rU_f (Nat.ne_of_beq_eq_false rfl))) r2) ?_
            refine x_ic T_328_228 ?_
            refine x_ic2 T_328_230 (fun _ => ?_) (fun h => absurd (show lg l 2 = 47 by exact q4) h)
            refine x_lr (z := some 2281) T_328_235 rfl ?_
            refine x_lr (z := some 2281) T_328_236 rfl ?_
            refine x_gR (z := some 2346) T_328_237 F_17_78 (PM.t hP) (PM.r hP 78 2346 rfl) ?_
            refine x_ic T_328_240 ?_
            refine x_alI (z := lg l 1) T_328_241 (by decide) (PM.ta hP 2346 0 200 rfl rfl) (by omega) (by omega) (Eq.trans (Eq.trans (PM.aS hP 2346 rfl rfl (by omega)) (rU_f (Nat.ne_of_beq_eq_false rfl))) r1) ?_
            refine x_ic T_328_242 ?_
            refine x_ib (w := (lg l 1 - 48)) T_328_244 (fun h => absurd h.1 (by decide)) (w32_id (by omega) (by omega)) ?_
            refine y_pIS hP T_328_245 F_17_80 80 rfl rfl (fun σ hP => ?_)
            refine x_ic T_328_248 ?_
            refine x_si (ls1 := [some (vR (some 2281)), some (vI p), some (vI w), some (vI b), some (vI (c - b)), some (vI own), some (vI 2)]) T_328_249 rfl ?_
            exact fin σ hP
          · skip
            refine x_ic T_328_177 ?_
            refine x_si (ls1 := [some (vR (some 2281)), some (vI p), some (vI w), some (vI b), some (vI (c - b)), some (vI own), some (vI 1)]) T_328_178 rfl ?_
            refine x_lr (z := some 2281) T_328_180 rfl ?_
            refine x_ic T_328_181 ?_
            refine y_pIS hP T_328_182 F_17_80 80 rfl rfl (fun σ hP => ?_)
            refine x_lr (z := some 2281) T_328_185 rfl ?_
            refine x_gR (z := some 2346) T_328_186 F_17_78 (PM.t hP) (PM.r hP 78 2346 rfl) ?_
            refine x_ic T_328_189 ?_
            refine x_alI (z := lg l 0) T_328_190 (by decide) (PM.ta hP 2346 0 200 rfl rfl) (by omega) (by omega) (Eq.trans (Eq.trans (PM.aS hP 2346 rfl rfl (by omega)) (rU_f (Nat.ne_of_beq_eq_false rfl))) r0) ?_
            refine x_ic T_328_191 ?_
            refine x_ic2 T_328_193 (fun h => absurd (show ¬ lg l 0 = 35 from h) (by exact fun z => z q)) (fun _ => ?_)
            refine x_lr (z := some 2281) T_328_196 rfl ?_
            refine x_ic T_328_197 ?_
            refine x_cv2 T_328_198 mN_329 mL_329 (Nat.le_of_ble_eq_true rfl) mO_329 (PM.t hP) (Nat.le_of_ble_eq_true rfl) (hra σ hP) ?_
            rintro _ σ ⟨rfl, rfl⟩
            refine cI ?_
            refine x_i2l T_328_201 ?_
            refine x_lc T_328_202 ?_
            refine x_lc T_328_205 ?_
            refine x_cs3 T_328_208 mN_282 mL_282 (Nat.le_of_ble_eq_true rfl) mK_282 (Nat.le_of_ble_eq_true rfl) (m_in) ?_
            rintro _ σ ⟨rfl, rfl⟩
            refine cI ?_
            refine x_if T_328_211 (fun h => absurd (show (if 48 ≤ (lg l 1) ∧ (lg l 1) ≤ 50 then (1 : Int) else 0) = 0 from h) (by rw [if_pos q1.2]; decide)) (fun _ => ?_)
            refine x_lr (z := some 2281) T_328_214 rfl ?_
            refine x_gI (z := (l.length : Int)) T_328_215 (Or.inl F_17_79) (PM.t hP) (Eq.trans (Eq.trans (PM.nS hP 2281 79 79 rfl rfl rfl) (rU_k (by decide))) r79) ?_
            refine x_ic T_328_218 ?_
            refine x_ic2 T_328_219 (fun _ => ?_) (fun h => absurd (show (l.length : Int) ≤ 2 by omega) h)
            refine x_lr (z := some 2281) T_328_235 rfl ?_
            refine x_lr (z := some 2281) T_328_236 rfl ?_
            refine x_gR (z := some 2346) T_328_237 F_17_78 (PM.t hP) (PM.r hP 78 2346 rfl) ?_
            refine x_ic T_328_240 ?_
            refine x_alI (z := lg l 1) T_328_241 (by decide) (PM.ta hP 2346 0 200 rfl rfl) (by omega) (by omega) (Eq.trans (Eq.trans (PM.aS hP 2346 rfl rfl (by omega)) (rU_f (Nat.ne_of_beq_eq_false rfl))) r1) ?_
            refine x_ic T_328_242 ?_
            refine x_ib (w := (lg l 1 - 48)) T_328_244 (fun h => absurd h.1 (by decide)) (w32_id (by omega) (by omega)) ?_
            refine y_pIS hP T_328_245 F_17_80 80 rfl rfl (fun σ hP => ?_)
            refine x_ic T_328_248 ?_
            refine x_si (ls1 := [some (vR (some 2281)), some (vI p), some (vI w), some (vI b), some (vI (c - b)), some (vI own), some (vI 2)]) T_328_249 rfl ?_
            exact fin σ hP
      · have hE : paE l = 5 := if_pos ⟨q, Or.inl q1⟩
        unfold PA
        rw [hE]
        obtain ⟨y, hy⟩ : ∃ y, (if (1 : Int) < l.length then lg l 1 else -1) = y := ⟨_, rfl⟩
        rw [hy] at hra
        have q5 : ¬ (48 ≤ y ∧ y ≤ 50) := by
          rw [← hy]
          split <;> omega
        refine x_ic T_328_177 ?_
        refine x_si (ls1 := [some (vR (some 2281)), some (vI p), some (vI w), some (vI b), some (vI (c - b)), some (vI own), some (vI 1)]) T_328_178 rfl ?_
        refine x_lr (z := some 2281) T_328_180 rfl ?_
        refine x_ic T_328_181 ?_
        refine y_pIS hP T_328_182 F_17_80 80 rfl rfl (fun σ hP => ?_)
        refine x_lr (z := some 2281) T_328_185 rfl ?_
        refine x_gR (z := some 2346) T_328_186 F_17_78 (PM.t hP) (PM.r hP 78 2346 rfl) ?_
        refine x_ic T_328_189 ?_
        refine x_alI (z := lg l 0) T_328_190 (by decide) (PM.ta hP 2346 0 200 rfl rfl) (by omega) (by omega) (Eq.trans (Eq.trans (PM.aS hP 2346 rfl rfl (by omega)) (rU_f (Nat.ne_of_beq_eq_false rfl))) r0) ?_
        refine x_ic T_328_191 ?_
        refine x_ic2 T_328_193 (fun h => absurd (show ¬ lg l 0 = 35 from h) (by exact fun z => z q)) (fun _ => ?_)
        refine x_lr (z := some 2281) T_328_196 rfl ?_
        refine x_ic T_328_197 ?_
        refine x_cv2 T_328_198 mN_329 mL_329 (Nat.le_of_ble_eq_true rfl) mO_329 (PM.t hP) (Nat.le_of_ble_eq_true rfl) (hra σ hP) ?_
        rintro _ σ ⟨rfl, rfl⟩
        refine cI ?_
        refine x_i2l T_328_201 ?_
        refine x_lc T_328_202 ?_
        refine x_lc T_328_205 ?_
        refine x_cs3 T_328_208 mN_282 mL_282 (Nat.le_of_ble_eq_true rfl) mK_282 (Nat.le_of_ble_eq_true rfl) (m_in) ?_
        rintro _ σ ⟨rfl, rfl⟩
        refine cI ?_
        refine x_if T_328_211 (fun _ => ?_) (fun h => absurd (show (if 48 ≤ y ∧ y ≤ 50 then (1 : Int) else 0) = 0 by rw [if_neg q5]) h)
        refine x_ic T_328_233 ?_
        refine x_ri T_328_234 ?_
        exact ⟨_, rfl, hP, hJ2, hX2, fun z => absurd z (by decide)⟩
    · have hO : paO l = -1 := if_neg q
      have hB : paB l = 1 := if_neg q
      have fin : ∀ (σ : hM), PM σ0 P (rU S1 2281 80 (-1)) σ → WP fb (d + 2) 328 251 [some (vR (some 2281)), some (vI p), some (vI w), some (vI b), some (vI (c - b)), some (vI own), some (vI 1)] [] σ (PA T U σ0 P S l) := by
        intro σ hP3
        rw [← hB]
        exact m_parse_tail (d := d + 1) hP3 hJ2 hX2 hR2 hll (by rw [rU_s, hO]) (by omega) (fun z => q z.1)
      refine x_ic T_328_177 ?_
      refine x_si (ls1 := [some (vR (some 2281)), some (vI p), some (vI w), some (vI b), some (vI (c - b)), some (vI own), some (vI 1)]) T_328_178 rfl ?_
      refine x_lr (z := some 2281) T_328_180 rfl ?_
      refine x_ic T_328_181 ?_
      refine y_pIS hP T_328_182 F_17_80 80 rfl rfl (fun σ hP => ?_)
      refine x_lr (z := some 2281) T_328_185 rfl ?_
      refine x_gR (z := some 2346) T_328_186 F_17_78 (PM.t hP) (PM.r hP 78 2346 rfl) ?_
      refine x_ic T_328_189 ?_
      refine x_alI (z := lg l 0) T_328_190 (by decide) (PM.ta hP 2346 0 200 rfl rfl) (by omega) (by omega) (Eq.trans (Eq.trans (PM.aS hP 2346 rfl rfl (by omega)) (rU_f (Nat.ne_of_beq_eq_false rfl))) r0) ?_
      refine x_ic T_328_191 ?_
      refine x_ic2 T_328_193 (fun _ => ?_) (fun h => absurd (show ¬ lg l 0 = 35 by exact q) h)
      exact fin σ hP
  have hJ0 : IV true T U (rU S 2281 79 0) := hJ.uN 79 79 rfl (by show (0 : Int) ≤ 0 ∧ (0 : Int) ≤ 200; decide)
  have hR0 : RAWS (rU S 2281 79 0) [] := ⟨rU_s, by decide, byt_nil, fun i h0 h1 => absurd h1 (by show ¬ i < 0; omega)⟩
  -- the word, behind what lies there
  have word : ∀ (dl : List Int) (σ : hM) (S1 : qR) (own : Int) (l6 : Option AV), dl.length ≤ 61 → dl ++ wd = l → PM σ0 P S1 σ → IV true T U S1 → SX spR spN S S1 → RAWS S1 dl → WP fb (d + 2) 328 133 [some (vR (some 2281)), some (vI p), some (vI w), some (vI b), some (vI (c - b)), some (vI own), l6] [] σ (PA T U σ0 P S l) := by
    intro dl σ S1 own l6 hdl hdw hP hJ1 hX1 hR1
    have hgo : ∀ σ, PM σ0 P S1 σ → WP fb (d + 2) 328 136 [some (vR (some 2281)), some (vI p), some (vI w), some (vI b), some (vI (c - b)), some (vI own), some (vI 0)] [] σ (PA T U σ0 P S l) := fun σ hP => m_parse_word (d := d + 2) (S := S) (dl := dl) hJ ⟨hbc.1, by omega, by omega⟩ hdl (fun σ S2 l6 a1 a2 a3 a4 => main σ S2 own l6 a1 a2 a3 (by rw [hwd, hdw] at a4; exact a4)) (c - b).toNat 0 σ S1 (by omega) (by decide) hP hJ1 hX1 (by show RAWS S1 (dl ++ []); rw [List.append_nil]; exact hR1)
    refine x_ic T_328_133 ?_
    refine x_si (ls1 := [some (vR (some 2281)), some (vI p), some (vI w), some (vI b), some (vI (c - b)), some (vI own), some (vI 0)]) T_328_134 rfl ?_
    exact hgo σ hP
  by_cases q : lg wd 0 = 47 ∨ lg wd 0 = 35
  · have hl1 : [] ++ wd = l := by
      rw [← hl0]
      unfold paRaw
      rw [if_pos q]
    have hgo : ∀ σ, PM σ0 P (rU S 2281 79 0) σ → WP fb (d + 2) 328 54 [some (vR (some 2281)), some (vI p), some (vI w), some (vI b), some (vI (c - b)), some (vI 0), some (vI 0)] [] σ (PA T U σ0 P S l) := fun σ hP => m_parse_dots (d := d + 2) (S := S) (own := 0) hI hp (Or.inl rfl) (fun σ S1 l6 a1 a2 a3 a4 => by
      rw [if_pos rfl] at a4
      have := word [] σ S1 0 l6 (by decide) hl1 a1 a2 a3 a4
      exact x_li T_328_107 rfl (x_if T_328_109 (fun _ => this) (fun z => absurd rfl z))) (P 2326 p).toNat 0 σ _ (by omega) (by decide) (fun _ => rfl) hP hJ0 (SX_un SX_rfl rfl) (by show RAWS _ []; exact hR0)
    rcases q with q | q
    · skip
      refine CL_in mL_328 rfl ?_
      show WP fb _ 328 0 [some (vR (some 2281)), some (vI p), some (vI w), none, none, none, none] [] σ _
      refine x_lr (z := some 2281) T_328_0 rfl ?_
      refine x_gR (z := some 2344) T_328_1 F_17_75 (PM.t hP) (PM.r hP 75 2344 rfl) ?_
      refine x_li (z := w) T_328_4 rfl ?_
      refine x_alI (z := b) T_328_5 (by decide) (PM.ta hP 2344 0 60 rfl rfl) (by omega) (by omega) (Eq.trans (PM.aS hP 2344 rfl rfl (by omega)) ef) ?_
      refine x_si (ls1 := [some (vR (some 2281)), some (vI p), some (vI w), some (vI b), none, none, none]) T_328_6 rfl ?_
      refine x_lr (z := some 2281) T_328_7 rfl ?_
      refine x_gR (z := some 2345) T_328_8 F_17_76 (PM.t hP) (PM.r hP 76 2345 rfl) ?_
      refine x_li (z := w) T_328_11 rfl ?_
      refine x_alI (z := c) T_328_12 (by decide) (PM.ta hP 2345 0 60 rfl rfl) (by omega) (by omega) (Eq.trans (PM.aS hP 2345 rfl rfl (by omega)) et) ?_
      refine x_li (z := b) T_328_13 rfl ?_
      refine x_ib (w := (c - b)) T_328_14 (fun h => absurd h.1 (by decide)) (w32_id (by omega) (by omega)) ?_
      refine x_si (ls1 := [some (vR (some 2281)), some (vI p), some (vI w), some (vI b), some (vI (c - b)), none, none]) T_328_15 rfl ?_
      refine x_lr (z := some 2281) T_328_17 rfl ?_
      refine x_gR (z := some 2343) T_328_18 F_17_73 (PM.t hP) (PM.r hP 73 2343 rfl) ?_
      refine x_li (z := b) T_328_21 rfl ?_
      refine x_alI (z := lg wd 0) T_328_22 (by decide) (PM.ta hP 2343 0 100 rfl rfl) (by omega) (by omega) (Eq.trans (PM.aS hP 2343 rfl rfl (by omega)) hx0) ?_
      refine x_ic T_328_23 ?_
      refine x_ic2 T_328_25 (fun _ => ?_) (fun h => absurd (show lg wd 0 = 47 by exact q) h)
      refine x_ic T_328_43 ?_
      refine x_si (ls1 := [some (vR (some 2281)), some (vI p), some (vI w), some (vI b), some (vI (c - b)), some (vI 0), none]) T_328_44 rfl ?_
      refine x_lr (z := some 2281) T_328_46 rfl ?_
      refine x_ic T_328_47 ?_
      refine y_pIS hP T_328_48 F_17_79 79 rfl rfl (fun σ hP => ?_)
      refine x_ic T_328_51 ?_
      refine x_si (ls1 := [some (vR (some 2281)), some (vI p), some (vI w), some (vI b), some (vI (c - b)), some (vI 0), some (vI 0)]) T_328_52 rfl ?_
      exact hgo σ hP
    · by_cases q7 : lg wd 0 = 47
      · omega
      · skip
        refine CL_in mL_328 rfl ?_
        show WP fb _ 328 0 [some (vR (some 2281)), some (vI p), some (vI w), none, none, none, none] [] σ _
        refine x_lr (z := some 2281) T_328_0 rfl ?_
        refine x_gR (z := some 2344) T_328_1 F_17_75 (PM.t hP) (PM.r hP 75 2344 rfl) ?_
        refine x_li (z := w) T_328_4 rfl ?_
        refine x_alI (z := b) T_328_5 (by decide) (PM.ta hP 2344 0 60 rfl rfl) (by omega) (by omega) (Eq.trans (PM.aS hP 2344 rfl rfl (by omega)) ef) ?_
        refine x_si (ls1 := [some (vR (some 2281)), some (vI p), some (vI w), some (vI b), none, none, none]) T_328_6 rfl ?_
        refine x_lr (z := some 2281) T_328_7 rfl ?_
        refine x_gR (z := some 2345) T_328_8 F_17_76 (PM.t hP) (PM.r hP 76 2345 rfl) ?_
        refine x_li (z := w) T_328_11 rfl ?_
        refine x_alI (z := c) T_328_12 (by decide) (PM.ta hP 2345 0 60 rfl rfl) (by omega) (by omega) (Eq.trans (PM.aS hP 2345 rfl rfl (by omega)) et) ?_
        refine x_li (z := b) T_328_13 rfl ?_
        refine x_ib (w := (c - b)) T_328_14 (fun h => absurd h.1 (by decide)) (w32_id (by omega) (by omega)) ?_
        refine x_si (ls1 := [some (vR (some 2281)), some (vI p), some (vI w), some (vI b), some (vI (c - b)), none, none]) T_328_15 rfl ?_
        refine x_lr (z := some 2281) T_328_17 rfl ?_
        refine x_gR (z := some 2343) T_328_18 F_17_73 (PM.t hP) (PM.r hP 73 2343 rfl) ?_
        refine x_li (z := b) T_328_21 rfl ?_
        refine x_alI (z := lg wd 0) T_328_22 (by decide) (PM.ta hP 2343 0 100 rfl rfl) (by omega) (by omega) (Eq.trans (PM.aS hP 2343 rfl rfl (by omega)) hx0) ?_
        refine x_ic T_328_23 ?_
        refine x_ic2 T_328_25 (fun h => absurd (show lg wd 0 = 47 from h) (by exact q7)) (fun _ => ?_)
        refine x_lr (z := some 2281) T_328_28 rfl ?_
        refine x_gR (z := some 2343) T_328_29 F_17_73 (PM.t hP) (PM.r hP 73 2343 rfl) ?_
        refine x_li (z := b) T_328_32 rfl ?_
        refine x_alI (z := lg wd 0) T_328_33 (by decide) (PM.ta hP 2343 0 100 rfl rfl) (by omega) (by omega) (Eq.trans (PM.aS hP 2343 rfl rfl (by omega)) hx0) ?_
        refine x_ic T_328_34 ?_
        refine x_ic2 T_328_36 (fun _ => ?_) (fun h => absurd (show lg wd 0 = 35 by exact q) h)
        refine x_ic T_328_43 ?_
        refine x_si (ls1 := [some (vR (some 2281)), some (vI p), some (vI w), some (vI b), some (vI (c - b)), some (vI 0), none]) T_328_44 rfl ?_
        refine x_lr (z := some 2281) T_328_46 rfl ?_
        refine x_ic T_328_47 ?_
        refine y_pIS hP T_328_48 F_17_79 79 rfl rfl (fun σ hP => ?_)
        refine x_ic T_328_51 ?_
        refine x_si (ls1 := [some (vR (some 2281)), some (vI p), some (vI w), some (vI b), some (vI (c - b)), some (vI 0), some (vI 0)]) T_328_52 rfl ?_
        exact hgo σ hP
  · have hl1 : (seg (fun x => P 2325 (60 * p + x)) 0 (P 2326 p).toNat ++ [47]) ++ wd = l := by
      rw [← hl0]
      unfold paRaw
      rw [if_neg q]
    have after : ∀ (σ : hM) (S1 : qR) (l6 : Option AV), PM σ0 P S1 σ → IV true T U S1 → SX spR spN S S1 → RAWS S1 (seg (fun x => P 2325 (60 * p + x)) 0 (P 2326 p).toNat) → WP fb (d + 2) 328 107 [some (vR (some 2281)), some (vI p), some (vI w), some (vI b), some (vI (c - b)), some (vI 1), l6] [] σ (PA T U σ0 P S l) := by
      intro σ S1 l6 hP hJ1 hX1 hR1
      have hlen : ((seg (fun x => P 2325 (60 * p + x)) 0 (P 2326 p).toNat).length : Int) = P 2326 p := by rw [seg_len]; omega
      have hs := hR1.snoc (x := 47) (by decide) (by omega)
      have hi := hR1.iv hJ1 (x := 47) (by decide) (by omega)
      have h79 := hR1.1
      rw [hlen] at hs hi h79
      have hgo : ∀ σ, PM σ0 P (rU (rU S1 2346 (P 2326 p) 47) 2281 79 (P 2326 p + 1)) σ → WP fb (d + 2) 328 133 [some (vR (some 2281)), some (vI p), some (vI w), some (vI b), some (vI (c - b)), some (vI 1), l6] [] σ (PA T U σ0 P S l) := fun σ hP => word _ σ _ 1 l6 (by rw [List.length_append, seg_len]; show (P 2326 p).toNat + 1 ≤ 61; omega) hl1 hP hi (SX_un (SX_up hX1 rfl rfl) rfl) hs
      refine x_li (z := 1) T_328_107 rfl ?_
      refine x_if T_328_109 (fun h => absurd (show (1 : Int) = 0 from h) (by decide)) (fun _ => ?_)
      refine x_lr (z := some 2281) T_328_112 rfl ?_
      refine x_gR (z := some 2346) T_328_113 F_17_78 (PM.t hP) (PM.r hP 78 2346 rfl) ?_
      refine x_lr (z := some 2281) T_328_116 rfl ?_
      refine x_gI (z := P 2326 p) T_328_117 (Or.inl F_17_79) (PM.t hP) (Eq.trans (PM.nS hP 2281 79 79 rfl rfl rfl) h79) ?_
      refine x_ic T_328_120 ?_
      refine y_aIS hP T_328_122 2346 200 rfl rfl rfl (by omega) (by omega) (fun σ hP => ?_)
      refine x_lr (z := some 2281) T_328_123 rfl ?_
      refine x_dupR T_328_124 ?_
      refine x_gI (z := P 2326 p) T_328_125 (Or.inl F_17_79) (PM.t hP) (Eq.trans (Eq.trans (PM.nS hP 2281 79 79 rfl rfl rfl) (rU_f (Nat.ne_of_beq_eq_false rfl))) h79) ?_
      refine x_ic T_328_128 ?_
      refine x_ib (w := (P 2326 p + 1)) T_328_129 (fun h => absurd h.1 (by decide)) (w32_id (by omega) (by omega)) ?_
      refine y_pIS hP T_328_130 F_17_79 79 rfl rfl (fun σ hP => ?_)
      exact hgo σ hP
    have hgo : ∀ σ, PM σ0 P (rU S 2281 79 0) σ → WP fb (d + 2) 328 54 [some (vR (some 2281)), some (vI p), some (vI w), some (vI b), some (vI (c - b)), some (vI 1), some (vI 0)] [] σ (PA T U σ0 P S l) := fun σ hP => m_parse_dots (d := d + 2) (S := S) (own := 1) hI hp (Or.inr rfl) (fun σ S1 l6 a1 a2 a3 a4 => after σ S1 l6 a1 a2 a3 (by rw [if_neg (by decide)] at a4; exact a4)) (P 2326 p).toNat 0 σ _ (by omega) (by decide) (fun z => absurd z (by decide)) hP hJ0 (SX_un SX_rfl rfl) (by show RAWS _ []; exact hR0)
    refine CL_in mL_328 rfl ?_
    show WP fb _ 328 0 [some (vR (some 2281)), some (vI p), some (vI w), none, none, none, none] [] σ _
    refine x_lr (z := some 2281) T_328_0 rfl ?_
    refine x_gR (z := some 2344) T_328_1 F_17_75 (PM.t hP) (PM.r hP 75 2344 rfl) ?_
    refine x_li (z := w) T_328_4 rfl ?_
    refine x_alI (z := b) T_328_5 (by decide) (PM.ta hP 2344 0 60 rfl rfl) (by omega) (by omega) (Eq.trans (PM.aS hP 2344 rfl rfl (by omega)) ef) ?_
    refine x_si (ls1 := [some (vR (some 2281)), some (vI p), some (vI w), some (vI b), none, none, none]) T_328_6 rfl ?_
    refine x_lr (z := some 2281) T_328_7 rfl ?_
    refine x_gR (z := some 2345) T_328_8 F_17_76 (PM.t hP) (PM.r hP 76 2345 rfl) ?_
    refine x_li (z := w) T_328_11 rfl ?_
    refine x_alI (z := c) T_328_12 (by decide) (PM.ta hP 2345 0 60 rfl rfl) (by omega) (by omega) (Eq.trans (PM.aS hP 2345 rfl rfl (by omega)) et) ?_
    refine x_li (z := b) T_328_13 rfl ?_
    refine x_ib (w := (c - b)) T_328_14 (fun h => absurd h.1 (by decide)) (w32_id (by omega) (by omega)) ?_
    refine x_si (ls1 := [some (vR (some 2281)), some (vI p), some (vI w), some (vI b), some (vI (c - b)), none, none]) T_328_15 rfl ?_
    refine x_lr (z := some 2281) T_328_17 rfl ?_
    refine x_gR (z := some 2343) T_328_18 F_17_73 (PM.t hP) (PM.r hP 73 2343 rfl) ?_
    refine x_li (z := b) T_328_21 rfl ?_
    refine x_alI (z := lg wd 0) T_328_22 (by decide) (PM.ta hP 2343 0 100 rfl rfl) (by omega) (by omega) (Eq.trans (PM.aS hP 2343 rfl rfl (by omega)) hx0) ?_
    refine x_ic T_328_23 ?_
    refine x_ic2 T_328_25 (fun h => absurd (show lg wd 0 = 47 from h) (by exact fun z => q (Or.inl z))) (fun _ => ?_)
    refine x_lr (z := some 2281) T_328_28 rfl ?_
    refine x_gR (z := some 2343) T_328_29 F_17_73 (PM.t hP) (PM.r hP 73 2343 rfl) ?_
    refine x_li (z := b) T_328_32 rfl ?_
    refine x_alI (z := lg wd 0) T_328_33 (by decide) (PM.ta hP 2343 0 100 rfl rfl) (by omega) (by omega) (Eq.trans (PM.aS hP 2343 rfl rfl (by omega)) hx0) ?_
    refine x_ic T_328_34 ?_
    refine x_ic2 T_328_36 (fun h => absurd (show lg wd 0 = 35 from h) (by exact fun z => q (Or.inr z))) (fun _ => ?_)
    refine x_ic T_328_39 ?_
    refine x_goto T_328_40 ?_
    refine x_si (ls1 := [some (vR (some 2281)), some (vI p), some (vI w), some (vI b), some (vI (c - b)), some (vI 1), none]) T_328_44 rfl ?_
    refine x_lr (z := some 2281) T_328_46 rfl ?_
    refine x_ic T_328_47 ?_
    refine y_pIS hP T_328_48 F_17_79 79 rfl rfl (fun σ hP => ?_)
    refine x_ic T_328_51 ?_
    refine x_si (ls1 := [some (vR (some 2281)), some (vI p), some (vI w), some (vI b), some (vI (c - b)), some (vI 1), some (vI 0)]) T_328_52 rfl ?_
    exact hgo σ hP
end MPARSE2
