/-! The class's servers: a create. -/
theorem T_64_0 : hTab 64 0 = some ((3, 1, 2, []), 1) := rfl
theorem T_64_1 : hTab 64 1 = some ((24, 9, Int.ofNat 5, []), 4) := rfl
theorem T_64_4 : hTab 64 4 = some ((0, 0, (-1), []), 5) := rfl
theorem T_64_5 : hTab 64 5 = some ((19, 0, Int.ofNat 11, []), 8) := rfl
theorem T_64_8 : hTab 64 8 = some ((0, 0, 8, []), 10) := rfl
theorem T_64_10 : hTab 64 10 = some ((33, 1, 0, []), 11) := rfl
theorem T_64_11 : hTab 64 11 = some ((3, 1, 2, []), 12) := rfl
theorem T_64_12 : hTab 64 12 = some ((24, 9, Int.ofNat 3, []), 15) := rfl
theorem T_64_15 : hTab 64 15 = some ((4, 2, 2, []), 16) := rfl
theorem T_64_16 : hTab 64 16 = some ((3, 2, 2, []), 17) := rfl
theorem T_64_17 : hTab 64 17 = some ((20, 1, Int.ofNat 22, []), 20) := rfl
theorem T_64_20 : hTab 64 20 = some ((0, 0, 1, []), 21) := rfl
theorem T_64_21 : hTab 64 21 = some ((33, 1, 0, []), 22) := rfl
theorem T_64_22 : hTab 64 22 = some ((3, 2, 2, []), 23) := rfl
theorem T_64_23 : hTab 64 23 = some ((31, 55, 0, []), 26) := rfl
theorem T_64_26 : hTab 64 26 = some ((18, 1, Int.ofNat 31, []), 29) := rfl
theorem T_64_29 : hTab 64 29 = some ((0, 0, 2, []), 30) := rfl
theorem T_64_30 : hTab 64 30 = some ((33, 1, 0, []), 31) := rfl
theorem T_64_31 : hTab 64 31 = some ((3, 0, 2, []), 32) := rfl
theorem T_64_32 : hTab 64 32 = some ((24, 7, Int.ofNat 9, []), 35) := rfl
theorem T_64_35 : hTab 64 35 = some ((0, 0, 11, []), 37) := rfl
theorem T_64_37 : hTab 64 37 = some ((31, 36, 0, []), 40) := rfl
theorem T_64_40 : hTab 64 40 = some ((4, 3, 0, []), 41) := rfl
theorem T_64_41 : hTab 64 41 = some ((3, 0, 2, []), 42) := rfl
theorem T_64_42 : hTab 64 42 = some ((24, 7, Int.ofNat 1, []), 45) := rfl
theorem T_64_45 : hTab 64 45 = some ((18, 0, Int.ofNat 52, []), 48) := rfl
theorem T_64_48 : hTab 64 48 = some ((0, 0, 3, []), 49) := rfl
theorem T_64_49 : hTab 64 49 = some ((22, 0, Int.ofNat 122, []), 52) := rfl
theorem T_64_52 : hTab 64 52 = some ((3, 0, 2, []), 53) := rfl
theorem T_64_53 : hTab 64 53 = some ((24, 7, Int.ofNat 9, []), 56) := rfl
theorem T_64_56 : hTab 64 56 = some ((0, 0, 13, []), 58) := rfl
theorem T_64_58 : hTab 64 58 = some ((3, 3, 0, []), 59) := rfl
theorem T_64_59 : hTab 64 59 = some ((31, 65, 0, []), 62) := rfl
theorem T_64_62 : hTab 64 62 = some ((18, 1, Int.ofNat 69, []), 65) := rfl
theorem T_64_65 : hTab 64 65 = some ((0, 0, 5, []), 66) := rfl
theorem T_64_66 : hTab 64 66 = some ((22, 0, Int.ofNat 122, []), 69) := rfl
theorem T_64_69 : hTab 64 69 = some ((3, 0, 2, []), 70) := rfl
theorem T_64_70 : hTab 64 70 = some ((3, 2, 2, []), 71) := rfl
theorem T_64_71 : hTab 64 71 = some ((0, 0, 13, []), 73) := rfl
theorem T_64_73 : hTab 64 73 = some ((3, 3, 0, []), 74) := rfl
theorem T_64_74 : hTab 64 74 = some ((31, 56, 0, []), 77) := rfl
theorem T_64_77 : hTab 64 77 = some ((20, 0, Int.ofNat 84, []), 80) := rfl
theorem T_64_80 : hTab 64 80 = some ((0, 0, 4, []), 81) := rfl
theorem T_64_81 : hTab 64 81 = some ((22, 0, Int.ofNat 122, []), 84) := rfl
theorem T_64_84 : hTab 64 84 = some ((3, 2, 2, []), 85) := rfl
theorem T_64_85 : hTab 64 85 = some ((3, 1, 2, []), 86) := rfl
theorem T_64_86 : hTab 64 86 = some ((24, 9, Int.ofNat 2, []), 89) := rfl
theorem T_64_89 : hTab 64 89 = some ((0, 0, 2, []), 90) := rfl
theorem T_64_90 : hTab 64 90 = some ((31, 43, 0, []), 93) := rfl
theorem T_64_93 : hTab 64 93 = some ((18, 1, Int.ofNat 100, []), 96) := rfl
theorem T_64_96 : hTab 64 96 = some ((0, 0, 3, []), 97) := rfl
theorem T_64_97 : hTab 64 97 = some ((22, 0, Int.ofNat 122, []), 100) := rfl
theorem T_64_100 : hTab 64 100 = some ((3, 0, 2, []), 101) := rfl
theorem T_64_101 : hTab 64 101 = some ((24, 7, Int.ofNat 9, []), 104) := rfl
theorem T_64_104 : hTab 64 104 = some ((3, 3, 0, []), 105) := rfl
theorem T_64_105 : hTab 64 105 = some ((0, 0, 4, []), 106) := rfl
theorem T_64_106 : hTab 64 106 = some ((31, 29, 0, []), 109) := rfl
theorem T_64_109 : hTab 64 109 = some ((3, 0, 2, []), 110) := rfl
theorem T_64_110 : hTab 64 110 = some ((24, 7, Int.ofNat 9, []), 113) := rfl
theorem T_64_113 : hTab 64 113 = some ((3, 3, 0, []), 114) := rfl
theorem T_64_114 : hTab 64 114 = some ((0, 0, 4, []), 115) := rfl
theorem T_64_115 : hTab 64 115 = some ((10, 0, 0, []), 116) := rfl
theorem T_64_116 : hTab 64 116 = some ((31, 33, 0, []), 119) := rfl
theorem T_64_119 : hTab 64 119 = some ((31, 66, 0, []), 122) := rfl
theorem T_64_122 : hTab 64 122 = some ((4, 4, 0, []), 124) := rfl
theorem T_64_124 : hTab 64 124 = some ((3, 4, 0, []), 126) := rfl
theorem T_64_126 : hTab 64 126 = some ((18, 1, Int.ofNat 142, []), 129) := rfl
theorem T_64_129 : hTab 64 129 = some ((3, 0, 2, []), 130) := rfl
theorem T_64_130 : hTab 64 130 = some ((24, 7, Int.ofNat 6, []), 133) := rfl
theorem T_64_133 : hTab 64 133 = some ((0, 0, 64, []), 135) := rfl
theorem T_64_135 : hTab 64 135 = some ((19, 2, Int.ofNat 142, []), 138) := rfl
theorem T_64_138 : hTab 64 138 = some ((0, 0, 12, []), 140) := rfl
theorem T_64_140 : hTab 64 140 = some ((4, 4, 0, []), 142) := rfl
theorem T_64_142 : hTab 64 142 = some ((3, 4, 0, []), 144) := rfl
theorem T_64_144 : hTab 64 144 = some ((18, 0, Int.ofNat 150, []), 147) := rfl
theorem T_64_147 : hTab 64 147 = some ((3, 4, 0, []), 149) := rfl
theorem T_64_149 : hTab 64 149 = some ((33, 1, 0, []), 150) := rfl
theorem T_64_150 : hTab 64 150 = some ((3, 0, 2, []), 151) := rfl
theorem T_64_151 : hTab 64 151 = some ((24, 7, Int.ofNat 9, []), 154) := rfl
theorem T_64_154 : hTab 64 154 = some ((3, 3, 0, []), 155) := rfl
theorem T_64_155 : hTab 64 155 = some ((0, 0, 4, []), 156) := rfl
theorem T_64_156 : hTab 64 156 = some ((31, 29, 0, []), 159) := rfl
theorem T_64_159 : hTab 64 159 = some ((15, 0, 0, []), 160) := rfl
theorem T_64_160 : hTab 64 160 = some ((4, 5, 0, []), 162) := rfl
theorem T_64_162 : hTab 64 162 = some ((3, 5, 0, []), 164) := rfl
theorem T_64_164 : hTab 64 164 = some ((3, 2, 2, []), 165) := rfl
theorem T_64_165 : hTab 64 165 = some ((24, 8, Int.ofNat 6, []), 168) := rfl
theorem T_64_168 : hTab 64 168 = some ((10, 5, 0, []), 169) := rfl
theorem T_64_169 : hTab 64 169 = some ((0, 0, 511, []), 172) := rfl
theorem T_64_172 : hTab 64 172 = some ((10, 5, 0, []), 173) := rfl
theorem T_64_173 : hTab 64 173 = some ((4, 6, 0, []), 175) := rfl
theorem T_64_175 : hTab 64 175 = some ((3, 5, 0, []), 177) := rfl
theorem T_64_177 : hTab 64 177 = some ((18, 2, Int.ofNat 190, []), 180) := rfl
theorem T_64_180 : hTab 64 180 = some ((3, 6, 0, []), 182) := rfl
theorem T_64_182 : hTab 64 182 = some ((3, 5, 0, []), 184) := rfl
theorem T_64_184 : hTab 64 184 = some ((0, 0, 73, []), 186) := rfl
theorem T_64_186 : hTab 64 186 = some ((10, 5, 0, []), 187) := rfl
theorem T_64_187 : hTab 64 187 = some ((10, 6, 0, []), 188) := rfl
theorem T_64_188 : hTab 64 188 = some ((4, 6, 0, []), 190) := rfl
theorem T_64_190 : hTab 64 190 = some ((3, 0, 2, []), 191) := rfl
theorem T_64_191 : hTab 64 191 = some ((6, 0, 0, []), 192) := rfl
theorem T_64_192 : hTab 64 192 = some ((24, 7, Int.ofNat 8, []), 195) := rfl
theorem T_64_195 : hTab 64 195 = some ((0, 0, 1, []), 196) := rfl
theorem T_64_196 : hTab 64 196 = some ((10, 0, 0, []), 197) := rfl
theorem T_64_197 : hTab 64 197 = some ((25, 7, Int.ofNat 8, []), 200) := rfl
theorem T_64_200 : hTab 64 200 = some ((3, 0, 2, []), 201) := rfl
theorem T_64_201 : hTab 64 201 = some ((3, 0, 2, []), 202) := rfl
theorem T_64_202 : hTab 64 202 = some ((24, 7, Int.ofNat 8, []), 205) := rfl
theorem T_64_205 : hTab 64 205 = some ((3, 2, 2, []), 206) := rfl
theorem T_64_206 : hTab 64 206 = some ((3, 5, 0, []), 208) := rfl
theorem T_64_208 : hTab 64 208 = some ((0, 0, (-512), []), 211) := rfl
theorem T_64_211 : hTab 64 211 = some ((10, 5, 0, []), 212) := rfl
theorem T_64_212 : hTab 64 212 = some ((3, 6, 0, []), 214) := rfl
theorem T_64_214 : hTab 64 214 = some ((10, 6, 0, []), 215) := rfl
theorem T_64_215 : hTab 64 215 = some ((3, 1, 2, []), 216) := rfl
theorem T_64_216 : hTab 64 216 = some ((24, 9, Int.ofNat 2, []), 219) := rfl
theorem T_64_219 : hTab 64 219 = some ((31, 67, 0, []), 222) := rfl
theorem T_64_222 : hTab 64 222 = some ((4, 7, 2, []), 224) := rfl
theorem T_64_224 : hTab 64 224 = some ((3, 7, 2, []), 226) := rfl
theorem T_64_226 : hTab 64 226 = some ((24, 8, Int.ofNat 0, []), 229) := rfl
theorem T_64_229 : hTab 64 229 = some ((3, 0, 2, []), 230) := rfl
theorem T_64_230 : hTab 64 230 = some ((24, 7, Int.ofNat 9, []), 233) := rfl
theorem T_64_233 : hTab 64 233 = some ((0, 0, 13, []), 235) := rfl
theorem T_64_235 : hTab 64 235 = some ((3, 3, 0, []), 236) := rfl
theorem T_64_236 : hTab 64 236 = some ((31, 31, 0, []), 239) := rfl
theorem T_64_239 : hTab 64 239 = some ((7, 0, 0, []), 240) := rfl
theorem T_64_240 : hTab 64 240 = some ((3, 7, 2, []), 242) := rfl
theorem T_64_242 : hTab 64 242 = some ((3, 2, 2, []), 243) := rfl
theorem T_64_243 : hTab 64 243 = some ((24, 8, Int.ofNat 8, []), 246) := rfl
theorem T_64_246 : hTab 64 246 = some ((25, 8, Int.ofNat 8, []), 249) := rfl
theorem T_64_249 : hTab 64 249 = some ((3, 2, 2, []), 250) := rfl
theorem T_64_250 : hTab 64 250 = some ((3, 1, 2, []), 251) := rfl
theorem T_64_251 : hTab 64 251 = some ((24, 9, Int.ofNat 2, []), 254) := rfl
theorem T_64_254 : hTab 64 254 = some ((31, 45, 0, []), 257) := rfl
theorem T_64_257 : hTab 64 257 = some ((3, 0, 2, []), 258) := rfl
theorem T_64_258 : hTab 64 258 = some ((24, 7, Int.ofNat 9, []), 261) := rfl
theorem T_64_261 : hTab 64 261 = some ((3, 3, 0, []), 262) := rfl
theorem T_64_262 : hTab 64 262 = some ((0, 0, 4, []), 263) := rfl
theorem T_64_263 : hTab 64 263 = some ((10, 0, 0, []), 264) := rfl
theorem T_64_264 : hTab 64 264 = some ((31, 33, 0, []), 267) := rfl
theorem T_64_267 : hTab 64 267 = some ((4, 8, 0, []), 269) := rfl
theorem T_64_269 : hTab 64 269 = some ((3, 1, 2, []), 270) := rfl
theorem T_64_270 : hTab 64 270 = some ((3, 1, 2, []), 271) := rfl
theorem T_64_271 : hTab 64 271 = some ((24, 9, Int.ofNat 1, []), 274) := rfl
theorem T_64_274 : hTab 64 274 = some ((3, 1, 2, []), 275) := rfl
theorem T_64_275 : hTab 64 275 = some ((24, 9, Int.ofNat 2, []), 278) := rfl
theorem T_64_278 : hTab 64 278 = some ((3, 7, 2, []), 280) := rfl
theorem T_64_280 : hTab 64 280 = some ((31, 51, 0, []), 283) := rfl
theorem T_64_283 : hTab 64 283 = some ((3, 1, 2, []), 284) := rfl
theorem T_64_284 : hTab 64 284 = some ((3, 8, 0, []), 286) := rfl
theorem T_64_286 : hTab 64 286 = some ((0, 0, (-65), []), 288) := rfl
theorem T_64_288 : hTab 64 288 = some ((10, 5, 0, []), 289) := rfl
theorem T_64_289 : hTab 64 289 = some ((3, 8, 0, []), 291) := rfl
theorem T_64_291 : hTab 64 291 = some ((0, 0, 64, []), 293) := rfl
theorem T_64_293 : hTab 64 293 = some ((10, 5, 0, []), 294) := rfl
theorem T_64_294 : hTab 64 294 = some ((18, 0, Int.ofNat 301, []), 297) := rfl
theorem T_64_297 : hTab 64 297 = some ((0, 0, 1, []), 298) := rfl
theorem T_64_298 : hTab 64 298 = some ((22, 0, Int.ofNat 302, []), 301) := rfl
theorem T_64_301 : hTab 64 301 = some ((0, 0, 0, []), 302) := rfl
theorem T_64_302 : hTab 64 302 = some ((31, 63, 0, []), 305) := rfl
theorem T_64_305 : hTab 64 305 = some ((3, 0, 2, []), 306) := rfl
theorem T_64_306 : hTab 64 306 = some ((3, 7, 2, []), 308) := rfl
theorem T_64_308 : hTab 64 308 = some ((31, 52, 0, []), 311) := rfl
theorem T_64_311 : hTab 64 311 = some ((3, 0, 2, []), 312) := rfl
theorem T_64_312 : hTab 64 312 = some ((24, 7, Int.ofNat 10, []), 315) := rfl
theorem T_64_315 : hTab 64 315 = some ((1, 0, 0, []), 316) := rfl
theorem T_64_316 : hTab 64 316 = some ((0, 0, 4, []), 317) := rfl
theorem T_64_317 : hTab 64 317 = some ((31, 22, 0, []), 320) := rfl
theorem T_64_320 : hTab 64 320 = some ((0, 0, 0, []), 321) := rfl
theorem T_64_321 : hTab 64 321 = some ((33, 1, 0, []), 322) := rfl
theorem F_7_8 : (hFd 7 8).2.2.1 = 0 := rfl
theorem mN_64 : hmN 64 = 2 := by decide +kernel
theorem mL_64 : hmL 64 = 9 := by decide +kernel
theorem mK_64 : hmK 64 = 1 := by decide +kernel
theorem mO_64 : hmO 64 = 7 := by decide +kernel
section XCREB
variable {fb : Bool} {d S a b c0 rp mb m0 N M : Nat} {σ0 σ : hM} {W W1 W2 P Q : qR} {R R1 R2 : rR} {i j k x z v s e w f u n p g ln K T U C c m y : Int} {ord l l2 nm lo : List Int} {t : Nat → Nat} {r : Option Nat}
theorem nmOk_no (h : nmOk nm = true) : nm ≠ [46, 46] ∧ 1 ≤ nm.length ∧ nm.length ≤ 12 := by
  unfold nmOk at h
  rw [Bool.and_eq_true, Bool.and_eq_true, Bool.and_eq_true, Bool.and_eq_true, decide_eq_true_eq, decide_eq_true_eq, decide_eq_true_eq, decide_eq_true_eq] at h
  exact ⟨h.2.2.2.2, h.1, h.2.1⟩
theorem lg_one (h : 0 ≤ k) (hb : byt l) : nu (lg l) k 1 = lg l k := by
  show 0 + lg l (k + ((0 : Nat) : Int)) * 256 ^ 0 = lg l k
  rw [show k + ((0 : Nat) : Int) = k by omega]
  omega
/-- what keeps a file from being made, behind the checks of the fid -/
theorem qCre_if (hk : 0 ≤ k) (h1 : P 2309 k < 0) (h2 : P 2310 k = 0) : qCre P s k p m nm = if ¬ qMode P s (P 2306 k) < 0 then 2 else if s = 2 then 3 else if ¬ nmOk nm = true then 5 else if 0 ≤ qFind P s (P 2306 k) nm then 4 else if qMv P s (P 2306 k) (P 2308 k) 2 = 0 then 3 else if ¬ prmR p m = 0 then prmR p m else if P 2302 s = 64 then 12 else 0 := by
  unfold qCre
  rw [if_neg (by omega), if_neg (by omega), if_neg (fun c => c h2)]
  have e : (if (¬ and64 p (-512) = 0 ∧ ¬ and64 p (-512) = 1073741824 ∧ ¬ and64 p (-512) = 2147483648) ∨ 3 < and32 m (-65) then 16 else if and64 p (-512) = 2147483648 ∧ ¬ and32 m (-65) = 0 then 10 else if P 2302 s = 64 then 12 else 0) = (if ¬ prmR p m = 0 then prmR p m else if P 2302 s = 64 then 12 else 0) := by
    unfold prmR
    by_cases q1 : (¬ and64 p (-512) = 0 ∧ ¬ and64 p (-512) = 1073741824 ∧ ¬ and64 p (-512) = 2147483648) ∨ 3 < and32 m (-65)
    · simp only [if_pos q1]
      rfl
    · simp only [if_neg q1]
      by_cases q2 : and64 p (-512) = 2147483648 ∧ ¬ and32 m (-65) = 0
      · simp only [if_pos q2]
        rfl
      · simp only [if_neg q2]
        rfl
  rw [e]
/-- what an insertion at the end writes -/
theorem cre_wi {WI : qR} {RI : rR} {nb : Nat} {lp md2 : Int} (hS : VS S s) (hX : XV W R P S s ord t) (hC2 : 0 ≤ C ∧ C < 64) (htC : t C.toNat < 64) (hnb : S + 6 + 3 * t C.toNat = nb) (hWI : ndW (rU (rU W S 2232 (lp + 1)) S 2230 (C + 1)) nb (lp + 1) md2 u = WI) (hRI : ndR (oU (dnR R S C C) (S + 1) C (some nb)) nb (some b) = RI) : (∀ (q : Nat) (k : Int), q ≠ nb → ¬ (q = S ∧ (k = 2230 ∨ k = 2232)) → WI q k = W q k) ∧ (WI nb 2260 = lp + 1 ∧ WI nb 2261 = 0 ∧ WI nb 2262 = md2 ∧ WI nb 2263 = u ∧ WI nb 2265 = u ∧ WI nb 2266 = 0 ∧ WI nb 2259 = 0) ∧ (WI S 2230 = C + 1 ∧ WI S 2232 = lp + 1) ∧ (∀ (q : Nat) (k : Int), 2000 ≤ k → q ≠ nb → RI q k = R q k) ∧ (∀ (q : Nat) (k : Int), 2000 ≤ k → k ≠ 2257 → k ≠ 2258 → RI q k = R q k) ∧ (∀ k : Int, 0 ≤ k → k < 64 → RI (S + 1) k = R (S + 1) k) ∧ RI nb 2257 = some b ∧ ∀ (q : Nat) (k : Int), (q < S ∨ S + 294 ≤ q) → RI q k = R q k := by
  have wo : ∀ (q : Nat) (k : Int), q ≠ nb → ¬ (q = S ∧ (k = 2230 ∨ k = 2232)) → WI q k = W q k := fun q k h1 h2 => by
    rw [← hWI]
    unfold ndW
    rw [rU_f h1, rU_f h1, rU_f h1, rU_f h1, rU_f h1, rU_f h1, rU_f h1, rU_f h1, show rU (rU W S 2232 (lp + 1)) S 2230 (C + 1) q k = rU W S 2232 (lp + 1) q k from if_neg (fun c => h2 ⟨c.1, Or.inl c.2⟩)]
    exact if_neg (fun c => h2 ⟨c.1, Or.inr c.2⟩)
  have wn : WI nb 2260 = lp + 1 ∧ WI nb 2261 = 0 ∧ WI nb 2262 = md2 ∧ WI nb 2263 = u ∧ WI nb 2265 = u ∧ WI nb 2266 = 0 ∧ WI nb 2259 = 0 := by
    rw [← hWI]
    unfold ndW
    refine ⟨?_, ?_, ?_, ?_, ?_, ?_, rU_s⟩
    · rw [rU_j (by decide), rU_j (by decide), rU_j (by decide), rU_j (by decide), rU_j (by decide), rU_j (by decide), rU_j (by decide), rU_s]
    · rw [rU_j (by decide), rU_j (by decide), rU_s]
    · rw [rU_j (by decide), rU_j (by decide), rU_j (by decide), rU_j (by decide), rU_j (by decide), rU_j (by decide), rU_s]
    · rw [rU_j (by decide), rU_j (by decide), rU_j (by decide), rU_j (by decide), rU_j (by decide), rU_s]
    · rw [rU_j (by decide), rU_j (by decide), rU_j (by decide), rU_s]
    · rw [rU_j (by decide), rU_s]
  have wS : WI S 2230 = C + 1 ∧ WI S 2232 = lp + 1 := by
    rw [← hWI]
    unfold ndW
    have e : S ≠ nb := by omega
    rw [rU_f e, rU_f e, rU_f e, rU_f e, rU_f e, rU_f e, rU_f e, rU_f e, rU_f e, rU_f e, rU_f e, rU_f e, rU_f e, rU_f e, rU_f e, rU_f e]
    exact ⟨rU_s, (rU_k (by decide)).trans rU_s⟩
  have ro : ∀ (q : Nat) (k : Int), 2000 ≤ k → q ≠ nb → RI q k = R q k := fun q k h1 h2 => by
    rw [← hRI]
    unfold ndR
    rw [oU_f h2, oU_f h2, oU_j (by omega), dnR_C]
  have rk : ∀ (q : Nat) (k : Int), 2000 ≤ k → k ≠ 2257 → k ≠ 2258 → RI q k = R q k := fun q k h1 h2 h3 => by
    rw [← hRI]
    unfold ndR
    rw [oU_j h3, oU_j h2, oU_j (by omega), dnR_C]
  have rn : ∀ k : Int, 0 ≤ k → k < 64 → RI (S + 1) k = R (S + 1) k := fun k k0 k1 => by
    rw [← hRI]
    unfold ndR
    rw [oU_j (by omega), oU_j (by omega), dnR_C]
    by_cases e : k = C
    · rw [e, oU_s, hX.1.2.2.1 C hC2.1 hC2.2, hnb]
    · rw [oU_j e]
  have rp1 : RI nb 2257 = some b := by
    rw [← hRI]
    unfold ndR
    rw [oU_j (by decide), oU_s]
  have ro2 : ∀ (q : Nat) (k : Int), (q < S ∨ S + 294 ≤ q) → RI q k = R q k := fun q k h1 => by
    rw [← hRI]
    unfold ndR
    rw [oU_f (by omega), oU_f (by omega), oU_f (by omega), dnR_C]
  exact ⟨wo, wn, wS, ro, rk, rn, rp1, ro2⟩
/-- what stands behind the name -/
theorem cre_st {WI W3 : qR} {RI : rR} {nb : Nat} {lp md2 nn nd gi : Int} (hS : VS S s) (hX : XV W R P S s ord t) (hK : CT K W R) (hG : GI T U P) (hD : TI P) (qs : s < 2) (hC : (ord.length : Int) = C) (hC2 : 0 ≤ C ∧ C < 64) (htC : t C.toNat < 64) (hnb : S + 6 + 3 * t C.toNat = nb) (hnn : 1 ≤ nn ∧ nn < 64 ∧ P 2289 (64 * s + nn) = 0) (hlv : isN P s nd) (hbn : byt nm) (nz3 : nm.length ≤ 12) (hmdr : -2147483648 ≤ md2 ∧ md2 ≤ 2147483647) (hu3 : 0 ≤ u ∧ u ≤ 3) (hlp0 : P 2303 s = lp) (hlpb : lp + 1 ≤ 2147483647) (hgi0 : P 2295 (64 * s + nd) = gi) (hb2 : noA S ord t nd = some b) (hWI : ndW (rU (rU W S 2232 (lp + 1)) S 2230 (C + 1)) nb (lp + 1) md2 u = WI) (hRI : ndR (oU (dnR R S C C) (S + 1) C (some nb)) nb (some b) = RI) (hB3 : BY W3 (nb + 1) 12 nm) (hF3 : FB (nb + 1) WI W3) : (∀ (q : Nat) (k : Int), q ≠ nb → ¬ (q = nb + 1 ∧ k = 2065) → ¬ (q = nb + 2 ∧ k < 2000) → ¬ (q = S ∧ (k = 2230 ∨ k = 2232)) → W3 q k = W q k) ∧ XV (rU W3 nb 2264 gi) RI (gNew P s nn nd md2 u nm) S s (ord.insertIdx C.toNat nn) (insT t C C) ∧ CT K (rU W3 nb 2264 gi) RI ∧ FV S 0 W (rU W3 nb 2264 gi) R RI := by
  have hrg := hS.rng
  obtain ⟨wo, wn, wS, ro, rk, rn, rp1, ro2⟩ := cre_wi (u := u) (lp := lp) (md2 := md2) (b := b) hS hX hC2 htC hnb hWI hRI
  clear hWI hRI
  have w3 : ∀ (q : Nat) (k : Int), q ≠ nb → ¬ (q = nb + 1 ∧ k = 2065) → ¬ (q = nb + 2 ∧ k < 2000) → ¬ (q = S ∧ (k = 2230 ∨ k = 2232)) → W3 q k = W q k := fun q k h1 h2 h3 h4 => (hF3 q k h2 h3).trans (wo q k h1 h4)
  have w3n : ∀ k : Int, 2000 ≤ k → W3 nb k = WI nb k := fun k hk => hF3 nb k (by omega) (by omega)
  obtain ⟨a1, a2, a3, a4, a5, a6, a7⟩ := wn
  have wq : ∀ (q : Nat) (k : Int), (q < S ∨ S + 294 ≤ q) → rU W3 nb 2264 gi q k = W q k := fun q k h => (rU_f (by omega)).trans (w3 q k (by omega) (by omega) (by omega) (by omega))
  have e1 : rU W3 nb 2264 gi S 2230 = C + 1 := (rU_f (by omega)).trans ((hF3 _ _ (by omega) (by omega)).trans wS.1)
  have e2 : rU W3 nb 2264 gi S 2232 = P 2303 s + 1 := (rU_f (by omega)).trans ((hF3 _ _ (by omega) (by omega)).trans (by rw [hlp0]; exact wS.2))
  have e3 : rU W3 nb 2264 gi nb 2260 = P 2303 s + 1 ∧ rU W3 nb 2264 gi nb 2261 = 0 ∧ rU W3 nb 2264 gi nb 2262 = md2 ∧ rU W3 nb 2264 gi nb 2263 = u ∧ rU W3 nb 2264 gi nb 2264 = P 2295 (64 * s + nd) ∧ rU W3 nb 2264 gi nb 2265 = u ∧ rU W3 nb 2264 gi nb 2266 = 0 ∧ rU W3 nb 2264 gi nb 2259 = 0 := by
    refine ⟨?_, ?_, ?_, ?_, rU_s.trans hgi0.symm, ?_, ?_, ?_⟩
    · rw [rU_j (by decide), w3n _ (by decide), a1, hlp0]
    · rw [rU_j (by decide), w3n _ (by decide), a2]
    · rw [rU_j (by decide), w3n _ (by decide), a3]
    · rw [rU_j (by decide), w3n _ (by decide), a4]
    · rw [rU_j (by decide), w3n _ (by decide), a5]
    · rw [rU_j (by decide), w3n _ (by decide), a6]
    · rw [rU_j (by decide), w3n _ (by decide), a7]
  have hXN := hX.new (W2 := rU W3 nb 2264 gi) (R2 := RI) (nn := nn) (into := nd) (md := md2) (u := u) (nm := nm) hS hG hD qs hC hC2.2 hnb hnn hlv hbn nz3 hmdr hu3 (by omega) e1 e2 (fun q k h1 h2 h3 h4 => (rU_f h1).trans (w3 q k h1 h2 h3 h4)) e3 (hB3.key (by decide) (by decide)) rn ro (by rw [rp1]; exact hb2.symm)
  have rc : ∀ q, RI q 2267 = R q 2267 := fun q => rk _ _ (by decide) (by decide) (by decide)
  refine ⟨w3, hXN, hK.fv (wq _ _ (by omega)) (wq _ _ (by omega)) rc, fun q k _ h1 _ _ _ => wq q k h1, ro2, ⟨rk _ _ (by decide) (by decide) (by decide), rk _ _ (by decide) (by decide) (by decide), (rU_f (by omega)).trans (w3 _ _ (by omega) (by omega) (by omega) (by omega))⟩, fun q k h0 _ _ => wq q k (by omega), Int.le_of_eq (wq 0 0 (by omega)).symm, fun q => Or.inl (rc q)⟩
/-- a create, in the words of its parts -/
theorem gCre_to {k nn into num : Int} (hs : s < 2) (hk : k / 96 = s) (h1 : P 2304 k = 1) (h2 : P 2305 k = num) (h3 : P 2308 k = u) (h4 : P 2310 k = 0) : gCre P s k p m into nn u nm = gOpen (gMake (gGrow (gNew P s nn into (creM P s into p) u nm) s into u) k num nn u) k m := by
  rw [gCre_eq]
  have gf : ∀ f : Nat, ([2289, 2290, 2303, 2291, 2292, 2293, 2294, 2295, 2296, 2297, 2298, 2299, 2302] : List Nat).elem f = false → f ≠ 2292 → f ≠ 2296 → ∀ j, gGrow (gNew P s nn into (creM P s into p) u nm) s into u f j = P f j := fun f hf q1 q2 j => by
    rw [gGrow_f q1 q2, gNew_f hf]
  refine gCre_fid ?_ ?_ ?_ ?_ ?_
  · rw [gf _ rfl (by decide) (by decide), h1]
  · rw [gf _ rfl (by decide) (by decide), h2]
  · rw [gf _ rfl (by decide) (by decide), h3]
  · rw [gf _ rfl (by decide) (by decide), h4]
  · rw [hk, show qPath (gGrow (gNew P s nn into (creM P s into p) u nm) s into u) s nn = gGrow (gNew P s nn into (creM P s into p) u nm) s into u 2291 (64 * s + nn) from if_pos hs, gGrow_f (by decide) (by decide), gNew_at.2.2.1]
theorem XS.tr {e : Int} {Q : qR} {L : List Int} {r : Option AV} {σ' : hM} (hF : FV S rp W W2 R R2) (h : XS σ0 K W2 R2 S rp s e Q L r σ') : XS σ0 K W R S rp s e Q L r σ' := by
  obtain ⟨h1, W3, R3, o3, t3, l3, g1, g2, g3, g4, g5, g6⟩ := h
  exact ⟨h1, W3, R3, o3, t3, l3, g1, g2, g3, g4, g5, FV_tr hF g6⟩
/-- the file is made and the fid is at it: the opening and the answer -/
theorem cre_302 {nn mo : Int} {fa nb : Nat} {x2 x3 x4 x5 x6 x8 : Option AV} (hP : PX σ0 W R σ) (hS : VS S s) (hX : XV W R Q S s ord t) (hK : CT K W R) (h6 : ∀ n, s < 2 → isN Q s n → Q 2297 (64 * s + n) ≤ 600) (hi : 0 ≤ i ∧ i < 96) (hfa : S + 198 + i.toNat = fa) (hm : 0 ≤ m) (hmo : mo = and32 m 3) (hy : y = if and32 m 64 = 0 then 0 else 1) (r1 : W fa 2295 = 0) (r2 : W fa 2296 = 0) (hrp : R S 2234 = some rp) (hBr : BY W rp 300 l2) (hro : rp + 1 < S ∨ S + 294 ≤ rp) (hroom : l2.length = 7) (hnn : noA S ord t nn = some nb) (hlv : isN Q s nn) : WP fb (d + 4) 64 302 [some (vR (some S)), some (vR (some fa)), x2, x3, x4, x5, x6, some (vR (some nb)), x8] [vI y, vI mo, vR (some fa)] σ (XS σ0 K W R S rp s 0 (gOpen Q (96 * s + i) m) (l2 ++ (qidL (gOpen Q (96 * s + i) m) s nn ++ leb 4 0))) := by
  have hO := hS.o
  have hrg := hS.rng
  have hro1 := hBr.1
  have hrlt := hBr.lt
  have hrp0 := (tX_o hro1).1
  have hfo := hS.fd hi
  rw [hfa] at hfo
  have hop := x_fidOpen (fb := fb) (d := d + 3) (md := mo) (x := y) hP hfo (by rw [hy]; split <;> simp)
  have hX7 := hX.opn (x := mo) (e := y) (m := m) h6 hi hm hmo hy (by rw [hfa]; exact r1) (by rw [hfa]; exact r2)
  rw [hfa] at hX7
  have hF7 : FV S rp W (rU (rU W fa 2293 mo) fa 2294 y) R R := FV_tr (FV_own (by omega) (by omega) (by omega)) (FV_own (by omega) (by omega) (by omega))
  have hK7 : CT K (rU (rU W fa 2293 mo) fa 2294 y) R := (hK.drop (by omega) (by decide)).drop (by omega) (by decide)
  have hBr7 : BY (rU (rU W fa 2293 mo) fa 2294 y) rp 300 l2 := (hBr.key (by decide) (by decide)).key (by decide) (by decide)
  have h67 : ∀ n, s < 2 → isN (gOpen Q (96 * s + i) m) s n → gOpen Q (96 * s + i) m 2297 (64 * s + n) ≤ 600 := fun n q1 q2 => by
    rw [gOpn_f (by decide) (by decide) (by decide)]
    exact h6 n q1 (gOpn_fe.live.mp q2)
  have hlv7 : isN (gOpen Q (96 * s + i) m) s nn := gOpn_fe.live.mpr hlv
  clear hX hK hBr
  obtain ⟨Q7, hQ7⟩ : ∃ q, gOpen Q (96 * s + i) m = q := ⟨_, rfl⟩
  rw [hQ7] at hX7 h67 hlv7 ⊢
  obtain ⟨b7, ix7, hb7, hix7, hbix7, hlx7, htx7, hN7⟩ := hX7.fnode hlv7
  have hbe7 : b7 = nb := by
    rw [hnn] at hb7
    exact (Option.some.inj hb7).symm
  rw [hbe7] at hN7 hbix7
  have hnbo : tX nb = some (Sum.inl 8) := hN7.1
  have hnr : nb + 1 ≠ rp := by omega
  have hpq := fun (σ : hM) (hP : PX σ0 (rU (rU W fa 2293 mo) fa 2294 y) R σ) => x_putQid (fb := fb) (d := d + 2) hP hS hrp hBr7 hN7 hnr (by omega)
  have hln := qidL_len Q7 s nn
  have hpu := fun (σ : hM) (W8 : qR) (hP : PX σ0 W8 R σ) (hB : BY W8 rp 300 (l2 ++ qidL Q7 s nn)) => x_put (fb := fb) (d := d + 3) (k := 4) (v := 0) 4 hP hB rfl (by decide) (by decide) (by rw [List.length_append]; omega)
  have hend : ∀ (σ : hM) (W8 : qR), PX σ0 W8 R σ → BY W8 rp 300 (l2 ++ qidL Q7 s nn ++ leb 4 0) → FB rp (rU (rU W fa 2293 mo) fa 2294 y) W8 → XS σ0 K W R S rp s 0 Q7 (l2 ++ (qidL Q7 s nn ++ leb 4 0)) (some (vI 0)) σ := fun σ W8 hP hB8 hF8 => ⟨rfl, W8, R, _, _, _, hP, hB8, fun _ => List.append_assoc _ _ _, hX7.fbb hF8 (by omega) hro h67, hK7.fbb hF8 (by omega), FV_tr hF7 (FV_fb hF8 (by omega) (by omega))⟩
  clear hX7 hK7 hF7 hBr7 h67 hN7
  refine x_cv3 T_64_302 mN_63 mL_63 (Nat.le_of_ble_eq_true rfl) mO_63 (hP.o hfo) (Nat.le_of_ble_eq_true rfl) (hop) ?_
  clear hP hop
  rintro _ σ ⟨rfl, hP⟩
  refine cV ?_
  refine x_lr (z := some S) T_64_305 rfl ?_
  refine x_lr (z := some nb) T_64_306 rfl ?_
  refine x_cv2 T_64_308 mN_52 mL_52 (Nat.le_of_ble_eq_true rfl) mO_52 (hP.o hO) (Nat.le_of_ble_eq_true rfl) (hpq σ hP) ?_
  clear hP hpq
  rintro _ σ ⟨rfl, W7, hP, hB7, hF7b⟩
  refine cV ?_
  refine x_lr (z := some S) T_64_311 rfl ?_
  refine x_gR (z := some rp) T_64_312 F_7_10 (hP.o hO) (Eq.trans (hP.rm hO rfl (key := 2234) rfl) hrp) ?_
  refine x_lc T_64_315 ?_
  refine x_ic T_64_316 ?_
  refine x_cv3 T_64_317 mN_22 mL_22 (Nat.le_of_ble_eq_true rfl) mO_22 (hP.o hro1) (Nat.le_of_ble_eq_true rfl) (hpu σ W7 hP hB7) ?_
  clear hP hpu
  rintro _ σ ⟨rfl, W8, hP, hB8, hF8⟩
  refine cV ?_
  refine x_ic T_64_320 ?_
  refine x_ri T_64_321 ?_
  exact hend σ W8 hP hB8 (FB_tr hF7b hF8)
/-- behind the file's name and gid: its directory grows -/
theorem cre_249 {nn nd num en : Int} {fa nb : Nat} {x4 x5 x6 x8 : Option AV} (hP : PX σ0 W R σ) (hS : VS S s) (hX : XV W R P S s ord t) (hK : CT K W R) (h6 : ∀ n, s < 2 → isN P s n → P 2297 (64 * s + n) ≤ 600) (qs : s < 2) (hi : 0 ≤ i ∧ i < 96) (hfa : S + 198 + i.toNat = fa) (hm : 0 ≤ m ∧ m ≤ 255) (hm3 : and32 m (-65) ≤ 3) (hr : R S 2233 = some mb) (hrp : R S 2234 = some rp) (hB : BY W mb M l) (hmo : mb + 1 < S ∨ S + 294 ≤ mb) (hen : 0 ≤ en ∧ en + 4 < l.length) (hml : lg l (en + 4) = m) (hBr : BY W rp 300 l2) (hro : rp + 1 < S ∨ S + 294 ≤ rp) (hroom : l2.length = 7) (hb : noA S ord t nd = some b) (hld : isN P s nd) (hnn : noA S ord t nn = some nb) (hlv : isN P s nn) (hvr : qVer P s nd < 2147483647) (hu3 : 0 ≤ u ∧ u ≤ 3) (hu : W fa 2290 = u) (hnum : W fa 2289 = num) : WP fb (d + 4) 64 249 [some (vR (some S)), some (vR (some fa)), some (vR (some b)), some (vI en), x4, x5, x6, some (vR (some nb)), x8] [] σ (XS σ0 K W R S rp s 0 (gOpen (gMake (gGrow P s nd u) (96 * s + i) num nn u) (96 * s + i) m) (l2 ++ (qidL (gOpen (gMake (gGrow P s nd u) (96 * s + i) num nn u) (96 * s + i) m) s nn ++ leb 4 0))) := by
  have hO := hS.o
  have hrg := hS.rng
  have hbo0 := hB.1
  have hn1 := hB.2.2.1
  have hlz := hB.2.2.2.2.1
  have hfo := hS.fd hi
  rw [hfa] at hfo
  obtain ⟨b', ix, hb', hix, hbix, hlx, htx, hN⟩ := hX.fnode hld
  have hbe : b' = b := by
    rw [hb] at hb'
    exact (Option.some.inj hb').symm
  rw [hbe] at hbix hN
  have hbno : tX b = some (Sum.inl 8) := hN.1
  obtain ⟨vr, hvr0⟩ : ∃ q, qVer P s nd = q := ⟨_, rfl⟩
  have hver := hN.2.2.2.1
  rw [hvr0] at hver hvr
  have hX5 := hX.grow (a := b) (u := u) hS h6 qs hix hbix hlx hvr0 hvr hu3
  have hgrw := x_grew (fb := fb) (d := d + 3) (u := u) hP hbno hver.1 ⟨hver.2.1, hvr⟩
  have hlG : ∀ n, isN (gGrow P s nd u) s n ↔ isN P s n := fun n => isN_tree qs (fun k => gGrow_f (by decide) (by decide))
  have h6G : ∀ n, s < 2 → isN (gGrow P s nd u) s n → gGrow P s nd u 2297 (64 * s + n) ≤ 600 := fun n q hn => by
    rw [gGrow_f (by decide) (by decide)]
    exact h6 n q ((hlG n).mp hn)
  have hlvG := (hlG nn).mpr hlv
  obtain ⟨W5, hW5⟩ : ∃ q, rU (rU W b 2261 (vr + 1)) b 2265 u = q := ⟨_, rfl⟩
  have hK5 : CT K W5 R := by rw [← hW5]; exact (hK.drop (by omega) (by decide)).drop (by omega) (by decide)
  have hF5 : FV S rp W W5 R R := by rw [← hW5]; exact FV_tr (FV_own (by omega) (by omega) (by omega)) (FV_own (by omega) (by omega) (by omega))
  have hB5 : BY W5 mb M l := by rw [← hW5]; exact (hB.key (by decide) (by decide)).key (by decide) (by decide)
  have hBr5 : BY W5 rp 300 l2 := by rw [← hW5]; exact (hBr.key (by decide) (by decide)).key (by decide) (by decide)
  have v4 : W5 fa 2290 = u := by rw [← hW5, rU_j (by decide), rU_j (by decide)]; exact hu
  have v5 : W5 fa 2289 = num := by rw [← hW5, rU_j (by decide), rU_j (by decide)]; exact hnum
  rw [hW5] at hgrw hX5
  clear hW5 hX hK hB hBr hN hver hlG hld h6
  obtain ⟨G, hG⟩ : ∃ q, gGrow P s nd u = q := ⟨_, rfl⟩
  rw [hG] at hX5 h6G hlvG ⊢
  obtain ⟨b3, ix3, hb3, hix3, hbix3, hlx3, htx3, hN3⟩ := hX5.fnode hlvG
  have hbe3 : b3 = nb := by
    rw [hnn] at hb3
    exact (Option.some.inj hb3).symm
  rw [hbe3] at hN3
  have hnbo : tX nb = some (Sum.inl 8) := hN3.1
  obtain ⟨pt, hpt⟩ : ∃ q, qPath G s nn = q := ⟨_, rfl⟩
  have v6 : W5 nb 2260 = pt := hN3.2.2.1.1.trans hpt
  have hat := fun (σ : hM) (hP : PX σ0 W5 R σ) => x_at (fb := fb) (d := d + 3) (i := en + 4) hP hB5
  rw [if_pos (by omega), hml] at hat
  have hbec := fun (σ : hM) (hP : PX σ0 W5 R σ) => x_fidBecome (fb := fb) (d := d + 3) (num := num) (u := u) hP hfo hnbo v6
  have hX6 := hX5.make (i := i) (v := num) (u := u) hS h6G hi hnn
  rw [hfa, hpt] at hX6
  have hF6 : FV S rp W (fdW W5 fa num u pt) R (oU R fa 2291 (some nb)) := by
    rw [← hfa]
    exact FV_tr hF5 (FV_w (FV_fdW hi (by omega)))
  have w6 : ∀ (q : Nat) (k : Int), (k < 2288 ∨ 2296 < k) → fdW W5 fa num u pt q k = W5 q k := fun q k h => by
    unfold fdW
    rw [rU_j (by omega), rU_j (by omega), rU_j (by omega), rU_j (by omega), rU_j (by omega), rU_j (by omega), rU_j (by omega), rU_j (by omega)]
  have hK6 : CT K (fdW W5 fa num u pt) (oU R fa 2291 (some nb)) := hK5.fv (w6 _ _ (by decide)) (w6 _ _ (by decide)) (fun q => oU_j (by decide))
  have hBr6 : BY (fdW W5 fa num u pt) rp 300 l2 := hBr5.fid
  have v7 : fdW W5 fa num u pt fa 2295 = 0 ∧ fdW W5 fa num u pt fa 2296 = 0 := by
    unfold fdW
    exact ⟨(rU_j (by decide)).trans rU_s, rU_s⟩
  have hrp6 : oU R fa 2291 (some nb) S 2234 = some rp := (oU_j (by decide)).trans hrp
  have h6M : ∀ n, s < 2 → isN (gMake G (96 * s + i) num nn u) s n → gMake G (96 * s + i) num nn u 2297 (64 * s + n) ≤ 600 := fun n q hn => by
    rw [gMake_fe _ _ rfl]
    exact h6G n q (gMake_fe.live.mp hn)
  have hlvM : isN (gMake G (96 * s + i) num nn u) s nn := gMake_fe.live.mpr hlvG
  clear hX5 hK5 hF5 hBr5 h6G hlvG hN3 w6
  obtain ⟨W6, hW6⟩ : ∃ q, fdW W5 fa num u pt = q := ⟨_, rfl⟩
  obtain ⟨R6, hR6⟩ : ∃ q, oU R fa 2291 (some nb) = q := ⟨_, rfl⟩
  obtain ⟨GM, hGM⟩ : ∃ q, gMake G (96 * s + i) num nn u = q := ⟨_, rfl⟩
  rw [hW6, hR6] at hbec hX6 hF6 hK6
  rw [hW6] at hBr6 v7
  rw [hR6] at hrp6
  rw [hGM] at hX6 h6M hlvM ⊢
  clear hW6 hR6 hGM
  obtain ⟨mo, hmo1⟩ : ∃ q, and32 m (-65) = q := ⟨_, rfl⟩
  have hm65 := m65 (m := m) hm
  rw [hmo1] at hm3 hm65
  have hm65 := hm65 hm3
  obtain ⟨g64, hg64⟩ : ∃ q, and32 m 64 = q := ⟨_, rfl⟩
  have fin := fun (y : Int) (hy : y = if and32 m 64 = 0 then 0 else 1) (x5 x6 : Option AV) (σ : hM) (hP : PX σ0 W6 R6 σ) => WP.mono (cre_302 (fb := fb) (d := d) (x2 := some (vR (some b))) (x3 := some (vI en)) (x4 := x4) (x5 := x5) (x6 := x6) (x8 := some (vI m)) hP hS hX6 hK6 h6M hi hfa hm.1 hm65.symm hy v7.1 v7.2 hrp6 hBr6 hro hroom hnn hlvM) (fun _ _ h => XS.tr hF6 h)
  clear hX6 hK6 h6M v7 hBr6 hF6
  by_cases q64 : g64 = 0
  · have fin := fun σ hP => fin 0 (by rw [hg64, if_pos q64]) x5 x6 σ hP
    refine x_lr (z := some b) T_64_249 rfl ?_
    refine x_lr (z := some fa) T_64_250 rfl ?_
    refine x_gI (z := u) T_64_251 (Or.inl F_9_2) (hP.o hfo) (Eq.trans (hP.gi hfo (key := 2290) rfl) hu) ?_
    refine x_cv2 T_64_254 mN_45 mL_45 (Nat.le_of_ble_eq_true rfl) mO_45 (hP.o hbno) (Nat.le_of_ble_eq_true rfl) (hgrw) ?_
    clear hP hgrw
    rintro _ σ ⟨rfl, hP⟩
    refine cV ?_
    refine x_lr (z := some S) T_64_257 rfl ?_
    refine x_gR (z := some mb) T_64_258 F_7_9 (hP.o hO) (Eq.trans (hP.rm hO rfl (key := 2233) rfl) hr) ?_
    refine x_li (z := en) T_64_261 rfl ?_
    refine x_ic T_64_262 ?_
    refine x_ib (w := (en + 4)) T_64_263 (fun h => absurd h.1 (by decide)) (w32_id (by omega) (by omega)) ?_
    refine x_cv2 T_64_264 mN_33 mL_33 (Nat.le_of_ble_eq_true rfl) mO_33 (hP.o hbo0) (Nat.le_of_ble_eq_true rfl) (hat σ hP) ?_
    rintro _ σ ⟨rfl, rfl⟩
    refine cI ?_
    refine x_si (ls1 := [some (vR (some S)), some (vR (some fa)), some (vR (some b)), some (vI en), x4, x5, x6, some (vR (some nb)), some (vI m)]) T_64_267 rfl ?_
    refine x_lr (z := some fa) T_64_269 rfl ?_
    refine x_lr (z := some fa) T_64_270 rfl ?_
    refine x_gL (z := num) T_64_271 F_9_1 (hP.o hfo) (Eq.trans (hP.gi hfo (key := 2289) rfl) v5) ?_
    refine x_lr (z := some fa) T_64_274 rfl ?_
    refine x_gI (z := u) T_64_275 (Or.inl F_9_2) (hP.o hfo) (Eq.trans (hP.gi hfo (key := 2290) rfl) v4) ?_
    refine x_lr (z := some nb) T_64_278 rfl ?_
    refine x_cv4 T_64_280 mN_51 mL_51 (Nat.le_of_ble_eq_true rfl) mO_51 (hP.o hfo) (Nat.le_of_ble_eq_true rfl) (hbec σ hP) ?_
    clear hP hbec
    rintro _ σ ⟨rfl, hP⟩
    refine cV ?_
    refine x_lr (z := some fa) T_64_283 rfl ?_
    refine x_li (z := m) T_64_284 rfl ?_
    refine x_ic T_64_286 ?_
    refine x_ib (w := mo) T_64_288 (fun h => absurd h.1 (by decide)) hmo1 ?_
    refine x_li (z := m) T_64_289 rfl ?_
    refine x_ic T_64_291 ?_
    refine x_ib (w := g64) T_64_293 (fun h => absurd h.1 (by decide)) hg64 ?_
    refine x_if T_64_294 (fun _ => ?_) (fun h => absurd (show g64 = 0 by exact q64) h)
    refine x_ic T_64_301 ?_
    exact fin σ hP
  · have fin := fun σ hP => fin 1 (by rw [hg64, if_neg q64]) x5 x6 σ hP
    refine x_lr (z := some b) T_64_249 rfl ?_
    refine x_lr (z := some fa) T_64_250 rfl ?_
    refine x_gI (z := u) T_64_251 (Or.inl F_9_2) (hP.o hfo) (Eq.trans (hP.gi hfo (key := 2290) rfl) hu) ?_
    refine x_cv2 T_64_254 mN_45 mL_45 (Nat.le_of_ble_eq_true rfl) mO_45 (hP.o hbno) (Nat.le_of_ble_eq_true rfl) (hgrw) ?_
    clear hP hgrw
    rintro _ σ ⟨rfl, hP⟩
    refine cV ?_
    refine x_lr (z := some S) T_64_257 rfl ?_
    refine x_gR (z := some mb) T_64_258 F_7_9 (hP.o hO) (Eq.trans (hP.rm hO rfl (key := 2233) rfl) hr) ?_
    refine x_li (z := en) T_64_261 rfl ?_
    refine x_ic T_64_262 ?_
    refine x_ib (w := (en + 4)) T_64_263 (fun h => absurd h.1 (by decide)) (w32_id (by omega) (by omega)) ?_
    refine x_cv2 T_64_264 mN_33 mL_33 (Nat.le_of_ble_eq_true rfl) mO_33 (hP.o hbo0) (Nat.le_of_ble_eq_true rfl) (hat σ hP) ?_
    rintro _ σ ⟨rfl, rfl⟩
    refine cI ?_
    refine x_si (ls1 := [some (vR (some S)), some (vR (some fa)), some (vR (some b)), some (vI en), x4, x5, x6, some (vR (some nb)), some (vI m)]) T_64_267 rfl ?_
    refine x_lr (z := some fa) T_64_269 rfl ?_
    refine x_lr (z := some fa) T_64_270 rfl ?_
    refine x_gL (z := num) T_64_271 F_9_1 (hP.o hfo) (Eq.trans (hP.gi hfo (key := 2289) rfl) v5) ?_
    refine x_lr (z := some fa) T_64_274 rfl ?_
    refine x_gI (z := u) T_64_275 (Or.inl F_9_2) (hP.o hfo) (Eq.trans (hP.gi hfo (key := 2290) rfl) v4) ?_
    refine x_lr (z := some nb) T_64_278 rfl ?_
    refine x_cv4 T_64_280 mN_51 mL_51 (Nat.le_of_ble_eq_true rfl) mO_51 (hP.o hfo) (Nat.le_of_ble_eq_true rfl) (hbec σ hP) ?_
    clear hP hbec
    rintro _ σ ⟨rfl, hP⟩
    refine cV ?_
    refine x_lr (z := some fa) T_64_283 rfl ?_
    refine x_li (z := m) T_64_284 rfl ?_
    refine x_ic T_64_286 ?_
    refine x_ib (w := mo) T_64_288 (fun h => absurd h.1 (by decide)) hmo1 ?_
    refine x_li (z := m) T_64_289 rfl ?_
    refine x_ic T_64_291 ?_
    refine x_ib (w := g64) T_64_293 (fun h => absurd h.1 (by decide)) hg64 ?_
    refine x_if T_64_294 (fun h => absurd (show g64 = 0 from h) (by exact q64)) (fun _ => ?_)
    refine x_ic T_64_297 ?_
    refine x_goto T_64_298 ?_
    exact fin σ hP
/-- the refusals are behind: the file is made -/
theorem cre_190 {nn nd num en md2 h0 b3 : Int} {fa : Nat} {x4 : Option AV} (hP : PX σ0 W R σ) (hS : VS S s) (hX : XV W R P S s ord t) (hK : CT K W R) (hG : GI T U P) (hD : TI P) (hT : T + 49 ≤ 2147483000) (qs : s < 2) (hC : (ord.length : Int) = C) (hC2 : 0 < C ∧ C < 64) (hi : 0 ≤ i ∧ i < 96) (hfa : S + 198 + i.toNat = fa) (hm : 0 ≤ m ∧ m ≤ 255) (hm3 : and32 m (-65) ≤ 3) (hr : R S 2233 = some mb) (hrp : R S 2234 = some rp) (hB : BY W mb M l) (hmo : mb + 1 < S ∨ S + 294 ≤ mb) (hen : 13 ≤ en ∧ en + 4 < l.length) (hml : lg l (en + 4) = m) (hBr : BY W rp 300 l2) (hro : rp + 1 < S ∨ S + 294 ≤ rp) (hroom : l2.length = 7) (hb2 : noA S ord t nd = some b) (hlv : isN P s nd) (hnn : 1 ≤ nn ∧ nn < 64 ∧ P 2289 (64 * s + nn) = 0) (hseg : seg (lg l) 13 (en - 13).toNat = nm) (hbn : byt nm) (nz : nm.length ≤ 12) (hu3 : 0 ≤ u ∧ u ≤ 3) (hu : W fa 2290 = u) (hnum : W fa 2289 = num) (hmdr : -2147483648 ≤ md2 ∧ md2 ≤ 2147483647) (hh0 : and32 x (-512) = h0) (hh1 : or32 h0 b3 = md2) : WP fb (d + 4) 64 190 [some (vR (some S)), some (vR (some fa)), some (vR (some b)), some (vI en), x4, some (vI x), some (vI b3), none, none] [] σ (XS σ0 K W R S rp s 0 (gOpen (gMake (gGrow (gNew P s nn nd md2 u nm) s nd u) (96 * s + i) num nn u) (96 * s + i) m) (l2 ++ (qidL (gOpen (gMake (gGrow (gNew P s nn nd md2 u nm) s nd u) (96 * s + i) num nn u) (96 * s + i) m) s nn ++ leb 4 0))) := by
  have hO := hS.o
  have hsr := hS.1
  have hrg := hS.rng
  have hbo := hB.1
  have hn1 := hB.2.2.1
  have hlz := hB.2.2.2.2.1
  have hfo := hS.fd hi
  rw [hfa] at hfo
  obtain ⟨b', ix, hb', hix, hbix, hlx, htx, hN⟩ := hX.fnode hlv
  have hbe : b' = b := by
    rw [hb2] at hb'
    exact (Option.some.inj hb').symm
  rw [hbe] at hbix hN
  have hbno : tX b = some (Sum.inl 8) := hN.1
  have hcnt := hX.1.1.2.2.1
  rw [hC] at hcnt
  have hlp := (hX.2.2.1.2.2.2.1 qs).2
  have hlpb : 0 ≤ P 2303 s ∧ P 2303 s ≤ T := IV.a hG.iv 2303 0 2 rfl rfl rfl (by omega) (by omega)
  obtain ⟨lp, hlp0⟩ : ∃ lp, P 2303 s = lp := ⟨_, rfl⟩
  rw [hlp0] at hlp hlpb
  have htC := hX.1.2.1.1 C.toNat (by omega)
  obtain ⟨nb, hnb⟩ : ∃ nb, S + 6 + 3 * t C.toNat = nb := ⟨_, rfl⟩
  have hnbo : tX nb = some (Sum.inl 8) := by rw [← hnb]; exact hS.nd htC
  have hgi := hN.2.2.2.2.2.1
  rw [show qGid P s nd = P 2295 (64 * s + nd) from if_pos qs] at hgi
  obtain ⟨gi, hgi0⟩ : ∃ q, P 2295 (64 * s + nd) = q := ⟨_, rfl⟩
  rw [hgi0] at hgi
  have hlvt := isN_lt qs hlv
  have hver2 : qVer P s nd ≤ T := by
    have ba : 0 ≤ P 2292 (64 * s + nd) ∧ P 2292 (64 * s + nd) ≤ T := IV.a hG.iv 2292 0 128 rfl rfl rfl (by omega) (by omega)
    unfold qVer
    rw [if_pos qs]
    exact ba.2
  have hnob : nb ≠ b := fun c => by
    have := hX.1.2.1.2 C.toNat ix.toNat (by omega) (by omega) (by omega)
    omega
  have hlast : qPath P s (lg ord (C - 1)) ≤ lp + 1 := by
    have hml := (hX.1.1.1 _).mp (lg_mem (ord := ord) (i := C - 1) (by omega) (by omega))
    have := hD.2.1 s _ hsr.1 qs hml
    rw [show qPath P s (lg ord (C - 1)) = P 2291 (64 * s + lg ord (C - 1)) from if_pos qs]
    omega
  have hins := fun (σ : hM) (hP : PX σ0 (rU W S 2232 (lp + 1)) R σ) => x_insert (fb := fb) (d := d + 2) (p := lp + 1) (md := md2) (u := u) (dr := some b) (q := C) (g := fun i => qPath P s (lg ord i)) hP hS ((rU_j (by decide)).trans hcnt) ⟨by omega, hC2.2⟩ hX.1.2.1.1 hX.1.2.2.1 (fun k k0 k1 => by
    have hNk := hX.1.2.2.2.1 k k0 (by omega)
    exact (rU_j (by decide)).trans hNk.2.2.1.1) ⟨by omega, Int.le_refl C⟩ (fun k k0 k1 => by omega) (Or.inr hlast) hnb
  obtain ⟨WI, hWI⟩ : ∃ WI, ndW (rU (rU W S 2232 (lp + 1)) S 2230 (C + 1)) nb (lp + 1) md2 u = WI := ⟨_, rfl⟩
  obtain ⟨RI, hRI⟩ : ∃ RI, ndR (oU (dnR R S C C) (S + 1) C (some nb)) nb (some b) = RI := ⟨_, rfl⟩
  rw [hWI, hRI] at hins
  obtain ⟨wo, wn, wS, ro, rk, rn, rp1, ro2⟩ := cre_wi (u := u) (lp := lp) (md2 := md2) (b := b) hS hX ⟨by omega, hC2.2⟩ htC hnb hWI hRI
  have hrI : RI S 2233 = some mb := (rk _ _ (by decide) (by decide) (by decide)).trans hr
  have hrpI : RI S 2234 = some rp := (rk _ _ (by decide) (by decide) (by decide)).trans hrp
  have hBI : BY WI mb M l := by
    obtain ⟨y1, y2, y3, y4, y5, y6, y7⟩ := hB
    exact ⟨y1, y2, y3, (wo _ _ (by omega) (by omega)).trans y4, y5, y6, fun i i0 i1 => (wo _ _ (by omega) (by omega)).trans (y7 i i0 i1)⟩
  have hBrI : BY WI rp 300 l2 := by
    obtain ⟨y1, y2, y3, y4, y5, y6, y7⟩ := hBr
    exact ⟨y1, y2, y3, (wo _ _ (by omega) (by omega)).trans y4, y5, y6, fun i i0 i1 => (wo _ _ (by omega) (by omega)).trans (y7 i i0 i1)⟩
  clear wo wn wS ro rk rn rp1 ro2
  have hsh : SH (nb + 1) 12 := by
    have := hS.sh htC
    rw [show S + 7 + 3 * t C.toNat = nb + 1 by omega] at this
    exact this
  have htk := fun (σ : hM) (hP : PX σ0 WI RI σ) => x_take0 (fb := fb) (d := d + 2) (s := 13) (e := en) hP hsh hBI (by omega) (Or.inr (by decide)) (by omega)
  have hnml : nm.length = (en - 13).toNat := by rw [← hseg, seg_len]
  rw [hseg, List.take_of_length_le nz, if_pos (by omega)] at htk
  have hno : nn ∉ ord := fun c => by
    have := isN_lt qs ((hX.1.1.1 nn).mp c)
    omega
  have hndn : nd ≠ nn := fun c => hno (by rw [← c]; exact (hX.1.1.1 nd).mpr hlv)
  have hq2 : 0 ≤ C ∧ C ≤ (ord.length : Int) := by omega
  have hnap := noA_ins (S := S) (t := t) hX.1.nodup hq2 hno hndn
  have hnaw := noA_new (S := S) (t := t) hX.1.nodup hq2 hno
  rw [hC, hb2] at hnap
  have hnaw : noA S (ord.insertIdx C.toNat nn) (insT t C C) nn = some nb := by
    rw [← hnb, ← hC]
    rw [Int.toNat_natCast]
    rw [← hC, Int.toNat_natCast] at hnaw
    exact hnaw
  have h6N : ∀ n, s < 2 → isN (gNew P s nn nd md2 u nm) s n → gNew P s nn nd md2 u nm 2297 (64 * s + n) ≤ 600 := fun n _ hn => by
    by_cases e : n = nn
    · rw [e, gNew_at.2.2.2.2.2.2.2.2.1]
      decide
    · have e2 := isN_lt qs hn
      rw [gNew_o (by omega) (by decide) (by decide) (by decide)] at e2 ⊢
      exact XV.len6 hG.iv hsr.1 n qs (Or.inl ⟨qs, e2⟩)
  have hlvN : isN (gNew P s nn nd md2 u nm) s nd := by
    refine Or.inl ⟨qs, hlvt.1, hlvt.2.1, ?_⟩
    rw [gNew_o (by omega) (by decide) (by decide) (by decide)]
    exact hlvt.2.2
  have hlnN : isN (gNew P s nn nd md2 u nm) s nn := Or.inl ⟨qs, by omega, hnn.2.1, gNew_at.1⟩
  have evr : qVer (gNew P s nn nd md2 u nm) s nd < 2147483647 := by
    have e : qVer (gNew P s nn nd md2 u nm) s nd = qVer P s nd := by
      unfold qVer
      rw [if_pos qs, if_pos qs, gNew_o (by omega) (by decide) (by decide) (by decide)]
    omega
  have hgo : ∀ (W3 : qR), BY W3 (nb + 1) 12 nm → FB (nb + 1) WI W3 → W3 b 2264 = gi := fun W3 hB3 hF3 => by
    obtain ⟨w3, hXN, hKN, hFN⟩ := cre_st (K := K) hS hX hK hG hD qs hC ⟨by omega, hC2.2⟩ htC hnb hnn hlv hbn nz hmdr hu3 hlp0 (by omega) hgi0 hb2 hWI hRI hB3 hF3
    exact (w3 _ _ (Ne.symm hnob) (by omega) (by omega) (by omega)).trans hgi.1
  have hst : ∀ (σ : hM) (W3 : qR), PX σ0 (rU W3 nb 2264 gi) RI σ → BY W3 (nb + 1) 12 nm → FB (nb + 1) WI W3 → (∀ x5 x6 : Option AV, WP fb (d + 4) 64 249 [some (vR (some S)), some (vR (some fa)), some (vR (some b)), some (vI en), x4, x5, x6, some (vR (some nb)), none] [] σ (XS σ0 K W R S rp s 0 (gOpen (gMake (gGrow (gNew P s nn nd md2 u nm) s nd u) (96 * s + i) num nn u) (96 * s + i) m) (l2 ++ (qidL (gOpen (gMake (gGrow (gNew P s nn nd md2 u nm) s nd u) (96 * s + i) num nn u) (96 * s + i) m) s nn ++ leb 4 0)))) := fun σ W3 hP hB3 hF3 => by
    obtain ⟨w3, hXN, hKN, hFN⟩ := cre_st (K := K) hS hX hK hG hD qs hC ⟨by omega, hC2.2⟩ htC hnb hnn hlv hbn nz hmdr hu3 hlp0 (by omega) hgi0 hb2 hWI hRI hB3 hF3
    have g2 : rU W3 nb 2264 gi fa 2290 = u := (rU_j (by decide)).trans ((w3 _ _ (by omega) (by omega) (by omega) (by omega)).trans hu)
    have g3 : rU W3 nb 2264 gi fa 2289 = num := (rU_j (by decide)).trans ((w3 _ _ (by omega) (by omega) (by omega) (by omega)).trans hnum)
    have hB4 : BY (rU W3 nb 2264 gi) mb M l := (hF3.by hBI (by omega)).key (by decide) (by decide)
    have hBr4 : BY (rU W3 nb 2264 gi) rp 300 l2 := (hF3.by hBrI (by omega)).key (by decide) (by decide)
    exact fun x5 x6 => WP.mono (cre_249 (fb := fb) (d := d) hP hS hXN hKN h6N qs hi hfa hm hm3 hrI hrpI hB4 hmo ⟨by omega, hen.2⟩ hml hBr4 hro hroom hnap hlvN hnaw hlnN evr hu3 g2 g3) (fun _ _ h => XS.tr (FV_w hFN) h)
  clear hBI hBrI hWI hRI hno hnap hnaw h6N hlvN hlnN evr hX hK hG hD
  refine x_lr (z := some S) T_64_190 rfl ?_
  refine x_dupR T_64_191 ?_
  refine x_gI (z := lp) T_64_192 (Or.inl F_7_8) (hP.o hO) (Eq.trans (hP.gi hO (key := 2232) rfl) hlp) ?_
  refine x_ic T_64_195 ?_
  refine x_ib (w := (lp + 1)) T_64_196 (fun h => absurd h.1 (by decide)) (w32_id (by omega) (by omega)) ?_
  refine z_pI hP T_64_197 F_7_8 hO (key := 2232) rfl (fun σ hP => ?_)
  refine x_lr (z := some S) T_64_200 rfl ?_
  refine x_lr (z := some S) T_64_201 rfl ?_
  refine x_gI (z := (lp + 1)) T_64_202 (Or.inl F_7_8) (hP.o hO) (Eq.trans (hP.gi hO (key := 2232) rfl) rU_s) ?_
  refine x_lr (z := some b) T_64_205 rfl ?_
  refine x_li (z := x) T_64_206 rfl ?_
  refine x_ic T_64_208 ?_
  refine x_ib (w := h0) T_64_211 (fun h => absurd h.1 (by decide)) hh0 ?_
  refine x_li (z := b3) T_64_212 rfl ?_
  refine x_ib (w := md2) T_64_214 (fun h => absurd h.1 (by decide)) hh1 ?_
  refine x_lr (z := some fa) T_64_215 rfl ?_
  refine x_gI (z := u) T_64_216 (Or.inl F_9_2) (hP.o hfo) (Eq.trans (Eq.trans (hP.gi hfo (key := 2290) rfl) (rU_j (by decide))) hu) ?_
  refine x_cv5 T_64_219 mN_67 mL_67 (Nat.le_of_ble_eq_true rfl) mO_67 (hP.o hO) (Nat.le_of_ble_eq_true rfl) (hins σ hP) ?_
  clear hP hins
  rintro _ σ ⟨rfl, hP⟩
  refine cR ?_
  refine x_sr (ls1 := [some (vR (some S)), some (vR (some fa)), some (vR (some b)), some (vI en), x4, some (vI x), some (vI b3), some (vR (some nb)), none]) T_64_222 rfl ?_
  refine x_lr (z := some nb) T_64_224 rfl ?_
  refine x_gR (z := some (nb + 1)) T_64_226 F_8_0 (hP.o hnbo) (hP.rc hnbo rfl rfl) ?_
  refine x_lr (z := some S) T_64_229 rfl ?_
  refine x_gR (z := some mb) T_64_230 F_7_9 (hP.o hO) (Eq.trans (hP.rm hO rfl (key := 2233) rfl) hrI) ?_
  refine x_ic T_64_233 ?_
  refine x_li (z := en) T_64_235 rfl ?_
  refine x_cv4 T_64_236 mN_31 mL_31 (Nat.le_of_ble_eq_true rfl) mO_31 (hP.o hsh.1) (Nat.le_of_ble_eq_true rfl) (htk σ hP) ?_
  clear hP htk
  rintro _ σ ⟨rfl, W3, hP, hB3, hF3⟩
  have s1 := hgo W3 hB3 hF3
  refine cI ?_
  refine x_popI T_64_239 ?_
  refine x_lr (z := some nb) T_64_240 rfl ?_
  refine x_lr (z := some b) T_64_242 rfl ?_
  refine x_gI (z := gi) T_64_243 (Or.inl F_8_8) (hP.o hbno) (Eq.trans (hP.gi hbno (key := 2264) rfl) s1) ?_
  refine z_pI hP T_64_246 F_8_8 hnbo (key := 2264) rfl (fun σ hP => ?_)
  exact hst σ W3 hP hB3 hF3 _ _
set_option maxHeartbeats 4000000 in
theorem x_doCreate (hP : PX σ0 W R σ) (hS : VS S s) (hX : XV W R P S s ord t) (hK : CT K W R) (hG : GI T U P) (hD : TI P) (hU2 : UNq P 2) (hT : T + 49 ≤ 2147483000) (hr : R S 2233 = some mb) (hrp : R S 2234 = some rp) (hB : BY W mb M l) (hz : (l.length : Int) = z) (hmo : mb + 1 < S ∨ S + 294 ≤ mb) (hBr : BY W rp 300 l2) (hro : rp + 1 < S ∨ S + 294 ≤ rp) (hmr : mb ≠ rp) (hroom : l2.length = 7) (hw : sE (lg l) z 11 = z - 5) (hz5 : 12 ≤ z) (hi : 0 ≤ i ∧ i < 96) (hk : qFid P s c (nu (lg l) 7 4) = 96 * s + i) (hu : ¬ P 2304 (96 * s + i) = 0) : CL fb (d + 4) 64 [vR (some S), vR (some (S + 198 + i.toNat))] σ (XS σ0 K W R S rp s (crE P s c (lg l) z) (if crE P s c (lg l) z = 0 then crP P s c (lg l) z else P) (l2 ++ (qidL (crP P s c (lg l) z) s (qNew P s) ++ leb 4 0))) := by
  have hO := hS.o
  have hsr := hS.1
  have hrg := hS.rng
  have hbo := hB.1
  have hro1 := hBr.1
  have hrlt := hBr.lt
  have hrp0 := (tX_o hro1).1
  have hm0 := (tX_o hbo).1
  have hb := hB.2.2.2.2.2.1
  have hlz := hB.2.2.2.2.1
  have hn1 := hB.2.2.1
  have hfo := hS.fd hi
  have hR := TRX_of hX.1 hG hsr
  have h00 : qUp P s 0 = 0 := by
    unfold qUp
    split
    · rw [Int.add_zero]
      exact (hG.2.1.1 s hsr.1 (by omega)).2.1
    · rfl
  have hUs : UNq P s := by
    by_cases q : s < 2
    · exact hD.1 s hsr.1 q
    · have e : s = 2 := by omega
      rw [e]
      exact hU2
  obtain ⟨f1, f2, f3, f4, f5, f6, f7, f8⟩ := (hX.2.1 i hi.1 hi.2).2.1 hu
  have hg := sE_ge (a := lg l) (z := z) (p := 11) (by rw [hw]; omega)
  rw [hw] at hg
  obtain ⟨en, hen⟩ : ∃ en, z - 5 = en := ⟨_, rfl⟩
  rw [hen] at hw hg
  have hnu := (nu_rng (f := lg l) (i := 11) 2 (fun j _ => hb _ (by omega))).1
  obtain ⟨p, hp⟩ : ∃ p, nu (lg l) en 4 = p := ⟨_, rfl⟩
  have hpr := nu_rng (f := lg l) (i := en) 4 (fun j _ => hb _ (by omega))
  rw [hp] at hpr
  have hpr2 : p < 4294967296 := hpr.2
  obtain ⟨m, hm⟩ : ∃ m, lg l (en + 4) = m := ⟨_, rfl⟩
  have hmr2 := hb (en + 4) (by omega)
  rw [hm] at hmr2
  have hmN : nu (lg l) (en + 4) 1 = m := (lg_one (by omega) hb).trans hm
  obtain ⟨nm, hnm⟩ : ∃ nm, seg (lg l) 13 (nu (lg l) 11 2).toNat = nm := ⟨_, rfl⟩
  have hbn := byt_seg (f := lg l) (o := 13) (n := (nu (lg l) 11 2).toNat) (fun k k0 k1 => hb _ (by omega))
  rw [hnm] at hbn
  have hseg : seg (lg l) 13 (en - 13).toNat = nm := by rw [show en - 13 = nu (lg l) 11 2 by omega]; exact hnm
  have h1 := x_stringEnd (fb := fb) (d := d + 3) (s := 11) hP hB hz ⟨by decide, by decide⟩
  rw [hw] at h1
  have h2 := x_isName (fb := fb) (d := d + 3) (s := 13) (e := en) hP hB hz (by decide) ⟨by omega, by omega⟩
  rw [hseg, ifc (show (0 ≤ (13 : Int) ∧ en ≤ z) ∧ nmOk nm = true ↔ nmOk nm = true from ⟨fun c => c.2, fun c => ⟨⟨by decide, by omega⟩, c⟩⟩)] at h2
  have h3 := x_num (fb := fb) (d := d + 3) (s := en) (k := 4) 4 hP hB hz rfl (by decide) (by omega) (by omega) hp
  have h4 := x_at (fb := fb) (d := d + 3) (i := en + 4) hP hB
  rw [if_pos (by omega), hm] at h4
  have h5 := x_permRefusal (fb := fb) (d := d + 3) (σ := σ) (p := p) (m := m) ⟨hpr.1, hpr2⟩
  obtain ⟨md, hmd⟩ : ∃ y, P 2309 (96 * s + i) = y := ⟨_, rfl⟩
  obtain ⟨gn, hgn⟩ : ∃ y, P 2310 (96 * s + i) = y := ⟨_, rfl⟩
  obtain ⟨u, hu0⟩ : ∃ y, P 2308 (96 * s + i) = y := ⟨_, rfl⟩
  obtain ⟨nd, hnd⟩ : ∃ nd, P 2306 (96 * s + i) = nd := ⟨_, rfl⟩
  obtain ⟨num, hnum⟩ : ∃ nd, P 2305 (96 * s + i) = nd := ⟨_, rfl⟩
  have hu3 := (fid_node hG hsr (k := 96 * s + i) (by omega)).2
  have eE0 : crE P s c (lg l) z = qCre P s (96 * s + i) p m nm := by
    unfold crE
    rw [hw, hp, hmN, hnm, hk, if_neg (fun c => c ⟨by omega, by omega⟩)]
  have eP : crP P s c (lg l) z = gCre P s (96 * s + i) p m nd (qNew P s) u nm := by
    unfold crP
    rw [hw, hp, hmN, hnm, hk, hnd, hu0]
  have hno0 : ∀ e0 : Int, ¬ e0 = 0 → crE P s c (lg l) z = e0 → XS σ0 K W R S rp s (crE P s c (lg l) z) (if crE P s c (lg l) z = 0 then crP P s c (lg l) z else P) (l2 ++ (qidL (crP P s c (lg l) z) s (qNew P s) ++ leb 4 0)) (some (vI e0)) σ := fun e0 q1 q2 => by
    rw [q2, if_neg q1]
    exact ⟨rfl, W, R, ord, t, l2, hP, hBr, fun c => absurd c q1, hX, hK, FV_rfl⟩
  have hmo2 : W (S + 198 + i.toNat) 2293 = if md < 0 then -1 else and32 md 3 := by rw [f4, hmd]; rfl
  rw [hgn, hnd] at f8
  rw [hu0] at f2 hu3
  rw [hnum] at f1
  have hlv := fun q => hD.live hG hsr hi hu (hgn.trans q)
  rw [hnd] at hlv
  have hcnt := hX.1.1.2.2.1
  obtain ⟨C, hC⟩ : ∃ C : Int, (ord.length : Int) = C := ⟨_, rfl⟩
  rw [hC] at hcnt
  have hC64 : 0 ≤ C ∧ C ≤ 64 := by have := hX.1.1.2.1; omega
  have hshw : W S 2225 = if s < 2 then 0 else 1 := hX.2.2.1.2.2.1
  obtain ⟨fa, hfa⟩ : ∃ fa, S + 198 + i.toNat = fa := ⟨_, rfl⟩
  rw [hfa] at f1 f2 f8 hfo hmo2 ⊢
  by_cases q8 : 0 ≤ md
  · have eE : crE P s c (lg l) z = 8 := by
      rw [eE0]
      unfold qCre
      rw [hmd, if_neg (by omega), if_pos q8]
    rw [if_neg (by omega)] at hmo2
    have hne : ¬ and32 md 3 = -1 := by
      have := and3_rng (x := md)
      omega
    obtain ⟨mv, hmv⟩ : ∃ mv, and32 md 3 = mv := ⟨_, rfl⟩
    rw [hmv] at hmo2 hne
    have hno0 := hno0 8 (by decide) eE
    refine CL_in mL_64 rfl ?_
    show WP fb _ 64 0 [some (vR (some S)), some (vR (some fa)), none, none, none, none, none, none, none] [] σ _
    refine x_lr (z := some fa) T_64_0 rfl ?_
    refine x_gI (z := mv) T_64_1 (Or.inl F_9_5) (hP.o hfo) (Eq.trans (hP.gi hfo (key := 2293) rfl) hmo2) ?_
    refine x_ic T_64_4 ?_
    refine x_ic2 T_64_5 (fun h => absurd (show mv = (-1) from h) (by omega)) (fun _ => ?_)
    refine x_ic T_64_8 ?_
    refine x_ri T_64_10 ?_
    exact hno0
  rw [if_pos (by omega)] at hmo2
  by_cases q1 : gn = 0
  rotate_left
  · have eE : crE P s c (lg l) z = 1 := by
      rw [eE0]
      unfold qCre
      rw [hmd, hgn, if_neg (by omega), if_neg q8, if_pos q1]
    rw [if_neg q1] at f8
    have hno0 := hno0 1 (by decide) eE
    refine CL_in mL_64 rfl ?_
    show WP fb _ 64 0 [some (vR (some S)), some (vR (some fa)), none, none, none, none, none, none, none] [] σ _
    refine x_lr (z := some fa) T_64_0 rfl ?_
    refine x_gI (z := (-1)) T_64_1 (Or.inl F_9_5) (hP.o hfo) (Eq.trans (hP.gi hfo (key := 2293) rfl) hmo2) ?_
    refine x_ic T_64_4 ?_
    refine x_ic2 T_64_5 (fun _ => ?_) (fun h => absurd (show ((-1) : Int) = (-1) by decide) h)
    refine x_lr (z := some fa) T_64_11 rfl ?_
    refine x_gR (z := none) T_64_12 F_9_3 (hP.o hfo) (Eq.trans (hP.rm hfo rfl (key := 2291) rfl) f8) ?_
    refine x_sr (ls1 := [some (vR (some S)), some (vR (some fa)), some (vR none), none, none, none, none, none, none]) T_64_15 rfl ?_
    refine x_lr (z := none) T_64_16 rfl ?_
    refine x_nnul T_64_17 (fun a0 h0 => absurd h0 (by simp)) (fun _ => ?_)
    refine x_ic T_64_20 ?_
    refine x_ri T_64_21 ?_
    exact hno0
  rw [if_pos q1] at f8
  have eE := eE0.trans (qCre_if (P := P) (s := s) (p := p) (m := m) (nm := nm) (k := 96 * s + i) (by omega) (by omega) (hgn.trans q1))
  rw [hnd, hu0] at eE
  have hlv := hlv q1
  obtain ⟨b, ix, hb2, hix, hbix, hlx, htx, hN⟩ := hX.fnode hlv
  rw [hb2] at f8
  have hbno : tX b = some (Sum.inl 8) := hN.1
  have hdi := x_isDirectory (fb := fb) (d := d + 3) hP hbno hN.2.1.1 hN.2.1.2
  by_cases qd : qMode P s nd < 0
  rotate_left
  · rw [if_pos qd] at eE
    rw [if_neg qd] at hdi
    have hno0 := hno0 2 (by decide) eE
    refine CL_in mL_64 rfl ?_
    show WP fb _ 64 0 [some (vR (some S)), some (vR (some fa)), none, none, none, none, none, none, none] [] σ _
    refine x_lr (z := some fa) T_64_0 rfl ?_
    refine x_gI (z := (-1)) T_64_1 (Or.inl F_9_5) (hP.o hfo) (Eq.trans (hP.gi hfo (key := 2293) rfl) hmo2) ?_
    refine x_ic T_64_4 ?_
    refine x_ic2 T_64_5 (fun _ => ?_) (fun h => absurd (show ((-1) : Int) = (-1) by decide) h)
    refine x_lr (z := some fa) T_64_11 rfl ?_
    refine x_gR (z := some b) T_64_12 F_9_3 (hP.o hfo) (Eq.trans (hP.rm hfo rfl (key := 2291) rfl) f8) ?_
    refine x_sr (ls1 := [some (vR (some S)), some (vR (some fa)), some (vR (some b)), none, none, none, none, none, none]) T_64_15 rfl ?_
    refine x_lr (z := some b) T_64_16 rfl ?_
    refine x_nnul T_64_17 (fun _ _ => ?_) (fun h0 => absurd h0 (by simp))
    refine x_lr (z := some b) T_64_22 rfl ?_
    refine x_cv1 T_64_23 mN_55 mL_55 (Nat.le_of_ble_eq_true rfl) mO_55 (hP.o hbno) (Nat.le_of_ble_eq_true rfl) (hdi) ?_
    rintro _ σ ⟨rfl, rfl⟩
    refine cI ?_
    refine x_if T_64_26 (fun h => absurd (show ¬ (0 : Int) = 0 from h) (by decide)) (fun _ => ?_)
    refine x_ic T_64_29 ?_
    refine x_ri T_64_30 ?_
    exact hno0
  rw [if_neg (fun c => c qd)] at eE
  rw [if_pos qd] at hdi
  by_cases qs : s < 2
  rotate_left
  · rw [if_pos (by omega)] at eE
    rw [if_neg qs] at hshw
    have hno0 := hno0 3 (by decide) eE
    refine CL_in mL_64 rfl ?_
    show WP fb _ 64 0 [some (vR (some S)), some (vR (some fa)), none, none, none, none, none, none, none] [] σ _
    refine x_lr (z := some fa) T_64_0 rfl ?_
    refine x_gI (z := (-1)) T_64_1 (Or.inl F_9_5) (hP.o hfo) (Eq.trans (hP.gi hfo (key := 2293) rfl) hmo2) ?_
    refine x_ic T_64_4 ?_
    refine x_ic2 T_64_5 (fun _ => ?_) (fun h => absurd (show ((-1) : Int) = (-1) by decide) h)
    refine x_lr (z := some fa) T_64_11 rfl ?_
    refine x_gR (z := some b) T_64_12 F_9_3 (hP.o hfo) (Eq.trans (hP.rm hfo rfl (key := 2291) rfl) f8) ?_
    refine x_sr (ls1 := [some (vR (some S)), some (vR (some fa)), some (vR (some b)), none, none, none, none, none, none]) T_64_15 rfl ?_
    refine x_lr (z := some b) T_64_16 rfl ?_
    refine x_nnul T_64_17 (fun _ _ => ?_) (fun h0 => absurd h0 (by simp))
    refine x_lr (z := some b) T_64_22 rfl ?_
    refine x_cv1 T_64_23 mN_55 mL_55 (Nat.le_of_ble_eq_true rfl) mO_55 (hP.o hbno) (Nat.le_of_ble_eq_true rfl) (hdi) ?_
    rintro _ σ ⟨rfl, rfl⟩
    refine cI ?_
    refine x_if T_64_26 (fun _ => ?_) (fun h => absurd (show ¬ (1 : Int) = 0 by decide) h)
    refine x_lr (z := some S) T_64_31 rfl ?_
    refine x_gR (z := some mb) T_64_32 F_7_9 (hP.o hO) (Eq.trans (hP.rm hO rfl (key := 2233) rfl) hr) ?_
    refine x_ic T_64_35 ?_
    refine x_cv2 T_64_37 mN_36 mL_36 (Nat.le_of_ble_eq_true rfl) mO_36 (hP.o hbo) (Nat.le_of_ble_eq_true rfl) (h1) ?_
    rintro _ σ ⟨rfl, rfl⟩
    refine cI ?_
    refine x_si (ls1 := [some (vR (some S)), some (vR (some fa)), some (vR (some b)), some (vI en), none, none, none, none, none]) T_64_40 rfl ?_
    refine x_lr (z := some S) T_64_41 rfl ?_
    refine x_gI (z := 1) T_64_42 (Or.inr (Or.inl F_7_1)) (hP.o hO) (Eq.trans (hP.gi hO (key := 2225) rfl) hshw) ?_
    refine x_if T_64_45 (fun h => absurd (show (1 : Int) = 0 from h) (by decide)) (fun _ => ?_)
    refine x_ic T_64_48 ?_
    refine x_goto T_64_49 ?_
    refine x_si (ls1 := [some (vR (some S)), some (vR (some fa)), some (vR (some b)), some (vI en), some (vI 3), none, none, none, none]) T_64_122 rfl ?_
    refine x_li (z := 3) T_64_124 rfl ?_
    refine x_if T_64_126 (fun _ => ?_) (fun h => absurd (show ¬ (3 : Int) = 0 by decide) h)
    refine x_li (z := 3) T_64_142 rfl ?_
    refine x_if T_64_144 (fun h => absurd (show (3 : Int) = 0 from h) (by decide)) (fun _ => ?_)
    refine x_li (z := 3) T_64_147 rfl ?_
    refine x_ri T_64_149 ?_
    exact hno0
  rw [if_neg (by omega)] at eE
  rw [if_pos qs] at hshw
  by_cases q5 : nmOk nm = true
  rotate_left
  · rw [if_pos q5] at eE
    rw [if_neg q5] at h2
    have hno0 := hno0 5 (by decide) eE
    refine CL_in mL_64 rfl ?_
    show WP fb _ 64 0 [some (vR (some S)), some (vR (some fa)), none, none, none, none, none, none, none] [] σ _
    refine x_lr (z := some fa) T_64_0 rfl ?_
    refine x_gI (z := (-1)) T_64_1 (Or.inl F_9_5) (hP.o hfo) (Eq.trans (hP.gi hfo (key := 2293) rfl) hmo2) ?_
    refine x_ic T_64_4 ?_
    refine x_ic2 T_64_5 (fun _ => ?_) (fun h => absurd (show ((-1) : Int) = (-1) by decide) h)
    refine x_lr (z := some fa) T_64_11 rfl ?_
    refine x_gR (z := some b) T_64_12 F_9_3 (hP.o hfo) (Eq.trans (hP.rm hfo rfl (key := 2291) rfl) f8) ?_
    refine x_sr (ls1 := [some (vR (some S)), some (vR (some fa)), some (vR (some b)), none, none, none, none, none, none]) T_64_15 rfl ?_
    refine x_lr (z := some b) T_64_16 rfl ?_
    refine x_nnul T_64_17 (fun _ _ => ?_) (fun h0 => absurd h0 (by simp))
    refine x_lr (z := some b) T_64_22 rfl ?_
    refine x_cv1 T_64_23 mN_55 mL_55 (Nat.le_of_ble_eq_true rfl) mO_55 (hP.o hbno) (Nat.le_of_ble_eq_true rfl) (hdi) ?_
    rintro _ σ ⟨rfl, rfl⟩
    refine cI ?_
    refine x_if T_64_26 (fun _ => ?_) (fun h => absurd (show ¬ (1 : Int) = 0 by decide) h)
    refine x_lr (z := some S) T_64_31 rfl ?_
    refine x_gR (z := some mb) T_64_32 F_7_9 (hP.o hO) (Eq.trans (hP.rm hO rfl (key := 2233) rfl) hr) ?_
    refine x_ic T_64_35 ?_
    refine x_cv2 T_64_37 mN_36 mL_36 (Nat.le_of_ble_eq_true rfl) mO_36 (hP.o hbo) (Nat.le_of_ble_eq_true rfl) (h1) ?_
    rintro _ σ ⟨rfl, rfl⟩
    refine cI ?_
    refine x_si (ls1 := [some (vR (some S)), some (vR (some fa)), some (vR (some b)), some (vI en), none, none, none, none, none]) T_64_40 rfl ?_
    refine x_lr (z := some S) T_64_41 rfl ?_
    refine x_gI (z := 0) T_64_42 (Or.inr (Or.inl F_7_1)) (hP.o hO) (Eq.trans (hP.gi hO (key := 2225) rfl) hshw) ?_
    refine x_if T_64_45 (fun _ => ?_) (fun h => absurd (show (0 : Int) = 0 by decide) h)
    refine x_lr (z := some S) T_64_52 rfl ?_
    refine x_gR (z := some mb) T_64_53 F_7_9 (hP.o hO) (Eq.trans (hP.rm hO rfl (key := 2233) rfl) hr) ?_
    refine x_ic T_64_56 ?_
    refine x_li (z := en) T_64_58 rfl ?_
    refine x_cv3 T_64_59 mN_65 mL_65 (Nat.le_of_ble_eq_true rfl) mO_65 (hP.o hbo) (Nat.le_of_ble_eq_true rfl) (h2) ?_
    rintro _ σ ⟨rfl, rfl⟩
    refine cI ?_
    refine x_if T_64_62 (fun h => absurd (show ¬ (0 : Int) = 0 from h) (by decide)) (fun _ => ?_)
    refine x_ic T_64_65 ?_
    refine x_goto T_64_66 ?_
    refine x_si (ls1 := [some (vR (some S)), some (vR (some fa)), some (vR (some b)), some (vI en), some (vI 5), none, none, none, none]) T_64_122 rfl ?_
    refine x_li (z := 5) T_64_124 rfl ?_
    refine x_if T_64_126 (fun _ => ?_) (fun h => absurd (show ¬ (5 : Int) = 0 by decide) h)
    refine x_li (z := 5) T_64_142 rfl ?_
    refine x_if T_64_144 (fun h => absurd (show (5 : Int) = 0 from h) (by decide)) (fun _ => ?_)
    refine x_li (z := 5) T_64_147 rfl ?_
    refine x_ri T_64_149 ?_
    exact hno0
  rw [if_neg (fun c => c q5)] at eE
  rw [if_pos q5] at h2
  obtain ⟨nz1, nz2, nz3⟩ := nmOk_no q5
  have hen2 := x_entry (fb := fb) (d := d + 2) (u := 13) (e := en) hP hS hX.1 hR.2.2.1 hr hB ((hX.1.1.1 nd).mpr hlv) hb2 ⟨by decide, by omega, by omega⟩
  obtain ⟨he1, he2⟩ := entry_to (nm := nm) hX.1 hR hUs hG.iv hsr hlv hb2 qd (fun c => by rw [c]; exact h00)
  rw [hseg, he1] at hen2
  have eT : qTo P s nd nm = qFind P s nd nm := if_neg nz1
  rw [eT] at hen2 he2
  by_cases q4 : 0 ≤ qFind P s nd nm
  · rw [if_pos q4] at eE
    rw [if_neg (by omega)] at hen2
    obtain ⟨eb, hebb⟩ : ∃ eb, noA S ord t (qFind P s nd nm) = some eb := by
      unfold noA
      rw [if_pos ((hX.1.1.1 _).mpr (he2 q4))]
      exact ⟨_, rfl⟩
    rw [hebb] at hen2
    have hno0 := hno0 4 (by decide) eE
    refine CL_in mL_64 rfl ?_
    show WP fb _ 64 0 [some (vR (some S)), some (vR (some fa)), none, none, none, none, none, none, none] [] σ _
    refine x_lr (z := some fa) T_64_0 rfl ?_
    refine x_gI (z := (-1)) T_64_1 (Or.inl F_9_5) (hP.o hfo) (Eq.trans (hP.gi hfo (key := 2293) rfl) hmo2) ?_
    refine x_ic T_64_4 ?_
    refine x_ic2 T_64_5 (fun _ => ?_) (fun h => absurd (show ((-1) : Int) = (-1) by decide) h)
    refine x_lr (z := some fa) T_64_11 rfl ?_
    refine x_gR (z := some b) T_64_12 F_9_3 (hP.o hfo) (Eq.trans (hP.rm hfo rfl (key := 2291) rfl) f8) ?_
    refine x_sr (ls1 := [some (vR (some S)), some (vR (some fa)), some (vR (some b)), none, none, none, none, none, none]) T_64_15 rfl ?_
    refine x_lr (z := some b) T_64_16 rfl ?_
    refine x_nnul T_64_17 (fun _ _ => ?_) (fun h0 => absurd h0 (by simp))
    refine x_lr (z := some b) T_64_22 rfl ?_
    refine x_cv1 T_64_23 mN_55 mL_55 (Nat.le_of_ble_eq_true rfl) mO_55 (hP.o hbno) (Nat.le_of_ble_eq_true rfl) (hdi) ?_
    rintro _ σ ⟨rfl, rfl⟩
    refine cI ?_
    refine x_if T_64_26 (fun _ => ?_) (fun h => absurd (show ¬ (1 : Int) = 0 by decide) h)
    refine x_lr (z := some S) T_64_31 rfl ?_
    refine x_gR (z := some mb) T_64_32 F_7_9 (hP.o hO) (Eq.trans (hP.rm hO rfl (key := 2233) rfl) hr) ?_
    refine x_ic T_64_35 ?_
    refine x_cv2 T_64_37 mN_36 mL_36 (Nat.le_of_ble_eq_true rfl) mO_36 (hP.o hbo) (Nat.le_of_ble_eq_true rfl) (h1) ?_
    rintro _ σ ⟨rfl, rfl⟩
    refine cI ?_
    refine x_si (ls1 := [some (vR (some S)), some (vR (some fa)), some (vR (some b)), some (vI en), none, none, none, none, none]) T_64_40 rfl ?_
    refine x_lr (z := some S) T_64_41 rfl ?_
    refine x_gI (z := 0) T_64_42 (Or.inr (Or.inl F_7_1)) (hP.o hO) (Eq.trans (hP.gi hO (key := 2225) rfl) hshw) ?_
    refine x_if T_64_45 (fun _ => ?_) (fun h => absurd (show (0 : Int) = 0 by decide) h)
    refine x_lr (z := some S) T_64_52 rfl ?_
    refine x_gR (z := some mb) T_64_53 F_7_9 (hP.o hO) (Eq.trans (hP.rm hO rfl (key := 2233) rfl) hr) ?_
    refine x_ic T_64_56 ?_
    refine x_li (z := en) T_64_58 rfl ?_
    refine x_cv3 T_64_59 mN_65 mL_65 (Nat.le_of_ble_eq_true rfl) mO_65 (hP.o hbo) (Nat.le_of_ble_eq_true rfl) (h2) ?_
    rintro _ σ ⟨rfl, rfl⟩
    refine cI ?_
    refine x_if T_64_62 (fun _ => ?_) (fun h => absurd (show ¬ (1 : Int) = 0 by decide) h)
    refine x_lr (z := some S) T_64_69 rfl ?_
    refine x_lr (z := some b) T_64_70 rfl ?_
    refine x_ic T_64_71 ?_
    refine x_li (z := en) T_64_73 rfl ?_
    refine x_cv4 T_64_74 mN_56 mL_56 (Nat.le_of_ble_eq_true rfl) mO_56 (hP.o hO) (Nat.le_of_ble_eq_true rfl) (hen2) ?_
    rintro _ σ ⟨rfl, rfl⟩
    refine cR ?_
    refine x_nul T_64_77 (fun h0 => absurd h0 (by simp)) (fun _ _ => ?_)
    refine x_ic T_64_80 ?_
    refine x_goto T_64_81 ?_
    refine x_si (ls1 := [some (vR (some S)), some (vR (some fa)), some (vR (some b)), some (vI en), some (vI 4), none, none, none, none]) T_64_122 rfl ?_
    refine x_li (z := 4) T_64_124 rfl ?_
    refine x_if T_64_126 (fun _ => ?_) (fun h => absurd (show ¬ (4 : Int) = 0 by decide) h)
    refine x_li (z := 4) T_64_142 rfl ?_
    refine x_if T_64_144 (fun h => absurd (show (4 : Int) = 0 from h) (by decide)) (fun _ => ?_)
    refine x_li (z := 4) T_64_147 rfl ?_
    refine x_ri T_64_149 ?_
    exact hno0
  rw [if_neg q4] at eE
  rw [if_pos (by omega)] at hen2
  have hlt := x_lets (fb := fb) (d := d + 3) (u := u) (w := 2) hP hbno hN.2.1.1 hN.2.2.2.2.1.1 hN.2.2.2.2.2.1.1 hN.2.1.2
  rw [mv2] at hlt
  have emv : qMv P s nd u 2 = and32 (ltB (qMode P s nd) (qUid P s nd) (qGid P s nd) u) 2 := rfl
  rw [← emv] at hlt
  by_cases q3 : qMv P s nd u 2 = 0
  · rw [if_pos q3] at eE hlt
    have hno0 := hno0 3 (by decide) eE
    refine CL_in mL_64 rfl ?_
    show WP fb _ 64 0 [some (vR (some S)), some (vR (some fa)), none, none, none, none, none, none, none] [] σ _
    refine x_lr (z := some fa) T_64_0 rfl ?_
    refine x_gI (z := (-1)) T_64_1 (Or.inl F_9_5) (hP.o hfo) (Eq.trans (hP.gi hfo (key := 2293) rfl) hmo2) ?_
    refine x_ic T_64_4 ?_
    refine x_ic2 T_64_5 (fun _ => ?_) (fun h => absurd (show ((-1) : Int) = (-1) by decide) h)
    refine x_lr (z := some fa) T_64_11 rfl ?_
    refine x_gR (z := some b) T_64_12 F_9_3 (hP.o hfo) (Eq.trans (hP.rm hfo rfl (key := 2291) rfl) f8) ?_
    refine x_sr (ls1 := [some (vR (some S)), some (vR (some fa)), some (vR (some b)), none, none, none, none, none, none]) T_64_15 rfl ?_
    refine x_lr (z := some b) T_64_16 rfl ?_
    refine x_nnul T_64_17 (fun _ _ => ?_) (fun h0 => absurd h0 (by simp))
    refine x_lr (z := some b) T_64_22 rfl ?_
    refine x_cv1 T_64_23 mN_55 mL_55 (Nat.le_of_ble_eq_true rfl) mO_55 (hP.o hbno) (Nat.le_of_ble_eq_true rfl) (hdi) ?_
    rintro _ σ ⟨rfl, rfl⟩
    refine cI ?_
    refine x_if T_64_26 (fun _ => ?_) (fun h => absurd (show ¬ (1 : Int) = 0 by decide) h)
    refine x_lr (z := some S) T_64_31 rfl ?_
    refine x_gR (z := some mb) T_64_32 F_7_9 (hP.o hO) (Eq.trans (hP.rm hO rfl (key := 2233) rfl) hr) ?_
    refine x_ic T_64_35 ?_
    refine x_cv2 T_64_37 mN_36 mL_36 (Nat.le_of_ble_eq_true rfl) mO_36 (hP.o hbo) (Nat.le_of_ble_eq_true rfl) (h1) ?_
    rintro _ σ ⟨rfl, rfl⟩
    refine cI ?_
    refine x_si (ls1 := [some (vR (some S)), some (vR (some fa)), some (vR (some b)), some (vI en), none, none, none, none, none]) T_64_40 rfl ?_
    refine x_lr (z := some S) T_64_41 rfl ?_
    refine x_gI (z := 0) T_64_42 (Or.inr (Or.inl F_7_1)) (hP.o hO) (Eq.trans (hP.gi hO (key := 2225) rfl) hshw) ?_
    refine x_if T_64_45 (fun _ => ?_) (fun h => absurd (show (0 : Int) = 0 by decide) h)
    refine x_lr (z := some S) T_64_52 rfl ?_
    refine x_gR (z := some mb) T_64_53 F_7_9 (hP.o hO) (Eq.trans (hP.rm hO rfl (key := 2233) rfl) hr) ?_
    refine x_ic T_64_56 ?_
    refine x_li (z := en) T_64_58 rfl ?_
    refine x_cv3 T_64_59 mN_65 mL_65 (Nat.le_of_ble_eq_true rfl) mO_65 (hP.o hbo) (Nat.le_of_ble_eq_true rfl) (h2) ?_
    rintro _ σ ⟨rfl, rfl⟩
    refine cI ?_
    refine x_if T_64_62 (fun _ => ?_) (fun h => absurd (show ¬ (1 : Int) = 0 by decide) h)
    refine x_lr (z := some S) T_64_69 rfl ?_
    refine x_lr (z := some b) T_64_70 rfl ?_
    refine x_ic T_64_71 ?_
    refine x_li (z := en) T_64_73 rfl ?_
    refine x_cv4 T_64_74 mN_56 mL_56 (Nat.le_of_ble_eq_true rfl) mO_56 (hP.o hO) (Nat.le_of_ble_eq_true rfl) (hen2) ?_
    rintro _ σ ⟨rfl, rfl⟩
    refine cR ?_
    refine x_nul T_64_77 (fun _ => ?_) (fun a0 h0 => absurd h0 (by simp))
    refine x_lr (z := some b) T_64_84 rfl ?_
    refine x_lr (z := some fa) T_64_85 rfl ?_
    refine x_gI (z := u) T_64_86 (Or.inl F_9_2) (hP.o hfo) (Eq.trans (hP.gi hfo (key := 2290) rfl) f2) ?_
    refine x_ic T_64_89 ?_
    refine x_cv3 T_64_90 mN_43 mL_43 (Nat.le_of_ble_eq_true rfl) mO_43 (hP.o hbno) (Nat.le_of_ble_eq_true rfl) (hlt) ?_
    rintro _ σ ⟨rfl, rfl⟩
    refine cI ?_
    refine x_if T_64_93 (fun h => absurd (show ¬ (0 : Int) = 0 from h) (by decide)) (fun _ => ?_)
    refine x_ic T_64_96 ?_
    refine x_goto T_64_97 ?_
    refine x_si (ls1 := [some (vR (some S)), some (vR (some fa)), some (vR (some b)), some (vI en), some (vI 3), none, none, none, none]) T_64_122 rfl ?_
    refine x_li (z := 3) T_64_124 rfl ?_
    refine x_if T_64_126 (fun _ => ?_) (fun h => absurd (show ¬ (3 : Int) = 0 by decide) h)
    refine x_li (z := 3) T_64_142 rfl ?_
    refine x_if T_64_144 (fun h => absurd (show (3 : Int) = 0 from h) (by decide)) (fun _ => ?_)
    refine x_li (z := 3) T_64_147 rfl ?_
    refine x_ri T_64_149 ?_
    exact hno0
  rw [if_neg q3] at eE hlt
  have hpre : prmR p m = 0 ∨ ¬ prmR p m = 0 := Decidable.em _
  have hprm3 : prmR p m = 0 → and32 m (-65) ≤ 3 := fun c => by
    apply Decidable.byContradiction
    intro c2
    unfold prmR at c
    rw [if_pos (Or.inr (by omega))] at c
    omega
  obtain ⟨pr, hprm⟩ : ∃ pr, prmR p m = pr := ⟨_, rfl⟩
  rw [hprm] at h5 eE hpre hprm3
  rcases hpre with qp | qp
  rotate_left
  · rw [if_pos qp] at eE
    have hno0 := hno0 pr qp eE
    refine CL_in mL_64 rfl ?_
    show WP fb _ 64 0 [some (vR (some S)), some (vR (some fa)), none, none, none, none, none, none, none] [] σ _
    refine x_lr (z := some fa) T_64_0 rfl ?_
    refine x_gI (z := (-1)) T_64_1 (Or.inl F_9_5) (hP.o hfo) (Eq.trans (hP.gi hfo (key := 2293) rfl) hmo2) ?_
    refine x_ic T_64_4 ?_
    refine x_ic2 T_64_5 (fun _ => ?_) (fun h => absurd (show ((-1) : Int) = (-1) by decide) h)
    refine x_lr (z := some fa) T_64_11 rfl ?_
    refine x_gR (z := some b) T_64_12 F_9_3 (hP.o hfo) (Eq.trans (hP.rm hfo rfl (key := 2291) rfl) f8) ?_
    refine x_sr (ls1 := [some (vR (some S)), some (vR (some fa)), some (vR (some b)), none, none, none, none, none, none]) T_64_15 rfl ?_
    refine x_lr (z := some b) T_64_16 rfl ?_
    refine x_nnul T_64_17 (fun _ _ => ?_) (fun h0 => absurd h0 (by simp))
    refine x_lr (z := some b) T_64_22 rfl ?_
    refine x_cv1 T_64_23 mN_55 mL_55 (Nat.le_of_ble_eq_true rfl) mO_55 (hP.o hbno) (Nat.le_of_ble_eq_true rfl) (hdi) ?_
    rintro _ σ ⟨rfl, rfl⟩
    refine cI ?_
    refine x_if T_64_26 (fun _ => ?_) (fun h => absurd (show ¬ (1 : Int) = 0 by decide) h)
    refine x_lr (z := some S) T_64_31 rfl ?_
    refine x_gR (z := some mb) T_64_32 F_7_9 (hP.o hO) (Eq.trans (hP.rm hO rfl (key := 2233) rfl) hr) ?_
    refine x_ic T_64_35 ?_
    refine x_cv2 T_64_37 mN_36 mL_36 (Nat.le_of_ble_eq_true rfl) mO_36 (hP.o hbo) (Nat.le_of_ble_eq_true rfl) (h1) ?_
    rintro _ σ ⟨rfl, rfl⟩
    refine cI ?_
    refine x_si (ls1 := [some (vR (some S)), some (vR (some fa)), some (vR (some b)), some (vI en), none, none, none, none, none]) T_64_40 rfl ?_
    refine x_lr (z := some S) T_64_41 rfl ?_
    refine x_gI (z := 0) T_64_42 (Or.inr (Or.inl F_7_1)) (hP.o hO) (Eq.trans (hP.gi hO (key := 2225) rfl) hshw) ?_
    refine x_if T_64_45 (fun _ => ?_) (fun h => absurd (show (0 : Int) = 0 by decide) h)
    refine x_lr (z := some S) T_64_52 rfl ?_
    refine x_gR (z := some mb) T_64_53 F_7_9 (hP.o hO) (Eq.trans (hP.rm hO rfl (key := 2233) rfl) hr) ?_
    refine x_ic T_64_56 ?_
    refine x_li (z := en) T_64_58 rfl ?_
    refine x_cv3 T_64_59 mN_65 mL_65 (Nat.le_of_ble_eq_true rfl) mO_65 (hP.o hbo) (Nat.le_of_ble_eq_true rfl) (h2) ?_
    rintro _ σ ⟨rfl, rfl⟩
    refine cI ?_
    refine x_if T_64_62 (fun _ => ?_) (fun h => absurd (show ¬ (1 : Int) = 0 by decide) h)
    refine x_lr (z := some S) T_64_69 rfl ?_
    refine x_lr (z := some b) T_64_70 rfl ?_
    refine x_ic T_64_71 ?_
    refine x_li (z := en) T_64_73 rfl ?_
    refine x_cv4 T_64_74 mN_56 mL_56 (Nat.le_of_ble_eq_true rfl) mO_56 (hP.o hO) (Nat.le_of_ble_eq_true rfl) (hen2) ?_
    rintro _ σ ⟨rfl, rfl⟩
    refine cR ?_
    refine x_nul T_64_77 (fun _ => ?_) (fun a0 h0 => absurd h0 (by simp))
    refine x_lr (z := some b) T_64_84 rfl ?_
    refine x_lr (z := some fa) T_64_85 rfl ?_
    refine x_gI (z := u) T_64_86 (Or.inl F_9_2) (hP.o hfo) (Eq.trans (hP.gi hfo (key := 2290) rfl) f2) ?_
    refine x_ic T_64_89 ?_
    refine x_cv3 T_64_90 mN_43 mL_43 (Nat.le_of_ble_eq_true rfl) mO_43 (hP.o hbno) (Nat.le_of_ble_eq_true rfl) (hlt) ?_
    rintro _ σ ⟨rfl, rfl⟩
    refine cI ?_
    refine x_if T_64_93 (fun _ => ?_) (fun h => absurd (show ¬ (1 : Int) = 0 by decide) h)
    refine x_lr (z := some S) T_64_100 rfl ?_
    refine x_gR (z := some mb) T_64_101 F_7_9 (hP.o hO) (Eq.trans (hP.rm hO rfl (key := 2233) rfl) hr) ?_
    refine x_li (z := en) T_64_104 rfl ?_
    refine x_ic T_64_105 ?_
    refine x_cv3 T_64_106 mN_29 mL_29 (Nat.le_of_ble_eq_true rfl) mO_29 (hP.o hbo) (Nat.le_of_ble_eq_true rfl) (h3) ?_
    rintro _ σ ⟨rfl, rfl⟩
    refine cL ?_
    refine x_lr (z := some S) T_64_109 rfl ?_
    refine x_gR (z := some mb) T_64_110 F_7_9 (hP.o hO) (Eq.trans (hP.rm hO rfl (key := 2233) rfl) hr) ?_
    refine x_li (z := en) T_64_113 rfl ?_
    refine x_ic T_64_114 ?_
    refine x_ib (w := (en + 4)) T_64_115 (fun h => absurd h.1 (by decide)) (w32_id (by omega) (by omega)) ?_
    refine x_cv2 T_64_116 mN_33 mL_33 (Nat.le_of_ble_eq_true rfl) mO_33 (hP.o hbo) (Nat.le_of_ble_eq_true rfl) (h4) ?_
    rintro _ σ ⟨rfl, rfl⟩
    refine cI ?_
    refine x_cs2 T_64_119 mN_66 mL_66 (Nat.le_of_ble_eq_true rfl) mK_66 (Nat.le_of_ble_eq_true rfl) (h5) ?_
    rintro _ σ ⟨rfl, rfl⟩
    refine cI ?_
    refine x_si (ls1 := [some (vR (some S)), some (vR (some fa)), some (vR (some b)), some (vI en), some (vI pr), none, none, none, none]) T_64_122 rfl ?_
    refine x_li (z := pr) T_64_124 rfl ?_
    refine x_if T_64_126 (fun _ => ?_) (fun h => absurd (show ¬ pr = 0 by omega) h)
    refine x_li (z := pr) T_64_142 rfl ?_
    refine x_if T_64_144 (fun h => absurd (show pr = 0 from h) (by omega)) (fun _ => ?_)
    refine x_li (z := pr) T_64_147 rfl ?_
    refine x_ri T_64_149 ?_
    exact hno0
  subst qp
  rw [if_neg (fun c => c rfl)] at eE
  have hprm3 := hprm3 rfl
  have hcount := (hX.1.count hG.1.1.2 hG.iv ⟨hsr.1, qs⟩).trans hC
  rw [hcount] at eE
  by_cases qC : C = 64
  · rw [if_pos qC] at eE
    have hno0 := hno0 12 (by decide) eE
    refine CL_in mL_64 rfl ?_
    show WP fb _ 64 0 [some (vR (some S)), some (vR (some fa)), none, none, none, none, none, none, none] [] σ _
    refine x_lr (z := some fa) T_64_0 rfl ?_
    refine x_gI (z := (-1)) T_64_1 (Or.inl F_9_5) (hP.o hfo) (Eq.trans (hP.gi hfo (key := 2293) rfl) hmo2) ?_
    refine x_ic T_64_4 ?_
    refine x_ic2 T_64_5 (fun _ => ?_) (fun h => absurd (show ((-1) : Int) = (-1) by decide) h)
    refine x_lr (z := some fa) T_64_11 rfl ?_
    refine x_gR (z := some b) T_64_12 F_9_3 (hP.o hfo) (Eq.trans (hP.rm hfo rfl (key := 2291) rfl) f8) ?_
    refine x_sr (ls1 := [some (vR (some S)), some (vR (some fa)), some (vR (some b)), none, none, none, none, none, none]) T_64_15 rfl ?_
    refine x_lr (z := some b) T_64_16 rfl ?_
    refine x_nnul T_64_17 (fun _ _ => ?_) (fun h0 => absurd h0 (by simp))
    refine x_lr (z := some b) T_64_22 rfl ?_
    refine x_cv1 T_64_23 mN_55 mL_55 (Nat.le_of_ble_eq_true rfl) mO_55 (hP.o hbno) (Nat.le_of_ble_eq_true rfl) (hdi) ?_
    rintro _ σ ⟨rfl, rfl⟩
    refine cI ?_
    refine x_if T_64_26 (fun _ => ?_) (fun h => absurd (show ¬ (1 : Int) = 0 by decide) h)
    refine x_lr (z := some S) T_64_31 rfl ?_
    refine x_gR (z := some mb) T_64_32 F_7_9 (hP.o hO) (Eq.trans (hP.rm hO rfl (key := 2233) rfl) hr) ?_
    refine x_ic T_64_35 ?_
    refine x_cv2 T_64_37 mN_36 mL_36 (Nat.le_of_ble_eq_true rfl) mO_36 (hP.o hbo) (Nat.le_of_ble_eq_true rfl) (h1) ?_
    rintro _ σ ⟨rfl, rfl⟩
    refine cI ?_
    refine x_si (ls1 := [some (vR (some S)), some (vR (some fa)), some (vR (some b)), some (vI en), none, none, none, none, none]) T_64_40 rfl ?_
    refine x_lr (z := some S) T_64_41 rfl ?_
    refine x_gI (z := 0) T_64_42 (Or.inr (Or.inl F_7_1)) (hP.o hO) (Eq.trans (hP.gi hO (key := 2225) rfl) hshw) ?_
    refine x_if T_64_45 (fun _ => ?_) (fun h => absurd (show (0 : Int) = 0 by decide) h)
    refine x_lr (z := some S) T_64_52 rfl ?_
    refine x_gR (z := some mb) T_64_53 F_7_9 (hP.o hO) (Eq.trans (hP.rm hO rfl (key := 2233) rfl) hr) ?_
    refine x_ic T_64_56 ?_
    refine x_li (z := en) T_64_58 rfl ?_
    refine x_cv3 T_64_59 mN_65 mL_65 (Nat.le_of_ble_eq_true rfl) mO_65 (hP.o hbo) (Nat.le_of_ble_eq_true rfl) (h2) ?_
    rintro _ σ ⟨rfl, rfl⟩
    refine cI ?_
    refine x_if T_64_62 (fun _ => ?_) (fun h => absurd (show ¬ (1 : Int) = 0 by decide) h)
    refine x_lr (z := some S) T_64_69 rfl ?_
    refine x_lr (z := some b) T_64_70 rfl ?_
    refine x_ic T_64_71 ?_
    refine x_li (z := en) T_64_73 rfl ?_
    refine x_cv4 T_64_74 mN_56 mL_56 (Nat.le_of_ble_eq_true rfl) mO_56 (hP.o hO) (Nat.le_of_ble_eq_true rfl) (hen2) ?_
    rintro _ σ ⟨rfl, rfl⟩
    refine cR ?_
    refine x_nul T_64_77 (fun _ => ?_) (fun a0 h0 => absurd h0 (by simp))
    refine x_lr (z := some b) T_64_84 rfl ?_
    refine x_lr (z := some fa) T_64_85 rfl ?_
    refine x_gI (z := u) T_64_86 (Or.inl F_9_2) (hP.o hfo) (Eq.trans (hP.gi hfo (key := 2290) rfl) f2) ?_
    refine x_ic T_64_89 ?_
    refine x_cv3 T_64_90 mN_43 mL_43 (Nat.le_of_ble_eq_true rfl) mO_43 (hP.o hbno) (Nat.le_of_ble_eq_true rfl) (hlt) ?_
    rintro _ σ ⟨rfl, rfl⟩
    refine cI ?_
    refine x_if T_64_93 (fun _ => ?_) (fun h => absurd (show ¬ (1 : Int) = 0 by decide) h)
    refine x_lr (z := some S) T_64_100 rfl ?_
    refine x_gR (z := some mb) T_64_101 F_7_9 (hP.o hO) (Eq.trans (hP.rm hO rfl (key := 2233) rfl) hr) ?_
    refine x_li (z := en) T_64_104 rfl ?_
    refine x_ic T_64_105 ?_
    refine x_cv3 T_64_106 mN_29 mL_29 (Nat.le_of_ble_eq_true rfl) mO_29 (hP.o hbo) (Nat.le_of_ble_eq_true rfl) (h3) ?_
    rintro _ σ ⟨rfl, rfl⟩
    refine cL ?_
    refine x_lr (z := some S) T_64_109 rfl ?_
    refine x_gR (z := some mb) T_64_110 F_7_9 (hP.o hO) (Eq.trans (hP.rm hO rfl (key := 2233) rfl) hr) ?_
    refine x_li (z := en) T_64_113 rfl ?_
    refine x_ic T_64_114 ?_
    refine x_ib (w := (en + 4)) T_64_115 (fun h => absurd h.1 (by decide)) (w32_id (by omega) (by omega)) ?_
    refine x_cv2 T_64_116 mN_33 mL_33 (Nat.le_of_ble_eq_true rfl) mO_33 (hP.o hbo) (Nat.le_of_ble_eq_true rfl) (h4) ?_
    rintro _ σ ⟨rfl, rfl⟩
    refine cI ?_
    refine x_cs2 T_64_119 mN_66 mL_66 (Nat.le_of_ble_eq_true rfl) mK_66 (Nat.le_of_ble_eq_true rfl) (h5) ?_
    rintro _ σ ⟨rfl, rfl⟩
    refine cI ?_
    refine x_si (ls1 := [some (vR (some S)), some (vR (some fa)), some (vR (some b)), some (vI en), some (vI 0), none, none, none, none]) T_64_122 rfl ?_
    refine x_li (z := 0) T_64_124 rfl ?_
    refine x_if T_64_126 (fun h => absurd (show ¬ (0 : Int) = 0 from h) (by decide)) (fun _ => ?_)
    refine x_lr (z := some S) T_64_129 rfl ?_
    refine x_gI (z := C) T_64_130 (Or.inl F_7_6) (hP.o hO) (Eq.trans (hP.gi hO (key := 2230) rfl) hcnt) ?_
    refine x_ic T_64_133 ?_
    refine x_ic2 T_64_135 (fun h => absurd (show C < 64 from h) (by omega)) (fun _ => ?_)
    refine x_ic T_64_138 ?_
    refine x_si (ls1 := [some (vR (some S)), some (vR (some fa)), some (vR (some b)), some (vI en), some (vI 12), none, none, none, none]) T_64_140 rfl ?_
    refine x_li (z := 12) T_64_142 rfl ?_
    refine x_if T_64_144 (fun h => absurd (show (12 : Int) = 0 from h) (by decide)) (fun _ => ?_)
    refine x_li (z := 12) T_64_147 rfl ?_
    refine x_ri T_64_149 ?_
    exact hno0
  rw [if_neg qC] at eE
  -- the file is made
  rw [eE, if_pos rfl, eP]
  have hnn := qNew_ok hG.1.1 ⟨hsr.1, qs⟩ (hG.2.1.1 s hsr.1 qs).1 (by rw [hcount]; exact qC)
  have hroot : 0 < C := by have := hR.1.1; omega
  obtain ⟨nn, hnn0⟩ : ∃ nn, qNew P s = nn := ⟨_, rfl⟩
  rw [hnn0] at hnn ⊢
  have hdm := hN.2.1
  obtain ⟨y, hy⟩ : ∃ y, qMode P s nd = y := ⟨_, rfl⟩
  rw [hy] at hdm
  obtain ⟨x, hx⟩ : ∃ x, w32 p = x := ⟨_, rfl⟩
  have hcm := creM_eq ⟨hpr.1, hpr2⟩ hx hy
  obtain ⟨md2, hmd2⟩ : ∃ q, creM P s nd p = q := ⟨_, rfl⟩
  have hmdr : -2147483648 ≤ md2 ∧ md2 ≤ 2147483647 := by
    rw [← hmd2, hcm]
    exact or32_rng _ _
  rw [hmd2] at hcm
  have hb1 : 0 ≤ P 2304 (96 * s + i) ∧ P 2304 (96 * s + i) ≤ 1 := IV.a hG.iv 2304 2 288 rfl rfl rfl (by omega) (by omega)
  have eC := gCre_to (P := P) (p := p) (m := m) (nm := nm) (into := nd) (nn := nn) (k := 96 * s + i) (num := num) (u := u) qs (by omega) (by omega) hnum hu0 (hgn.trans q1)
  rw [hmd2] at eC
  rw [eC]
  have h190 := fun (h0 b3 : Int) (hh0 : and32 x (-512) = h0) (hh1 : or32 h0 b3 = md2) (σ : hM) (hP : PX σ0 W R σ) => cre_190 (fb := fb) (d := d) (x4 := some (vI 0)) hP hS hX hK hG hD hT qs hC ⟨hroot, by omega⟩ hi hfa hmr2 hprm3 hr hrp hB hmo (by omega) hm hBr hro hroom hb2 hlv hnn hseg hbn nz3 hu3 f2 f1 hmdr hh0 hh1
  obtain ⟨b0, hb0⟩ : ∃ q, and32 x y = q := ⟨_, rfl⟩
  obtain ⟨b1, hb1⟩ : ∃ q, and32 b0 511 = q := ⟨_, rfl⟩
  obtain ⟨b2, hb2'⟩ : ∃ q, and32 x 73 = q := ⟨_, rfl⟩
  obtain ⟨h0, hh0⟩ : ∃ q, and32 x (-512) = q := ⟨_, rfl⟩
  obtain ⟨b4, hb4⟩ : ∃ q, or32 b1 b2 = q := ⟨_, rfl⟩
  rw [hb0, hb1, hb2', hh0, hb4] at hcm
  have hmdy : W b 2262 = y := hdm.1
  clear hX hK hG hD hU2 hR hB hBr
  by_cases qx : 0 ≤ x
  · rw [if_pos qx] at hcm
    have hgo := fun σ hP => h190 h0 b4 hh0 hcm.symm σ hP
    refine CL_in mL_64 rfl ?_
    show WP fb _ 64 0 [some (vR (some S)), some (vR (some fa)), none, none, none, none, none, none, none] [] σ _
    refine x_lr (z := some fa) T_64_0 rfl ?_
    refine x_gI (z := (-1)) T_64_1 (Or.inl F_9_5) (hP.o hfo) (Eq.trans (hP.gi hfo (key := 2293) rfl) hmo2) ?_
    refine x_ic T_64_4 ?_
    refine x_ic2 T_64_5 (fun _ => ?_) (fun h => absurd (show ((-1) : Int) = (-1) by decide) h)
    refine x_lr (z := some fa) T_64_11 rfl ?_
    refine x_gR (z := some b) T_64_12 F_9_3 (hP.o hfo) (Eq.trans (hP.rm hfo rfl (key := 2291) rfl) f8) ?_
    refine x_sr (ls1 := [some (vR (some S)), some (vR (some fa)), some (vR (some b)), none, none, none, none, none, none]) T_64_15 rfl ?_
    refine x_lr (z := some b) T_64_16 rfl ?_
    refine x_nnul T_64_17 (fun _ _ => ?_) (fun h0 => absurd h0 (by simp))
    refine x_lr (z := some b) T_64_22 rfl ?_
    refine x_cv1 T_64_23 mN_55 mL_55 (Nat.le_of_ble_eq_true rfl) mO_55 (hP.o hbno) (Nat.le_of_ble_eq_true rfl) (hdi) ?_
    rintro _ σ ⟨rfl, rfl⟩
    refine cI ?_
    refine x_if T_64_26 (fun _ => ?_) (fun h => absurd (show ¬ (1 : Int) = 0 by decide) h)
    refine x_lr (z := some S) T_64_31 rfl ?_
    refine x_gR (z := some mb) T_64_32 F_7_9 (hP.o hO) (Eq.trans (hP.rm hO rfl (key := 2233) rfl) hr) ?_
    refine x_ic T_64_35 ?_
    refine x_cv2 T_64_37 mN_36 mL_36 (Nat.le_of_ble_eq_true rfl) mO_36 (hP.o hbo) (Nat.le_of_ble_eq_true rfl) (h1) ?_
    rintro _ σ ⟨rfl, rfl⟩
    refine cI ?_
    refine x_si (ls1 := [some (vR (some S)), some (vR (some fa)), some (vR (some b)), some (vI en), none, none, none, none, none]) T_64_40 rfl ?_
    refine x_lr (z := some S) T_64_41 rfl ?_
    refine x_gI (z := 0) T_64_42 (Or.inr (Or.inl F_7_1)) (hP.o hO) (Eq.trans (hP.gi hO (key := 2225) rfl) hshw) ?_
    refine x_if T_64_45 (fun _ => ?_) (fun h => absurd (show (0 : Int) = 0 by decide) h)
    refine x_lr (z := some S) T_64_52 rfl ?_
    refine x_gR (z := some mb) T_64_53 F_7_9 (hP.o hO) (Eq.trans (hP.rm hO rfl (key := 2233) rfl) hr) ?_
    refine x_ic T_64_56 ?_
    refine x_li (z := en) T_64_58 rfl ?_
    refine x_cv3 T_64_59 mN_65 mL_65 (Nat.le_of_ble_eq_true rfl) mO_65 (hP.o hbo) (Nat.le_of_ble_eq_true rfl) (h2) ?_
    rintro _ σ ⟨rfl, rfl⟩
    refine cI ?_
    refine x_if T_64_62 (fun _ => ?_) (fun h => absurd (show ¬ (1 : Int) = 0 by decide) h)
    refine x_lr (z := some S) T_64_69 rfl ?_
    refine x_lr (z := some b) T_64_70 rfl ?_
    refine x_ic T_64_71 ?_
    refine x_li (z := en) T_64_73 rfl ?_
    refine x_cv4 T_64_74 mN_56 mL_56 (Nat.le_of_ble_eq_true rfl) mO_56 (hP.o hO) (Nat.le_of_ble_eq_true rfl) (hen2) ?_
    rintro _ σ ⟨rfl, rfl⟩
    refine cR ?_
    refine x_nul T_64_77 (fun _ => ?_) (fun a0 h0 => absurd h0 (by simp))
    refine x_lr (z := some b) T_64_84 rfl ?_
    refine x_lr (z := some fa) T_64_85 rfl ?_
    refine x_gI (z := u) T_64_86 (Or.inl F_9_2) (hP.o hfo) (Eq.trans (hP.gi hfo (key := 2290) rfl) f2) ?_
    refine x_ic T_64_89 ?_
    refine x_cv3 T_64_90 mN_43 mL_43 (Nat.le_of_ble_eq_true rfl) mO_43 (hP.o hbno) (Nat.le_of_ble_eq_true rfl) (hlt) ?_
    rintro _ σ ⟨rfl, rfl⟩
    refine cI ?_
    refine x_if T_64_93 (fun _ => ?_) (fun h => absurd (show ¬ (1 : Int) = 0 by decide) h)
    refine x_lr (z := some S) T_64_100 rfl ?_
    refine x_gR (z := some mb) T_64_101 F_7_9 (hP.o hO) (Eq.trans (hP.rm hO rfl (key := 2233) rfl) hr) ?_
    refine x_li (z := en) T_64_104 rfl ?_
    refine x_ic T_64_105 ?_
    refine x_cv3 T_64_106 mN_29 mL_29 (Nat.le_of_ble_eq_true rfl) mO_29 (hP.o hbo) (Nat.le_of_ble_eq_true rfl) (h3) ?_
    rintro _ σ ⟨rfl, rfl⟩
    refine cL ?_
    refine x_lr (z := some S) T_64_109 rfl ?_
    refine x_gR (z := some mb) T_64_110 F_7_9 (hP.o hO) (Eq.trans (hP.rm hO rfl (key := 2233) rfl) hr) ?_
    refine x_li (z := en) T_64_113 rfl ?_
    refine x_ic T_64_114 ?_
    refine x_ib (w := (en + 4)) T_64_115 (fun h => absurd h.1 (by decide)) (w32_id (by omega) (by omega)) ?_
    refine x_cv2 T_64_116 mN_33 mL_33 (Nat.le_of_ble_eq_true rfl) mO_33 (hP.o hbo) (Nat.le_of_ble_eq_true rfl) (h4) ?_
    rintro _ σ ⟨rfl, rfl⟩
    refine cI ?_
    refine x_cs2 T_64_119 mN_66 mL_66 (Nat.le_of_ble_eq_true rfl) mK_66 (Nat.le_of_ble_eq_true rfl) (h5) ?_
    rintro _ σ ⟨rfl, rfl⟩
    refine cI ?_
    refine x_si (ls1 := [some (vR (some S)), some (vR (some fa)), some (vR (some b)), some (vI en), some (vI 0), none, none, none, none]) T_64_122 rfl ?_
    refine x_li (z := 0) T_64_124 rfl ?_
    refine x_if T_64_126 (fun h => absurd (show ¬ (0 : Int) = 0 from h) (by decide)) (fun _ => ?_)
    refine x_lr (z := some S) T_64_129 rfl ?_
    refine x_gI (z := C) T_64_130 (Or.inl F_7_6) (hP.o hO) (Eq.trans (hP.gi hO (key := 2230) rfl) hcnt) ?_
    refine x_ic T_64_133 ?_
    refine x_ic2 T_64_135 (fun _ => ?_) (fun h => absurd (show C < 64 by omega) h)
    refine x_li (z := 0) T_64_142 rfl ?_
    refine x_if T_64_144 (fun _ => ?_) (fun h => absurd (show (0 : Int) = 0 by decide) h)
    refine x_lr (z := some S) T_64_150 rfl ?_
    refine x_gR (z := some mb) T_64_151 F_7_9 (hP.o hO) (Eq.trans (hP.rm hO rfl (key := 2233) rfl) hr) ?_
    refine x_li (z := en) T_64_154 rfl ?_
    refine x_ic T_64_155 ?_
    refine x_cv3 T_64_156 mN_29 mL_29 (Nat.le_of_ble_eq_true rfl) mO_29 (hP.o hbo) (Nat.le_of_ble_eq_true rfl) (h3) ?_
    rintro _ σ ⟨rfl, rfl⟩
    refine cL ?_
    refine x_l2i (w := x) T_64_159 hx ?_
    refine x_si (ls1 := [some (vR (some S)), some (vR (some fa)), some (vR (some b)), some (vI en), some (vI 0), some (vI x), none, none, none]) T_64_160 rfl ?_
    refine x_li (z := x) T_64_162 rfl ?_
    refine x_lr (z := some b) T_64_164 rfl ?_
    refine x_gI (z := y) T_64_165 (Or.inl F_8_6) (hP.o hbno) (Eq.trans (hP.gi hbno (key := 2262) rfl) hmdy) ?_
    refine x_ib (w := b0) T_64_168 (fun h => absurd h.1 (by decide)) hb0 ?_
    refine x_ic T_64_169 ?_
    refine x_ib (w := b1) T_64_172 (fun h => absurd h.1 (by decide)) hb1 ?_
    refine x_si (ls1 := [some (vR (some S)), some (vR (some fa)), some (vR (some b)), some (vI en), some (vI 0), some (vI x), some (vI b1), none, none]) T_64_173 rfl ?_
    refine x_li (z := x) T_64_175 rfl ?_
    refine x_if T_64_177 (fun h => absurd (show x < 0 from h) (by omega)) (fun _ => ?_)
    refine x_li (z := b1) T_64_180 rfl ?_
    refine x_li (z := x) T_64_182 rfl ?_
    refine x_ic T_64_184 ?_
    refine x_ib (w := b2) T_64_186 (fun h => absurd h.1 (by decide)) hb2' ?_
    refine x_ib (w := b4) T_64_187 (fun h => absurd h.1 (by decide)) hb4 ?_
    refine x_si (ls1 := [some (vR (some S)), some (vR (some fa)), some (vR (some b)), some (vI en), some (vI 0), some (vI x), some (vI b4), none, none]) T_64_188 rfl ?_
    exact hgo σ hP
  · rw [if_neg qx] at hcm
    have hgo := fun σ hP => h190 h0 b1 hh0 hcm.symm σ hP
    refine CL_in mL_64 rfl ?_
    show WP fb _ 64 0 [some (vR (some S)), some (vR (some fa)), none, none, none, none, none, none, none] [] σ _
    refine x_lr (z := some fa) T_64_0 rfl ?_
    refine x_gI (z := (-1)) T_64_1 (Or.inl F_9_5) (hP.o hfo) (Eq.trans (hP.gi hfo (key := 2293) rfl) hmo2) ?_
    refine x_ic T_64_4 ?_
    refine x_ic2 T_64_5 (fun _ => ?_) (fun h => absurd (show ((-1) : Int) = (-1) by decide) h)
    refine x_lr (z := some fa) T_64_11 rfl ?_
    refine x_gR (z := some b) T_64_12 F_9_3 (hP.o hfo) (Eq.trans (hP.rm hfo rfl (key := 2291) rfl) f8) ?_
    refine x_sr (ls1 := [some (vR (some S)), some (vR (some fa)), some (vR (some b)), none, none, none, none, none, none]) T_64_15 rfl ?_
    refine x_lr (z := some b) T_64_16 rfl ?_
    refine x_nnul T_64_17 (fun _ _ => ?_) (fun h0 => absurd h0 (by simp))
    refine x_lr (z := some b) T_64_22 rfl ?_
    refine x_cv1 T_64_23 mN_55 mL_55 (Nat.le_of_ble_eq_true rfl) mO_55 (hP.o hbno) (Nat.le_of_ble_eq_true rfl) (hdi) ?_
    rintro _ σ ⟨rfl, rfl⟩
    refine cI ?_
    refine x_if T_64_26 (fun _ => ?_) (fun h => absurd (show ¬ (1 : Int) = 0 by decide) h)
    refine x_lr (z := some S) T_64_31 rfl ?_
    refine x_gR (z := some mb) T_64_32 F_7_9 (hP.o hO) (Eq.trans (hP.rm hO rfl (key := 2233) rfl) hr) ?_
    refine x_ic T_64_35 ?_
    refine x_cv2 T_64_37 mN_36 mL_36 (Nat.le_of_ble_eq_true rfl) mO_36 (hP.o hbo) (Nat.le_of_ble_eq_true rfl) (h1) ?_
    rintro _ σ ⟨rfl, rfl⟩
    refine cI ?_
    refine x_si (ls1 := [some (vR (some S)), some (vR (some fa)), some (vR (some b)), some (vI en), none, none, none, none, none]) T_64_40 rfl ?_
    refine x_lr (z := some S) T_64_41 rfl ?_
    refine x_gI (z := 0) T_64_42 (Or.inr (Or.inl F_7_1)) (hP.o hO) (Eq.trans (hP.gi hO (key := 2225) rfl) hshw) ?_
    refine x_if T_64_45 (fun _ => ?_) (fun h => absurd (show (0 : Int) = 0 by decide) h)
    refine x_lr (z := some S) T_64_52 rfl ?_
    refine x_gR (z := some mb) T_64_53 F_7_9 (hP.o hO) (Eq.trans (hP.rm hO rfl (key := 2233) rfl) hr) ?_
    refine x_ic T_64_56 ?_
    refine x_li (z := en) T_64_58 rfl ?_
    refine x_cv3 T_64_59 mN_65 mL_65 (Nat.le_of_ble_eq_true rfl) mO_65 (hP.o hbo) (Nat.le_of_ble_eq_true rfl) (h2) ?_
    rintro _ σ ⟨rfl, rfl⟩
    refine cI ?_
    refine x_if T_64_62 (fun _ => ?_) (fun h => absurd (show ¬ (1 : Int) = 0 by decide) h)
    refine x_lr (z := some S) T_64_69 rfl ?_
    refine x_lr (z := some b) T_64_70 rfl ?_
    refine x_ic T_64_71 ?_
    refine x_li (z := en) T_64_73 rfl ?_
    refine x_cv4 T_64_74 mN_56 mL_56 (Nat.le_of_ble_eq_true rfl) mO_56 (hP.o hO) (Nat.le_of_ble_eq_true rfl) (hen2) ?_
    rintro _ σ ⟨rfl, rfl⟩
    refine cR ?_
    refine x_nul T_64_77 (fun _ => ?_) (fun a0 h0 => absurd h0 (by simp))
    refine x_lr (z := some b) T_64_84 rfl ?_
    refine x_lr (z := some fa) T_64_85 rfl ?_
    refine x_gI (z := u) T_64_86 (Or.inl F_9_2) (hP.o hfo) (Eq.trans (hP.gi hfo (key := 2290) rfl) f2) ?_
    refine x_ic T_64_89 ?_
    refine x_cv3 T_64_90 mN_43 mL_43 (Nat.le_of_ble_eq_true rfl) mO_43 (hP.o hbno) (Nat.le_of_ble_eq_true rfl) (hlt) ?_
    rintro _ σ ⟨rfl, rfl⟩
    refine cI ?_
    refine x_if T_64_93 (fun _ => ?_) (fun h => absurd (show ¬ (1 : Int) = 0 by decide) h)
    refine x_lr (z := some S) T_64_100 rfl ?_
    refine x_gR (z := some mb) T_64_101 F_7_9 (hP.o hO) (Eq.trans (hP.rm hO rfl (key := 2233) rfl) hr) ?_
    refine x_li (z := en) T_64_104 rfl ?_
    refine x_ic T_64_105 ?_
    refine x_cv3 T_64_106 mN_29 mL_29 (Nat.le_of_ble_eq_true rfl) mO_29 (hP.o hbo) (Nat.le_of_ble_eq_true rfl) (h3) ?_
    rintro _ σ ⟨rfl, rfl⟩
    refine cL ?_
    refine x_lr (z := some S) T_64_109 rfl ?_
    refine x_gR (z := some mb) T_64_110 F_7_9 (hP.o hO) (Eq.trans (hP.rm hO rfl (key := 2233) rfl) hr) ?_
    refine x_li (z := en) T_64_113 rfl ?_
    refine x_ic T_64_114 ?_
    refine x_ib (w := (en + 4)) T_64_115 (fun h => absurd h.1 (by decide)) (w32_id (by omega) (by omega)) ?_
    refine x_cv2 T_64_116 mN_33 mL_33 (Nat.le_of_ble_eq_true rfl) mO_33 (hP.o hbo) (Nat.le_of_ble_eq_true rfl) (h4) ?_
    rintro _ σ ⟨rfl, rfl⟩
    refine cI ?_
    refine x_cs2 T_64_119 mN_66 mL_66 (Nat.le_of_ble_eq_true rfl) mK_66 (Nat.le_of_ble_eq_true rfl) (h5) ?_
    rintro _ σ ⟨rfl, rfl⟩
    refine cI ?_
    refine x_si (ls1 := [some (vR (some S)), some (vR (some fa)), some (vR (some b)), some (vI en), some (vI 0), none, none, none, none]) T_64_122 rfl ?_
    refine x_li (z := 0) T_64_124 rfl ?_
    refine x_if T_64_126 (fun h => absurd (show ¬ (0 : Int) = 0 from h) (by decide)) (fun _ => ?_)
    refine x_lr (z := some S) T_64_129 rfl ?_
    refine x_gI (z := C) T_64_130 (Or.inl F_7_6) (hP.o hO) (Eq.trans (hP.gi hO (key := 2230) rfl) hcnt) ?_
    refine x_ic T_64_133 ?_
    refine x_ic2 T_64_135 (fun _ => ?_) (fun h => absurd (show C < 64 by omega) h)
    refine x_li (z := 0) T_64_142 rfl ?_
    refine x_if T_64_144 (fun _ => ?_) (fun h => absurd (show (0 : Int) = 0 by decide) h)
    refine x_lr (z := some S) T_64_150 rfl ?_
    refine x_gR (z := some mb) T_64_151 F_7_9 (hP.o hO) (Eq.trans (hP.rm hO rfl (key := 2233) rfl) hr) ?_
    refine x_li (z := en) T_64_154 rfl ?_
    refine x_ic T_64_155 ?_
    refine x_cv3 T_64_156 mN_29 mL_29 (Nat.le_of_ble_eq_true rfl) mO_29 (hP.o hbo) (Nat.le_of_ble_eq_true rfl) (h3) ?_
    rintro _ σ ⟨rfl, rfl⟩
    refine cL ?_
    refine x_l2i (w := x) T_64_159 hx ?_
    refine x_si (ls1 := [some (vR (some S)), some (vR (some fa)), some (vR (some b)), some (vI en), some (vI 0), some (vI x), none, none, none]) T_64_160 rfl ?_
    refine x_li (z := x) T_64_162 rfl ?_
    refine x_lr (z := some b) T_64_164 rfl ?_
    refine x_gI (z := y) T_64_165 (Or.inl F_8_6) (hP.o hbno) (Eq.trans (hP.gi hbno (key := 2262) rfl) hmdy) ?_
    refine x_ib (w := b0) T_64_168 (fun h => absurd h.1 (by decide)) hb0 ?_
    refine x_ic T_64_169 ?_
    refine x_ib (w := b1) T_64_172 (fun h => absurd h.1 (by decide)) hb1 ?_
    refine x_si (ls1 := [some (vR (some S)), some (vR (some fa)), some (vR (some b)), some (vI en), some (vI 0), some (vI x), some (vI b1), none, none]) T_64_173 rfl ?_
    refine x_li (z := x) T_64_175 rfl ?_
    refine x_if T_64_177 (fun _ => ?_) (fun h => absurd (show x < 0 by omega) h)
    exact hgo σ hP
end XCREB
