/-! What the reference's servers answer: reads. -/
theorem T_285_0 : hTab 285 0 = some ((3, 0, 2, []), 1) := rfl
theorem T_285_1 : hTab 285 1 = some ((0, 0, 4, []), 2) := rfl
theorem T_285_2 : hTab 285 2 = some ((31, 234, 0, []), 5) := rfl
theorem T_285_5 : hTab 285 5 = some ((4, 3, 1, []), 6) := rfl
theorem T_285_6 : hTab 285 6 = some ((3, 0, 2, []), 7) := rfl
theorem T_285_7 : hTab 285 7 = some ((0, 0, 8, []), 9) := rfl
theorem T_285_9 : hTab 285 9 = some ((31, 234, 0, []), 12) := rfl
theorem T_285_12 : hTab 285 12 = some ((4, 5, 1, []), 14) := rfl
theorem T_285_14 : hTab 285 14 = some ((3, 0, 2, []), 15) := rfl
theorem T_285_15 : hTab 285 15 = some ((0, 0, 4, []), 16) := rfl
theorem T_285_16 : hTab 285 16 = some ((31, 234, 0, []), 19) := rfl
theorem T_285_19 : hTab 285 19 = some ((4, 7, 1, []), 21) := rfl
theorem T_285_21 : hTab 285 21 = some ((3, 0, 2, []), 22) := rfl
theorem T_285_22 : hTab 285 22 = some ((31, 241, 0, []), 25) := rfl
theorem T_285_25 : hTab 285 25 = some ((18, 1, Int.ofNat 29, []), 28) := rfl
theorem T_285_28 : hTab 285 28 = some ((33, 0, 0, []), 29) := rfl
theorem T_285_29 : hTab 285 29 = some ((3, 0, 2, []), 30) := rfl
theorem T_285_30 : hTab 285 30 = some ((3, 1, 0, []), 31) := rfl
theorem T_285_31 : hTab 285 31 = some ((3, 2, 0, []), 32) := rfl
theorem T_285_32 : hTab 285 32 = some ((3, 3, 1, []), 33) := rfl
theorem T_285_33 : hTab 285 33 = some ((31, 261, 0, []), 36) := rfl
theorem T_285_36 : hTab 285 36 = some ((4, 9, 0, []), 38) := rfl
theorem T_285_38 : hTab 285 38 = some ((3, 9, 0, []), 40) := rfl
theorem T_285_40 : hTab 285 40 = some ((18, 3, Int.ofNat 48, []), 43) := rfl
theorem T_285_43 : hTab 285 43 = some ((0, 0, 6, []), 45) := rfl
theorem T_285_45 : hTab 285 45 = some ((22, 0, Int.ofNat 116, []), 48) := rfl
theorem T_285_48 : hTab 285 48 = some ((3, 0, 2, []), 49) := rfl
theorem T_285_49 : hTab 285 49 = some ((24, 17, Int.ofNat 33, []), 52) := rfl
theorem T_285_52 : hTab 285 52 = some ((3, 9, 0, []), 54) := rfl
theorem T_285_54 : hTab 285 54 = some ((26, 0, 0, []), 55) := rfl
theorem T_285_55 : hTab 285 55 = some ((18, 2, Int.ofNat 71, []), 58) := rfl
theorem T_285_58 : hTab 285 58 = some ((3, 0, 2, []), 59) := rfl
theorem T_285_59 : hTab 285 59 = some ((24, 17, Int.ofNat 33, []), 62) := rfl
theorem T_285_62 : hTab 285 62 = some ((3, 9, 0, []), 64) := rfl
theorem T_285_64 : hTab 285 64 = some ((26, 0, 0, []), 65) := rfl
theorem T_285_65 : hTab 285 65 = some ((0, 0, 3, []), 66) := rfl
theorem T_285_66 : hTab 285 66 = some ((10, 5, 0, []), 67) := rfl
theorem T_285_67 : hTab 285 67 = some ((0, 0, 1, []), 68) := rfl
theorem T_285_68 : hTab 285 68 = some ((19, 1, Int.ofNat 76, []), 71) := rfl
theorem T_285_71 : hTab 285 71 = some ((0, 0, 9, []), 73) := rfl
theorem T_285_73 : hTab 285 73 = some ((22, 0, Int.ofNat 116, []), 76) := rfl
theorem T_285_76 : hTab 285 76 = some ((3, 0, 2, []), 77) := rfl
theorem T_285_77 : hTab 285 77 = some ((24, 17, Int.ofNat 34, []), 80) := rfl
theorem T_285_80 : hTab 285 80 = some ((3, 9, 0, []), 82) := rfl
theorem T_285_82 : hTab 285 82 = some ((26, 2, 0, []), 83) := rfl
theorem T_285_83 : hTab 285 83 = some ((18, 0, Int.ofNat 90, []), 86) := rfl
theorem T_285_86 : hTab 285 86 = some ((0, 0, 1, []), 87) := rfl
theorem T_285_87 : hTab 285 87 = some ((22, 0, Int.ofNat 116, []), 90) := rfl
theorem T_285_90 : hTab 285 90 = some ((3, 7, 1, []), 92) := rfl
theorem T_285_92 : hTab 285 92 = some ((3, 0, 2, []), 93) := rfl
theorem T_285_93 : hTab 285 93 = some ((24, 17, Int.ofNat 37, []), 96) := rfl
theorem T_285_96 : hTab 285 96 = some ((0, 0, 2, []), 97) := rfl
theorem T_285_97 : hTab 285 97 = some ((3, 1, 0, []), 98) := rfl
theorem T_285_98 : hTab 285 98 = some ((10, 2, 0, []), 99) := rfl
theorem T_285_99 : hTab 285 99 = some ((3, 2, 0, []), 100) := rfl
theorem T_285_100 : hTab 285 100 = some ((10, 0, 0, []), 101) := rfl
theorem T_285_101 : hTab 285 101 = some ((26, 0, 0, []), 102) := rfl
theorem T_285_102 : hTab 285 102 = some ((0, 0, 11, []), 104) := rfl
theorem T_285_104 : hTab 285 104 = some ((10, 1, 0, []), 105) := rfl
theorem T_285_105 : hTab 285 105 = some ((14, 0, 0, []), 106) := rfl
theorem T_285_106 : hTab 285 106 = some ((17, 0, 0, []), 107) := rfl
theorem T_285_107 : hTab 285 107 = some ((18, 5, Int.ofNat 115, []), 110) := rfl
theorem T_285_110 : hTab 285 110 = some ((0, 0, 14, []), 112) := rfl
theorem T_285_112 : hTab 285 112 = some ((22, 0, Int.ofNat 116, []), 115) := rfl
theorem T_285_115 : hTab 285 115 = some ((0, 0, 0, []), 116) := rfl
theorem T_285_116 : hTab 285 116 = some ((4, 10, 0, []), 118) := rfl
theorem T_285_118 : hTab 285 118 = some ((3, 10, 0, []), 120) := rfl
theorem T_285_120 : hTab 285 120 = some ((18, 1, Int.ofNat 162, []), 123) := rfl
theorem T_285_123 : hTab 285 123 = some ((3, 0, 2, []), 124) := rfl
theorem T_285_124 : hTab 285 124 = some ((3, 1, 0, []), 125) := rfl
theorem T_285_125 : hTab 285 125 = some ((3, 0, 2, []), 126) := rfl
theorem T_285_126 : hTab 285 126 = some ((24, 17, Int.ofNat 30, []), 129) := rfl
theorem T_285_129 : hTab 285 129 = some ((3, 9, 0, []), 131) := rfl
theorem T_285_131 : hTab 285 131 = some ((26, 0, 0, []), 132) := rfl
theorem T_285_132 : hTab 285 132 = some ((31, 252, 0, []), 135) := rfl
theorem T_285_135 : hTab 285 135 = some ((18, 0, Int.ofNat 162, []), 138) := rfl
theorem T_285_138 : hTab 285 138 = some ((3, 5, 1, []), 140) := rfl
theorem T_285_140 : hTab 285 140 = some ((1, 0, 0, []), 141) := rfl
theorem T_285_141 : hTab 285 141 = some ((17, 0, 0, []), 142) := rfl
theorem T_285_142 : hTab 285 142 = some ((18, 0, Int.ofNat 162, []), 145) := rfl
theorem T_285_145 : hTab 285 145 = some ((3, 5, 1, []), 147) := rfl
theorem T_285_147 : hTab 285 147 = some ((3, 0, 2, []), 148) := rfl
theorem T_285_148 : hTab 285 148 = some ((24, 17, Int.ofNat 35, []), 151) := rfl
theorem T_285_151 : hTab 285 151 = some ((3, 9, 0, []), 153) := rfl
theorem T_285_153 : hTab 285 153 = some ((26, 3, 0, []), 154) := rfl
theorem T_285_154 : hTab 285 154 = some ((17, 0, 0, []), 155) := rfl
theorem T_285_155 : hTab 285 155 = some ((18, 0, Int.ofNat 162, []), 158) := rfl
theorem T_285_158 : hTab 285 158 = some ((0, 0, 13, []), 160) := rfl
theorem T_285_160 : hTab 285 160 = some ((4, 10, 0, []), 162) := rfl
theorem T_285_162 : hTab 285 162 = some ((3, 10, 0, []), 164) := rfl
theorem T_285_164 : hTab 285 164 = some ((18, 5, Int.ofNat 174, []), 167) := rfl
theorem T_285_167 : hTab 285 167 = some ((3, 0, 2, []), 168) := rfl
theorem T_285_168 : hTab 285 168 = some ((3, 10, 0, []), 170) := rfl
theorem T_285_170 : hTab 285 170 = some ((31, 235, 0, []), 173) := rfl
theorem T_285_173 : hTab 285 173 = some ((33, 0, 0, []), 174) := rfl
theorem T_285_174 : hTab 285 174 = some ((3, 0, 2, []), 175) := rfl
theorem T_285_175 : hTab 285 175 = some ((0, 0, 117, []), 177) := rfl
theorem T_285_177 : hTab 285 177 = some ((31, 236, 0, []), 180) := rfl
theorem T_285_180 : hTab 285 180 = some ((3, 0, 2, []), 181) := rfl
theorem T_285_181 : hTab 285 181 = some ((0, 0, 4, []), 182) := rfl
theorem T_285_182 : hTab 285 182 = some ((1, 0, 0, []), 183) := rfl
theorem T_285_183 : hTab 285 183 = some ((31, 237, 0, []), 186) := rfl
theorem T_285_186 : hTab 285 186 = some ((3, 0, 2, []), 187) := rfl
theorem T_285_187 : hTab 285 187 = some ((3, 1, 0, []), 188) := rfl
theorem T_285_188 : hTab 285 188 = some ((3, 0, 2, []), 189) := rfl
theorem T_285_189 : hTab 285 189 = some ((24, 17, Int.ofNat 30, []), 192) := rfl
theorem T_285_192 : hTab 285 192 = some ((3, 9, 0, []), 194) := rfl
theorem T_285_194 : hTab 285 194 = some ((26, 0, 0, []), 195) := rfl
theorem T_285_195 : hTab 285 195 = some ((31, 252, 0, []), 198) := rfl
theorem T_285_198 : hTab 285 198 = some ((18, 0, Int.ofNat 216, []), 201) := rfl
theorem T_285_201 : hTab 285 201 = some ((3, 0, 2, []), 202) := rfl
theorem T_285_202 : hTab 285 202 = some ((3, 1, 0, []), 203) := rfl
theorem T_285_203 : hTab 285 203 = some ((3, 9, 0, []), 205) := rfl
theorem T_285_205 : hTab 285 205 = some ((3, 5, 1, []), 207) := rfl
theorem T_285_207 : hTab 285 207 = some ((3, 7, 1, []), 209) := rfl
theorem T_285_209 : hTab 285 209 = some ((15, 0, 0, []), 210) := rfl
theorem T_285_210 : hTab 285 210 = some ((31, 286, 0, []), 213) := rfl
theorem T_285_213 : hTab 285 213 = some ((22, 0, Int.ofNat 283, []), 216) := rfl
theorem T_285_216 : hTab 285 216 = some ((3, 1, 0, []), 217) := rfl
theorem T_285_217 : hTab 285 217 = some ((0, 0, 2, []), 218) := rfl
theorem T_285_218 : hTab 285 218 = some ((19, 3, Int.ofNat 241, []), 221) := rfl
theorem T_285_221 : hTab 285 221 = some ((3, 0, 2, []), 222) := rfl
theorem T_285_222 : hTab 285 222 = some ((3, 1, 0, []), 223) := rfl
theorem T_285_223 : hTab 285 223 = some ((3, 0, 2, []), 224) := rfl
theorem T_285_224 : hTab 285 224 = some ((24, 17, Int.ofNat 30, []), 227) := rfl
theorem T_285_227 : hTab 285 227 = some ((3, 9, 0, []), 229) := rfl
theorem T_285_229 : hTab 285 229 = some ((26, 0, 0, []), 230) := rfl
theorem T_285_230 : hTab 285 230 = some ((3, 5, 1, []), 232) := rfl
theorem T_285_232 : hTab 285 232 = some ((3, 7, 1, []), 234) := rfl
theorem T_285_234 : hTab 285 234 = some ((15, 0, 0, []), 235) := rfl
theorem T_285_235 : hTab 285 235 = some ((31, 292, 0, []), 238) := rfl
theorem T_285_238 : hTab 285 238 = some ((22, 0, Int.ofNat 283, []), 241) := rfl
theorem T_285_241 : hTab 285 241 = some ((3, 0, 2, []), 242) := rfl
theorem T_285_242 : hTab 285 242 = some ((24, 17, Int.ofNat 30, []), 245) := rfl
theorem T_285_245 : hTab 285 245 = some ((3, 9, 0, []), 247) := rfl
theorem T_285_247 : hTab 285 247 = some ((26, 0, 0, []), 248) := rfl
theorem T_285_248 : hTab 285 248 = some ((0, 0, 1, []), 249) := rfl
theorem T_285_249 : hTab 285 249 = some ((19, 1, Int.ofNat 262, []), 252) := rfl
theorem T_285_252 : hTab 285 252 = some ((3, 0, 2, []), 253) := rfl
theorem T_285_253 : hTab 285 253 = some ((3, 7, 1, []), 255) := rfl
theorem T_285_255 : hTab 285 255 = some ((15, 0, 0, []), 256) := rfl
theorem T_285_256 : hTab 285 256 = some ((31, 293, 0, []), 259) := rfl
theorem T_285_259 : hTab 285 259 = some ((22, 0, Int.ofNat 283, []), 262) := rfl
theorem T_285_262 : hTab 285 262 = some ((3, 0, 2, []), 263) := rfl
theorem T_285_263 : hTab 285 263 = some ((3, 0, 2, []), 264) := rfl
theorem T_285_264 : hTab 285 264 = some ((24, 17, Int.ofNat 30, []), 267) := rfl
theorem T_285_267 : hTab 285 267 = some ((3, 9, 0, []), 269) := rfl
theorem T_285_269 : hTab 285 269 = some ((26, 0, 0, []), 270) := rfl
theorem T_285_270 : hTab 285 270 = some ((0, 0, 16, []), 272) := rfl
theorem T_285_272 : hTab 285 272 = some ((10, 3, 0, []), 273) := rfl
theorem T_285_273 : hTab 285 273 = some ((0, 0, 1, []), 274) := rfl
theorem T_285_274 : hTab 285 274 = some ((10, 1, 0, []), 275) := rfl
theorem T_285_275 : hTab 285 275 = some ((3, 5, 1, []), 277) := rfl
theorem T_285_277 : hTab 285 277 = some ((3, 7, 1, []), 279) := rfl
theorem T_285_279 : hTab 285 279 = some ((15, 0, 0, []), 280) := rfl
theorem T_285_280 : hTab 285 280 = some ((31, 294, 0, []), 283) := rfl
theorem T_285_283 : hTab 285 283 = some ((3, 0, 2, []), 284) := rfl
theorem T_285_284 : hTab 285 284 = some ((24, 17, Int.ofNat 6, []), 287) := rfl
theorem T_285_287 : hTab 285 287 = some ((0, 0, 11, []), 289) := rfl
theorem T_285_289 : hTab 285 289 = some ((10, 1, 0, []), 290) := rfl
theorem T_285_290 : hTab 285 290 = some ((4, 11, 0, []), 292) := rfl
theorem T_285_292 : hTab 285 292 = some ((3, 0, 2, []), 293) := rfl
theorem T_285_293 : hTab 285 293 = some ((24, 17, Int.ofNat 5, []), 296) := rfl
theorem T_285_296 : hTab 285 296 = some ((0, 0, 7, []), 298) := rfl
theorem T_285_298 : hTab 285 298 = some ((3, 11, 0, []), 300) := rfl
theorem T_285_300 : hTab 285 300 = some ((0, 0, 255, []), 303) := rfl
theorem T_285_303 : hTab 285 303 = some ((10, 5, 0, []), 304) := rfl
theorem T_285_304 : hTab 285 304 = some ((27, 0, 0, []), 305) := rfl
theorem T_285_305 : hTab 285 305 = some ((3, 0, 2, []), 306) := rfl
theorem T_285_306 : hTab 285 306 = some ((24, 17, Int.ofNat 5, []), 309) := rfl
theorem T_285_309 : hTab 285 309 = some ((0, 0, 8, []), 311) := rfl
theorem T_285_311 : hTab 285 311 = some ((3, 11, 0, []), 313) := rfl
theorem T_285_313 : hTab 285 313 = some ((0, 0, 8, []), 315) := rfl
theorem T_285_315 : hTab 285 315 = some ((10, 9, 0, []), 316) := rfl
theorem T_285_316 : hTab 285 316 = some ((27, 0, 0, []), 317) := rfl
theorem T_285_317 : hTab 285 317 = some ((33, 0, 0, []), 318) := rfl
theorem mN_285 : hmN 285 = 3 := by decide +kernel
theorem mL_285 : hmL 285 = 12 := by decide +kernel
theorem mK_285 : hmK 285 = 1 := by decide +kernel
theorem mO_285 : hmO 285 = 17 := by decide +kernel
section MREAD3
variable {fb : Bool} {d : Nat} {σ0 σ : hM} {P Q S S1 : qR} {T U s n u c t p z : Int} {st : List (Int × Int)}
theorem rA_set01 {W : qR} {x y v1 v2 w : Int} {l : List Int} (h : W 2281 6 = w) : rU (rU (rA W (x :: y :: l)) 2286 w v1) 2286 (w + 1) v2 = rA W (v1 :: v2 :: l) := by
  rw [rA_set0 h, show v1 :: y :: l = [v1] ++ (y :: l) from rfl, ← rA_rA, rA_set0 (rA_zn (n := 1) rfl h), rA_rA]
  rfl
theorem m_read_tail {v off cnt k e : Int} {D : List Int} {len : Int} (hP : PM σ0 Q (rA (rA (rpl S1 117) (leb 4 0)) D) σ) (hR : RS T U S S1 p st) (h0 : S 2281 7 = 0) (hD : byt D) (hlen : (D.length : Int) = len) (hl : len ≤ 390) : WP fb d 285 283 [some (vR (some 2281)), some (vI s), some (vI c), some (vL v), none, some (vL off), none, some (vL cnt), none, some (vI k), some (vI e), none] [] σ (SV T U σ0 S Q 0 117 (leb 4 len ++ D)) := by
  refine x_lr (z := some 2281) T_285_283 rfl ?_
  refine x_gI (z := ((7 + 4) + len)) T_285_284 (Or.inl F_17_6) (PM.t hP) (Eq.trans (PM.nS hP 2281 6 6 rfl rfl rfl) (rA_zn hlen (rA_zn (leb_z 4 _ rfl) rpl_z))) ?_
  refine x_ic T_285_287 ?_
  refine x_ib (w := len) T_285_289 (fun h => absurd h.1 (by decide)) (by show w32 (7 + 4 + len - 11) = len; rw [show 7 + 4 + len - 11 = len by omega]; exact w32_id (by omega) (by omega)) ?_
  refine x_si (ls1 := [some (vR (some 2281)), some (vI s), some (vI c), some (vL v), none, some (vL off), none, some (vL cnt), none, some (vI k), some (vI e), some (vI len)]) T_285_290 rfl ?_
  refine x_lr (z := some 2281) T_285_292 rfl ?_
  refine x_gR (z := some 2286) T_285_293 F_17_5 (PM.t hP) (PM.r hP 5 2286 rfl) ?_
  refine x_ic T_285_296 ?_
  refine x_li (z := len) T_285_298 rfl ?_
  refine x_ic T_285_300 ?_
  refine x_ib (w := (len % 256)) T_285_303 (fun h => absurd h.1 (by decide)) (and32_255 len) ?_
  refine y_aIS hP T_285_304 2286 512 rfl rfl rfl (by omega) (by omega) (fun σ hP => ?_)
  refine x_lr (z := some 2281) T_285_305 rfl ?_
  refine x_gR (z := some 2286) T_285_306 F_17_5 (PM.t hP) (PM.r hP 5 2286 rfl) ?_
  refine x_ic T_285_309 ?_
  refine x_li (z := len) T_285_311 rfl ?_
  refine x_ic T_285_313 ?_
  refine x_ib (w := (len / 256)) T_285_315 (fun h => absurd h.1 (by decide)) (by show shr32 len 8 = _; rw [shr32_n (n := 8) (by decide) (by decide), w32_id (by omega) (by omega)]; rfl) ?_
  refine y_aIS hP T_285_316 2286 512 rfl rfl rfl (by omega) (by omega) (fun σ hP => ?_)
  refine x_rv T_285_317 ?_
  skip
  rw [rA_rA, show leb 4 0 ++ D = 0 :: 0 :: ([0, 0] ++ D) from rfl] at hP
  have e1 := rA_set01 (W := rpl S1 117) (x := 0) (y := 0) (v1 := len % 256) (v2 := len / 256) (l := [0, 0] ++ D) rpl_z
  rw [show (7 : Int) + 1 = 8 from rfl] at e1
  rw [e1] at hP
  have e2 : leb 4 len ++ D = len % 256 :: len / 256 :: ([0, 0] ++ D) := by
    show len % 256 :: (len / 256 % 256 :: (len / 256 / 256 % 256 :: (len / 256 / 256 / 256 % 256 :: D))) = _
    rw [show len / 256 % 256 = len / 256 by omega, show len / 256 / 256 % 256 = 0 by omega, show len / 256 / 256 / 256 % 256 = 0 by omega]
    rfl
  rw [e2]
  exact SV_ok hP hR h0 (by rw [← e2]; exact byt_app (byt_leb 4 _) hD) (by rw [← e2, List.length_append, leb_len]; omega)
def rdX (P : qR) (s k off cnt lim : Int) : Int := if k < 0 then 6 else if P 2309 k < 0 ∨ and32 (P 2309 k) 3 = 1 then 9 else if ¬ P 2310 k = 0 then 1 else if lim < cnt then 14 else if qMode P s (P 2306 k) < 0 ∧ ¬ off = 0 ∧ ¬ off = P 2311 k then 13 else 0
def rdP (P : qR) (s k off cnt : Int) : qR := if qMode P s (P 2306 k) < 0 then gEnt P k off cnt (rdR P s k off cnt) else if s < 2 then P else if P 2306 k = 1 then gIn P (if cnt < P 2281 39 then cnt else P 2281 39) else P
def rdD (P : qR) (s k off cnt : Int) : List Int := if qMode P s (P 2306 k) < 0 then (rdR P s k off cnt).2.2 else if s < 2 then part (fun x => P 2300 (600 * (64 * s + P 2306 k) + x)) (P 2297 (64 * s + P 2306 k)) off cnt else if P 2306 k = 1 then seg (P 2314) 0 (if cnt < P 2281 39 then cnt else P 2281 39).toNat else part (lg (stL P (P 2306 k / 16 - 1))) 8 off cnt
def rdErr (P : qR) (s c : Int) (a : Int → Int) (z : Int) : Int := if ¬ z = 23 then 14 else rdX P s (qFid P s c (nu a 7 4)) (w64 (nu a 11 8)) (nu a 19 4) (P 2313 (2 * s + c) - 11)
theorem byt_seg {f : Int → Int} {o : Int} {n : Nat} (h : ∀ i : Int, 0 ≤ i → i < n → 0 ≤ f (o + i) ∧ f (o + i) ≤ 255) : byt (seg f o n) := fun k hk => by
  by_cases q : k < n
  · rw [lg_seg f n o k hk q]
    exact h k hk q
  · have e : lg (seg f o n) k = 0 := by
      unfold lg
      rw [List.getD_eq_getElem?_getD, List.getElem?_eq_none (by rw [seg_len]; omega)]
      rfl
    rw [e]
    decide
theorem part_ok {f : Int → Int} {len off cnt : Int} (hc : 0 ≤ cnt) (h : ∀ i : Int, 0 ≤ i → i < len → 0 ≤ f i ∧ f i ≤ 255) : byt (part f len off cnt) ∧ ((part f len off cnt).length : Int) ≤ cnt := by
  unfold part
  split
  · refine ⟨byt_seg (fun i h1 h2 => h _ (by omega) (by split at h2 <;> omega)), ?_⟩
    rw [seg_len]
    split <;> omega
  · exact ⟨byt_nil, hc⟩
theorem rdD_ok {k off cnt : Int} (hI : IV false T U P) (hs : 0 ≤ s ∧ s < 3) (hk : 96 * s ≤ k ∧ k < 96 * s + 96) (hc : 0 ≤ cnt ∧ cnt ≤ 300) (hN : s = 2 → P 2306 k < 2 ∨ 16 ≤ P 2306 k) : byt (rdD P s k off cnt) ∧ ((rdD P s k off cnt).length : Int) ≤ cnt := by
  have bn : 0 ≤ P 2306 k ∧ P 2306 k ≤ (if k < 192 then 63 else 143) := IV.a hI 2306 0 288 rfl rfl rfl (by omega) (by omega)
  have hon : okN s (P 2306 k) := by omega
  unfold rdD
  by_cases c1 : qMode P s (P 2306 k) < 0
  · rw [if_pos c1]
    have br : 0 ≤ P 2312 k ∧ P 2312 k ≤ 64 := IV.a hI 2312 0 288 rfl rfl rfl (by omega) (by omega)
    have h := rdE_rng hI hon (fun q q2 => by subst q; rcases qMode_dir2 c1 with h | h <;> omega) 6 (if off = 0 then 0 else P 2312 k) cnt hc.1 (by split <;> omega)
    exact ⟨h.2.2.2.2.2, by show ((rdE P s (P 2306 k) 6 (if off = 0 then 0 else P 2312 k) cnt).2.2.length : Int) ≤ cnt; omega⟩
  · rw [if_neg c1]
    by_cases c2 : s < 2
    · rw [if_pos c2]
      have bl : 0 ≤ P 2297 (64 * s + P 2306 k) ∧ P 2297 (64 * s + P 2306 k) ≤ 600 := IV.a hI 2297 0 128 rfl rfl rfl (by omega) (by omega)
      exact part_ok hc.1 (fun i h1 h2 => IV.a hI 2300 0 76800 rfl rfl rfl (by omega) (by omega))
    · rw [if_neg c2]
      by_cases c3 : P 2306 k = 1
      · rw [if_pos c3]
        have bi : 0 ≤ P 2281 39 ∧ P 2281 39 ≤ 200 := IV.n hI 39 39 rfl rfl (by decide)
        refine ⟨byt_seg (fun i h1 h2 => IV.a hI 2314 0 200 rfl rfl rfl (by omega) (by split at h2 <;> omega)), ?_⟩
        rw [seg_len]
        split <;> omega
      · rw [if_neg c3]
        have hm : ¬ P 2306 k = 0 := fun q => by
          obtain rfl : s = 2 := by omega
          exact c1 (by unfold qMode; rw [if_neg (by decide), if_neg c3, if_pos (Or.inl q)]; decide)
        have := hN (by omega)
        exact part_ok hc.1 (fun i h1 h2 => stL_i hI (by omega) ⟨h1, h2⟩)
theorem m_serveRead (hP : PM σ0 P S1 σ) (hR : RS T U S S1 7 []) (hI : IV false T U P) (hN : s = 2 → ∀ k, 192 ≤ k → k < 288 → P 2306 k < 2 ∨ 16 ≤ P 2306 k) (hs : 0 ≤ s ∧ s < 3) (hc : 0 ≤ c ∧ c < 2) (h0 : S 2281 7 = 0) : CL fb (d + 6) 285 [vR (some 2281), vI s, vI c] σ (SV T U σ0 S (if rdErr P s c (S 2285) (S 2281 4) = 0 then rdP P s (qFid P s c (nu (S 2285) 7 4)) (w64 (nu (S 2285) 11 8)) (nu (S 2285) 19 4) else P) (rdErr P s c (S 2285) (S 2281 4)) 117 (leb 4 ((rdD P s (qFid P s c (nu (S 2285) 7 4)) (w64 (nu (S 2285) 11 8)) (nu (S 2285) 19 4)).length : Int) ++ rdD P s (qFid P s c (nu (S 2285) 7 4)) (w64 (nu (S 2285) 11 8)) (nu (S 2285) 19 4))) := by
  obtain ⟨hz0, hz1, hb⟩ := hR.pb
  have hz7 : 7 ≤ S 2281 4 := hR.2.2.2.2.1
  by_cases h23 : S 2281 4 = 23
  · obtain ⟨v, hv0⟩ : ∃ v, nu (S 2285) 7 4 = v := ⟨_, rfl⟩
    obtain ⟨off, ho0⟩ : ∃ off, w64 (nu (S 2285) 11 8) = off := ⟨_, rfl⟩
    obtain ⟨cnt, hc0⟩ : ∃ cnt, nu (S 2285) 19 4 = cnt := ⟨_, rfl⟩
    have hv1 : nv (S 2285) (S 2281 4) 7 4 = v := (nv_ok (n := 4) (by decide) (by omega) hb).1.trans hv0
    have ho1 : nv (S 2285) (S 2281 4) 11 8 = off := (if_neg (by omega)).trans ho0
    have hc2 := nv_ok (a := S 2285) (z := S 2281 4) (p := 19) (n := 4) (by decide) (by omega) hb
    rw [hc0] at hc2
    have hc3 : 0 ≤ cnt ∧ cnt < 4294967296 := hc2.2
    have a1 : av (S 2281 4) 7 4 = 11 := if_neg (by omega)
    have a2 : av (S 2281 4) 11 8 = 19 := if_neg (by omega)
    have a3 : av (S 2281 4) 19 4 = 23 := if_neg (by omega)
    have hk := qFid_rng (P := P) (s := s) (c := c) v hs hc
    obtain ⟨k, hk0⟩ : ∃ k, qFid P s c v = k := ⟨_, rfl⟩
    rw [hk0] at hk
    have hkr : k = -1 ∨ (96 * s ≤ k ∧ k < 96 * s + 96) := by omega
    clear hk
    have bz : 64 ≤ P 2313 (2 * s + c) ∧ P 2313 (2 * s + c) ≤ 300 := IV.a hI 2313 0 6 rfl rfl rfl (by omega) (by omega)
    rw [show rdErr P s c (S 2285) (S 2281 4) = rdX P s k off cnt (P 2313 (2 * s + c) - 11) by unfold rdErr; rw [hv0, ho0, hc0, hk0]; exact if_neg (fun q => q h23), hv0, ho0, hc0, hk0]
    have hh : (23 : Int) = S 2281 4 ∧ 0 ≤ (23 : Int) := ⟨h23.symm, by decide⟩
    have go : ∀ (σ : hM) (S1 : qR) (st : List (Int × Int)) (p : Int), PM σ0 P S1 σ → RS T U S S1 p st → 0 ≤ k → P 2310 k = 0 → cnt ≤ 300 → WP fb (d + 6) 285 174 [some (vR (some 2281)), some (vI s), some (vI c), some (vL v), none, some (vL off), none, some (vL cnt), none, some (vI k), some (vI 0), none] [] σ (SV T U σ0 S (rdP P s k off cnt) 0 117 (leb 4 ((rdD P s k off cnt).length : Int) ++ rdD P s k off cnt)) := by
      intro σ S1 st p hP hR q1 q2 q3
      have hkr := hkr.resolve_left (by omega)
      have bn : 0 ≤ P 2306 k ∧ P 2306 k ≤ (if k < 192 then 63 else 143) := IV.a hI 2306 0 288 rfl rfl rfl (by omega) (by omega)
      have hon : okN s (P 2306 k) := by omega
      have hNk : s = 2 → P 2306 k < 2 ∨ 16 ≤ P 2306 k := fun q => hN q k (by omega) (by omega)
      obtain ⟨hD1, hD2⟩ := rdD_ok (off := off) hI hs hkr ⟨hc3.1, q3⟩ hNk
      obtain ⟨len, hlen⟩ : ∃ len : Int, ((rdD P s k off cnt).length : Int) = len := ⟨_, rfl⟩
      rw [hlen] at hD2 ⊢
      by_cases c1 : qMode P s (P 2306 k) < 0
      · have e1 : rdD P s k off cnt = (rdR P s k off cnt).2.2 := if_pos c1
        have e2 : rdP P s k off cnt = gEnt P k off cnt (rdR P s k off cnt) := if_pos c1
        have hdd : s = 2 → 0 < P 2306 k → P 2306 k % 16 = 0 := fun q q2 => by
          subst q
          rcases qMode_dir2 c1 with h | h <;> omega
        rw [e2]
        rw [e1] at hD1 hlen ⊢
        refine x_lr (z := some 2281) T_285_174 rfl ?_
        refine x_ic T_285_175 ?_
        refine x_cv2 T_285_177 mN_236 mL_236 (Nat.le_of_ble_eq_true rfl) mO_236 (PM.t hP) (Nat.le_of_ble_eq_true rfl) (m_reply hP) ?_
        rintro _ σ ⟨rfl, hP⟩
        refine cV ?_
        refine x_lr (z := some 2281) T_285_180 rfl ?_
        refine x_ic T_285_181 ?_
        refine x_lc T_285_182 ?_
        refine x_cv3 T_285_183 mN_237 mL_237 (Nat.le_of_ble_eq_true rfl) mO_237 (PM.t hP) (Nat.le_of_ble_eq_true rfl) (m_put 4 rfl hP (by decide) rpl_z (by omega) (by omega)) ?_
        rintro _ σ ⟨rfl, hP⟩
        refine cV ?_
        refine x_lr (z := some 2281) T_285_186 rfl ?_
        refine x_li (z := s) T_285_187 rfl ?_
        refine x_lr (z := some 2281) T_285_188 rfl ?_
        refine x_gR (z := some 2306) T_285_189 F_17_30 (PM.t hP) (PM.r hP 30 2306 rfl) ?_
        refine x_li (z := k) T_285_192 rfl ?_
        have b1 : 0 ≤ P 2306 k ∧ P 2306 k ≤ (if k < 192 then 63 else 143) := IV.a hI 2306 0 288 rfl rfl rfl (by omega) (by omega)
        refine x_alI (z := P 2306 k) T_285_194 (by decide) (PM.ta hP 2306 0 288 rfl rfl) (by omega) (by omega) (PM.aP hP 2306 rfl rfl (by omega)) ?_
        refine x_cv3 T_285_195 mN_252 mL_252 (Nat.le_of_ble_eq_true rfl) mO_252 (PM.t hP) (Nat.le_of_ble_eq_true rfl) (m_isDirectory hP (by omega)) ?_
        rintro _ σ ⟨rfl, rfl⟩
        refine cI ?_
        refine x_if T_285_198 (fun h => absurd (show (if qMode P s (P 2306 k) < 0 then (1 : Int) else 0) = 0 from h) (by rw [if_pos c1]; decide)) (fun _ => ?_)
        refine x_lr (z := some 2281) T_285_201 rfl ?_
        refine x_li (z := s) T_285_202 rfl ?_
        refine x_li (z := k) T_285_203 rfl ?_
        refine x_ll (z := off) T_285_205 rfl ?_
        refine x_ll (z := cnt) T_285_207 rfl ?_
        refine x_l2i (w := cnt) T_285_209 (w32_id (by omega) (by omega)) ?_
        refine x_cv5 T_285_210 mN_286 mL_286 (Nat.le_of_ble_eq_true rfl) mO_286 (PM.t hP) (Nat.le_of_ble_eq_true rfl) (m_readEntries hP hI (by omega) hon hdd (by omega) (rA_zn (leb_z 4 _ rfl) rpl_z) (by decide)) ?_
        rintro _ σ ⟨rfl, hP⟩
        refine cV ?_
        refine x_goto T_285_213 ?_
        exact m_read_tail hP hR h0 hD1 hlen (by omega)
      · by_cases c2 : s < 2
        · have e1 : rdD P s k off cnt = part (fun x => P 2300 (600 * (64 * s + P 2306 k) + x)) (P 2297 (64 * s + P 2306 k)) off cnt := (if_neg c1).trans (if_pos c2)
          have e2 : rdP P s k off cnt = P := (if_neg c1).trans (if_pos c2)
          rw [e2]
          rw [e1] at hD1 hlen ⊢
          refine x_lr (z := some 2281) T_285_174 rfl ?_
          refine x_ic T_285_175 ?_
          refine x_cv2 T_285_177 mN_236 mL_236 (Nat.le_of_ble_eq_true rfl) mO_236 (PM.t hP) (Nat.le_of_ble_eq_true rfl) (m_reply hP) ?_
          rintro _ σ ⟨rfl, hP⟩
          refine cV ?_
          refine x_lr (z := some 2281) T_285_180 rfl ?_
          refine x_ic T_285_181 ?_
          refine x_lc T_285_182 ?_
          refine x_cv3 T_285_183 mN_237 mL_237 (Nat.le_of_ble_eq_true rfl) mO_237 (PM.t hP) (Nat.le_of_ble_eq_true rfl) (m_put 4 rfl hP (by decide) rpl_z (by omega) (by omega)) ?_
          rintro _ σ ⟨rfl, hP⟩
          refine cV ?_
          refine x_lr (z := some 2281) T_285_186 rfl ?_
          refine x_li (z := s) T_285_187 rfl ?_
          refine x_lr (z := some 2281) T_285_188 rfl ?_
          refine x_gR (z := some 2306) T_285_189 F_17_30 (PM.t hP) (PM.r hP 30 2306 rfl) ?_
          refine x_li (z := k) T_285_192 rfl ?_
          have b1 : 0 ≤ P 2306 k ∧ P 2306 k ≤ (if k < 192 then 63 else 143) := IV.a hI 2306 0 288 rfl rfl rfl (by omega) (by omega)
          refine x_alI (z := P 2306 k) T_285_194 (by decide) (PM.ta hP 2306 0 288 rfl rfl) (by omega) (by omega) (PM.aP hP 2306 rfl rfl (by omega)) ?_
          refine x_cv3 T_285_195 mN_252 mL_252 (Nat.le_of_ble_eq_true rfl) mO_252 (PM.t hP) (Nat.le_of_ble_eq_true rfl) (m_isDirectory hP (by omega)) ?_
          rintro _ σ ⟨rfl, rfl⟩
          refine cI ?_
          refine x_if T_285_198 (fun _ => ?_) (fun h => absurd (show (if qMode P s (P 2306 k) < 0 then (1 : Int) else 0) = 0 by rw [if_neg c1]) h)
          refine x_li (z := s) T_285_216 rfl ?_
          refine x_ic T_285_217 ?_
          refine x_ic2 T_285_218 (fun h => absurd (show 2 ≤ s from h) (by omega)) (fun _ => ?_)
          refine x_lr (z := some 2281) T_285_221 rfl ?_
          refine x_li (z := s) T_285_222 rfl ?_
          refine x_lr (z := some 2281) T_285_223 rfl ?_
          refine x_gR (z := some 2306) T_285_224 F_17_30 (PM.t hP) (PM.r hP 30 2306 rfl) ?_
          refine x_li (z := k) T_285_227 rfl ?_
          refine x_alI (z := P 2306 k) T_285_229 (by decide) (PM.ta hP 2306 0 288 rfl rfl) (by omega) (by omega) (PM.aP hP 2306 rfl rfl (by omega)) ?_
          refine x_ll (z := off) T_285_230 rfl ?_
          refine x_ll (z := cnt) T_285_232 rfl ?_
          refine x_l2i (w := cnt) T_285_234 (w32_id (by omega) (by omega)) ?_
          refine x_cv5 T_285_235 mN_292 mL_292 (Nat.le_of_ble_eq_true rfl) mO_292 (PM.t hP) (Nat.le_of_ble_eq_true rfl) (m_readFile hP hI (by omega) (by omega) (rA_zn (leb_z 4 _ rfl) rpl_z) (by decide)) ?_
          rintro _ σ ⟨rfl, hP⟩
          refine cV ?_
          refine x_goto T_285_238 ?_
          exact m_read_tail hP hR h0 hD1 hlen (by omega)
        · by_cases c3 : P 2306 k = 1
          · have e1 : rdD P s k off cnt = seg (P 2314) 0 (if cnt < P 2281 39 then cnt else P 2281 39).toNat := (if_neg c1).trans ((if_neg c2).trans (if_pos c3))
            have e2 : rdP P s k off cnt = gIn P (if cnt < P 2281 39 then cnt else P 2281 39) := (if_neg c1).trans ((if_neg c2).trans (if_pos c3))
            rw [e2]
            rw [e1] at hD1 hlen ⊢
            refine x_lr (z := some 2281) T_285_174 rfl ?_
            refine x_ic T_285_175 ?_
            refine x_cv2 T_285_177 mN_236 mL_236 (Nat.le_of_ble_eq_true rfl) mO_236 (PM.t hP) (Nat.le_of_ble_eq_true rfl) (m_reply hP) ?_
            rintro _ σ ⟨rfl, hP⟩
            refine cV ?_
            refine x_lr (z := some 2281) T_285_180 rfl ?_
            refine x_ic T_285_181 ?_
            refine x_lc T_285_182 ?_
            refine x_cv3 T_285_183 mN_237 mL_237 (Nat.le_of_ble_eq_true rfl) mO_237 (PM.t hP) (Nat.le_of_ble_eq_true rfl) (m_put 4 rfl hP (by decide) rpl_z (by omega) (by omega)) ?_
            rintro _ σ ⟨rfl, hP⟩
            refine cV ?_
            refine x_lr (z := some 2281) T_285_186 rfl ?_
            refine x_li (z := s) T_285_187 rfl ?_
            refine x_lr (z := some 2281) T_285_188 rfl ?_
            refine x_gR (z := some 2306) T_285_189 F_17_30 (PM.t hP) (PM.r hP 30 2306 rfl) ?_
            refine x_li (z := k) T_285_192 rfl ?_
            have b1 : 0 ≤ P 2306 k ∧ P 2306 k ≤ (if k < 192 then 63 else 143) := IV.a hI 2306 0 288 rfl rfl rfl (by omega) (by omega)
            refine x_alI (z := P 2306 k) T_285_194 (by decide) (PM.ta hP 2306 0 288 rfl rfl) (by omega) (by omega) (PM.aP hP 2306 rfl rfl (by omega)) ?_
            refine x_cv3 T_285_195 mN_252 mL_252 (Nat.le_of_ble_eq_true rfl) mO_252 (PM.t hP) (Nat.le_of_ble_eq_true rfl) (m_isDirectory hP (by omega)) ?_
            rintro _ σ ⟨rfl, rfl⟩
            refine cI ?_
            refine x_if T_285_198 (fun _ => ?_) (fun h => absurd (show (if qMode P s (P 2306 k) < 0 then (1 : Int) else 0) = 0 by rw [if_neg c1]) h)
            refine x_li (z := s) T_285_216 rfl ?_
            refine x_ic T_285_217 ?_
            refine x_ic2 T_285_218 (fun _ => ?_) (fun h => absurd (show 2 ≤ s by omega) h)
            refine x_lr (z := some 2281) T_285_241 rfl ?_
            refine x_gR (z := some 2306) T_285_242 F_17_30 (PM.t hP) (PM.r hP 30 2306 rfl) ?_
            refine x_li (z := k) T_285_245 rfl ?_
            refine x_alI (z := P 2306 k) T_285_247 (by decide) (PM.ta hP 2306 0 288 rfl rfl) (by omega) (by omega) (PM.aP hP 2306 rfl rfl (by omega)) ?_
            refine x_ic T_285_248 ?_
            refine x_ic2 T_285_249 (fun h => absurd (show ¬ P 2306 k = 1 from h) (by omega)) (fun _ => ?_)
            refine x_lr (z := some 2281) T_285_252 rfl ?_
            refine x_ll (z := cnt) T_285_253 rfl ?_
            refine x_l2i (w := cnt) T_285_255 (w32_id (by omega) (by omega)) ?_
            refine x_cv2 T_285_256 mN_293 mL_293 (Nat.le_of_ble_eq_true rfl) mO_293 (PM.t hP) (Nat.le_of_ble_eq_true rfl) (m_readConsole hP hI (by omega) (rA_zn (leb_z 4 _ rfl) rpl_z) (by decide)) ?_
            rintro _ σ ⟨rfl, hP⟩
            refine cV ?_
            refine x_goto T_285_259 ?_
            exact m_read_tail hP hR h0 hD1 hlen (by omega)
          · have e1 : rdD P s k off cnt = part (lg (stL P (P 2306 k / 16 - 1))) 8 off cnt := (if_neg c1).trans ((if_neg c2).trans (if_neg c3))
            have e2 : rdP P s k off cnt = P := (if_neg c1).trans ((if_neg c2).trans (if_neg c3))
            have hm : ¬ P 2306 k = 0 := fun q => by
              obtain rfl : s = 2 := by omega
              exact c1 (by unfold qMode; rw [if_neg (by decide), if_neg c3, if_pos (Or.inl q)]; decide)
            have hNk := hNk (by omega)
            rw [e2]
            rw [e1] at hD1 hlen ⊢
            refine x_lr (z := some 2281) T_285_174 rfl ?_
            refine x_ic T_285_175 ?_
            refine x_cv2 T_285_177 mN_236 mL_236 (Nat.le_of_ble_eq_true rfl) mO_236 (PM.t hP) (Nat.le_of_ble_eq_true rfl) (m_reply hP) ?_
            rintro _ σ ⟨rfl, hP⟩
            refine cV ?_
            refine x_lr (z := some 2281) T_285_180 rfl ?_
            refine x_ic T_285_181 ?_
            refine x_lc T_285_182 ?_
            refine x_cv3 T_285_183 mN_237 mL_237 (Nat.le_of_ble_eq_true rfl) mO_237 (PM.t hP) (Nat.le_of_ble_eq_true rfl) (m_put 4 rfl hP (by decide) rpl_z (by omega) (by omega)) ?_
            rintro _ σ ⟨rfl, hP⟩
            refine cV ?_
            refine x_lr (z := some 2281) T_285_186 rfl ?_
            refine x_li (z := s) T_285_187 rfl ?_
            refine x_lr (z := some 2281) T_285_188 rfl ?_
            refine x_gR (z := some 2306) T_285_189 F_17_30 (PM.t hP) (PM.r hP 30 2306 rfl) ?_
            refine x_li (z := k) T_285_192 rfl ?_
            have b1 : 0 ≤ P 2306 k ∧ P 2306 k ≤ (if k < 192 then 63 else 143) := IV.a hI 2306 0 288 rfl rfl rfl (by omega) (by omega)
            refine x_alI (z := P 2306 k) T_285_194 (by decide) (PM.ta hP 2306 0 288 rfl rfl) (by omega) (by omega) (PM.aP hP 2306 rfl rfl (by omega)) ?_
            refine x_cv3 T_285_195 mN_252 mL_252 (Nat.le_of_ble_eq_true rfl) mO_252 (PM.t hP) (Nat.le_of_ble_eq_true rfl) (m_isDirectory hP (by omega)) ?_
            rintro _ σ ⟨rfl, rfl⟩
            refine cI ?_
            refine x_if T_285_198 (fun _ => ?_) (fun h => absurd (show (if qMode P s (P 2306 k) < 0 then (1 : Int) else 0) = 0 by rw [if_neg c1]) h)
            refine x_li (z := s) T_285_216 rfl ?_
            refine x_ic T_285_217 ?_
            refine x_ic2 T_285_218 (fun _ => ?_) (fun h => absurd (show 2 ≤ s by omega) h)
            refine x_lr (z := some 2281) T_285_241 rfl ?_
            refine x_gR (z := some 2306) T_285_242 F_17_30 (PM.t hP) (PM.r hP 30 2306 rfl) ?_
            refine x_li (z := k) T_285_245 rfl ?_
            refine x_alI (z := P 2306 k) T_285_247 (by decide) (PM.ta hP 2306 0 288 rfl rfl) (by omega) (by omega) (PM.aP hP 2306 rfl rfl (by omega)) ?_
            refine x_ic T_285_248 ?_
            refine x_ic2 T_285_249 (fun _ => ?_) (fun h => absurd (show ¬ P 2306 k = 1 by omega) h)
            refine x_lr (z := some 2281) T_285_262 rfl ?_
            refine x_lr (z := some 2281) T_285_263 rfl ?_
            refine x_gR (z := some 2306) T_285_264 F_17_30 (PM.t hP) (PM.r hP 30 2306 rfl) ?_
            refine x_li (z := k) T_285_267 rfl ?_
            refine x_alI (z := P 2306 k) T_285_269 (by decide) (PM.ta hP 2306 0 288 rfl rfl) (by omega) (by omega) (PM.aP hP 2306 rfl rfl (by omega)) ?_
            refine x_ic T_285_270 ?_
            refine x_ib (w := (P 2306 k / 16)) T_285_272 (fun h => absurd h.2 (by decide)) (div32_n (by omega) (by omega) (by decide)) ?_
            refine x_ic T_285_273 ?_
            refine x_ib (w := ((P 2306 k / 16) - 1)) T_285_274 (fun h => absurd h.1 (by decide)) (w32_id (by omega) (by omega)) ?_
            refine x_ll (z := off) T_285_275 rfl ?_
            refine x_ll (z := cnt) T_285_277 rfl ?_
            refine x_l2i (w := cnt) T_285_279 (w32_id (by omega) (by omega)) ?_
            refine x_cv4 T_285_280 mN_294 mL_294 (Nat.le_of_ble_eq_true rfl) mO_294 (PM.t hP) (Nat.le_of_ble_eq_true rfl) (m_readStatus hP hI (by omega) (by omega) (rA_zn (leb_z 4 _ rfl) rpl_z) (by decide)) ?_
            rintro _ σ ⟨rfl, hP⟩
            refine cV ?_
            exact m_read_tail hP hR h0 hD1 hlen (by omega)
    unfold rdX
    refine CL_in mL_285 rfl ?_
    show WP fb _ 285 0 [some (vR (some 2281)), some (vI s), some (vI c), none, none, none, none, none, none, none, none, none] [] σ _
    refine x_lr (z := some 2281) T_285_0 rfl ?_
    refine x_ic T_285_1 ?_
    refine x_cv2 T_285_2 mN_234 mL_234 (Nat.le_of_ble_eq_true rfl) mO_234 (PM.t hP) (Nat.le_of_ble_eq_true rfl) (r_num 4 rfl hP hR (by decide) hv1) ?_
    rintro _ σ ⟨rfl, S1, hP, hR⟩
    rw [a1] at hR
    refine cL ?_
    refine x_sl (ls1 := [some (vR (some 2281)), some (vI s), some (vI c), some (vL v), none, none, none, none, none, none, none, none]) T_285_5 rfl ?_
    refine x_lr (z := some 2281) T_285_6 rfl ?_
    refine x_ic T_285_7 ?_
    refine x_cv2 T_285_9 mN_234 mL_234 (Nat.le_of_ble_eq_true rfl) mO_234 (PM.t hP) (Nat.le_of_ble_eq_true rfl) (r_num 8 rfl hP hR (by decide) ho1) ?_
    rintro _ σ ⟨rfl, S1, hP, hR⟩
    rw [a2] at hR
    refine cL ?_
    refine x_sl (ls1 := [some (vR (some 2281)), some (vI s), some (vI c), some (vL v), none, some (vL off), none, none, none, none, none, none]) T_285_12 rfl ?_
    refine x_lr (z := some 2281) T_285_14 rfl ?_
    refine x_ic T_285_15 ?_
    refine x_cv2 T_285_16 mN_234 mL_234 (Nat.le_of_ble_eq_true rfl) mO_234 (PM.t hP) (Nat.le_of_ble_eq_true rfl) (r_num 4 rfl hP hR (by decide) hc2.1) ?_
    rintro _ σ ⟨rfl, S1, hP, hR⟩
    rw [a3] at hR
    refine cL ?_
    refine x_sl (ls1 := [some (vR (some 2281)), some (vI s), some (vI c), some (vL v), none, some (vL off), none, some (vL cnt), none, none, none, none]) T_285_19 rfl ?_
    refine x_lr (z := some 2281) T_285_21 rfl ?_
    have hw := r_isWhole (fb := fb) (d := d + 2) hP hR
    rw [if_pos hh, if_pos hh] at hw
    refine x_cv1 T_285_22 mN_241 mL_241 (Nat.le_of_ble_eq_true rfl) mO_241 (PM.t hP) (Nat.le_of_ble_eq_true rfl) (hw) ?_
    rintro _ σ ⟨rfl, hP⟩
    refine cI ?_
    refine x_if T_285_25 (fun _ => ?_) (fun h => absurd (show ¬ (1 : Int) = 0 by decide) h)
    refine x_lr (z := some 2281) T_285_29 rfl ?_
    refine x_li (z := s) T_285_30 rfl ?_
    refine x_li (z := c) T_285_31 rfl ?_
    refine x_ll (z := v) T_285_32 rfl ?_
    refine x_cv4 T_285_33 mN_261 mL_261 (Nat.le_of_ble_eq_true rfl) mO_261 (PM.t hP) (Nat.le_of_ble_eq_true rfl) (CL_val (m_findFid hP (by omega) (by omega)) hk0) ?_
    rintro _ σ ⟨rfl, rfl⟩
    refine cI ?_
    refine x_si (ls1 := [some (vR (some 2281)), some (vI s), some (vI c), some (vL v), none, some (vL off), none, some (vL cnt), none, some (vI k), none, none]) T_285_36 rfl ?_
    refine x_li (z := k) T_285_38 rfl ?_
    refine x_if T_285_40 (fun h40 => ?_) (fun h40 => ?_)
    · replace h40 : 0 ≤ k := h40
      refine x_lr (z := some 2281) T_285_48 rfl ?_
      refine x_gR (z := some 2309) T_285_49 F_17_33 (PM.t hP) (PM.r hP 33 2309 rfl) ?_
      refine x_li (z := k) T_285_52 rfl ?_
      have b1 : -1 ≤ P 2309 k ∧ P 2309 k ≤ 255 := IV.a hI 2309 0 288 rfl rfl rfl (by omega) (by omega)
      refine x_alI (z := P 2309 k) T_285_54 (by decide) (PM.ta hP 2309 0 288 rfl rfl) (by omega) (by omega) (PM.aP hP 2309 rfl rfl (by omega)) ?_
      refine x_if T_285_55 (fun h55 => ?_) (fun h55 => ?_)
      · replace h55 : P 2309 k < 0 := h55
        refine x_ic T_285_71 ?_
        refine x_goto T_285_73 ?_
        refine x_si (ls1 := [some (vR (some 2281)), some (vI s), some (vI c), some (vL v), none, some (vL off), none, some (vL cnt), none, some (vI k), some (vI 9), none]) T_285_116 rfl ?_
        refine x_li (z := 9) T_285_118 rfl ?_
        refine x_if T_285_120 (fun _ => ?_) (fun h => absurd (show ¬ (9 : Int) = 0 by decide) h)
        refine x_li (z := 9) T_285_162 rfl ?_
        refine x_if T_285_164 (fun h => absurd (show (9 : Int) ≤ 0 from h) (by decide)) (fun _ => ?_)
        refine x_lr (z := some 2281) T_285_167 rfl ?_
        refine x_li (z := 9) T_285_168 rfl ?_
        refine x_cv2 T_285_170 mN_235 mL_235 (Nat.le_of_ble_eq_true rfl) mO_235 (PM.t hP) (Nat.le_of_ble_eq_true rfl) (m_refuse hP (by omega)) ?_
        rintro _ σ ⟨rfl, hP⟩
        refine cV ?_
        refine x_rv T_285_173 ?_
        exact SV_not hP hR (by decide) (if_neg (by rw [if_neg (by omega), if_pos (by omega)]; decide)) (by rw [if_neg (by omega), if_pos (by omega)])
      · replace h55 : ¬ (P 2309 k < 0) := h55
        refine x_lr (z := some 2281) T_285_58 rfl ?_
        refine x_gR (z := some 2309) T_285_59 F_17_33 (PM.t hP) (PM.r hP 33 2309 rfl) ?_
        refine x_li (z := k) T_285_62 rfl ?_
        refine x_alI (z := P 2309 k) T_285_64 (by decide) (PM.ta hP 2309 0 288 rfl rfl) (by omega) (by omega) (PM.aP hP 2309 rfl rfl (by omega)) ?_
        refine x_ic T_285_65 ?_
        refine x_ib (w := (and32 (P 2309 k) 3)) T_285_66 (fun h => absurd h.1 (by decide)) rfl ?_
        refine x_ic T_285_67 ?_
        refine x_ic2 T_285_68 (fun h68 => ?_) (fun h68 => ?_)
        · replace h68 : ¬ (and32 (P 2309 k) 3) = 1 := h68
          refine x_lr (z := some 2281) T_285_76 rfl ?_
          refine x_gR (z := some 2310) T_285_77 F_17_34 (PM.t hP) (PM.r hP 34 2310 rfl) ?_
          refine x_li (z := k) T_285_80 rfl ?_
          have b2 : 0 ≤ P 2310 k ∧ P 2310 k ≤ 1 := IV.a hI 2310 2 288 rfl rfl rfl (by omega) (by omega)
          refine x_alI (z := P 2310 k) T_285_82 (by decide) (PM.ta hP 2310 2 288 rfl rfl) (by omega) (by omega) (PM.aP hP 2310 rfl rfl (by omega)) ?_
          refine x_if T_285_83 (fun h83 => ?_) (fun h83 => ?_)
          · replace h83 : P 2310 k = 0 := h83
            refine x_ll (z := cnt) T_285_90 rfl ?_
            refine x_lr (z := some 2281) T_285_92 rfl ?_
            refine x_gR (z := some 2313) T_285_93 F_17_37 (PM.t hP) (PM.r hP 37 2313 rfl) ?_
            refine x_ic T_285_96 ?_
            refine x_li (z := s) T_285_97 rfl ?_
            refine x_ib (w := (2 * s)) T_285_98 (fun h => absurd h.1 (by decide)) (w32_id (by omega) (by omega)) ?_
            refine x_li (z := c) T_285_99 rfl ?_
            refine x_ib (w := ((2 * s) + c)) T_285_100 (fun h => absurd h.1 (by decide)) (w32_id (by omega) (by omega)) ?_
            have b3 : 64 ≤ P 2313 ((2 * s) + c) ∧ P 2313 ((2 * s) + c) ≤ 300 := IV.a hI 2313 0 6 rfl rfl rfl (by omega) (by omega)
            refine x_alI (z := P 2313 ((2 * s) + c)) T_285_101 (by decide) (PM.ta hP 2313 0 6 rfl rfl) (by omega) (by omega) (PM.aP hP 2313 rfl rfl (by omega)) ?_
            refine x_ic T_285_102 ?_
            refine x_ib (w := (P 2313 ((2 * s) + c) - 11)) T_285_104 (fun h => absurd h.1 (by decide)) (w32_id (by omega) (by omega)) ?_
            refine x_i2l T_285_105 ?_
            refine x_lif T_285_106 T_285_107 (fun h107 => ?_) (fun h107 => ?_)
            · replace h107 : cnt ≤ (P 2313 ((2 * s) + c) - 11) := h107
              refine x_ic T_285_115 ?_
              refine x_si (ls1 := [some (vR (some 2281)), some (vI s), some (vI c), some (vL v), none, some (vL off), none, some (vL cnt), none, some (vI k), some (vI 0), none]) T_285_116 rfl ?_
              refine x_li (z := 0) T_285_118 rfl ?_
              refine x_if T_285_120 (fun h => absurd (show ¬ (0 : Int) = 0 from h) (by decide)) (fun _ => ?_)
              refine x_lr (z := some 2281) T_285_123 rfl ?_
              refine x_li (z := s) T_285_124 rfl ?_
              refine x_lr (z := some 2281) T_285_125 rfl ?_
              refine x_gR (z := some 2306) T_285_126 F_17_30 (PM.t hP) (PM.r hP 30 2306 rfl) ?_
              refine x_li (z := k) T_285_129 rfl ?_
              have b4 : 0 ≤ P 2306 k ∧ P 2306 k ≤ (if k < 192 then 63 else 143) := IV.a hI 2306 0 288 rfl rfl rfl (by omega) (by omega)
              refine x_alI (z := P 2306 k) T_285_131 (by decide) (PM.ta hP 2306 0 288 rfl rfl) (by omega) (by omega) (PM.aP hP 2306 rfl rfl (by omega)) ?_
              refine x_cv3 T_285_132 mN_252 mL_252 (Nat.le_of_ble_eq_true rfl) mO_252 (PM.t hP) (Nat.le_of_ble_eq_true rfl) (m_isDirectory hP (by omega)) ?_
              rintro _ σ ⟨rfl, rfl⟩
              refine cI ?_
              refine x_if T_285_135 (fun h135 => ?_) (fun h135 => ?_)
              · replace h135 : ¬ (qMode P s (P 2306 k) < 0) := ite1_z h135
                refine x_li (z := 0) T_285_162 rfl ?_
                refine x_if T_285_164 (fun _ => ?_) (fun h => absurd (show (0 : Int) ≤ 0 by decide) h)
                rw [if_neg (show ¬ k < 0 by omega), if_neg (show ¬ (P 2309 k < 0 ∨ and32 (P 2309 k) 3 = 1) by omega), if_neg (show ¬ ¬ P 2310 k = 0 by omega), if_neg (show ¬ P 2313 (2 * s + c) - 11 < cnt by omega), if_neg (show ¬ (qMode P s (P 2306 k) < 0 ∧ ¬ off = 0 ∧ ¬ off = P 2311 k) by omega), if_pos rfl]
                exact go σ S1 _ _ hP hR (by omega) (by omega) (by omega)
              · replace h135 : (qMode P s (P 2306 k) < 0) := ite1_n h135
                refine x_ll (z := off) T_285_138 rfl ?_
                refine x_lc T_285_140 ?_
                refine x_lif T_285_141 T_285_142 (fun h142 => ?_) (fun h142 => ?_)
                · replace h142 : off = 0 := h142
                  refine x_li (z := 0) T_285_162 rfl ?_
                  refine x_if T_285_164 (fun _ => ?_) (fun h => absurd (show (0 : Int) ≤ 0 by decide) h)
                  rw [if_neg (show ¬ k < 0 by omega), if_neg (show ¬ (P 2309 k < 0 ∨ and32 (P 2309 k) 3 = 1) by omega), if_neg (show ¬ ¬ P 2310 k = 0 by omega), if_neg (show ¬ P 2313 (2 * s + c) - 11 < cnt by omega), if_neg (show ¬ (qMode P s (P 2306 k) < 0 ∧ ¬ off = 0 ∧ ¬ off = P 2311 k) by omega), if_pos rfl]
                  exact go σ S1 _ _ hP hR (by omega) (by omega) (by omega)
                · replace h142 : ¬ (off = 0) := h142
                  refine x_ll (z := off) T_285_145 rfl ?_
                  refine x_lr (z := some 2281) T_285_147 rfl ?_
                  refine x_gR (z := some 2311) T_285_148 F_17_35 (PM.t hP) (PM.r hP 35 2311 rfl) ?_
                  refine x_li (z := k) T_285_151 rfl ?_
                  have b5 : -9223372036854775808 ≤ P 2311 k ∧ P 2311 k ≤ 9223372036854775807 := IV.a hI 2311 3 288 rfl rfl rfl (by omega) (by omega)
                  refine x_alL (z := P 2311 k) T_285_153 (PM.ta hP 2311 3 288 rfl rfl) (by omega) (by omega) (PM.aP hP 2311 rfl rfl (by omega)) ?_
                  refine x_lif T_285_154 T_285_155 (fun h155 => ?_) (fun h155 => ?_)
                  · replace h155 : off = P 2311 k := h155
                    refine x_li (z := 0) T_285_162 rfl ?_
                    refine x_if T_285_164 (fun _ => ?_) (fun h => absurd (show (0 : Int) ≤ 0 by decide) h)
                    rw [if_neg (show ¬ k < 0 by omega), if_neg (show ¬ (P 2309 k < 0 ∨ and32 (P 2309 k) 3 = 1) by omega), if_neg (show ¬ ¬ P 2310 k = 0 by omega), if_neg (show ¬ P 2313 (2 * s + c) - 11 < cnt by omega), if_neg (show ¬ (qMode P s (P 2306 k) < 0 ∧ ¬ off = 0 ∧ ¬ off = P 2311 k) by omega), if_pos rfl]
                    exact go σ S1 _ _ hP hR (by omega) (by omega) (by omega)
                  · replace h155 : ¬ (off = P 2311 k) := h155
                    refine x_ic T_285_158 ?_
                    refine x_si (ls1 := [some (vR (some 2281)), some (vI s), some (vI c), some (vL v), none, some (vL off), none, some (vL cnt), none, some (vI k), some (vI 13), none]) T_285_160 rfl ?_
                    refine x_li (z := 13) T_285_162 rfl ?_
                    refine x_if T_285_164 (fun h => absurd (show (13 : Int) ≤ 0 from h) (by decide)) (fun _ => ?_)
                    refine x_lr (z := some 2281) T_285_167 rfl ?_
                    refine x_li (z := 13) T_285_168 rfl ?_
                    refine x_cv2 T_285_170 mN_235 mL_235 (Nat.le_of_ble_eq_true rfl) mO_235 (PM.t hP) (Nat.le_of_ble_eq_true rfl) (m_refuse hP (by omega)) ?_
                    rintro _ σ ⟨rfl, hP⟩
                    refine cV ?_
                    refine x_rv T_285_173 ?_
                    exact SV_not hP hR (by decide) (if_neg (by rw [if_neg (by omega), if_neg (by omega), if_neg (by omega), if_neg (by omega), if_pos (by omega)]; decide)) (by rw [if_neg (by omega), if_neg (by omega), if_neg (by omega), if_neg (by omega), if_pos (by omega)])
            · replace h107 : ¬ (cnt ≤ (P 2313 ((2 * s) + c) - 11)) := h107
              refine x_ic T_285_110 ?_
              refine x_goto T_285_112 ?_
              refine x_si (ls1 := [some (vR (some 2281)), some (vI s), some (vI c), some (vL v), none, some (vL off), none, some (vL cnt), none, some (vI k), some (vI 14), none]) T_285_116 rfl ?_
              refine x_li (z := 14) T_285_118 rfl ?_
              refine x_if T_285_120 (fun _ => ?_) (fun h => absurd (show ¬ (14 : Int) = 0 by decide) h)
              refine x_li (z := 14) T_285_162 rfl ?_
              refine x_if T_285_164 (fun h => absurd (show (14 : Int) ≤ 0 from h) (by decide)) (fun _ => ?_)
              refine x_lr (z := some 2281) T_285_167 rfl ?_
              refine x_li (z := 14) T_285_168 rfl ?_
              refine x_cv2 T_285_170 mN_235 mL_235 (Nat.le_of_ble_eq_true rfl) mO_235 (PM.t hP) (Nat.le_of_ble_eq_true rfl) (m_refuse hP (by omega)) ?_
              rintro _ σ ⟨rfl, hP⟩
              refine cV ?_
              refine x_rv T_285_173 ?_
              exact SV_not hP hR (by decide) (if_neg (by rw [if_neg (by omega), if_neg (by omega), if_neg (by omega), if_pos (by omega)]; decide)) (by rw [if_neg (by omega), if_neg (by omega), if_neg (by omega), if_pos (by omega)])
          · replace h83 : ¬ (P 2310 k = 0) := h83
            refine x_ic T_285_86 ?_
            refine x_goto T_285_87 ?_
            refine x_si (ls1 := [some (vR (some 2281)), some (vI s), some (vI c), some (vL v), none, some (vL off), none, some (vL cnt), none, some (vI k), some (vI 1), none]) T_285_116 rfl ?_
            refine x_li (z := 1) T_285_118 rfl ?_
            refine x_if T_285_120 (fun _ => ?_) (fun h => absurd (show ¬ (1 : Int) = 0 by decide) h)
            refine x_li (z := 1) T_285_162 rfl ?_
            refine x_if T_285_164 (fun h => absurd (show (1 : Int) ≤ 0 from h) (by decide)) (fun _ => ?_)
            refine x_lr (z := some 2281) T_285_167 rfl ?_
            refine x_li (z := 1) T_285_168 rfl ?_
            refine x_cv2 T_285_170 mN_235 mL_235 (Nat.le_of_ble_eq_true rfl) mO_235 (PM.t hP) (Nat.le_of_ble_eq_true rfl) (m_refuse hP (by omega)) ?_
            rintro _ σ ⟨rfl, hP⟩
            refine cV ?_
            refine x_rv T_285_173 ?_
            exact SV_not hP hR (by decide) (if_neg (by rw [if_neg (by omega), if_neg (by omega), if_pos (by omega)]; decide)) (by rw [if_neg (by omega), if_neg (by omega), if_pos (by omega)])
        · replace h68 : ¬ (¬ (and32 (P 2309 k) 3) = 1) := h68
          refine x_ic T_285_71 ?_
          refine x_goto T_285_73 ?_
          refine x_si (ls1 := [some (vR (some 2281)), some (vI s), some (vI c), some (vL v), none, some (vL off), none, some (vL cnt), none, some (vI k), some (vI 9), none]) T_285_116 rfl ?_
          refine x_li (z := 9) T_285_118 rfl ?_
          refine x_if T_285_120 (fun _ => ?_) (fun h => absurd (show ¬ (9 : Int) = 0 by decide) h)
          refine x_li (z := 9) T_285_162 rfl ?_
          refine x_if T_285_164 (fun h => absurd (show (9 : Int) ≤ 0 from h) (by decide)) (fun _ => ?_)
          refine x_lr (z := some 2281) T_285_167 rfl ?_
          refine x_li (z := 9) T_285_168 rfl ?_
          refine x_cv2 T_285_170 mN_235 mL_235 (Nat.le_of_ble_eq_true rfl) mO_235 (PM.t hP) (Nat.le_of_ble_eq_true rfl) (m_refuse hP (by omega)) ?_
          rintro _ σ ⟨rfl, hP⟩
          refine cV ?_
          refine x_rv T_285_173 ?_
          exact SV_not hP hR (by decide) (if_neg (by rw [if_neg (by omega), if_pos (by omega)]; decide)) (by rw [if_neg (by omega), if_pos (by omega)])
    · replace h40 : ¬ (0 ≤ k) := h40
      refine x_ic T_285_43 ?_
      refine x_goto T_285_45 ?_
      refine x_si (ls1 := [some (vR (some 2281)), some (vI s), some (vI c), some (vL v), none, some (vL off), none, some (vL cnt), none, some (vI k), some (vI 6), none]) T_285_116 rfl ?_
      refine x_li (z := 6) T_285_118 rfl ?_
      refine x_if T_285_120 (fun _ => ?_) (fun h => absurd (show ¬ (6 : Int) = 0 by decide) h)
      refine x_li (z := 6) T_285_162 rfl ?_
      refine x_if T_285_164 (fun h => absurd (show (6 : Int) ≤ 0 from h) (by decide)) (fun _ => ?_)
      refine x_lr (z := some 2281) T_285_167 rfl ?_
      refine x_li (z := 6) T_285_168 rfl ?_
      refine x_cv2 T_285_170 mN_235 mL_235 (Nat.le_of_ble_eq_true rfl) mO_235 (PM.t hP) (Nat.le_of_ble_eq_true rfl) (m_refuse hP (by omega)) ?_
      rintro _ σ ⟨rfl, hP⟩
      refine cV ?_
      refine x_rv T_285_173 ?_
      exact SV_not hP hR (by decide) (if_neg (by rw [if_pos (by omega)]; decide)) (by rw [if_pos (by omega)])
  · rw [show rdErr P s c (S 2285) (S 2281 4) = 14 by unfold rdErr; exact if_pos h23, if_neg (show ¬ (14 : Int) = 0 by decide)]
    have hh : ¬ (av (S 2281 4) (av (S 2281 4) (av (S 2281 4) 7 4) 8) 4 = S 2281 4 ∧ 0 ≤ av (S 2281 4) (av (S 2281 4) (av (S 2281 4) 7 4) 8) 4) := by
      unfold av
      (repeat' split) <;> omega
    refine CL_in mL_285 rfl ?_
    show WP fb _ 285 0 [some (vR (some 2281)), some (vI s), some (vI c), none, none, none, none, none, none, none, none, none] [] σ _
    refine x_lr (z := some 2281) T_285_0 rfl ?_
    refine x_ic T_285_1 ?_
    refine x_cv2 T_285_2 mN_234 mL_234 (Nat.le_of_ble_eq_true rfl) mO_234 (PM.t hP) (Nat.le_of_ble_eq_true rfl) (r_num 4 rfl hP hR (by decide) rfl) ?_
    rintro _ σ ⟨rfl, S1, hP, hR⟩
    refine cL ?_
    refine x_sl (ls1 := [some (vR (some 2281)), some (vI s), some (vI c), some (vL (nv (S 2285) (S 2281 4) 7 4)), none, none, none, none, none, none, none, none]) T_285_5 rfl ?_
    refine x_lr (z := some 2281) T_285_6 rfl ?_
    refine x_ic T_285_7 ?_
    refine x_cv2 T_285_9 mN_234 mL_234 (Nat.le_of_ble_eq_true rfl) mO_234 (PM.t hP) (Nat.le_of_ble_eq_true rfl) (r_num 8 rfl hP hR (by decide) rfl) ?_
    rintro _ σ ⟨rfl, S1, hP, hR⟩
    refine cL ?_
    refine x_sl (ls1 := [some (vR (some 2281)), some (vI s), some (vI c), some (vL (nv (S 2285) (S 2281 4) 7 4)), none, some (vL (nv (S 2285) (S 2281 4) (av (S 2281 4) 7 4) 8)), none, none, none, none, none, none]) T_285_12 rfl ?_
    refine x_lr (z := some 2281) T_285_14 rfl ?_
    refine x_ic T_285_15 ?_
    refine x_cv2 T_285_16 mN_234 mL_234 (Nat.le_of_ble_eq_true rfl) mO_234 (PM.t hP) (Nat.le_of_ble_eq_true rfl) (r_num 4 rfl hP hR (by decide) rfl) ?_
    rintro _ σ ⟨rfl, S1, hP, hR⟩
    refine cL ?_
    refine x_sl (ls1 := [some (vR (some 2281)), some (vI s), some (vI c), some (vL (nv (S 2285) (S 2281 4) 7 4)), none, some (vL (nv (S 2285) (S 2281 4) (av (S 2281 4) 7 4) 8)), none, some (vL (nv (S 2285) (S 2281 4) (av (S 2281 4) (av (S 2281 4) 7 4) 8) 4)), none, none, none, none]) T_285_19 rfl ?_
    refine x_lr (z := some 2281) T_285_21 rfl ?_
    have hw := r_isWhole (fb := fb) (d := d + 2) hP hR
    rw [if_neg hh, if_neg hh] at hw
    refine x_cv1 T_285_22 mN_241 mL_241 (Nat.le_of_ble_eq_true rfl) mO_241 (PM.t hP) (Nat.le_of_ble_eq_true rfl) (hw) ?_
    rintro _ σ ⟨rfl, hP⟩
    refine cI ?_
    refine x_if T_285_25 (fun h => absurd (show ¬ (0 : Int) = 0 from h) (by decide)) (fun _ => ?_)
    refine x_rv T_285_28 ?_
    exact SV_no hP hR (by decide)
end MREAD3
