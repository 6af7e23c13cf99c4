/-! unmount: one member, or all. -/
theorem T_368_115 : hTab 368 115 = some ((0, 0, 0, []), 116) := rfl
theorem T_368_116 : hTab 368 116 = some ((4, 7, 0, []), 118) := rfl
theorem T_368_118 : hTab 368 118 = some ((3, 7, 0, []), 120) := rfl
theorem T_368_120 : hTab 368 120 = some ((3, 0, 2, []), 121) := rfl
theorem T_368_121 : hTab 368 121 = some ((24, 17, Int.ofNat 67, []), 124) := rfl
theorem T_368_124 : hTab 368 124 = some ((3, 4, 0, []), 126) := rfl
theorem T_368_126 : hTab 368 126 = some ((26, 0, 0, []), 127) := rfl
theorem T_368_127 : hTab 368 127 = some ((19, 3, Int.ofNat 172, []), 130) := rfl
theorem T_368_130 : hTab 368 130 = some ((3, 0, 2, []), 131) := rfl
theorem T_368_131 : hTab 368 131 = some ((24, 17, Int.ofNat 68, []), 134) := rfl
theorem T_368_134 : hTab 368 134 = some ((0, 0, 6, []), 136) := rfl
theorem T_368_136 : hTab 368 136 = some ((3, 4, 0, []), 138) := rfl
theorem T_368_138 : hTab 368 138 = some ((10, 2, 0, []), 139) := rfl
theorem T_368_139 : hTab 368 139 = some ((3, 7, 0, []), 141) := rfl
theorem T_368_141 : hTab 368 141 = some ((10, 0, 0, []), 142) := rfl
theorem T_368_142 : hTab 368 142 = some ((26, 0, 0, []), 143) := rfl
theorem T_368_143 : hTab 368 143 = some ((3, 5, 0, []), 145) := rfl
theorem T_368_145 : hTab 368 145 = some ((19, 1, Int.ofNat 166, []), 148) := rfl
theorem T_368_148 : hTab 368 148 = some ((3, 0, 2, []), 149) := rfl
theorem T_368_149 : hTab 368 149 = some ((24, 17, Int.ofNat 70, []), 152) := rfl
theorem T_368_152 : hTab 368 152 = some ((0, 0, 6, []), 154) := rfl
theorem T_368_154 : hTab 368 154 = some ((3, 4, 0, []), 156) := rfl
theorem T_368_156 : hTab 368 156 = some ((10, 2, 0, []), 157) := rfl
theorem T_368_157 : hTab 368 157 = some ((3, 7, 0, []), 159) := rfl
theorem T_368_159 : hTab 368 159 = some ((10, 0, 0, []), 160) := rfl
theorem T_368_160 : hTab 368 160 = some ((26, 0, 0, []), 161) := rfl
theorem T_368_161 : hTab 368 161 = some ((3, 6, 0, []), 163) := rfl
theorem T_368_163 : hTab 368 163 = some ((19, 0, Int.ofNat 172, []), 166) := rfl
theorem T_368_166 : hTab 368 166 = some ((5, 7, 1, []), 169) := rfl
theorem T_368_169 : hTab 368 169 = some ((22, 0, Int.ofNat 118, []), 172) := rfl
theorem T_368_172 : hTab 368 172 = some ((3, 7, 0, []), 174) := rfl
theorem T_368_174 : hTab 368 174 = some ((3, 0, 2, []), 175) := rfl
theorem T_368_175 : hTab 368 175 = some ((24, 17, Int.ofNat 67, []), 178) := rfl
theorem T_368_178 : hTab 368 178 = some ((3, 4, 0, []), 180) := rfl
theorem T_368_180 : hTab 368 180 = some ((26, 0, 0, []), 181) := rfl
theorem T_368_181 : hTab 368 181 = some ((19, 1, Int.ofNat 186, []), 184) := rfl
theorem T_368_184 : hTab 368 184 = some ((0, 0, 1, []), 185) := rfl
theorem T_368_185 : hTab 368 185 = some ((33, 1, 0, []), 186) := rfl
theorem T_368_186 : hTab 368 186 = some ((0, 0, 6, []), 188) := rfl
theorem T_368_188 : hTab 368 188 = some ((3, 4, 0, []), 190) := rfl
theorem T_368_190 : hTab 368 190 = some ((10, 2, 0, []), 191) := rfl
theorem T_368_191 : hTab 368 191 = some ((3, 7, 0, []), 193) := rfl
theorem T_368_193 : hTab 368 193 = some ((10, 0, 0, []), 194) := rfl
theorem T_368_194 : hTab 368 194 = some ((4, 8, 0, []), 196) := rfl
theorem T_368_196 : hTab 368 196 = some ((3, 0, 2, []), 197) := rfl
theorem T_368_197 : hTab 368 197 = some ((0, 0, 120, []), 199) := rfl
theorem T_368_199 : hTab 368 199 = some ((3, 0, 2, []), 200) := rfl
theorem T_368_200 : hTab 368 200 = some ((24, 17, Int.ofNat 68, []), 203) := rfl
theorem T_368_203 : hTab 368 203 = some ((3, 8, 0, []), 205) := rfl
theorem T_368_205 : hTab 368 205 = some ((26, 0, 0, []), 206) := rfl
theorem T_368_206 : hTab 368 206 = some ((3, 0, 2, []), 207) := rfl
theorem T_368_207 : hTab 368 207 = some ((24, 17, Int.ofNat 69, []), 210) := rfl
theorem T_368_210 : hTab 368 210 = some ((3, 8, 0, []), 212) := rfl
theorem T_368_212 : hTab 368 212 = some ((26, 0, 0, []), 213) := rfl
theorem T_368_213 : hTab 368 213 = some ((31, 345, 0, []), 216) := rfl
theorem T_368_216 : hTab 368 216 = some ((7, 0, 0, []), 217) := rfl
theorem T_368_217 : hTab 368 217 = some ((3, 0, 2, []), 218) := rfl
theorem T_368_218 : hTab 368 218 = some ((24, 17, Int.ofNat 67, []), 221) := rfl
theorem T_368_221 : hTab 368 221 = some ((3, 4, 0, []), 223) := rfl
theorem T_368_223 : hTab 368 223 = some ((8, 0, 0, []), 224) := rfl
theorem T_368_224 : hTab 368 224 = some ((26, 0, 0, []), 225) := rfl
theorem T_368_225 : hTab 368 225 = some ((0, 0, 1, []), 226) := rfl
theorem T_368_226 : hTab 368 226 = some ((10, 1, 0, []), 227) := rfl
theorem T_368_227 : hTab 368 227 = some ((27, 0, 0, []), 228) := rfl
theorem T_368_228 : hTab 368 228 = some ((3, 7, 0, []), 230) := rfl
theorem T_368_230 : hTab 368 230 = some ((4, 9, 0, []), 232) := rfl
theorem T_368_232 : hTab 368 232 = some ((3, 9, 0, []), 234) := rfl
theorem T_368_234 : hTab 368 234 = some ((3, 0, 2, []), 235) := rfl
theorem T_368_235 : hTab 368 235 = some ((24, 17, Int.ofNat 67, []), 238) := rfl
theorem T_368_238 : hTab 368 238 = some ((3, 4, 0, []), 240) := rfl
theorem T_368_240 : hTab 368 240 = some ((26, 0, 0, []), 241) := rfl
theorem T_368_241 : hTab 368 241 = some ((19, 3, Int.ofNat 272, []), 244) := rfl
theorem T_368_244 : hTab 368 244 = some ((3, 0, 2, []), 245) := rfl
theorem T_368_245 : hTab 368 245 = some ((0, 0, 6, []), 247) := rfl
theorem T_368_247 : hTab 368 247 = some ((3, 4, 0, []), 249) := rfl
theorem T_368_249 : hTab 368 249 = some ((10, 2, 0, []), 250) := rfl
theorem T_368_250 : hTab 368 250 = some ((3, 9, 0, []), 252) := rfl
theorem T_368_252 : hTab 368 252 = some ((10, 0, 0, []), 253) := rfl
theorem T_368_253 : hTab 368 253 = some ((0, 0, 1, []), 254) := rfl
theorem T_368_254 : hTab 368 254 = some ((10, 0, 0, []), 255) := rfl
theorem T_368_255 : hTab 368 255 = some ((0, 0, 6, []), 257) := rfl
theorem T_368_257 : hTab 368 257 = some ((3, 4, 0, []), 259) := rfl
theorem T_368_259 : hTab 368 259 = some ((10, 2, 0, []), 260) := rfl
theorem T_368_260 : hTab 368 260 = some ((3, 9, 0, []), 262) := rfl
theorem T_368_262 : hTab 368 262 = some ((10, 0, 0, []), 263) := rfl
theorem T_368_263 : hTab 368 263 = some ((31, 370, 0, []), 266) := rfl
theorem T_368_266 : hTab 368 266 = some ((5, 9, 1, []), 269) := rfl
theorem T_368_269 : hTab 368 269 = some ((22, 0, Int.ofNat 232, []), 272) := rfl
theorem T_368_272 : hTab 368 272 = some ((3, 0, 2, []), 273) := rfl
theorem T_368_273 : hTab 368 273 = some ((24, 17, Int.ofNat 67, []), 276) := rfl
theorem T_368_276 : hTab 368 276 = some ((3, 4, 0, []), 278) := rfl
theorem T_368_278 : hTab 368 278 = some ((26, 0, 0, []), 279) := rfl
theorem T_368_279 : hTab 368 279 = some ((18, 1, Int.ofNat 294, []), 282) := rfl
theorem T_368_282 : hTab 368 282 = some ((3, 0, 2, []), 283) := rfl
theorem T_368_283 : hTab 368 283 = some ((3, 0, 2, []), 284) := rfl
theorem T_368_284 : hTab 368 284 = some ((24, 17, Int.ofNat 53, []), 287) := rfl
theorem T_368_287 : hTab 368 287 = some ((3, 1, 0, []), 288) := rfl
theorem T_368_288 : hTab 368 288 = some ((26, 0, 0, []), 289) := rfl
theorem T_368_289 : hTab 368 289 = some ((3, 4, 0, []), 291) := rfl
theorem T_368_291 : hTab 368 291 = some ((31, 369, 0, []), 294) := rfl
theorem T_368_294 : hTab 368 294 = some ((0, 0, 0, []), 295) := rfl
theorem T_368_295 : hTab 368 295 = some ((33, 1, 0, []), 296) := rfl
theorem mN_368 : hmN 368 = 2 := by decide +kernel
theorem mL_368 : hmL 368 = 10 := by decide +kernel
theorem mK_368 : hmK 368 = 1 := by decide +kernel
theorem mO_368 : hmO 368 = 17 := by decide +kernel
def unJ (P : qR) (pt sv pa : Int) : Nat → Int → Int
  | 0, j => j
  | m + 1, j => if P 2338 (6 * pt + j) = sv ∧ P 2340 (6 * pt + j) = pa then j else unJ P pt sv pa m (j + 1)
def gMvD (pt : Int) : Nat → Int → qR → qR
  | 0, _, P => P
  | m + 1, k, P => gMvD pt m (k + 1) (gMv P (6 * pt + k + 1) (6 * pt + k))
/-- one member at j of a point goes -/
def unD (P : qR) (g pt j : Int) : qR := if P 2337 pt - 1 = 0 then gRmP (gMvD pt (P 2337 pt - 1 - j).toNat j (rU P 2337 pt (P 2337 pt - 1))) g pt else gMvD pt (P 2337 pt - 1 - j).toNat j (rU P 2337 pt (P 2337 pt - 1))
def unM (P : qR) (g pt sv pa : Int) : Int × qR := if unJ P pt sv pa (P 2337 pt).toNat 0 = P 2337 pt then (1, P) else (0, unD (tP P (P 2338 (6 * pt + unJ P pt sv pa (P 2337 pt).toNat 0)) (mOne 120 (P 2339 (6 * pt + unJ P pt sv pa (P 2337 pt).toNat 0)))) g pt (unJ P pt sv pa (P 2337 pt).toNat 0))
section MUNM
variable {fb : Bool} {d : Nat} {σ0 σ : hM} {P Q R S S1 S2 : qR} {T U s w g u p k e t z o thr pt off n N v sv pa : Int} {l l1 l2 nm wd A : List Int} {h : List Ch} {f : Int → Int} {x : Nw} {c : Ch} {ns : List Nw}
theorem gRmP_pts (h : GI T U P) (hPT : ∀ g k : Int, 0 ≤ g → g < 8 → 0 ≤ k → k < P 2334 g → ¬ 8 * g + k = pt → 1 ≤ P 2337 (8 * g + k)) (hg : 0 ≤ g ∧ g < 8) (hpt : 8 * g ≤ pt ∧ pt < 8 * g + P 2334 g) : GI T U (gRmP P g pt) ∧ PTS (gRmP P g pt) ∧ RF (2334 :: ptR) (gRmP P g pt) P := by
  have bp : 0 ≤ P 2334 g ∧ P 2334 g ≤ 8 := IV.a h.iv 2334 0 8 rfl rfl rfl (by omega) (by omega)
  have h1 := GI_one (f := 2334) (j := g) (v := P 2334 g - 1) (ty := 0) (len := 8) h rfl (show 0 ≤ P 2334 g - 1 ∧ P 2334 g - 1 ≤ 8 by omega) rfl rfl rfl rfl rfl rfl rfl rfl rfl (by decide) (by decide)
  have hrp : ∀ i, gRmP P g pt 2334 i = if i = g then P 2334 g - 1 else P 2334 i := fun i => by
    unfold gRmP
    rw [gRmL_rf _ _ _ 2334 i rfl]
    by_cases q : i = g
    · rw [if_pos q, q, rU_s]
    · rw [if_neg q, rU_k q]
  refine ⟨GI_gRmL _ _ _ (by omega) (by omega) h1, fun g1 k a1 a2 a3 a4 => ?_, ?_⟩
  · rw [hrp] at a4
    have hm : gRmP P g pt 2337 (8 * g1 + k) = if pt ≤ 8 * g1 + k ∧ 8 * g1 + k < pt + ((8 * g + P 2334 g - 1 - pt).toNat : Int) then P 2337 (8 * g1 + k + 1) else P 2337 (8 * g1 + k) := by
      unfold gRmP
      rw [gRmL_many, rU_f (by decide), rU_f (by decide)]
    rw [hm]
    by_cases q : g1 = g
    · rw [if_pos q] at a4
      subst q
      split
      · have := hPT g1 (k + 1) a1 a2 (by omega) (by omega) (by omega)
        rw [show 8 * g1 + k + 1 = 8 * g1 + (k + 1) by omega]
        exact this
      · exact hPT g1 k a1 a2 a3 (by omega) (by omega)
    · rw [if_neg q] at a4
      have bk : 0 ≤ P 2334 g1 ∧ P 2334 g1 ≤ 8 := IV.a h.iv 2334 0 8 rfl rfl rfl (by omega) (by omega)
      rw [if_neg (by omega)]
      exact hPT g1 k a1 a2 a3 a4 (by omega)
  · intro f i hf
    unfold gRmP
    have hf2 : ptR.elem f = false := elem_sub (l1 := ptR) (l2 := 2334 :: ptR) (by decide) hf
    rw [gRmL_rf _ _ _ f i hf2]
    exact rU_f (fun q => by rw [q] at hf; exact absurd hf (by decide))
theorem gMvD_rf : ∀ (m : Nat) (k : Int) (P : qR), RF mbR (gMvD pt m k P) P
  | 0, _, _ => RF_rfl
  | m + 1, k, P => RF_tr (gMvD_rf m (k + 1) _) gMv_rf
theorem GI_gMvD (hk : 0 ≤ pt ∧ pt < 64) : ∀ (m : Nat) (k : Int) (P : qR), 0 ≤ k → k + m ≤ 5 → GI T U P → GI T U (gMvD pt m k P)
  | 0, _, _, _, _, h => h
  | m + 1, k, P, h0, h1, h => GI_gMvD hk m (k + 1) _ (by omega) (by omega) (GI_gMv h (by omega) (by omega))
theorem unJ_rng : ∀ (m : Nat) (j : Int), j ≤ unJ P pt sv pa m j ∧ unJ P pt sv pa m j ≤ j + m
  | 0, j => ⟨Int.le_refl j, by show j ≤ j + ((0 : Nat) : Int); omega⟩
  | m + 1, j => by
    unfold unJ
    split
    · omega
    · have := unJ_rng m (j + 1)
      omega
theorem m_unm_find {e0 h0 : Int} (hP : PM σ0 P S σ) (hG : GI T U P) (hpt : 0 ≤ pt ∧ pt < 64) (hn : P 2337 pt = n) (hn6 : n ≤ 6) {Q : Option AV → hM → Prop} : ∀ (m : Nat) (j : Int), j + m = n → 0 ≤ j → WP fb d 368 172 [some (vR (some 2281)), some (vI p), some (vI e0), some (vI h0), some (vI pt), some (vI sv), some (vI pa), some (vI (unJ P pt sv pa m j)), none, none] [] σ Q → WP fb d 368 118 [some (vR (some 2281)), some (vI p), some (vI e0), some (vI h0), some (vI pt), some (vI sv), some (vI pa), some (vI j), none, none] [] σ Q := by
  intro m
  induction m with
  | zero =>
    intro j h1 h2 hQ
    have h1 : j + ((0 : Nat) : Int) = n := h1
    rw [show unJ P pt sv pa 0 j = j from rfl] at hQ
    refine x_li (z := j) T_368_118 rfl ?_
    refine x_lr (z := some 2281) T_368_120 rfl ?_
    refine x_gR (z := some 2337) T_368_121 F_17_67 (PM.t hP) (PM.r hP 67 2337 rfl) ?_
    refine x_li (z := pt) T_368_124 rfl ?_
    refine x_alI (z := n) T_368_126 (by decide) (PM.ta hP 2337 0 64 rfl rfl) (by omega) (by omega) (Eq.trans (PM.aP hP 2337 rfl rfl (by omega)) hn) ?_
    refine x_ic2 T_368_127 (fun _ => ?_) (fun h => absurd (show n ≤ j by omega) h)
    exact hQ
  | succ m ih =>
    intro j h1 h2 hQ
    obtain ⟨y1, hy1⟩ : ∃ y, P 2338 (6 * pt + j) = y := ⟨_, rfl⟩
    obtain ⟨y2, hy2⟩ : ∃ y, P 2340 (6 * pt + j) = y := ⟨_, rfl⟩
    by_cases q1 : y1 = sv
    · by_cases q2 : y2 = pa
      · rw [show unJ P pt sv pa (m + 1) j = j from if_pos ⟨hy1.trans q1, hy2.trans q2⟩] at hQ
        refine x_li (z := j) T_368_118 rfl ?_
        refine x_lr (z := some 2281) T_368_120 rfl ?_
        refine x_gR (z := some 2337) T_368_121 F_17_67 (PM.t hP) (PM.r hP 67 2337 rfl) ?_
        refine x_li (z := pt) T_368_124 rfl ?_
        refine x_alI (z := n) T_368_126 (by decide) (PM.ta hP 2337 0 64 rfl rfl) (by omega) (by omega) (Eq.trans (PM.aP hP 2337 rfl rfl (by omega)) hn) ?_
        refine x_ic2 T_368_127 (fun h => absurd (show n ≤ j from h) (by omega)) (fun _ => ?_)
        refine x_lr (z := some 2281) T_368_130 rfl ?_
        refine x_gR (z := some 2338) T_368_131 F_17_68 (PM.t hP) (PM.r hP 68 2338 rfl) ?_
        refine x_ic T_368_134 ?_
        refine x_li (z := pt) T_368_136 rfl ?_
        refine x_ib (w := (6 * pt)) T_368_138 (fun h => absurd h.1 (by decide)) (w32_id (by omega) (by omega)) ?_
        refine x_li (z := j) T_368_139 rfl ?_
        refine x_ib (w := ((6 * pt) + j)) T_368_141 (fun h => absurd h.1 (by decide)) (w32_id (by omega) (by omega)) ?_
        refine x_alI (z := y1) T_368_142 (by decide) (PM.ta hP 2338 0 384 rfl rfl) (by omega) (by omega) (Eq.trans (PM.aP hP 2338 rfl rfl (by omega)) hy1) ?_
        refine x_li (z := sv) T_368_143 rfl ?_
        refine x_ic2 T_368_145 (fun h => absurd (show ¬ y1 = sv from h) (by omega)) (fun _ => ?_)
        refine x_lr (z := some 2281) T_368_148 rfl ?_
        refine x_gR (z := some 2340) T_368_149 F_17_70 (PM.t hP) (PM.r hP 70 2340 rfl) ?_
        refine x_ic T_368_152 ?_
        refine x_li (z := pt) T_368_154 rfl ?_
        refine x_ib (w := (6 * pt)) T_368_156 (fun h => absurd h.1 (by decide)) (w32_id (by omega) (by omega)) ?_
        refine x_li (z := j) T_368_157 rfl ?_
        refine x_ib (w := ((6 * pt) + j)) T_368_159 (fun h => absurd h.1 (by decide)) (w32_id (by omega) (by omega)) ?_
        refine x_alI (z := y2) T_368_160 (by decide) (PM.ta hP 2340 0 384 rfl rfl) (by omega) (by omega) (Eq.trans (PM.aP hP 2340 rfl rfl (by omega)) hy2) ?_
        refine x_li (z := pa) T_368_161 rfl ?_
        refine x_ic2 T_368_163 (fun _ => ?_) (fun h => absurd (show y2 = pa by omega) h)
        exact hQ
      · rw [show unJ P pt sv pa (m + 1) j = unJ P pt sv pa m (j + 1) from if_neg (fun c => q2 (hy2.symm.trans c.2))] at hQ
        have hgo := ih (j + 1) (by omega) (by omega) hQ
        refine x_li (z := j) T_368_118 rfl ?_
        refine x_lr (z := some 2281) T_368_120 rfl ?_
        refine x_gR (z := some 2337) T_368_121 F_17_67 (PM.t hP) (PM.r hP 67 2337 rfl) ?_
        refine x_li (z := pt) T_368_124 rfl ?_
        refine x_alI (z := n) T_368_126 (by decide) (PM.ta hP 2337 0 64 rfl rfl) (by omega) (by omega) (Eq.trans (PM.aP hP 2337 rfl rfl (by omega)) hn) ?_
        refine x_ic2 T_368_127 (fun h => absurd (show n ≤ j from h) (by omega)) (fun _ => ?_)
        refine x_lr (z := some 2281) T_368_130 rfl ?_
        refine x_gR (z := some 2338) T_368_131 F_17_68 (PM.t hP) (PM.r hP 68 2338 rfl) ?_
        refine x_ic T_368_134 ?_
        refine x_li (z := pt) T_368_136 rfl ?_
        refine x_ib (w := (6 * pt)) T_368_138 (fun h => absurd h.1 (by decide)) (w32_id (by omega) (by omega)) ?_
        refine x_li (z := j) T_368_139 rfl ?_
        refine x_ib (w := ((6 * pt) + j)) T_368_141 (fun h => absurd h.1 (by decide)) (w32_id (by omega) (by omega)) ?_
        refine x_alI (z := y1) T_368_142 (by decide) (PM.ta hP 2338 0 384 rfl rfl) (by omega) (by omega) (Eq.trans (PM.aP hP 2338 rfl rfl (by omega)) hy1) ?_
        refine x_li (z := sv) T_368_143 rfl ?_
        refine x_ic2 T_368_145 (fun h => absurd (show ¬ y1 = sv from h) (by omega)) (fun _ => ?_)
        refine x_lr (z := some 2281) T_368_148 rfl ?_
        refine x_gR (z := some 2340) T_368_149 F_17_70 (PM.t hP) (PM.r hP 70 2340 rfl) ?_
        refine x_ic T_368_152 ?_
        refine x_li (z := pt) T_368_154 rfl ?_
        refine x_ib (w := (6 * pt)) T_368_156 (fun h => absurd h.1 (by decide)) (w32_id (by omega) (by omega)) ?_
        refine x_li (z := j) T_368_157 rfl ?_
        refine x_ib (w := ((6 * pt) + j)) T_368_159 (fun h => absurd h.1 (by decide)) (w32_id (by omega) (by omega)) ?_
        refine x_alI (z := y2) T_368_160 (by decide) (PM.ta hP 2340 0 384 rfl rfl) (by omega) (by omega) (Eq.trans (PM.aP hP 2340 rfl rfl (by omega)) hy2) ?_
        refine x_li (z := pa) T_368_161 rfl ?_
        refine x_ic2 T_368_163 (fun h => absurd (show y2 = pa from h) (by omega)) (fun _ => ?_)
        refine x_inc (w := (j + 1)) (ls1 := [some (vR (some 2281)), some (vI p), some (vI e0), some (vI h0), some (vI pt), some (vI sv), some (vI pa), some (vI (j + 1)), none, none]) T_368_166 rfl (w32_id (by omega) (by omega)) rfl ?_
        refine x_goto T_368_169 ?_
        exact hgo
    · rw [show unJ P pt sv pa (m + 1) j = unJ P pt sv pa m (j + 1) from if_neg (fun c => q1 (hy1.symm.trans c.1))] at hQ
      have hgo := ih (j + 1) (by omega) (by omega) hQ
      refine x_li (z := j) T_368_118 rfl ?_
      refine x_lr (z := some 2281) T_368_120 rfl ?_
      refine x_gR (z := some 2337) T_368_121 F_17_67 (PM.t hP) (PM.r hP 67 2337 rfl) ?_
      refine x_li (z := pt) T_368_124 rfl ?_
      refine x_alI (z := n) T_368_126 (by decide) (PM.ta hP 2337 0 64 rfl rfl) (by omega) (by omega) (Eq.trans (PM.aP hP 2337 rfl rfl (by omega)) hn) ?_
      refine x_ic2 T_368_127 (fun h => absurd (show n ≤ j from h) (by omega)) (fun _ => ?_)
      refine x_lr (z := some 2281) T_368_130 rfl ?_
      refine x_gR (z := some 2338) T_368_131 F_17_68 (PM.t hP) (PM.r hP 68 2338 rfl) ?_
      refine x_ic T_368_134 ?_
      refine x_li (z := pt) T_368_136 rfl ?_
      refine x_ib (w := (6 * pt)) T_368_138 (fun h => absurd h.1 (by decide)) (w32_id (by omega) (by omega)) ?_
      refine x_li (z := j) T_368_139 rfl ?_
      refine x_ib (w := ((6 * pt) + j)) T_368_141 (fun h => absurd h.1 (by decide)) (w32_id (by omega) (by omega)) ?_
      refine x_alI (z := y1) T_368_142 (by decide) (PM.ta hP 2338 0 384 rfl rfl) (by omega) (by omega) (Eq.trans (PM.aP hP 2338 rfl rfl (by omega)) hy1) ?_
      refine x_li (z := sv) T_368_143 rfl ?_
      refine x_ic2 T_368_145 (fun _ => ?_) (fun h => absurd (show ¬ y1 = sv by omega) h)
      refine x_inc (w := (j + 1)) (ls1 := [some (vR (some 2281)), some (vI p), some (vI e0), some (vI h0), some (vI pt), some (vI sv), some (vI pa), some (vI (j + 1)), none, none]) T_368_166 rfl (w32_id (by omega) (by omega)) rfl ?_
      refine x_goto T_368_169 ?_
      exact hgo
theorem m_unm_shift {e0 h0 j m0 : Int} (hpt : 0 ≤ pt ∧ pt < 64) (hn5 : n ≤ 5) {Q : Option AV → hM → Prop} : ∀ (m : Nat) (k : Int) (P : qR) (σ : hM), k + m = n → 0 ≤ k → P 2337 pt = n → PM σ0 P S σ → GI T U P → (∀ σ : hM, PM σ0 (gMvD pt m k P) S σ → WP fb (d + 1) 368 272 [some (vR (some 2281)), some (vI p), some (vI e0), some (vI h0), some (vI pt), some (vI sv), some (vI pa), some (vI j), some (vI m0), some (vI n)] [] σ Q) → WP fb (d + 1) 368 232 [some (vR (some 2281)), some (vI p), some (vI e0), some (vI h0), some (vI pt), some (vI sv), some (vI pa), some (vI j), some (vI m0), some (vI k)] [] σ Q := by
  intro m
  induction m with
  | zero =>
    intro k P σ h1 h2 hn hP hG hQ
    have h1 : k + ((0 : Nat) : Int) = n := h1
    have hk : k = n := by omega
    subst hk
    have hgo := hQ σ hP
    refine x_li (z := k) T_368_232 rfl ?_
    refine x_lr (z := some 2281) T_368_234 rfl ?_
    refine x_gR (z := some 2337) T_368_235 F_17_67 (PM.t hP) (PM.r hP 67 2337 rfl) ?_
    refine x_li (z := pt) T_368_238 rfl ?_
    refine x_alI (z := k) T_368_240 (by decide) (PM.ta hP 2337 0 64 rfl rfl) (by omega) (by omega) (Eq.trans (PM.aP hP 2337 rfl rfl (by omega)) hn) ?_
    refine x_ic2 T_368_241 (fun _ => ?_) (fun h => absurd (show k ≤ k by omega) h)
    exact hgo
  | succ m ih =>
    intro k P σ h1 h2 hn hP hG hQ
    have hmv := m_moveMember (fb := fb) (d := d) (a := 6 * pt + k + 1) (b := 6 * pt + k) hP hG.iv (by omega) (by omega)
    have hgo := fun (σ : hM) (hP : PM σ0 (gMv P (6 * pt + k + 1) (6 * pt + k)) S σ) => ih (k + 1) _ σ (by omega) (by omega) ((gMv_rf 2337 pt rfl).trans hn) hP (GI_gMv hG (by omega) (by omega)) hQ
    refine x_li (z := k) T_368_232 rfl ?_
    refine x_lr (z := some 2281) T_368_234 rfl ?_
    refine x_gR (z := some 2337) T_368_235 F_17_67 (PM.t hP) (PM.r hP 67 2337 rfl) ?_
    refine x_li (z := pt) T_368_238 rfl ?_
    refine x_alI (z := n) T_368_240 (by decide) (PM.ta hP 2337 0 64 rfl rfl) (by omega) (by omega) (Eq.trans (PM.aP hP 2337 rfl rfl (by omega)) hn) ?_
    refine x_ic2 T_368_241 (fun h => absurd (show n ≤ k from h) (by omega)) (fun _ => ?_)
    refine x_lr (z := some 2281) T_368_244 rfl ?_
    refine x_ic T_368_245 ?_
    refine x_li (z := pt) T_368_247 rfl ?_
    refine x_ib (w := (6 * pt)) T_368_249 (fun h => absurd h.1 (by decide)) (w32_id (by omega) (by omega)) ?_
    refine x_li (z := k) T_368_250 rfl ?_
    refine x_ib (w := ((6 * pt) + k)) T_368_252 (fun h => absurd h.1 (by decide)) (w32_id (by omega) (by omega)) ?_
    refine x_ic T_368_253 ?_
    refine x_ib (w := (((6 * pt) + k) + 1)) T_368_254 (fun h => absurd h.1 (by decide)) (w32_id (by omega) (by omega)) ?_
    refine x_ic T_368_255 ?_
    refine x_li (z := pt) T_368_257 rfl ?_
    refine x_ib (w := (6 * pt)) T_368_259 (fun h => absurd h.1 (by decide)) (w32_id (by omega) (by omega)) ?_
    refine x_li (z := k) T_368_260 rfl ?_
    refine x_ib (w := ((6 * pt) + k)) T_368_262 (fun h => absurd h.1 (by decide)) (w32_id (by omega) (by omega)) ?_
    refine x_cv3 T_368_263 mN_370 mL_370 (Nat.le_of_ble_eq_true rfl) mO_370 (PM.t hP) (Nat.le_of_ble_eq_true rfl) (hmv) ?_
    clear hP hmv
    rintro _ σ ⟨rfl, hP⟩
    refine cV ?_
    refine x_inc (w := (k + 1)) (ls1 := [some (vR (some 2281)), some (vI p), some (vI e0), some (vI h0), some (vI pt), some (vI sv), some (vI pa), some (vI j), some (vI m0), some (vI (k + 1))]) T_368_266 rfl (w32_id (by omega) (by omega)) rfl ?_
    refine x_goto T_368_269 ?_
    exact hgo σ hP
theorem unD_ok {j : Int} (h : GI T U P) (hPT : PTS P) (hg : 0 ≤ g ∧ g < 8) (hpt : 8 * g ≤ pt ∧ pt < 8 * g + P 2334 g) (hj : 0 ≤ j ∧ j < P 2337 pt) : GI T U (unD P g pt j) ∧ PTS (unD P g pt j) := by
  have bp : 0 ≤ P 2334 g ∧ P 2334 g ≤ 8 := IV.a h.iv 2334 0 8 rfl rfl rfl (by omega) (by omega)
  have bm : 0 ≤ P 2337 pt ∧ P 2337 pt ≤ 6 := IV.a h.iv 2337 0 64 rfl rfl rfl (by omega) (by omega)
  have h1 := GI_one (f := 2337) (j := pt) (v := P 2337 pt - 1) (ty := 0) (len := 64) h rfl (show 0 ≤ P 2337 pt - 1 ∧ P 2337 pt - 1 ≤ 6 by omega) rfl rfl rfl rfl rfl rfl rfl rfl rfl (by decide) (by decide)
  have h2 := GI_gMvD (pt := pt) ⟨by omega, by omega⟩ (P 2337 pt - 1 - j).toNat j _ hj.1 (by omega) h1
  have hr := gMvD_rf (pt := pt) (P 2337 pt - 1 - j).toNat j (rU P 2337 pt (P 2337 pt - 1))
  have hpo : ∀ i, gMvD pt (P 2337 pt - 1 - j).toNat j (rU P 2337 pt (P 2337 pt - 1)) 2334 i = P 2334 i := fun i => (hr 2334 i rfl).trans (rU_f (by decide))
  have hmm : ∀ i, ¬ i = pt → gMvD pt (P 2337 pt - 1 - j).toNat j (rU P 2337 pt (P 2337 pt - 1)) 2337 i = P 2337 i := fun i hi => (hr 2337 i rfl).trans (rU_k hi)
  unfold unD
  by_cases q : P 2337 pt - 1 = 0
  · rw [if_pos q]
    have := gRmP_pts (pt := pt) h2 (fun g1 k a1 a2 a3 a4 a5 => by
      rw [hpo] at a4
      have bk : 0 ≤ P 2334 g1 ∧ P 2334 g1 ≤ 8 := IV.a h.iv 2334 0 8 rfl rfl rfl (by omega) (by omega)
      rw [hmm _ a5]
      exact hPT g1 k a1 a2 a3 a4) hg (by rw [hpo]; exact hpt)
    exact ⟨this.1, this.2.1⟩
  · rw [if_neg q]
    refine ⟨h2, fun g1 k a1 a2 a3 a4 => ?_⟩
    rw [hpo] at a4
    by_cases q2 : 8 * g1 + k = pt
    · rw [q2, hr 2337 pt rfl, rU_s]
      omega
    · rw [hmm _ q2]
      exact hPT g1 k a1 a2 a3 a4
theorem m_unm_one {e0 h0 : Int} (hP : PM σ0 P S σ) (hK : KS T U P S l []) (hp : 0 ≤ p ∧ p < 8) (hT : T + 100 ≤ 2147483000) (hg : P 2323 p = g) (hpt : 8 * g ≤ pt ∧ pt < 8 * g + P 2334 g) : WP fb (d + 12) 368 115 [some (vR (some 2281)), some (vI p), some (vI e0), some (vI h0), some (vI pt), some (vI sv), some (vI pa), none, none, none] [] σ (KC (T + 4) U σ0 S l (unM P g pt sv pa).1 (unM P g pt sv pa).2 []) := by
  have bg : 0 ≤ P 2323 p ∧ P 2323 p ≤ 7 := IV.a hK.1.iv 2323 0 8 rfl rfl rfl (by omega) (by omega)
  rw [hg] at bg
  have bp : 0 ≤ P 2334 g ∧ P 2334 g ≤ 8 := IV.a hK.1.iv 2334 0 8 rfl rfl rfl (by omega) (by omega)
  have bm : 0 ≤ P 2337 pt ∧ P 2337 pt ≤ 6 := IV.a hK.1.iv 2337 0 64 rfl rfl rfl (by omega) (by omega)
  have hjr := unJ_rng (P := P) (pt := pt) (sv := sv) (pa := pa) (P 2337 pt).toNat 0
  unfold unM
  obtain ⟨j, hj⟩ : ∃ j, unJ P pt sv pa (P 2337 pt).toNat 0 = j := ⟨_, rfl⟩
  have hud := fun (P : qR) (a1 : GI (T + 4) U P) (a2 : PTS P) (a3 : pt < 8 * g + P 2334 g) (a4 : j < P 2337 pt) => unD_ok (j := j) a1 a2 (show 0 ≤ g ∧ g < 8 by omega) ⟨hpt.1, a3⟩ ⟨by omega, a4⟩
  rw [hj] at hjr ⊢
  obtain ⟨n, hn⟩ : ∃ n, P 2337 pt = n := ⟨_, rfl⟩
  rw [hn] at bm hjr hj ⊢
  refine x_ic T_368_115 ?_
  refine x_si (ls1 := [some (vR (some 2281)), some (vI p), some (vI e0), some (vI h0), some (vI pt), some (vI sv), some (vI pa), some (vI 0), none, none]) T_368_116 rfl ?_
  refine m_unm_find (d := d + 12) hP hK.1 ⟨by omega, by omega⟩ hn bm.2 n.toNat 0 (by omega) (by decide) ?_
  rw [hj]
  by_cases q1 : j = n
  · rw [if_pos q1]
    dsimp only
    refine x_li (z := j) T_368_172 rfl ?_
    refine x_lr (z := some 2281) T_368_174 rfl ?_
    refine x_gR (z := some 2337) T_368_175 F_17_67 (PM.t hP) (PM.r hP 67 2337 rfl) ?_
    refine x_li (z := pt) T_368_178 rfl ?_
    refine x_alI (z := n) T_368_180 (by decide) (PM.ta hP 2337 0 64 rfl rfl) (by omega) (by omega) (Eq.trans (PM.aP hP 2337 rfl rfl (by omega)) hn) ?_
    refine x_ic2 T_368_181 (fun h => absurd (show ¬ j = n from h) (by omega)) (fun _ => ?_)
    refine x_ic T_368_184 ?_
    refine x_ri T_368_185 ?_
    exact ⟨S, rfl, hP, hK.mono (by omega), SX_rfl⟩
  · rw [if_neg q1]
    dsimp only
    have b1 : 0 ≤ P 2338 (6 * pt + j) ∧ P 2338 (6 * pt + j) ≤ 2 := IV.a hK.1.iv 2338 0 384 rfl rfl rfl (by omega) (by omega)
    obtain ⟨y1, hy1⟩ : ∃ y, P 2338 (6 * pt + j) = y := ⟨_, rfl⟩
    obtain ⟨y2, hy2⟩ : ∃ y, P 2339 (6 * pt + j) = y := ⟨_, rfl⟩
    rw [hy1] at b1
    rw [hy1, hy2]
    obtain ⟨P3, hP3⟩ : ∃ P3, tP P y1 (mOne 120 y2) = P3 := ⟨_, rfl⟩
    have hkf : KF P3 P := by rw [← hP3]; exact KF_tP
    have hn3 : P3 2337 pt = n := (hkf _ _ rfl (by decide) (by decide) (by decide)).trans hn
    have hg3 : P3 2323 p = g := (hkf _ _ rfl (by decide) (by decide) (by decide)).trans hg
    have hp3 : P3 2334 g = P 2334 g := hkf _ _ rfl (by decide) (by decide) (by decide)
    rw [hP3]
    refine x_li (z := j) T_368_172 rfl ?_
    refine x_lr (z := some 2281) T_368_174 rfl ?_
    refine x_gR (z := some 2337) T_368_175 F_17_67 (PM.t hP) (PM.r hP 67 2337 rfl) ?_
    refine x_li (z := pt) T_368_178 rfl ?_
    refine x_alI (z := n) T_368_180 (by decide) (PM.ta hP 2337 0 64 rfl rfl) (by omega) (by omega) (Eq.trans (PM.aP hP 2337 rfl rfl (by omega)) hn) ?_
    refine x_ic2 T_368_181 (fun _ => ?_) (fun h => absurd (show ¬ j = n by omega) h)
    refine x_ic T_368_186 ?_
    refine x_li (z := pt) T_368_188 rfl ?_
    refine x_ib (w := (6 * pt)) T_368_190 (fun h => absurd h.1 (by decide)) (w32_id (by omega) (by omega)) ?_
    refine x_li (z := j) T_368_191 rfl ?_
    refine x_ib (w := ((6 * pt) + j)) T_368_193 (fun h => absurd h.1 (by decide)) (w32_id (by omega) (by omega)) ?_
    refine x_si (ls1 := [some (vR (some 2281)), some (vI p), some (vI e0), some (vI h0), some (vI pt), some (vI sv), some (vI pa), some (vI j), some (vI ((6 * pt) + j)), none]) T_368_194 rfl ?_
    refine x_lr (z := some 2281) T_368_196 rfl ?_
    refine x_ic T_368_197 ?_
    refine x_lr (z := some 2281) T_368_199 rfl ?_
    refine x_gR (z := some 2338) T_368_200 F_17_68 (PM.t hP) (PM.r hP 68 2338 rfl) ?_
    refine x_li (z := ((6 * pt) + j)) T_368_203 rfl ?_
    refine x_alI (z := y1) T_368_205 (by decide) (PM.ta hP 2338 0 384 rfl rfl) (by omega) (by omega) (Eq.trans (PM.aP hP 2338 rfl rfl (by omega)) hy1) ?_
    refine x_lr (z := some 2281) T_368_206 rfl ?_
    refine x_gR (z := some 2339) T_368_207 F_17_69 (PM.t hP) (PM.r hP 69 2339 rfl) ?_
    refine x_li (z := ((6 * pt) + j)) T_368_210 rfl ?_
    refine x_alI (z := y2) T_368_212 (by decide) (PM.ta hP 2339 0 384 rfl rfl) (by omega) (by omega) (Eq.trans (PM.aP hP 2339 rfl rfl (by omega)) hy2) ?_
    refine x_cv4 T_368_213 mN_345 mL_345 (Nat.le_of_ble_eq_true rfl) mO_345 (PM.t hP) (Nat.le_of_ble_eq_true rfl) (g_askOne hP hK.2.2.1 hK.1 (by omega) (by omega) (Or.inl rfl)) ?_
    clear hP
    intro r σ hr
    obtain ⟨S2, rfl, hP, hK2, hX2, -⟩ := hK.ask (T1 := T + 4) (by omega) hr
    rw [hP3] at hP hK2
    refine cI ?_
    refine x_popI T_368_216 ?_
    refine x_lr (z := some 2281) T_368_217 rfl ?_
    refine x_gR (z := some 2337) T_368_218 F_17_67 (PM.t hP) (PM.r hP 67 2337 rfl) ?_
    refine x_li (z := pt) T_368_221 rfl ?_
    refine x_dup2 T_368_223 ?_
    refine x_alI (z := n) T_368_224 (by decide) (PM.ta hP 2337 0 64 rfl rfl) (by omega) (by omega) (Eq.trans (PM.aP hP 2337 rfl rfl (by omega)) hn3) ?_
    refine x_ic T_368_225 ?_
    refine x_ib (w := (n - 1)) T_368_226 (fun h => absurd h.1 (by decide)) (w32_id (by omega) (by omega)) ?_
    refine y_aIP hP T_368_227 2337 64 rfl rfl rfl (by omega) (by omega) (fun σ hP => ?_)
    refine x_li (z := j) T_368_228 rfl ?_
    refine x_si (ls1 := [some (vR (some 2281)), some (vI p), some (vI e0), some (vI h0), some (vI pt), some (vI sv), some (vI pa), some (vI j), some (vI ((6 * pt) + j)), some (vI j)]) T_368_230 rfl ?_
    have h1 := GI_one (f := 2337) (j := pt) (v := n - 1) (ty := 0) (len := 64) hK2.1 rfl (show 0 ≤ n - 1 ∧ n - 1 ≤ 6 by omega) rfl rfl rfl rfl rfl rfl rfl rfl rfl (by decide) (by decide)
    have hok := hud P3 hK2.1 hK2.2.1 (by rw [hp3]; exact hpt.2) (by rw [hn3]; omega)
    refine m_unm_shift (d := d + 11) (n := n - 1) ⟨by omega, by omega⟩ (by omega) (n - 1 - j).toNat j _ σ (by omega) (by omega) rU_s hP h1 ?_
    clear hP
    intro σ hP
    unfold unD at hok ⊢
    rw [hn3] at hok ⊢
    obtain ⟨P5, hP5⟩ : ∃ P5, gMvD pt (n - 1 - j).toNat j (rU P3 2337 pt (n - 1)) = P5 := ⟨_, rfl⟩
    have hr := gMvD_rf (pt := pt) (n - 1 - j).toNat j (rU P3 2337 pt (n - 1))
    have h2 := GI_gMvD (pt := pt) ⟨by omega, by omega⟩ (n - 1 - j).toNat j _ (by omega) (by omega) h1
    rw [hP5] at hP hok hr h2 ⊢
    have hn5 : P5 2337 pt = n - 1 := (hr 2337 pt rfl).trans rU_s
    have hg5 : P5 2323 p = g := (hr 2323 p rfl).trans ((rU_f (by decide)).trans hg3)
    have hp5 : P5 2334 g = P 2334 g := (hr 2334 g rfl).trans ((rU_f (by decide)).trans hp3)
    by_cases q2 : n - 1 = 0
    · rw [if_pos q2] at hok ⊢
      have hrm := fun (σ : hM) (hP : PM σ0 P5 S2 σ) => m_removePoint (fb := fb) (d := d + 10) (g := g) (pt := pt) hP h2 (by omega) ⟨hpt.1, by rw [hp5]; exact hpt.2⟩
      refine x_lr (z := some 2281) T_368_272 rfl ?_
      refine x_gR (z := some 2337) T_368_273 F_17_67 (PM.t hP) (PM.r hP 67 2337 rfl) ?_
      refine x_li (z := pt) T_368_276 rfl ?_
      refine x_alI (z := (n - 1)) T_368_278 (by decide) (PM.ta hP 2337 0 64 rfl rfl) (by omega) (by omega) (Eq.trans (PM.aP hP 2337 rfl rfl (by omega)) hn5) ?_
      refine x_if T_368_279 (fun h => absurd (show ¬ (n - 1) = 0 from h) (by omega)) (fun _ => ?_)
      refine x_lr (z := some 2281) T_368_282 rfl ?_
      refine x_lr (z := some 2281) T_368_283 rfl ?_
      refine x_gR (z := some 2323) T_368_284 F_17_53 (PM.t hP) (PM.r hP 53 2323 rfl) ?_
      refine x_li (z := p) T_368_287 rfl ?_
      refine x_alI (z := g) T_368_288 (by decide) (PM.ta hP 2323 0 8 rfl rfl) (by omega) (by omega) (Eq.trans (PM.aP hP 2323 rfl rfl (by omega)) hg5) ?_
      refine x_li (z := pt) T_368_289 rfl ?_
      refine x_cv3 T_368_291 mN_369 mL_369 (Nat.le_of_ble_eq_true rfl) mO_369 (PM.t hP) (Nat.le_of_ble_eq_true rfl) (hrm σ hP) ?_
      clear hP hrm
      rintro _ σ ⟨rfl, hP⟩
      refine cV ?_
      refine x_ic T_368_294 ?_
      refine x_ri T_368_295 ?_
      exact ⟨S2, rfl, hP, ⟨hok.1, hok.2, hK2.2.2⟩, hX2⟩
    · rw [if_neg q2] at hok ⊢
      refine x_lr (z := some 2281) T_368_272 rfl ?_
      refine x_gR (z := some 2337) T_368_273 F_17_67 (PM.t hP) (PM.r hP 67 2337 rfl) ?_
      refine x_li (z := pt) T_368_276 rfl ?_
      refine x_alI (z := (n - 1)) T_368_278 (by decide) (PM.ta hP 2337 0 64 rfl rfl) (by omega) (by omega) (Eq.trans (PM.aP hP 2337 rfl rfl (by omega)) hn5) ?_
      refine x_if T_368_279 (fun _ => ?_) (fun h => absurd (show ¬ (n - 1) = 0 by omega) h)
      refine x_ic T_368_294 ?_
      refine x_ri T_368_295 ?_
      exact ⟨S2, rfl, hP, ⟨hok.1, hok.2, hK2.2.2⟩, hX2⟩
end MUNM
