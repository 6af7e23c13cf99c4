/-! A file is made at a path. -/
theorem T_355_0 : hTab 355 0 = some ((3, 0, 2, []), 1) := rfl
theorem T_355_1 : hTab 355 1 = some ((3, 1, 0, []), 2) := rfl
theorem T_355_2 : hTab 355 2 = some ((3, 2, 0, []), 3) := rfl
theorem T_355_3 : hTab 355 3 = some ((31, 328, 0, []), 6) := rfl
theorem T_355_6 : hTab 355 6 = some ((4, 6, 0, []), 8) := rfl
theorem T_355_8 : hTab 355 8 = some ((3, 6, 0, []), 10) := rfl
theorem T_355_10 : hTab 355 10 = some ((18, 5, Int.ofNat 16, []), 13) := rfl
theorem T_355_13 : hTab 355 13 = some ((3, 6, 0, []), 15) := rfl
theorem T_355_15 : hTab 355 15 = some ((33, 1, 0, []), 16) := rfl
theorem T_355_16 : hTab 355 16 = some ((3, 0, 2, []), 17) := rfl
theorem T_355_17 : hTab 355 17 = some ((24, 17, Int.ofNat 83, []), 20) := rfl
theorem T_355_20 : hTab 355 20 = some ((18, 1, Int.ofNat 25, []), 23) := rfl
theorem T_355_23 : hTab 355 23 = some ((0, 0, 5, []), 24) := rfl
theorem T_355_24 : hTab 355 24 = some ((33, 1, 0, []), 25) := rfl
theorem T_355_25 : hTab 355 25 = some ((3, 0, 2, []), 26) := rfl
theorem T_355_26 : hTab 355 26 = some ((3, 1, 0, []), 27) := rfl
theorem T_355_27 : hTab 355 27 = some ((3, 0, 2, []), 28) := rfl
theorem T_355_28 : hTab 355 28 = some ((24, 17, Int.ofNat 83, []), 31) := rfl
theorem T_355_31 : hTab 355 31 = some ((0, 0, 1, []), 32) := rfl
theorem T_355_32 : hTab 355 32 = some ((10, 1, 0, []), 33) := rfl
theorem T_355_33 : hTab 355 33 = some ((0, 0, 1, []), 34) := rfl
theorem T_355_34 : hTab 355 34 = some ((31, 332, 0, []), 37) := rfl
theorem T_355_37 : hTab 355 37 = some ((4, 6, 0, []), 39) := rfl
theorem T_355_39 : hTab 355 39 = some ((3, 6, 0, []), 41) := rfl
theorem T_355_41 : hTab 355 41 = some ((18, 5, Int.ofNat 47, []), 44) := rfl
theorem T_355_44 : hTab 355 44 = some ((3, 6, 0, []), 46) := rfl
theorem T_355_46 : hTab 355 46 = some ((33, 1, 0, []), 47) := rfl
theorem T_355_47 : hTab 355 47 = some ((3, 0, 2, []), 48) := rfl
theorem T_355_48 : hTab 355 48 = some ((24, 17, Int.ofNat 90, []), 51) := rfl
theorem T_355_51 : hTab 355 51 = some ((3, 0, 2, []), 52) := rfl
theorem T_355_52 : hTab 355 52 = some ((24, 17, Int.ofNat 91, []), 55) := rfl
theorem T_355_55 : hTab 355 55 = some ((0, 0, 1, []), 56) := rfl
theorem T_355_56 : hTab 355 56 = some ((10, 1, 0, []), 57) := rfl
theorem T_355_57 : hTab 355 57 = some ((26, 0, 0, []), 58) := rfl
theorem T_355_58 : hTab 355 58 = some ((4, 7, 0, []), 60) := rfl
theorem T_355_60 : hTab 355 60 = some ((3, 7, 0, []), 62) := rfl
theorem T_355_62 : hTab 355 62 = some ((18, 2, Int.ofNat 175, []), 65) := rfl
theorem T_355_65 : hTab 355 65 = some ((3, 0, 2, []), 66) := rfl
theorem T_355_66 : hTab 355 66 = some ((31, 344, 0, []), 69) := rfl
theorem T_355_69 : hTab 355 69 = some ((0, 0, (-1), []), 70) := rfl
theorem T_355_70 : hTab 355 70 = some ((4, 8, 0, []), 72) := rfl
theorem T_355_72 : hTab 355 72 = some ((3, 0, 2, []), 73) := rfl
theorem T_355_73 : hTab 355 73 = some ((24, 17, Int.ofNat 67, []), 76) := rfl
theorem T_355_76 : hTab 355 76 = some ((3, 7, 0, []), 78) := rfl
theorem T_355_78 : hTab 355 78 = some ((26, 0, 0, []), 79) := rfl
theorem T_355_79 : hTab 355 79 = some ((0, 0, 1, []), 80) := rfl
theorem T_355_80 : hTab 355 80 = some ((10, 1, 0, []), 81) := rfl
theorem T_355_81 : hTab 355 81 = some ((4, 9, 0, []), 83) := rfl
theorem T_355_83 : hTab 355 83 = some ((3, 9, 0, []), 85) := rfl
theorem T_355_85 : hTab 355 85 = some ((18, 2, Int.ofNat 125, []), 88) := rfl
theorem T_355_88 : hTab 355 88 = some ((3, 0, 2, []), 89) := rfl
theorem T_355_89 : hTab 355 89 = some ((24, 17, Int.ofNat 72, []), 92) := rfl
theorem T_355_92 : hTab 355 92 = some ((0, 0, 6, []), 94) := rfl
theorem T_355_94 : hTab 355 94 = some ((3, 7, 0, []), 96) := rfl
theorem T_355_96 : hTab 355 96 = some ((10, 2, 0, []), 97) := rfl
theorem T_355_97 : hTab 355 97 = some ((3, 9, 0, []), 99) := rfl
theorem T_355_99 : hTab 355 99 = some ((10, 0, 0, []), 100) := rfl
theorem T_355_100 : hTab 355 100 = some ((26, 2, 0, []), 101) := rfl
theorem T_355_101 : hTab 355 101 = some ((18, 0, Int.ofNat 115, []), 104) := rfl
theorem T_355_104 : hTab 355 104 = some ((0, 0, 6, []), 106) := rfl
theorem T_355_106 : hTab 355 106 = some ((3, 7, 0, []), 108) := rfl
theorem T_355_108 : hTab 355 108 = some ((10, 2, 0, []), 109) := rfl
theorem T_355_109 : hTab 355 109 = some ((3, 9, 0, []), 111) := rfl
theorem T_355_111 : hTab 355 111 = some ((10, 0, 0, []), 112) := rfl
theorem T_355_112 : hTab 355 112 = some ((22, 0, Int.ofNat 117, []), 115) := rfl
theorem T_355_115 : hTab 355 115 = some ((3, 8, 0, []), 117) := rfl
theorem T_355_117 : hTab 355 117 = some ((4, 8, 0, []), 119) := rfl
theorem T_355_119 : hTab 355 119 = some ((5, 9, (-1), []), 122) := rfl
theorem T_355_122 : hTab 355 122 = some ((22, 0, Int.ofNat 83, []), 125) := rfl
theorem T_355_125 : hTab 355 125 = some ((3, 8, 0, []), 127) := rfl
theorem T_355_127 : hTab 355 127 = some ((18, 3, Int.ofNat 133, []), 130) := rfl
theorem T_355_130 : hTab 355 130 = some ((0, 0, 17, []), 132) := rfl
theorem T_355_132 : hTab 355 132 = some ((33, 1, 0, []), 133) := rfl
theorem T_355_133 : hTab 355 133 = some ((3, 0, 2, []), 134) := rfl
theorem T_355_134 : hTab 355 134 = some ((3, 0, 2, []), 135) := rfl
theorem T_355_135 : hTab 355 135 = some ((24, 17, Int.ofNat 68, []), 138) := rfl
theorem T_355_138 : hTab 355 138 = some ((3, 8, 0, []), 140) := rfl
theorem T_355_140 : hTab 355 140 = some ((26, 0, 0, []), 141) := rfl
theorem T_355_141 : hTab 355 141 = some ((3, 0, 2, []), 142) := rfl
theorem T_355_142 : hTab 355 142 = some ((24, 17, Int.ofNat 69, []), 145) := rfl
theorem T_355_145 : hTab 355 145 = some ((3, 8, 0, []), 147) := rfl
theorem T_355_147 : hTab 355 147 = some ((26, 0, 0, []), 148) := rfl
theorem T_355_148 : hTab 355 148 = some ((3, 0, 2, []), 149) := rfl
theorem T_355_149 : hTab 355 149 = some ((24, 17, Int.ofNat 70, []), 152) := rfl
theorem T_355_152 : hTab 355 152 = some ((3, 8, 0, []), 154) := rfl
theorem T_355_154 : hTab 355 154 = some ((26, 0, 0, []), 155) := rfl
theorem T_355_155 : hTab 355 155 = some ((3, 0, 2, []), 156) := rfl
theorem T_355_156 : hTab 355 156 = some ((24, 17, Int.ofNat 71, []), 159) := rfl
theorem T_355_159 : hTab 355 159 = some ((3, 8, 0, []), 161) := rfl
theorem T_355_161 : hTab 355 161 = some ((26, 0, 0, []), 162) := rfl
theorem T_355_162 : hTab 355 162 = some ((31, 333, 0, []), 165) := rfl
theorem T_355_165 : hTab 355 165 = some ((4, 6, 0, []), 167) := rfl
theorem T_355_167 : hTab 355 167 = some ((3, 6, 0, []), 169) := rfl
theorem T_355_169 : hTab 355 169 = some ((18, 5, Int.ofNat 175, []), 172) := rfl
theorem T_355_172 : hTab 355 172 = some ((3, 6, 0, []), 174) := rfl
theorem T_355_174 : hTab 355 174 = some ((33, 1, 0, []), 175) := rfl
theorem T_355_175 : hTab 355 175 = some ((3, 0, 2, []), 176) := rfl
theorem T_355_176 : hTab 355 176 = some ((0, 0, 114, []), 178) := rfl
theorem T_355_178 : hTab 355 178 = some ((0, 0, 1, []), 179) := rfl
theorem T_355_179 : hTab 355 179 = some ((31, 228, 0, []), 182) := rfl
theorem T_355_182 : hTab 355 182 = some ((3, 0, 2, []), 183) := rfl
theorem T_355_183 : hTab 355 183 = some ((0, 0, 4, []), 184) := rfl
theorem T_355_184 : hTab 355 184 = some ((3, 0, 2, []), 185) := rfl
theorem T_355_185 : hTab 355 185 = some ((24, 17, Int.ofNat 87, []), 188) := rfl
theorem T_355_188 : hTab 355 188 = some ((3, 0, 2, []), 189) := rfl
theorem T_355_189 : hTab 355 189 = some ((24, 17, Int.ofNat 91, []), 192) := rfl
theorem T_355_192 : hTab 355 192 = some ((0, 0, 1, []), 193) := rfl
theorem T_355_193 : hTab 355 193 = some ((10, 1, 0, []), 194) := rfl
theorem T_355_194 : hTab 355 194 = some ((26, 0, 0, []), 195) := rfl
theorem T_355_195 : hTab 355 195 = some ((14, 0, 0, []), 196) := rfl
theorem T_355_196 : hTab 355 196 = some ((31, 229, 0, []), 199) := rfl
theorem T_355_199 : hTab 355 199 = some ((3, 0, 2, []), 200) := rfl
theorem T_355_200 : hTab 355 200 = some ((3, 0, 2, []), 201) := rfl
theorem T_355_201 : hTab 355 201 = some ((24, 17, Int.ofNat 81, []), 204) := rfl
theorem T_355_204 : hTab 355 204 = some ((3, 0, 2, []), 205) := rfl
theorem T_355_205 : hTab 355 205 = some ((24, 17, Int.ofNat 83, []), 208) := rfl
theorem T_355_208 : hTab 355 208 = some ((0, 0, 1, []), 209) := rfl
theorem T_355_209 : hTab 355 209 = some ((10, 1, 0, []), 210) := rfl
theorem T_355_210 : hTab 355 210 = some ((26, 0, 0, []), 211) := rfl
theorem T_355_211 : hTab 355 211 = some ((3, 0, 2, []), 212) := rfl
theorem T_355_212 : hTab 355 212 = some ((24, 17, Int.ofNat 82, []), 215) := rfl
theorem T_355_215 : hTab 355 215 = some ((3, 0, 2, []), 216) := rfl
theorem T_355_216 : hTab 355 216 = some ((24, 17, Int.ofNat 83, []), 219) := rfl
theorem T_355_219 : hTab 355 219 = some ((0, 0, 1, []), 220) := rfl
theorem T_355_220 : hTab 355 220 = some ((10, 1, 0, []), 221) := rfl
theorem T_355_221 : hTab 355 221 = some ((26, 0, 0, []), 222) := rfl
theorem T_355_222 : hTab 355 222 = some ((31, 343, 0, []), 225) := rfl
theorem T_355_225 : hTab 355 225 = some ((3, 0, 2, []), 226) := rfl
theorem T_355_226 : hTab 355 226 = some ((0, 0, 4, []), 227) := rfl
theorem T_355_227 : hTab 355 227 = some ((3, 3, 1, []), 228) := rfl
theorem T_355_228 : hTab 355 228 = some ((31, 229, 0, []), 231) := rfl
theorem T_355_231 : hTab 355 231 = some ((3, 0, 2, []), 232) := rfl
theorem T_355_232 : hTab 355 232 = some ((0, 0, 1, []), 233) := rfl
theorem T_355_233 : hTab 355 233 = some ((3, 5, 0, []), 235) := rfl
theorem T_355_235 : hTab 355 235 = some ((14, 0, 0, []), 236) := rfl
theorem T_355_236 : hTab 355 236 = some ((31, 229, 0, []), 239) := rfl
theorem T_355_239 : hTab 355 239 = some ((3, 0, 2, []), 240) := rfl
theorem T_355_240 : hTab 355 240 = some ((3, 0, 2, []), 241) := rfl
theorem T_355_241 : hTab 355 241 = some ((24, 17, Int.ofNat 86, []), 244) := rfl
theorem T_355_244 : hTab 355 244 = some ((3, 0, 2, []), 245) := rfl
theorem T_355_245 : hTab 355 245 = some ((24, 17, Int.ofNat 91, []), 248) := rfl
theorem T_355_248 : hTab 355 248 = some ((0, 0, 1, []), 249) := rfl
theorem T_355_249 : hTab 355 249 = some ((10, 1, 0, []), 250) := rfl
theorem T_355_250 : hTab 355 250 = some ((26, 0, 0, []), 251) := rfl
theorem T_355_251 : hTab 355 251 = some ((31, 231, 0, []), 254) := rfl
theorem T_355_254 : hTab 355 254 = some ((33, 1, 0, []), 255) := rfl
theorem F_17_72 : (hFd 17 72).2.2.1 = 4 := rfl
theorem mN_355 : hmN 355 = 5 := by decide +kernel
theorem mL_355 : hmL 355 = 10 := by decide +kernel
theorem mK_355 : hmK 355 = 1 := by decide +kernel
theorem mO_355 : hmO 355 = 17 := by decide +kernel
def kMk (r : Int × qR × List Ch) (nm : List Int) (perm mode : Int) : Int × qR × List Ch := match r.2.2 with
  | [] => (r.1, r.2.1, [])
  | c :: _ => (tE r.2.1 c.1 (mCre c.2.1 nm perm mode), tP r.2.1 c.1 (mCre c.2.1 nm perm mode), [c])
def kCreate (P : qR) (p : Int) (wd : List Int) (perm mode : Int) : Int × qR × List Ch := if 0 < paE (paRaw P p wd) then (paE (paRaw P p wd), P, []) else if (paM (paRaw P p wd)).length = 0 then (5, P, []) else if 0 < (kWalk P p (paO (paRaw P p wd)) 1 (paM (paRaw P p wd)).dropLast).1 then ((kWalk P p (paO (paRaw P p wd)) 1 (paM (paRaw P p wd)).dropLast).1, (kWalk P p (paO (paRaw P p wd)) 1 (paM (paRaw P p wd)).dropLast).2.1, []) else kMk (kPlc (kWalk P p (paO (paRaw P p wd)) 1 (paM (paRaw P p wd)).dropLast).2.1 (kWalk P p (paO (paRaw P p wd)) 1 (paM (paRaw P p wd)).dropLast).2.2) ((paM (paRaw P p wd)).getD ((paM (paRaw P p wd)).length - 1) []) perm mode
section MCREATE
variable {fb : Bool} {d : Nat} {σ0 σ : hM} {P Q R S S1 S2 : qR} {T U s w g u p k e t z o thr pt : Int} {l nm wd : List Int} {h : List Ch} {a f : Int → Int} {rows : List Nat} {sc : List Int} {ns : List (Int × Int)} {x : Int × Int} {c : Ch}
theorem mkM_rng : ∀ (m : Nat) (j : Int), mkM P pt m j = -1 ∨ (6 * pt + j ≤ mkM P pt m j ∧ mkM P pt m j < 6 * pt + j + m)
  | 0, _ => Or.inl rfl
  | m + 1, j => by
    unfold mkM
    split
    · exact Or.inr (by omega)
    · rcases mkM_rng m (j + 1) with q | q
      · exact Or.inl q
      · exact Or.inr (by omega)
theorem mkM_kf (hk : KF Q P) : ∀ (m : Nat) (j : Int), mkM Q pt m j = mkM P pt m j
  | 0, _ => rfl
  | m + 1, j => by
    unfold mkM
    rw [mkM_kf hk m, hk 2342 _ rfl (by decide) (by decide) (by decide)]
theorem qMk_kf (hk : KF Q P) : qMk Q pt = qMk P pt := by
  unfold qMk
  rw [mkM_kf hk, hk 2337 _ rfl (by decide) (by decide) (by decide)]
theorem mCre_len {fd perm mode : Int} : ((mCre fd nm perm mode).length : Int) = 14 + nm.length := by
  unfold mCre
  rw [List.length_append, List.length_append, List.length_append, leb_len, leb_len]
  show ((9 + nm.length + 4 + 1 : Nat) : Int) = _
  omega
theorem mCre_0 {fd perm mode : Int} : lg (mCre fd nm perm mode) 0 = 114 := rfl
theorem m_create_mk {wd0 perm mode e : Int} (hpt : 0 ≤ pt ∧ pt < 64) (hP : PM σ0 P S σ) (hz : 0 ≤ P 2337 pt ∧ P 2337 pt ≤ 6) {Q : Option AV → hM → Prop} (hQ : WP fb d 355 125 [some (vR (some 2281)), some (vI p), some (vI wd0), some (vL perm), none, some (vI mode), some (vI e), some (vI pt), some (vI (qMk P pt)), some (vI (-1))] [] σ Q) : ∀ (n : Nat) (j : Int), j = (n : Int) - 1 → j < P 2337 pt → WP fb d 355 83 [some (vR (some 2281)), some (vI p), some (vI wd0), some (vL perm), none, some (vI mode), some (vI e), some (vI pt), some (vI (mkM P pt (P 2337 pt - (j + 1)).toNat (j + 1))), some (vI j)] [] σ Q := by
  intro n
  induction n with
  | zero =>
    intro j hj h1
    have hj1 : j = -1 := by omega
    subst hj1
    have hQ2 : WP fb d 355 125 [some (vR (some 2281)), some (vI p), some (vI wd0), some (vL perm), none, some (vI mode), some (vI e), some (vI pt), some (vI (mkM P pt (P 2337 pt - (-1 + 1)).toNat (-1 + 1))), some (vI (-1))] [] σ Q := by
      rw [show P 2337 pt - (-1 + 1) = P 2337 pt by omega]
      exact hQ
    refine x_li (z := (-1)) T_355_83 rfl ?_
    refine x_if T_355_85 (fun _ => ?_) (fun h => absurd (show ((-1) : Int) < 0 by decide) h)
    exact hQ2
  | succ n ih =>
    intro j hj h1
    have bm : 0 ≤ P 2342 (6 * pt + j) ∨ True := Or.inr trivial
    have e1 : mkM P pt (P 2337 pt - j).toNat j = if ¬ P 2342 (6 * pt + j) = 0 then 6 * pt + j else mkM P pt (P 2337 pt - (j + 1)).toNat (j + 1) := by
      rw [show (P 2337 pt - j).toNat = (P 2337 pt - (j + 1)).toNat + 1 by omega]
      rfl
    have hgo := ih (j + (-1)) (by omega) (by omega)
    rw [show j + (-1) + 1 = j by omega, e1] at hgo
    refine x_li (z := j) T_355_83 rfl ?_
    refine x_if T_355_85 (fun h => absurd (show j < 0 from h) (by omega)) (fun _ => ?_)
    refine x_lr (z := some 2281) T_355_88 rfl ?_
    refine x_gR (z := some 2342) T_355_89 F_17_72 (PM.t hP) (PM.r hP 72 2342 rfl) ?_
    refine x_ic T_355_92 ?_
    refine x_li (z := pt) T_355_94 rfl ?_
    refine x_ib (w := (6 * pt)) T_355_96 (fun h => absurd h.1 (by decide)) (w32_id (by omega) (by omega)) ?_
    refine x_li (z := j) T_355_97 rfl ?_
    refine x_ib (w := ((6 * pt) + j)) T_355_99 (fun h => absurd h.1 (by decide)) (w32_id (by omega) (by omega)) ?_
    refine x_alI (z := P 2342 ((6 * pt) + j)) T_355_100 (by decide) (PM.ta hP 2342 2 384 rfl rfl) (by omega) (by omega) (PM.aP hP 2342 rfl rfl (by omega)) ?_
    refine x_if T_355_101 (fun h101 => ?_) (fun h101 => ?_)
    · replace h101 : P 2342 ((6 * pt) + j) = 0 := h101
      refine x_li (z := (mkM P pt (P 2337 pt - (j + 1)).toNat (j + 1))) T_355_115 rfl ?_
      refine x_si (ls1 := [some (vR (some 2281)), some (vI p), some (vI wd0), some (vL perm), none, some (vI mode), some (vI e), some (vI pt), some (vI (mkM P pt (P 2337 pt - (j + 1)).toNat (j + 1))), some (vI j)]) T_355_117 rfl ?_
      refine x_inc (w := (j + (-1))) (ls1 := [some (vR (some 2281)), some (vI p), some (vI wd0), some (vL perm), none, some (vI mode), some (vI e), some (vI pt), some (vI (mkM P pt (P 2337 pt - (j + 1)).toNat (j + 1))), some (vI (j + (-1)))]) T_355_119 rfl (w32_id (by omega) (by omega)) rfl ?_
      refine x_goto T_355_122 ?_
      first
        | (rw [if_neg (by omega)] at hgo; exact hgo)
        | (rw [if_pos (by omega)] at hgo; exact hgo)
    · replace h101 : ¬ (P 2342 ((6 * pt) + j) = 0) := h101
      refine x_ic T_355_104 ?_
      refine x_li (z := pt) T_355_106 rfl ?_
      refine x_ib (w := (6 * pt)) T_355_108 (fun h => absurd h.1 (by decide)) (w32_id (by omega) (by omega)) ?_
      refine x_li (z := j) T_355_109 rfl ?_
      refine x_ib (w := ((6 * pt) + j)) T_355_111 (fun h => absurd h.1 (by decide)) (w32_id (by omega) (by omega)) ?_
      refine x_goto T_355_112 ?_
      refine x_si (ls1 := [some (vR (some 2281)), some (vI p), some (vI wd0), some (vL perm), none, some (vI mode), some (vI e), some (vI pt), some (vI ((6 * pt) + j)), some (vI j)]) T_355_117 rfl ?_
      refine x_inc (w := (j + (-1))) (ls1 := [some (vR (some 2281)), some (vI p), some (vI wd0), some (vL perm), none, some (vI mode), some (vI e), some (vI pt), some (vI ((6 * pt) + j)), some (vI (j + (-1)))]) T_355_119 rfl (w32_id (by omega) (by omega)) rfl ?_
      refine x_goto T_355_122 ?_
      first
        | (rw [if_neg (by omega)] at hgo; exact hgo)
        | (rw [if_pos (by omega)] at hgo; exact hgo)
end MCREATE
section MCREATE2
variable {fb : Bool} {d : Nat} {σ0 σ : hM} {P Q R S S1 S2 : qR} {T U s w g u p k e t z o thr pt : Int} {l nm wd : List Int} {h : List Ch} {a f : Int → Int} {rows : List Nat} {sc : List Int} {ns : List (Int × Int)} {x : Int × Int} {c : Ch}
theorem kHold_app {y : Ch} : kHold e h y = h ++ kHold e [] y := by
  by_cases q : e = 0
  · rw [q, kHold0, kHold0]
    rfl
  · rw [kHoldn q, kHoldn q, List.append_nil]
theorem kWalkT_e (hp : 0 ≤ p ∧ p < 8) : ∀ (nms : List (List Int)) (P : qR) (c : Ch), PTS P → (∀ s path, 0 ≤ qPoint P p s path → 1 ≤ P 2337 (qPoint P p s path)) → 0 ≤ (kWalkT P p thr nms c).1 ∧ KF (kWalkT P p thr nms c).2.1 P
  | [], P, c, _, _ => by
    unfold kWalkT
    split
    · exact ⟨Int.le_refl _, KF_rfl⟩
    · unfold kThru
      split
      · exact ⟨Int.le_refl _, KF_rfl⟩
      · exact ⟨kCpE_rng.1, KF_tr KF_tP KF_cp⟩
  | nm :: r, P, c, hPT, hpt => by
    have hk := kNext_ok (P := P) (p := p) (x := c) (nm := nm) (fun q => hpt _ _ q)
    unfold kWalkT
    split
    · rename_i q
      exact ⟨Int.le_of_lt q, KF_tr KF_tP hk.1⟩
    · have hf : KF (kDrop (kNext P p c nm).2.1 c) P := KF_tr KF_tP hk.1
      obtain ⟨g1, g2⟩ := kWalkT_e hp r (kDrop (kNext P p c nm).2.1 c) (kNext P p c nm).2.2 (hPT.of hf) (fun s path hq => by
        rw [qPoint_kf hf] at hq ⊢
        rw [hf 2337 _ rfl (by decide) (by decide) (by decide)]
        exact hpt s path hq)
      exact ⟨g1, KF_tr g2 hf⟩
theorem kWalk_ok {nms : List (List Int)} (hI : IV false T U P) (hPT : PTS P) (hp : 0 ≤ p ∧ p < 8) : 0 ≤ (kWalk P p o thr nms).1 ∧ KF (kWalk P p o thr nms).2.1 P := by
  have hpt : ∀ s path, 0 ≤ qPoint P p s path → 1 ≤ P 2337 (qPoint P p s path) := fun s path hq => (hPT.pt hI hp hq).1
  have key : ∀ (Q : qR) (c : Ch), KF Q P → 0 ≤ (kWalkT Q p thr nms c).1 ∧ KF (kWalkT Q p thr nms c).2.1 P := fun Q c hf => by
    obtain ⟨g1, g2⟩ := kWalkT_e (thr := thr) hp nms Q c (hPT.of hf) (fun s path hq => by
      rw [qPoint_kf hf] at hq ⊢
      rw [hf 2337 _ rfl (by decide) (by decide) (by decide)]
      exact hpt s path hq)
    exact ⟨g1, KF_tr g2 hf⟩
  unfold kWalk
  split
  · split
    · exact ⟨kCpE_rng.1, KF_cp⟩
    · exact key _ _ KF_cp
  · split
    · exact ⟨kAtE_rng.1, KF_at⟩
    · exact key _ _ KF_at
theorem kWalk_e {nms : List (List Int)} (hI : IV false T U P) (hPT : PTS P) (hp : 0 ≤ p ∧ p < 8) : 0 ≤ (kWalk P p o thr nms).1 := (kWalk_ok hI hPT hp).1
theorem m_create_plc {wd0 perm mode e0 : Int} {l7 l8 l9 : Option AV} (hP : PM σ0 P S σ) (hJ : IV true T U S) (hG : GI T U P) (hT : T + 300 ≤ 2147483000) (hh : HS S (h ++ [c])) (hl : h.length + 2 < 60) {Q : Option AV → hM → Prop}
    (hQ1 : ∀ (σ : hM) (S2 P1 : qR) (c1 : Ch) (e6 : Int) (l7 l8 l9 : Option AV), kPlc P c = (0, P1, [c1]) → PM σ0 P1 S2 σ → GI (T + 8) U P1 → IV true (T + 8) U S2 → HS S2 (h ++ [c1]) → SK S S2 → WP fb (d + 13) 355 175 [some (vR (some 2281)), some (vI p), some (vI wd0), some (vL perm), none, some (vI mode), some (vI e6), l7, l8, l9] [] σ Q)
    (hQ2 : ∀ (σ : hM) (S2 P1 : qR) (e1 : Int), kPlc P c = (e1, P1, []) → 0 < e1 → PM σ0 P1 S2 σ → GI (T + 8) U P1 → IV true (T + 8) U S2 → HS S2 h → SK S S2 → Q (some (vI e1)) σ) : WP fb (d + 13) 355 47 [some (vR (some 2281)), some (vI p), some (vI wd0), some (vL perm), none, some (vI mode), some (vI e0), l7, l8, l9] [] σ Q := by
  obtain ⟨e1, e2, e3, e4, e5, e6, e7⟩ := hh.last
  obtain ⟨-, -, -, -, c5⟩ := hh.ch hJ
  have hm42 : 0 ≤ P 2281 42 ∧ P 2281 42 ≤ T := IV.n hG.iv 42 42 rfl rfl (by decide)
  by_cases q : c.2.2.2.2 < 0
  · have hk : kPlc P c = (0, P, [c]) := if_pos q
    have hgo := fun (σ : hM) (hP : PM σ0 P S σ) => hQ1 σ S P c e0 (some (vI c.2.2.2.2)) l8 l9 hk hP (hG.mono (by omega)) (hJ.mono (by omega) (Int.le_refl U)) hh SK_rfl
    refine x_lr (z := some 2281) T_355_47 rfl ?_
    refine x_gR (z := some 2354) T_355_48 F_17_90 (PM.t hP) (PM.r hP 90 2354 rfl) ?_
    refine x_lr (z := some 2281) T_355_51 rfl ?_
    refine x_gI (z := ((h.length : Int) + 1)) T_355_52 (Or.inl F_17_91) (PM.t hP) (Eq.trans (PM.nS hP 2281 91 91 rfl rfl rfl) e1) ?_
    refine x_ic T_355_55 ?_
    refine x_ib (w := (h.length : Int)) T_355_56 (fun h => absurd h.1 (by decide)) (w32_e (by omega) (by omega) (by omega)) ?_
    refine x_alI (z := c.2.2.2.2) T_355_57 (by decide) (PM.ta hP 2354 0 64 rfl rfl) (by omega) (by omega) (Eq.trans (PM.aS hP 2354 rfl rfl (by omega)) e7) ?_
    refine x_si (ls1 := [some (vR (some 2281)), some (vI p), some (vI wd0), some (vL perm), none, some (vI mode), some (vI e0), some (vI c.2.2.2.2), l8, l9]) T_355_58 rfl ?_
    refine x_li (z := c.2.2.2.2) T_355_60 rfl ?_
    refine x_if T_355_62 (fun _ => ?_) (fun h => absurd (show c.2.2.2.2 < 0 by omega) h)
    exact hgo σ hP
  · obtain ⟨pt, hpt⟩ : ∃ pt, c.2.2.2.2 = pt := ⟨_, rfl⟩
    rw [hpt] at q c5 e7
    have bm : 0 ≤ P 2337 pt ∧ P 2337 pt ≤ 6 := IV.a hG.iv 2337 0 64 rfl rfl rfl (by omega) (by omega)
    have hkf : KF (kDrop P c) P := KF_tP
    have bm2 : kDrop P c 2337 pt = P 2337 pt := hkf _ _ rfl (by decide) (by decide) (by decide)
    have hmk := qMk_kf (pt := pt) hkf
    obtain ⟨m, hm⟩ : ∃ m, qMk P pt = m := ⟨_, rfl⟩
    rw [hm] at hmk
    have hmr := mkM_rng (P := P) (pt := pt) (P 2337 pt).toNat 0
    have hmr : m = -1 ∨ (6 * pt + 0 ≤ m ∧ m < 6 * pt + 0 + ((P 2337 pt).toNat : Int)) := by rw [← hm]; exact hmr
    have hk0 : kPlc P c = if m < 0 then (17, kDrop P c, []) else (kCpE (kDrop P c) (P 2338 m) (P 2339 m), kCpP (kDrop P c) (P 2338 m) (P 2339 m), kHold (kCpE (kDrop P c) (P 2338 m) (P 2339 m)) [] (P 2338 m, qNewF (kDrop P c) (P 2338 m), P 2340 m, P 2341 m, -1)) := by
      unfold kPlc
      rw [hpt, hmk, if_neg q]
    have loop : ∀ (σ : hM) (S2 : qR) (l8 : Option AV), PM σ0 (kDrop P c) S2 σ → WP fb (d + 13) 355 125 [some (vR (some 2281)), some (vI p), some (vI wd0), some (vL perm), none, some (vI mode), some (vI e0), some (vI pt), some (vI m), some (vI (-1))] [] σ Q → WP fb (d + 13) 355 83 [some (vR (some 2281)), some (vI p), some (vI wd0), some (vL perm), none, some (vI mode), some (vI e0), some (vI pt), some (vI (-1)), some (vI (P 2337 pt - 1))] [] σ Q := by
      intro σ S2 l8 hP2 hgo
      rw [← hmk] at hgo
      have hx := m_create_mk (d := d + 13) (pt := pt) (P := kDrop P c) (S := S2) (wd0 := wd0) (perm := perm) (mode := mode) (e := e0) ⟨by omega, by omega⟩ hP2 (by rw [bm2]; exact bm) hgo (P 2337 pt).toNat (P 2337 pt - 1) (by omega) (by rw [bm2]; omega)
      rw [bm2, show P 2337 pt - (P 2337 pt - 1 + 1) = 0 by omega] at hx
      exact hx
    by_cases q2 : m < 0
    · rw [if_pos q2] at hk0
      refine x_lr (z := some 2281) T_355_47 rfl ?_
      refine x_gR (z := some 2354) T_355_48 F_17_90 (PM.t hP) (PM.r hP 90 2354 rfl) ?_
      refine x_lr (z := some 2281) T_355_51 rfl ?_
      refine x_gI (z := ((h.length : Int) + 1)) T_355_52 (Or.inl F_17_91) (PM.t hP) (Eq.trans (PM.nS hP 2281 91 91 rfl rfl rfl) e1) ?_
      refine x_ic T_355_55 ?_
      refine x_ib (w := (h.length : Int)) T_355_56 (fun h => absurd h.1 (by decide)) (w32_e (by omega) (by omega) (by omega)) ?_
      refine x_alI (z := pt) T_355_57 (by decide) (PM.ta hP 2354 0 64 rfl rfl) (by omega) (by omega) (Eq.trans (PM.aS hP 2354 rfl rfl (by omega)) e7) ?_
      refine x_si (ls1 := [some (vR (some 2281)), some (vI p), some (vI wd0), some (vL perm), none, some (vI mode), some (vI e0), some (vI pt), l8, l9]) T_355_58 rfl ?_
      refine x_li (z := pt) T_355_60 rfl ?_
      refine x_if T_355_62 (fun h => absurd (show pt < 0 from h) (by omega)) (fun _ => ?_)
      refine x_lr (z := some 2281) T_355_65 rfl ?_
      refine x_cv1 T_355_66 mN_344 mL_344 (Nat.le_of_ble_eq_true rfl) mO_344 (PM.t hP) (Nat.le_of_ble_eq_true rfl) (m_drop hP hJ hG (by omega) hh) ?_
      clear hP
      rintro _ σ ⟨S2, rfl, hP, hG2, hJ2, hh2, hK2⟩
      refine cV ?_
      refine x_ic T_355_69 ?_
      refine x_si (ls1 := [some (vR (some 2281)), some (vI p), some (vI wd0), some (vL perm), none, some (vI mode), some (vI e0), some (vI pt), some (vI (-1)), l9]) T_355_70 rfl ?_
      refine x_lr (z := some 2281) T_355_72 rfl ?_
      refine x_gR (z := some 2337) T_355_73 F_17_67 (PM.t hP) (PM.r hP 67 2337 rfl) ?_
      refine x_li (z := pt) T_355_76 rfl ?_
      refine x_alI (z := P 2337 pt) T_355_78 (by decide) (PM.ta hP 2337 0 64 rfl rfl) (by omega) (by omega) (Eq.trans (PM.aP hP 2337 rfl rfl (by omega)) bm2) ?_
      refine x_ic T_355_79 ?_
      refine x_ib (w := (P 2337 pt - 1)) T_355_80 (fun h => absurd h.1 (by decide)) (w32_id (by omega) (by omega)) ?_
      refine x_si (ls1 := [some (vR (some 2281)), some (vI p), some (vI wd0), some (vL perm), none, some (vI mode), some (vI e0), some (vI pt), some (vI (-1)), some (vI (P 2337 pt - 1))]) T_355_81 rfl ?_
      refine loop σ S2 none hP ?_
      have hgo := hQ2 σ S2 (kDrop P c) 17 hk0 (by decide) hP (hG2.mono (by omega)) (hJ2.mono (by omega) (Int.le_refl U)) hh2 hK2
      refine x_li (z := m) T_355_125 rfl ?_
      refine x_if T_355_127 (fun h => absurd (show 0 ≤ m from h) (by omega)) (fun _ => ?_)
      refine x_ic T_355_130 ?_
      refine x_ri T_355_132 ?_
      exact hgo
    · rw [if_neg q2] at hk0
      have b1 : 0 ≤ P 2338 m ∧ P 2338 m ≤ 2 := IV.a hG.iv 2338 0 384 rfl rfl rfl (by omega) (by omega)
      have b2 : 0 ≤ P 2339 m ∧ P 2339 m ≤ 47 := IV.a hG.iv 2339 0 384 rfl rfl rfl (by omega) (by omega)
      have b3 : 0 ≤ P 2340 m ∧ P 2340 m ≤ T + 200 := IV.a hG.iv 2340 0 384 rfl rfl rfl (by omega) (by omega)
      have b4 : 0 ≤ P 2341 m ∧ P 2341 m ≤ 255 := IV.a hG.iv 2341 0 384 rfl rfl rfl (by omega) (by omega)
      have r1 : kDrop P c 2338 m = P 2338 m := hkf _ _ rfl (by decide) (by decide) (by decide)
      have r2 : kDrop P c 2339 m = P 2339 m := hkf _ _ rfl (by decide) (by decide) (by decide)
      have r3 : kDrop P c 2340 m = P 2340 m := hkf _ _ rfl (by decide) (by decide) (by decide)
      have r4 : kDrop P c 2341 m = P 2341 m := hkf _ _ rfl (by decide) (by decide) (by decide)
      obtain ⟨sv, hsv⟩ : ∃ sv, P 2338 m = sv := ⟨_, rfl⟩
      obtain ⟨fd, hfd⟩ : ∃ fd, P 2339 m = fd := ⟨_, rfl⟩
      obtain ⟨pa, hpa⟩ : ∃ pa, P 2340 m = pa := ⟨_, rfl⟩
      obtain ⟨ki, hki⟩ : ∃ ki, P 2341 m = ki := ⟨_, rfl⟩
      rw [hsv] at b1 r1 hk0
      rw [hfd] at b2 r2 hk0
      rw [hpa] at b3 r3 hk0
      rw [hki] at b4 r4 hk0
      have hr := kCpE_rng (P := kDrop P c) (s := sv) (f := fd)
      obtain ⟨er, her⟩ : ∃ er, kCpE (kDrop P c) sv fd = er := ⟨_, rfl⟩
      obtain ⟨P2, hP2⟩ : ∃ P2, kCpP (kDrop P c) sv fd = P2 := ⟨_, rfl⟩
      rw [her] at hr
      rw [her, hP2] at hk0
      refine x_lr (z := some 2281) T_355_47 rfl ?_
      refine x_gR (z := some 2354) T_355_48 F_17_90 (PM.t hP) (PM.r hP 90 2354 rfl) ?_
      refine x_lr (z := some 2281) T_355_51 rfl ?_
      refine x_gI (z := ((h.length : Int) + 1)) T_355_52 (Or.inl F_17_91) (PM.t hP) (Eq.trans (PM.nS hP 2281 91 91 rfl rfl rfl) e1) ?_
      refine x_ic T_355_55 ?_
      refine x_ib (w := (h.length : Int)) T_355_56 (fun h => absurd h.1 (by decide)) (w32_e (by omega) (by omega) (by omega)) ?_
      refine x_alI (z := pt) T_355_57 (by decide) (PM.ta hP 2354 0 64 rfl rfl) (by omega) (by omega) (Eq.trans (PM.aS hP 2354 rfl rfl (by omega)) e7) ?_
      refine x_si (ls1 := [some (vR (some 2281)), some (vI p), some (vI wd0), some (vL perm), none, some (vI mode), some (vI e0), some (vI pt), l8, l9]) T_355_58 rfl ?_
      refine x_li (z := pt) T_355_60 rfl ?_
      refine x_if T_355_62 (fun h => absurd (show pt < 0 from h) (by omega)) (fun _ => ?_)
      refine x_lr (z := some 2281) T_355_65 rfl ?_
      refine x_cv1 T_355_66 mN_344 mL_344 (Nat.le_of_ble_eq_true rfl) mO_344 (PM.t hP) (Nat.le_of_ble_eq_true rfl) (m_drop hP hJ hG (by omega) hh) ?_
      clear hP
      rintro _ σ ⟨S2, rfl, hP, hG2, hJ2, hh2, hK2⟩
      refine cV ?_
      refine x_ic T_355_69 ?_
      refine x_si (ls1 := [some (vR (some 2281)), some (vI p), some (vI wd0), some (vL perm), none, some (vI mode), some (vI e0), some (vI pt), some (vI (-1)), l9]) T_355_70 rfl ?_
      refine x_lr (z := some 2281) T_355_72 rfl ?_
      refine x_gR (z := some 2337) T_355_73 F_17_67 (PM.t hP) (PM.r hP 67 2337 rfl) ?_
      refine x_li (z := pt) T_355_76 rfl ?_
      refine x_alI (z := P 2337 pt) T_355_78 (by decide) (PM.ta hP 2337 0 64 rfl rfl) (by omega) (by omega) (Eq.trans (PM.aP hP 2337 rfl rfl (by omega)) bm2) ?_
      refine x_ic T_355_79 ?_
      refine x_ib (w := (P 2337 pt - 1)) T_355_80 (fun h => absurd h.1 (by decide)) (w32_id (by omega) (by omega)) ?_
      refine x_si (ls1 := [some (vR (some 2281)), some (vI p), some (vI wd0), some (vL perm), none, some (vI mode), some (vI e0), some (vI pt), some (vI (-1)), some (vI (P 2337 pt - 1))]) T_355_81 rfl ?_
      refine loop σ S2 none hP ?_
      have hcp := m_copy (fb := fb) (d := d) (σ := σ) (s := sv) (f := fd) (g := pa) (k := ki) hP hJ2 hG2 (by omega) (by omega) hh2 (by omega) (by omega) b4
      rw [her, hP2] at hcp
      by_cases q3 : er = 0
      · rw [q3] at hcp hk0
        rw [kHold0] at hcp hk0
        refine x_li (z := m) T_355_125 rfl ?_
        refine x_if T_355_127 (fun _ => ?_) (fun h => absurd (show 0 ≤ m by omega) h)
        refine x_lr (z := some 2281) T_355_133 rfl ?_
        refine x_lr (z := some 2281) T_355_134 rfl ?_
        refine x_gR (z := some 2338) T_355_135 F_17_68 (PM.t hP) (PM.r hP 68 2338 rfl) ?_
        refine x_li (z := m) T_355_138 rfl ?_
        refine x_alI (z := sv) T_355_140 (by decide) (PM.ta hP 2338 0 384 rfl rfl) (by omega) (by omega) (Eq.trans (PM.aP hP 2338 rfl rfl (by omega)) r1) ?_
        refine x_lr (z := some 2281) T_355_141 rfl ?_
        refine x_gR (z := some 2339) T_355_142 F_17_69 (PM.t hP) (PM.r hP 69 2339 rfl) ?_
        refine x_li (z := m) T_355_145 rfl ?_
        refine x_alI (z := fd) T_355_147 (by decide) (PM.ta hP 2339 0 384 rfl rfl) (by omega) (by omega) (Eq.trans (PM.aP hP 2339 rfl rfl (by omega)) r2) ?_
        refine x_lr (z := some 2281) T_355_148 rfl ?_
        refine x_gR (z := some 2340) T_355_149 F_17_70 (PM.t hP) (PM.r hP 70 2340 rfl) ?_
        refine x_li (z := m) T_355_152 rfl ?_
        refine x_alI (z := pa) T_355_154 (by decide) (PM.ta hP 2340 0 384 rfl rfl) (by omega) (by omega) (Eq.trans (PM.aP hP 2340 rfl rfl (by omega)) r3) ?_
        refine x_lr (z := some 2281) T_355_155 rfl ?_
        refine x_gR (z := some 2341) T_355_156 F_17_71 (PM.t hP) (PM.r hP 71 2341 rfl) ?_
        refine x_li (z := m) T_355_159 rfl ?_
        refine x_alI (z := ki) T_355_161 (by decide) (PM.ta hP 2341 0 384 rfl rfl) (by omega) (by omega) (Eq.trans (PM.aP hP 2341 rfl rfl (by omega)) r4) ?_
        refine x_cv5 T_355_162 mN_333 mL_333 (Nat.le_of_ble_eq_true rfl) mO_333 (PM.t hP) (Nat.le_of_ble_eq_true rfl) (hcp) ?_
        clear hP hcp
        rintro _ σ ⟨S3, rfl, hP, hG3, hJ3, hh3, hK3⟩
        refine cI ?_
        refine x_si (ls1 := [some (vR (some 2281)), some (vI p), some (vI wd0), some (vL perm), none, some (vI mode), some (vI 0), some (vI pt), some (vI m), some (vI (-1))]) T_355_165 rfl ?_
        refine x_li (z := 0) T_355_167 rfl ?_
        refine x_if T_355_169 (fun _ => ?_) (fun h => absurd (show (0 : Int) ≤ 0 by decide) h)
        exact hQ1 σ S3 P2 _ 0 _ _ _ hk0 hP (hG3.mono (by omega)) (hJ3.mono (by omega) (Int.le_refl U)) hh3 (SK_tr hK2 hK3)
      · rw [kHoldn q3] at hcp hk0
        refine x_li (z := m) T_355_125 rfl ?_
        refine x_if T_355_127 (fun _ => ?_) (fun h => absurd (show 0 ≤ m by omega) h)
        refine x_lr (z := some 2281) T_355_133 rfl ?_
        refine x_lr (z := some 2281) T_355_134 rfl ?_
        refine x_gR (z := some 2338) T_355_135 F_17_68 (PM.t hP) (PM.r hP 68 2338 rfl) ?_
        refine x_li (z := m) T_355_138 rfl ?_
        refine x_alI (z := sv) T_355_140 (by decide) (PM.ta hP 2338 0 384 rfl rfl) (by omega) (by omega) (Eq.trans (PM.aP hP 2338 rfl rfl (by omega)) r1) ?_
        refine x_lr (z := some 2281) T_355_141 rfl ?_
        refine x_gR (z := some 2339) T_355_142 F_17_69 (PM.t hP) (PM.r hP 69 2339 rfl) ?_
        refine x_li (z := m) T_355_145 rfl ?_
        refine x_alI (z := fd) T_355_147 (by decide) (PM.ta hP 2339 0 384 rfl rfl) (by omega) (by omega) (Eq.trans (PM.aP hP 2339 rfl rfl (by omega)) r2) ?_
        refine x_lr (z := some 2281) T_355_148 rfl ?_
        refine x_gR (z := some 2340) T_355_149 F_17_70 (PM.t hP) (PM.r hP 70 2340 rfl) ?_
        refine x_li (z := m) T_355_152 rfl ?_
        refine x_alI (z := pa) T_355_154 (by decide) (PM.ta hP 2340 0 384 rfl rfl) (by omega) (by omega) (Eq.trans (PM.aP hP 2340 rfl rfl (by omega)) r3) ?_
        refine x_lr (z := some 2281) T_355_155 rfl ?_
        refine x_gR (z := some 2341) T_355_156 F_17_71 (PM.t hP) (PM.r hP 71 2341 rfl) ?_
        refine x_li (z := m) T_355_159 rfl ?_
        refine x_alI (z := ki) T_355_161 (by decide) (PM.ta hP 2341 0 384 rfl rfl) (by omega) (by omega) (Eq.trans (PM.aP hP 2341 rfl rfl (by omega)) r4) ?_
        refine x_cv5 T_355_162 mN_333 mL_333 (Nat.le_of_ble_eq_true rfl) mO_333 (PM.t hP) (Nat.le_of_ble_eq_true rfl) (hcp) ?_
        clear hP hcp
        rintro _ σ ⟨S3, rfl, hP, hG3, hJ3, hh3, hK3⟩
        refine cI ?_
        refine x_si (ls1 := [some (vR (some 2281)), some (vI p), some (vI wd0), some (vL perm), none, some (vI mode), some (vI er), some (vI pt), some (vI m), some (vI (-1))]) T_355_165 rfl ?_
        refine x_li (z := er) T_355_167 rfl ?_
        refine x_if T_355_169 (fun h => absurd (show er ≤ 0 from h) (by omega)) (fun _ => ?_)
        refine x_li (z := er) T_355_172 rfl ?_
        refine x_ri T_355_174 ?_
        exact hQ2 σ S3 P2 er hk0 (by omega) hP (hG3.mono (by omega)) (hJ3.mono (by omega) (Int.le_refl U)) hh3 (SK_tr hK2 hK3)
theorem m_create_msg {wd0 perm mode e0 n : Int} {l7 l8 l9 : Option AV} (hP : PM σ0 P S σ) (hJ : IV true T U S) (hG : GI T U P) (hT : T + 49 ≤ 2147483000) (hh : HS S (h ++ [c])) (h83 : S 2281 83 = n) (hn : 1 ≤ n ∧ n ≤ 110) (hN : NL S (n - 1) [nm]) : WP fb (d + 13) 355 175 [some (vR (some 2281)), some (vI p), some (vI wd0), some (vL perm), none, some (vI mode), some (vI e0), l7, l8, l9] [] σ (rG T U σ0 P S c.1 (mCre c.2.1 nm perm mode)) := by
  obtain ⟨e1, e2, e3, e4, e5, e6, e7⟩ := hh.last
  obtain ⟨c1, c2, -⟩ := hh.ch hJ
  obtain ⟨n1, n2, n3, n4⟩ := hN.hd
  obtain ⟨b, hb⟩ : ∃ b, S 2347 (n - 1) = b := ⟨_, rfl⟩
  obtain ⟨b2, hb2⟩ : ∃ b2, S 2348 (n - 1) = b2 := ⟨_, rfl⟩
  rw [hb, hb2] at n4
  rw [hb] at n1 n2
  rw [hb2] at n2 n3
  have hln : (nm.length : Int) = b2 - b := by rw [← n4, seg_len]; omega
  have e : leb 1 114 ++ leb 2 1 ++ leb 4 c.2.1 ++ leb 2 (b2 - b) ++ seg (S 2346) b (b2 - b).toNat ++ leb 4 perm ++ leb 1 mode = mCre c.2.1 nm perm mode := by
    unfold mCre
    rw [n4, hln]
  have q1 : ∀ S1 w l, RQ T U S S1 w l → S1 2281 91 = (h.length : Int) + 1 ∧ S1 2281 83 = n ∧ (∀ j, S1 2351 j = S 2351 j) ∧ (∀ j, S1 2350 j = S 2350 j) ∧ (∀ j, S1 2347 j = S 2347 j) ∧ (∀ j, S1 2348 j = S 2348 j) := fun S1 w l hq => ⟨(hq.2.2.2.2.2.2.1 91 (by decide)).trans e1, (hq.2.2.2.2.2.2.1 83 (by decide)).trans h83, fun j => hq.2.2.2.2.2.1 _ _ (by decide) (by decide), fun j => hq.2.2.2.2.2.1 _ _ (by decide) (by decide), fun j => hq.2.2.2.2.2.1 _ _ (by decide) (by decide), fun j => hq.2.2.2.2.2.1 _ _ (by decide) (by decide)⟩
  refine x_lr (z := some 2281) T_355_175 rfl ?_
  refine x_ic T_355_176 ?_
  refine x_ic T_355_178 ?_
  refine x_cv3 T_355_179 mN_228 mL_228 (Nat.le_of_ble_eq_true rfl) mO_228 (PM.t hP) (Nat.le_of_ble_eq_true rfl) (r_begin hP hJ) ?_
  rintro _ σ ⟨rfl, S1, hP, hQ⟩
  refine cV ?_
  have g1 := q1 _ _ _ hQ
  refine x_lr (z := some 2281) T_355_182 rfl ?_
  refine x_ic T_355_183 ?_
  refine x_lr (z := some 2281) T_355_184 rfl ?_
  refine x_gR (z := some 2351) T_355_185 F_17_87 (PM.t hP) (PM.r hP 87 2351 rfl) ?_
  refine x_lr (z := some 2281) T_355_188 rfl ?_
  refine x_gI (z := ((h.length : Int) + 1)) T_355_189 (Or.inl F_17_91) (PM.t hP) (Eq.trans (PM.nS hP 2281 91 91 rfl rfl rfl) g1.1) ?_
  refine x_ic T_355_192 ?_
  refine x_ib (w := (h.length : Int)) T_355_193 (fun h => absurd h.1 (by decide)) (w32_e (by omega) (by omega) (by omega)) ?_
  refine x_alI (z := c.2.1) T_355_194 (by decide) (PM.ta hP 2351 0 64 rfl rfl) (by omega) (by omega) (Eq.trans (PM.aS hP 2351 rfl rfl (by omega)) ((g1.2.2.1 _).trans e4)) ?_
  refine x_i2l T_355_195 ?_
  refine x_cv3 T_355_196 mN_229 mL_229 (Nat.le_of_ble_eq_true rfl) mO_229 (PM.t hP) (Nat.le_of_ble_eq_true rfl) (r_askPut 4 rfl hP hQ (by decide) (by omega)) ?_
  rintro _ σ ⟨rfl, S1, hP, hQ⟩
  refine cV ?_
  have g2 := q1 _ _ _ hQ
  refine x_lr (z := some 2281) T_355_199 rfl ?_
  refine x_lr (z := some 2281) T_355_200 rfl ?_
  refine x_gR (z := some 2347) T_355_201 F_17_81 (PM.t hP) (PM.r hP 81 2347 rfl) ?_
  refine x_lr (z := some 2281) T_355_204 rfl ?_
  refine x_gI (z := n) T_355_205 (Or.inl F_17_83) (PM.t hP) (Eq.trans (PM.nS hP 2281 83 83 rfl rfl rfl) g2.2.1) ?_
  refine x_ic T_355_208 ?_
  refine x_ib (w := (n - 1)) T_355_209 (fun h => absurd h.1 (by decide)) (w32_id (by omega) (by omega)) ?_
  refine x_alI (z := b) T_355_210 (by decide) (PM.ta hP 2347 0 110 rfl rfl) (by omega) (by omega) (Eq.trans (PM.aS hP 2347 rfl rfl (by omega)) ((g2.2.2.2.2.1 _).trans hb)) ?_
  refine x_lr (z := some 2281) T_355_211 rfl ?_
  refine x_gR (z := some 2348) T_355_212 F_17_82 (PM.t hP) (PM.r hP 82 2348 rfl) ?_
  refine x_lr (z := some 2281) T_355_215 rfl ?_
  refine x_gI (z := n) T_355_216 (Or.inl F_17_83) (PM.t hP) (Eq.trans (PM.nS hP 2281 83 83 rfl rfl rfl) g2.2.1) ?_
  refine x_ic T_355_219 ?_
  refine x_ib (w := (n - 1)) T_355_220 (fun h => absurd h.1 (by decide)) (w32_id (by omega) (by omega)) ?_
  refine x_alI (z := b2) T_355_221 (by decide) (PM.ta hP 2348 0 110 rfl rfl) (by omega) (by omega) (Eq.trans (PM.aS hP 2348 rfl rfl (by omega)) ((g2.2.2.2.2.2 _).trans hb2)) ?_
  refine x_cv3 T_355_222 mN_343 mL_343 (Nat.le_of_ble_eq_true rfl) mO_343 (PM.t hP) (Nat.le_of_ble_eq_true rfl) (r_askRaw hP hQ hJ n1 n2 n3 (by omega)) ?_
  rintro _ σ ⟨rfl, S1, hP, hQ⟩
  refine cV ?_
  refine x_lr (z := some 2281) T_355_225 rfl ?_
  refine x_ic T_355_226 ?_
  refine x_ll (z := perm) T_355_227 rfl ?_
  refine x_cv3 T_355_228 mN_229 mL_229 (Nat.le_of_ble_eq_true rfl) mO_229 (PM.t hP) (Nat.le_of_ble_eq_true rfl) (r_askPut 4 rfl hP hQ (by decide) (by omega)) ?_
  rintro _ σ ⟨rfl, S1, hP, hQ⟩
  refine cV ?_
  refine x_lr (z := some 2281) T_355_231 rfl ?_
  refine x_ic T_355_232 ?_
  refine x_li (z := mode) T_355_233 rfl ?_
  refine x_i2l T_355_235 ?_
  refine x_cv3 T_355_236 mN_229 mL_229 (Nat.le_of_ble_eq_true rfl) mO_229 (PM.t hP) (Nat.le_of_ble_eq_true rfl) (r_askPut 1 rfl hP hQ (by decide) (by omega)) ?_
  rintro _ σ ⟨rfl, S1, hP, hQ⟩
  refine cV ?_
  have g3 := q1 _ _ _ hQ
  refine x_lr (z := some 2281) T_355_239 rfl ?_
  refine x_lr (z := some 2281) T_355_240 rfl ?_
  refine x_gR (z := some 2350) T_355_241 F_17_86 (PM.t hP) (PM.r hP 86 2350 rfl) ?_
  refine x_lr (z := some 2281) T_355_244 rfl ?_
  refine x_gI (z := ((h.length : Int) + 1)) T_355_245 (Or.inl F_17_91) (PM.t hP) (Eq.trans (PM.nS hP 2281 91 91 rfl rfl rfl) g3.1) ?_
  refine x_ic T_355_248 ?_
  refine x_ib (w := (h.length : Int)) T_355_249 (fun h => absurd h.1 (by decide)) (w32_e (by omega) (by omega) (by omega)) ?_
  refine x_alI (z := c.1) T_355_250 (by decide) (PM.ta hP 2350 0 64 rfl rfl) (by omega) (by omega) (Eq.trans (PM.aS hP 2350 rfl rfl (by omega)) ((g3.2.2.2.1 _).trans e3)) ?_
  refine x_cv2 T_355_251 mN_231 mL_231 (Nat.le_of_ble_eq_true rfl) mO_231 (PM.t hP) (Nat.le_of_ble_eq_true rfl) ((e ▸ m_trG (d := d + 2) hP hQ hG hT (by omega) (by rw [e]; have := mCre_len (fd := c.2.1) (nm := nm) (perm := perm) (mode := mode); omega) (by rw [e, mCre_0]; decide) (fun q => absurd q (by rw [e, mCre_0]; decide)) (fun q => absurd q (by rw [e, mCre_0]; decide)) : CL fb (d + 12) 231 [vR (some 2281), vI c.1] σ (rG T U σ0 P S c.1 (mCre c.2.1 nm perm mode)))) ?_
  rintro _ σ ⟨S3, rfl, hz⟩
  refine cI ?_
  refine x_ri T_355_254 ?_
  exact ⟨S3, rfl, hz⟩
theorem NL.init {n : Int} {ls : List (List Int)} (hN : NL S n ls) : NL S n ls.dropLast := fun i hi => by
  have h2 : i < ls.length - 1 := by rw [List.length_dropLast] at hi; exact hi
  have g := hN i (by omega)
  rw [show ls.dropLast.getD i [] = ls.getD i [] by
    rw [List.getD_eq_getElem?_getD, List.getD_eq_getElem?_getD, List.getElem?_eq_getElem hi, List.getElem?_eq_getElem (show i < ls.length by omega), List.getElem_dropLast]]
  exact g
theorem NL.fin {n : Int} {ls : List (List Int)} (hN : NL S 0 ls) (hn : (ls.length : Int) = n) (h0 : 1 ≤ n) : NL S (n - 1) [ls.getD (ls.length - 1) []] := fun i hi => by
  have hi : i < 0 + 1 := hi
  have hi0 : i = 0 := by omega
  subst hi0
  have g := hN (ls.length - 1) (by omega)
  rw [show (0 : Int) + ((ls.length - 1 : Nat) : Int) = n - 1 + ((0 : Nat) : Int) by omega] at g
  exact g
theorem m_create {b q perm mode : Int} (hP : PM σ0 P S σ) (hJ : IV true T U S) (hG : GI T U P) (hPT : PTS P) (hp : 0 ≤ p ∧ p < 8) (hT : T + 800 ≤ 2147483000) (hh : HS S h) (hl : h.length + 2 < 60) (hw : 0 ≤ w ∧ w < 60) (ef : S 2344 w = b) (et : S 2345 w = q) (hbc : 0 ≤ b ∧ b < q ∧ q ≤ 100) (hwd : seg (S 2343) b (q - b).toNat = wd) : CL fb (d + 15) 355 [vR (some 2281), vI p, vI w, vL perm, vI mode] σ (KX (T + 320) U σ0 S (kCreate P p wd perm mode).1 (kCreate P p wd perm mode).2.1 (h ++ (kCreate P p wd perm mode).2.2)) := by
  have hwl : 1 ≤ wd.length := by rw [← hwd, seg_len]; omega
  have hm42 : 0 ≤ P 2281 42 ∧ P 2281 42 ≤ T := IV.n hG.iv 42 42 rfl rfl (by decide)
  have hll := paRaw_len (P := P) (p := p) hwl
  have hpa := m_parse (fb := fb) (d := d + 12) hP hJ hG.iv hp hw ef et hbc hwd rfl
  unfold kCreate
  obtain ⟨l, hl0⟩ : ∃ l, paRaw P p wd = l := ⟨_, rfl⟩
  rw [hl0] at hll hpa ⊢
  have hE0 : 0 ≤ paE l := by unfold paE; (repeat' split) <;> decide
  by_cases q1 : 0 < paE l
  · rw [if_pos q1]
    show CL fb (d + 15) _ _ _ (KX (T + 320) U σ0 S (paE l) P (h ++ []))
    rw [List.append_nil]
    refine CL_in mL_355 rfl ?_
    show WP fb _ 355 0 [some (vR (some 2281)), some (vI p), some (vI w), some (vL perm), none, some (vI mode), none, none, none, none] [] σ _
    refine x_lr (z := some 2281) T_355_0 rfl ?_
    refine x_li (z := p) T_355_1 rfl ?_
    refine x_li (z := w) T_355_2 rfl ?_
    refine x_cv3 T_355_3 mN_328 mL_328 (Nat.le_of_ble_eq_true rfl) mO_328 (PM.t hP) (Nat.le_of_ble_eq_true rfl) (hpa) ?_
    clear hP hpa
    rintro _ σ ⟨S2, rfl, hP, hJ2, hX2, hz⟩
    refine cI ?_
    refine x_si (ls1 := [some (vR (some 2281)), some (vI p), some (vI w), some (vL perm), none, some (vI mode), some (vI (paE l)), none, none, none]) T_355_6 rfl ?_
    refine x_li (z := (paE l)) T_355_8 rfl ?_
    refine x_if T_355_10 (fun h => absurd (show (paE l) ≤ 0 from h) (by omega)) (fun _ => ?_)
    refine x_li (z := (paE l)) T_355_13 rfl ?_
    refine x_ri T_355_15 ?_
    exact ⟨S2, rfl, hP, hG.mono (by omega), hJ2.mono (by omega) (Int.le_refl U), hh.sx hX2, SX_sp hX2⟩
  · have hE : paE l = 0 := by omega
    have h10 : (paN l).length ≤ 10 := by
      unfold paE at hE
      (repeat' split at hE) <;> omega
    rw [if_neg q1, paM_len]
    obtain ⟨n, hn⟩ : ∃ n : Int, ((paN l).length : Int) = n := ⟨_, rfl⟩
    by_cases q2 : (paN l).length = 0
    · rw [if_pos q2]
      show CL fb (d + 15) _ _ _ (KX (T + 320) U σ0 S 5 P (h ++ []))
      rw [List.append_nil]
      refine CL_in mL_355 rfl ?_
      show WP fb _ 355 0 [some (vR (some 2281)), some (vI p), some (vI w), some (vL perm), none, some (vI mode), none, none, none, none] [] σ _
      refine x_lr (z := some 2281) T_355_0 rfl ?_
      refine x_li (z := p) T_355_1 rfl ?_
      refine x_li (z := w) T_355_2 rfl ?_
      refine x_cv3 T_355_3 mN_328 mL_328 (Nat.le_of_ble_eq_true rfl) mO_328 (PM.t hP) (Nat.le_of_ble_eq_true rfl) (hpa) ?_
      clear hP hpa
      rintro _ σ ⟨S2, rfl, hP, hJ2, hX2, hz⟩
      obtain ⟨z1, z2, z3, z4⟩ := hz hE
      have h83 := z2.1.trans hn
      refine cI ?_
      refine x_si (ls1 := [some (vR (some 2281)), some (vI p), some (vI w), some (vL perm), none, some (vI mode), some (vI (paE l)), none, none, none]) T_355_6 rfl ?_
      refine x_li (z := (paE l)) T_355_8 rfl ?_
      refine x_if T_355_10 (fun _ => ?_) (fun h => absurd (show (paE l) ≤ 0 by omega) h)
      refine x_lr (z := some 2281) T_355_16 rfl ?_
      refine x_gI (z := n) T_355_17 (Or.inl F_17_83) (PM.t hP) (Eq.trans (PM.nS hP 2281 83 83 rfl rfl rfl) h83) ?_
      refine x_if T_355_20 (fun h => absurd (show ¬ n = 0 from h) (by exact fun z => z (by omega))) (fun _ => ?_)
      refine x_ic T_355_23 ?_
      refine x_ri T_355_24 ?_
      exact ⟨S2, rfl, hP, hG.mono (by omega), hJ2.mono (by omega) (Int.le_refl U), hh.sx hX2, SX_sp hX2⟩
    · rw [if_neg q2]
      have hnl : (((paM l).dropLast.length : Nat) : Int) = n - 1 := by rw [List.length_dropLast, paM_len]; omega
      have hw2 := fun (σ : hM) (S2 : qR) (hP : PM σ0 P S2 σ) (hJ2 : IV true T U S2) (hh2 : HS S2 h) (hN2 : NL S2 0 (paM l)) (ho : S2 2281 80 = paO l) => m_walk (fb := fb) (d := d) (many := n - 1) hP hJ2 hG hPT hp (Or.inr rfl) hl hnl (by omega) (by omega) hh2 hN2.init ho
      obtain ⟨e, he⟩ : ∃ e, (kWalk P p (paO l) 1 (paM l).dropLast).1 = e := ⟨_, rfl⟩
      obtain ⟨Pn, hPn⟩ : ∃ Pn, (kWalk P p (paO l) 1 (paM l).dropLast).2.1 = Pn := ⟨_, rfl⟩
      obtain ⟨cn, hcn⟩ : ∃ cn, (kWalk P p (paO l) 1 (paM l).dropLast).2.2 = cn := ⟨_, rfl⟩
      rw [he, hPn, hcn, hnl] at hw2
      rw [he, hPn, hcn]
      by_cases q3 : 0 < e
      · rw [if_pos q3]
        rw [kHoldn (by omega)] at hw2
        show CL fb (d + 15) _ _ _ (KX (T + 320) U σ0 S e Pn (h ++ []))
        rw [List.append_nil]
        refine CL_in mL_355 rfl ?_
        show WP fb _ 355 0 [some (vR (some 2281)), some (vI p), some (vI w), some (vL perm), none, some (vI mode), none, none, none, none] [] σ _
        refine x_lr (z := some 2281) T_355_0 rfl ?_
        refine x_li (z := p) T_355_1 rfl ?_
        refine x_li (z := w) T_355_2 rfl ?_
        refine x_cv3 T_355_3 mN_328 mL_328 (Nat.le_of_ble_eq_true rfl) mO_328 (PM.t hP) (Nat.le_of_ble_eq_true rfl) (hpa) ?_
        clear hP hpa
        rintro _ σ ⟨S2, rfl, hP, hJ2, hX2, hz⟩
        obtain ⟨z1, z2, z3, z4⟩ := hz hE
        have h83 := z2.1.trans hn
        refine cI ?_
        refine x_si (ls1 := [some (vR (some 2281)), some (vI p), some (vI w), some (vL perm), none, some (vI mode), some (vI (paE l)), none, none, none]) T_355_6 rfl ?_
        refine x_li (z := (paE l)) T_355_8 rfl ?_
        refine x_if T_355_10 (fun _ => ?_) (fun h => absurd (show (paE l) ≤ 0 by omega) h)
        refine x_lr (z := some 2281) T_355_16 rfl ?_
        refine x_gI (z := n) T_355_17 (Or.inl F_17_83) (PM.t hP) (Eq.trans (PM.nS hP 2281 83 83 rfl rfl rfl) h83) ?_
        refine x_if T_355_20 (fun _ => ?_) (fun h => absurd (show ¬ n = 0 by exact fun z => q2 (by omega)) h)
        refine x_lr (z := some 2281) T_355_25 rfl ?_
        refine x_li (z := p) T_355_26 rfl ?_
        refine x_lr (z := some 2281) T_355_27 rfl ?_
        refine x_gI (z := n) T_355_28 (Or.inl F_17_83) (PM.t hP) (Eq.trans (PM.nS hP 2281 83 83 rfl rfl rfl) h83) ?_
        refine x_ic T_355_31 ?_
        refine x_ib (w := (n - 1)) T_355_32 (fun h => absurd h.1 (by decide)) (w32_id (by omega) (by omega)) ?_
        refine x_ic T_355_33 ?_
        refine x_cv4 T_355_34 mN_332 mL_332 (Nat.le_of_ble_eq_true rfl) mO_332 (PM.t hP) (Nat.le_of_ble_eq_true rfl) (hw2 σ S2 hP hJ2 (hh.sx hX2) (z2.nl z3 hll) z1) ?_
        clear hP
        rintro _ σ ⟨S3, rfl, hP, hG3, hJ3, hh3, hK3⟩
        refine cI ?_
        refine x_si (ls1 := [some (vR (some 2281)), some (vI p), some (vI w), some (vL perm), none, some (vI mode), some (vI e), none, none, none]) T_355_37 rfl ?_
        refine x_li (z := e) T_355_39 rfl ?_
        refine x_if T_355_41 (fun h => absurd (show e ≤ 0 from h) (by omega)) (fun _ => ?_)
        refine x_li (z := e) T_355_44 rfl ?_
        refine x_ri T_355_46 ?_
        exact ⟨S3, rfl, hP, hG3.mono (by omega), hJ3.mono (by omega) (Int.le_refl U), hh3, SX_tr (SX_sp hX2) hK3.sw⟩
      · have he0 : 0 ≤ e := by
          rw [← he]
          exact kWalk_e hG.iv hPT hp
        have q4 : e = 0 := by omega
        subst q4
        rw [if_neg q3]
        rw [kHold0] at hw2
        refine CL_in mL_355 rfl ?_
        show WP fb _ 355 0 [some (vR (some 2281)), some (vI p), some (vI w), some (vL perm), none, some (vI mode), none, none, none, none] [] σ _
        refine x_lr (z := some 2281) T_355_0 rfl ?_
        refine x_li (z := p) T_355_1 rfl ?_
        refine x_li (z := w) T_355_2 rfl ?_
        refine x_cv3 T_355_3 mN_328 mL_328 (Nat.le_of_ble_eq_true rfl) mO_328 (PM.t hP) (Nat.le_of_ble_eq_true rfl) (hpa) ?_
        clear hP hpa
        rintro _ σ ⟨S2, rfl, hP, hJ2, hX2, hz⟩
        obtain ⟨z1, z2, z3, z4⟩ := hz hE
        have h83 := z2.1.trans hn
        refine cI ?_
        refine x_si (ls1 := [some (vR (some 2281)), some (vI p), some (vI w), some (vL perm), none, some (vI mode), some (vI (paE l)), none, none, none]) T_355_6 rfl ?_
        refine x_li (z := (paE l)) T_355_8 rfl ?_
        refine x_if T_355_10 (fun _ => ?_) (fun h => absurd (show (paE l) ≤ 0 by omega) h)
        refine x_lr (z := some 2281) T_355_16 rfl ?_
        refine x_gI (z := n) T_355_17 (Or.inl F_17_83) (PM.t hP) (Eq.trans (PM.nS hP 2281 83 83 rfl rfl rfl) h83) ?_
        refine x_if T_355_20 (fun _ => ?_) (fun h => absurd (show ¬ n = 0 by exact fun z => q2 (by omega)) h)
        refine x_lr (z := some 2281) T_355_25 rfl ?_
        refine x_li (z := p) T_355_26 rfl ?_
        refine x_lr (z := some 2281) T_355_27 rfl ?_
        refine x_gI (z := n) T_355_28 (Or.inl F_17_83) (PM.t hP) (Eq.trans (PM.nS hP 2281 83 83 rfl rfl rfl) h83) ?_
        refine x_ic T_355_31 ?_
        refine x_ib (w := (n - 1)) T_355_32 (fun h => absurd h.1 (by decide)) (w32_id (by omega) (by omega)) ?_
        refine x_ic T_355_33 ?_
        refine x_cv4 T_355_34 mN_332 mL_332 (Nat.le_of_ble_eq_true rfl) mO_332 (PM.t hP) (Nat.le_of_ble_eq_true rfl) (hw2 σ S2 hP hJ2 (hh.sx hX2) (z2.nl z3 hll) z1) ?_
        clear hP
        rintro _ σ ⟨S3, rfl, hP, hG3, hJ3, hh3, hK3⟩
        refine cI ?_
        refine x_si (ls1 := [some (vR (some 2281)), some (vI p), some (vI w), some (vL perm), none, some (vI mode), some (vI 0), none, none, none]) T_355_37 rfl ?_
        refine x_li (z := 0) T_355_39 rfl ?_
        refine x_if T_355_41 (fun _ => ?_) (fun h => absurd (show (0 : Int) ≤ 0 by decide) h)
        have hN3 : NL S3 (n - 1) [(paM l).getD ((paN l).length - 1) []] := by
          have := NL.fin (n := n) (z2.nl z3 hll) (by rw [paM_len]; exact hn) (by omega)
          rw [paM_len] at this
          exact this.sk hK3
        have h833 : S3 2281 83 = n := (hK3.1 83 (by decide) (by decide) (by decide) (by decide) (by decide) (by decide) (by decide) (by decide)).trans h83
        refine m_create_plc (d := d + 2) (P := Pn) hP hJ3 hG3 (by omega) hh3 hl ?_ ?_
        · intro σ S4 P1 c1 e6 l7 l8 l9 k1 k2 k3 k4 k5 k6
          rw [k1]
          show WP fb (d + 15) _ _ _ _ _ (KX (T + 320) U σ0 S (tE P1 c1.1 (mCre c1.2.1 _ perm mode)) (tP P1 c1.1 (mCre c1.2.1 _ perm mode)) (h ++ [c1]))
          have hmsg := m_create_msg (fb := fb) (d := d + 2) (σ0 := σ0) (p := p) (wd0 := w) (perm := perm) (mode := mode) (e0 := e6) (l7 := l7) (l8 := l8) (l9 := l9) k2 k4 k3 (by omega) k5 ((k6.1 83 (by decide) (by decide) (by decide) (by decide) (by decide) (by decide) (by decide) (by decide)).trans h833) ⟨by omega, by omega⟩ (hN3.sk k6)
          refine WP.mono hmsg ?_
          intro r σ1 hr
          obtain ⟨S5, j1, j2, j3, j4, j5, j6⟩ := rG_KR k5 hr
          exact ⟨S5, j1, j2, j3.mono (by omega), j4.mono (by omega) (Int.le_refl U), j5, SX_tr (SX_tr (SX_sp hX2) hK3.sw) (SX_tr k6.sw j6.sw)⟩
        · intro σ S4 P1 e1 k1 k0 k2 k3 k4 k5 k6
          rw [k1]
          refine ⟨S4, rfl, k2, k3.mono (by omega), k4.mono (by omega) (Int.le_refl U), ?_, SX_tr (SX_tr (SX_sp hX2) hK3.sw) k6.sw⟩
          show HS S4 (h ++ [])
          rw [List.append_nil]
          exact k5
end MCREATE2
