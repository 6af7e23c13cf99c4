/-! The class's servers: a walk. -/
theorem T_54_0 : hTab 54 0 = some ((3, 1, 2, []), 1) := rfl
theorem T_54_1 : hTab 54 1 = some ((24, 9, Int.ofNat 5, []), 4) := rfl
theorem T_54_4 : hTab 54 4 = some ((0, 0, (-1), []), 5) := rfl
theorem T_54_5 : hTab 54 5 = some ((19, 0, Int.ofNat 11, []), 8) := rfl
theorem T_54_8 : hTab 54 8 = some ((0, 0, 8, []), 10) := rfl
theorem T_54_10 : hTab 54 10 = some ((33, 1, 0, []), 11) := rfl
theorem T_54_11 : hTab 54 11 = some ((3, 0, 2, []), 12) := rfl
theorem T_54_12 : hTab 54 12 = some ((24, 7, Int.ofNat 9, []), 15) := rfl
theorem T_54_15 : hTab 54 15 = some ((0, 0, 11, []), 17) := rfl
theorem T_54_17 : hTab 54 17 = some ((0, 0, 4, []), 18) := rfl
theorem T_54_18 : hTab 54 18 = some ((31, 29, 0, []), 21) := rfl
theorem T_54_21 : hTab 54 21 = some ((4, 2, 1, []), 22) := rfl
theorem T_54_22 : hTab 54 22 = some ((3, 0, 2, []), 23) := rfl
theorem T_54_23 : hTab 54 23 = some ((3, 0, 2, []), 24) := rfl
theorem T_54_24 : hTab 54 24 = some ((24, 7, Int.ofNat 11, []), 27) := rfl
theorem T_54_27 : hTab 54 27 = some ((3, 2, 1, []), 28) := rfl
theorem T_54_28 : hTab 54 28 = some ((31, 39, 0, []), 31) := rfl
theorem T_54_31 : hTab 54 31 = some ((4, 4, 2, []), 33) := rfl
theorem T_54_33 : hTab 54 33 = some ((3, 4, 2, []), 35) := rfl
theorem T_54_35 : hTab 54 35 = some ((20, 0, Int.ofNat 47, []), 38) := rfl
theorem T_54_38 : hTab 54 38 = some ((3, 4, 2, []), 40) := rfl
theorem T_54_40 : hTab 54 40 = some ((3, 1, 2, []), 41) := rfl
theorem T_54_41 : hTab 54 41 = some ((21, 0, Int.ofNat 47, []), 44) := rfl
theorem T_54_44 : hTab 54 44 = some ((0, 0, 7, []), 46) := rfl
theorem T_54_46 : hTab 54 46 = some ((33, 1, 0, []), 47) := rfl
theorem T_54_47 : hTab 54 47 = some ((3, 0, 2, []), 48) := rfl
theorem T_54_48 : hTab 54 48 = some ((24, 7, Int.ofNat 9, []), 51) := rfl
theorem T_54_51 : hTab 54 51 = some ((0, 0, 15, []), 53) := rfl
theorem T_54_53 : hTab 54 53 = some ((0, 0, 2, []), 54) := rfl
theorem T_54_54 : hTab 54 54 = some ((31, 29, 0, []), 57) := rfl
theorem T_54_57 : hTab 54 57 = some ((15, 0, 0, []), 58) := rfl
theorem T_54_58 : hTab 54 58 = some ((4, 5, 0, []), 60) := rfl
theorem T_54_60 : hTab 54 60 = some ((3, 5, 0, []), 62) := rfl
theorem T_54_62 : hTab 54 62 = some ((0, 0, 8, []), 64) := rfl
theorem T_54_64 : hTab 54 64 = some ((19, 5, Int.ofNat 70, []), 67) := rfl
theorem T_54_67 : hTab 54 67 = some ((0, 0, 14, []), 69) := rfl
theorem T_54_69 : hTab 54 69 = some ((33, 1, 0, []), 70) := rfl
theorem T_54_70 : hTab 54 70 = some ((3, 4, 2, []), 72) := rfl
theorem T_54_72 : hTab 54 72 = some ((20, 1, Int.ofNat 82, []), 75) := rfl
theorem T_54_75 : hTab 54 75 = some ((3, 0, 2, []), 76) := rfl
theorem T_54_76 : hTab 54 76 = some ((31, 50, 0, []), 79) := rfl
theorem T_54_79 : hTab 54 79 = some ((22, 0, Int.ofNat 84, []), 82) := rfl
theorem T_54_82 : hTab 54 82 = some ((3, 4, 2, []), 84) := rfl
theorem T_54_84 : hTab 54 84 = some ((4, 4, 2, []), 86) := rfl
theorem T_54_86 : hTab 54 86 = some ((3, 4, 2, []), 88) := rfl
theorem T_54_88 : hTab 54 88 = some ((20, 1, Int.ofNat 94, []), 91) := rfl
theorem T_54_91 : hTab 54 91 = some ((0, 0, 12, []), 93) := rfl
theorem T_54_93 : hTab 54 93 = some ((33, 1, 0, []), 94) := rfl
theorem T_54_94 : hTab 54 94 = some ((3, 1, 2, []), 95) := rfl
theorem T_54_95 : hTab 54 95 = some ((24, 9, Int.ofNat 3, []), 98) := rfl
theorem T_54_98 : hTab 54 98 = some ((20, 1, Int.ofNat 103, []), 101) := rfl
theorem T_54_101 : hTab 54 101 = some ((0, 0, 1, []), 102) := rfl
theorem T_54_102 : hTab 54 102 = some ((33, 1, 0, []), 103) := rfl
theorem T_54_103 : hTab 54 103 = some ((3, 0, 2, []), 104) := rfl
theorem T_54_104 : hTab 54 104 = some ((24, 7, Int.ofNat 10, []), 107) := rfl
theorem T_54_107 : hTab 54 107 = some ((3, 5, 0, []), 109) := rfl
theorem T_54_109 : hTab 54 109 = some ((14, 0, 0, []), 110) := rfl
theorem T_54_110 : hTab 54 110 = some ((0, 0, 2, []), 111) := rfl
theorem T_54_111 : hTab 54 111 = some ((31, 22, 0, []), 114) := rfl
theorem T_54_114 : hTab 54 114 = some ((3, 1, 2, []), 115) := rfl
theorem T_54_115 : hTab 54 115 = some ((24, 9, Int.ofNat 3, []), 118) := rfl
theorem T_54_118 : hTab 54 118 = some ((4, 6, 2, []), 120) := rfl
theorem T_54_120 : hTab 54 120 = some ((0, 0, 17, []), 122) := rfl
theorem T_54_122 : hTab 54 122 = some ((4, 7, 0, []), 124) := rfl
theorem T_54_124 : hTab 54 124 = some ((0, 0, 0, []), 125) := rfl
theorem T_54_125 : hTab 54 125 = some ((4, 8, 0, []), 127) := rfl
theorem T_54_127 : hTab 54 127 = some ((0, 0, 0, []), 128) := rfl
theorem T_54_128 : hTab 54 128 = some ((4, 9, 0, []), 130) := rfl
theorem T_54_130 : hTab 54 130 = some ((0, 0, 0, []), 131) := rfl
theorem T_54_131 : hTab 54 131 = some ((4, 10, 0, []), 133) := rfl
theorem T_54_133 : hTab 54 133 = some ((3, 10, 0, []), 135) := rfl
theorem T_54_135 : hTab 54 135 = some ((3, 5, 0, []), 137) := rfl
theorem T_54_137 : hTab 54 137 = some ((19, 3, Int.ofNat 246, []), 140) := rfl
theorem T_54_140 : hTab 54 140 = some ((3, 9, 0, []), 142) := rfl
theorem T_54_142 : hTab 54 142 = some ((18, 1, Int.ofNat 246, []), 145) := rfl
theorem T_54_145 : hTab 54 145 = some ((3, 0, 2, []), 146) := rfl
theorem T_54_146 : hTab 54 146 = some ((24, 7, Int.ofNat 9, []), 149) := rfl
theorem T_54_149 : hTab 54 149 = some ((3, 7, 0, []), 151) := rfl
theorem T_54_151 : hTab 54 151 = some ((31, 36, 0, []), 154) := rfl
theorem T_54_154 : hTab 54 154 = some ((4, 11, 0, []), 156) := rfl
theorem T_54_156 : hTab 54 156 = some ((2, 0, 0, []), 157) := rfl
theorem T_54_157 : hTab 54 157 = some ((4, 12, 2, []), 159) := rfl
theorem T_54_159 : hTab 54 159 = some ((3, 6, 2, []), 161) := rfl
theorem T_54_161 : hTab 54 161 = some ((31, 55, 0, []), 164) := rfl
theorem T_54_164 : hTab 54 164 = some ((18, 1, Int.ofNat 173, []), 167) := rfl
theorem T_54_167 : hTab 54 167 = some ((0, 0, 2, []), 168) := rfl
theorem T_54_168 : hTab 54 168 = some ((4, 9, 0, []), 170) := rfl
theorem T_54_170 : hTab 54 170 = some ((22, 0, Int.ofNat 218, []), 173) := rfl
theorem T_54_173 : hTab 54 173 = some ((3, 6, 2, []), 175) := rfl
theorem T_54_175 : hTab 54 175 = some ((3, 1, 2, []), 176) := rfl
theorem T_54_176 : hTab 54 176 = some ((24, 9, Int.ofNat 2, []), 179) := rfl
theorem T_54_179 : hTab 54 179 = some ((0, 0, 1, []), 180) := rfl
theorem T_54_180 : hTab 54 180 = some ((31, 43, 0, []), 183) := rfl
theorem T_54_183 : hTab 54 183 = some ((18, 1, Int.ofNat 192, []), 186) := rfl
theorem T_54_186 : hTab 54 186 = some ((0, 0, 3, []), 187) := rfl
theorem T_54_187 : hTab 54 187 = some ((4, 9, 0, []), 189) := rfl
theorem T_54_189 : hTab 54 189 = some ((22, 0, Int.ofNat 218, []), 192) := rfl
theorem T_54_192 : hTab 54 192 = some ((3, 0, 2, []), 193) := rfl
theorem T_54_193 : hTab 54 193 = some ((3, 6, 2, []), 195) := rfl
theorem T_54_195 : hTab 54 195 = some ((3, 7, 0, []), 197) := rfl
theorem T_54_197 : hTab 54 197 = some ((0, 0, 2, []), 198) := rfl
theorem T_54_198 : hTab 54 198 = some ((10, 0, 0, []), 199) := rfl
theorem T_54_199 : hTab 54 199 = some ((3, 11, 0, []), 201) := rfl
theorem T_54_201 : hTab 54 201 = some ((31, 56, 0, []), 204) := rfl
theorem T_54_204 : hTab 54 204 = some ((4, 12, 2, []), 206) := rfl
theorem T_54_206 : hTab 54 206 = some ((3, 12, 2, []), 208) := rfl
theorem T_54_208 : hTab 54 208 = some ((20, 1, Int.ofNat 215, []), 211) := rfl
theorem T_54_211 : hTab 54 211 = some ((0, 0, 1, []), 212) := rfl
theorem T_54_212 : hTab 54 212 = some ((22, 0, Int.ofNat 216, []), 215) := rfl
theorem T_54_215 : hTab 54 215 = some ((0, 0, 0, []), 216) := rfl
theorem T_54_216 : hTab 54 216 = some ((4, 9, 0, []), 218) := rfl
theorem T_54_218 : hTab 54 218 = some ((3, 12, 2, []), 220) := rfl
theorem T_54_220 : hTab 54 220 = some ((20, 0, Int.ofNat 240, []), 223) := rfl
theorem T_54_223 : hTab 54 223 = some ((3, 12, 2, []), 225) := rfl
theorem T_54_225 : hTab 54 225 = some ((4, 6, 2, []), 227) := rfl
theorem T_54_227 : hTab 54 227 = some ((3, 0, 2, []), 228) := rfl
theorem T_54_228 : hTab 54 228 = some ((3, 6, 2, []), 230) := rfl
theorem T_54_230 : hTab 54 230 = some ((31, 52, 0, []), 233) := rfl
theorem T_54_233 : hTab 54 233 = some ((3, 11, 0, []), 235) := rfl
theorem T_54_235 : hTab 54 235 = some ((4, 7, 0, []), 237) := rfl
theorem T_54_237 : hTab 54 237 = some ((5, 8, 1, []), 240) := rfl
theorem T_54_240 : hTab 54 240 = some ((5, 10, 1, []), 243) := rfl
theorem T_54_243 : hTab 54 243 = some ((22, 0, Int.ofNat 133, []), 246) := rfl
theorem T_54_246 : hTab 54 246 = some ((3, 8, 0, []), 248) := rfl
theorem T_54_248 : hTab 54 248 = some ((3, 5, 0, []), 250) := rfl
theorem T_54_250 : hTab 54 250 = some ((19, 1, Int.ofNat 267, []), 253) := rfl
theorem T_54_253 : hTab 54 253 = some ((3, 4, 2, []), 255) := rfl
theorem T_54_255 : hTab 54 255 = some ((3, 2, 1, []), 256) := rfl
theorem T_54_256 : hTab 54 256 = some ((3, 1, 2, []), 257) := rfl
theorem T_54_257 : hTab 54 257 = some ((24, 9, Int.ofNat 2, []), 260) := rfl
theorem T_54_260 : hTab 54 260 = some ((3, 6, 2, []), 262) := rfl
theorem T_54_262 : hTab 54 262 = some ((31, 51, 0, []), 265) := rfl
theorem T_54_265 : hTab 54 265 = some ((0, 0, 0, []), 266) := rfl
theorem T_54_266 : hTab 54 266 = some ((33, 1, 0, []), 267) := rfl
theorem T_54_267 : hTab 54 267 = some ((3, 0, 2, []), 268) := rfl
theorem T_54_268 : hTab 54 268 = some ((24, 7, Int.ofNat 10, []), 271) := rfl
theorem T_54_271 : hTab 54 271 = some ((0, 0, 7, []), 273) := rfl
theorem T_54_273 : hTab 54 273 = some ((3, 8, 0, []), 275) := rfl
theorem T_54_275 : hTab 54 275 = some ((14, 0, 0, []), 276) := rfl
theorem T_54_276 : hTab 54 276 = some ((0, 0, 2, []), 277) := rfl
theorem T_54_277 : hTab 54 277 = some ((31, 25, 0, []), 280) := rfl
theorem T_54_280 : hTab 54 280 = some ((3, 8, 0, []), 282) := rfl
theorem T_54_282 : hTab 54 282 = some ((18, 1, Int.ofNat 290, []), 285) := rfl
theorem T_54_285 : hTab 54 285 = some ((3, 9, 0, []), 287) := rfl
theorem T_54_287 : hTab 54 287 = some ((22, 0, Int.ofNat 291, []), 290) := rfl
theorem T_54_290 : hTab 54 290 = some ((0, 0, 0, []), 291) := rfl
theorem T_54_291 : hTab 54 291 = some ((33, 1, 0, []), 292) := rfl
theorem mN_54 : hmN 54 = 2 := by decide +kernel
theorem mL_54 : hmL 54 = 13 := by decide +kernel
theorem mK_54 : hmK 54 = 1 := by decide +kernel
theorem mO_54 : hmO 54 = 7 := by decide +kernel
section XWAL
variable {fb : Bool} {d S a b c0 rp mb m N M : Nat} {σ0 σ : hM} {W W1 W2 P Q : qR} {R R1 R2 : rR} {i j k x z v s e w f u n p g ln K T U C c : Int} {ord l l2 nm lo : List Int} {t : Nat → Nat} {r : Option Nat}
theorem lay_mid : ∀ (y y2 x t : List Int), y.length = y2.length → lay (x ++ y ++ t) x.length y2 = x ++ y2 ++ t
  | [], [], x, t, _ => by show x ++ [] ++ t = _; rfl
  | y0 :: y, b :: y2, x, t, h => by
    show lay ((x ++ (y0 :: y) ++ t).set x.length b) (x.length + 1) y2 = _
    have e : (x ++ (y0 :: y) ++ t).set x.length b = (x ++ [b]) ++ y ++ t := by
      rw [List.append_assoc, List.set_append_right _ _ (Nat.le_refl _), Nat.sub_self]
      show x ++ (b :: (y ++ t)) = _
      simp only [List.append_assoc, List.cons_append, List.nil_append]
    have h2 := lay_mid y y2 (x ++ [b]) t (by simpa using h)
    rw [e, show x.length + 1 = (x ++ [b]).length by rw [List.length_append]; rfl, h2]
    simp only [List.append_assoc, List.cons_append, List.nil_append]
theorem dirN_of (h : isN P s n) (hd : qMode P s n < 0) : dirN P s n := fun hs => by
  subst hs
  rcases h with q | q
  · omega
  · rcases q.2 with q | q | q
    · exact Or.inl q
    · rw [q] at hd
      exact absurd (show (438 : Int) < 0 from hd) (by decide)
    · refine Or.inr ⟨q.1, q.2.1, ?_, q.2.2.2⟩
      apply Decidable.byContradiction
      intro c
      unfold qMode at hd
      rw [if_neg (by decide), if_neg (by omega), if_neg (by omega)] at hd
      split at hd <;> omega
/-- where one name leads, as the class finds it -/
theorem entry_to (hT : NT W R P S s ord t) (hR : TRX P s ord) (hU : UNq P s) (hI : IV false T U P) (hs : 0 ≤ s ∧ s < 3) (hn : isN P s n) (ha : noA S ord t n = some a) (hd : qMode P s n < 0) (h00 : n = 0 → qUp P s n = 0) : (if nm = [46, 46] then (if n = 0 then some a else noA S ord t (qUp P s n)) else enR P S s ord t n nm ord.length 0) = (if qTo P s n nm < 0 then none else noA S ord t (qTo P s n nm)) ∧ (0 ≤ qTo P s n nm → isN P s (qTo P s n nm)) := by
  unfold qTo
  by_cases q : nm = [46, 46]
  · rw [if_pos q, if_pos q]
    have hup := hR.2.2.1 n hn
    have h0 : ¬ qUp P s n < 0 := by
      rcases hup with c | c <;> omega
    rw [if_neg h0]
    refine ⟨?_, fun _ => hup⟩
    by_cases e : n = 0
    · rw [if_pos e, h00 e, ← ha, e]
    · rw [if_neg e]
  · rw [if_neg q, if_neg q]
    have hd := dirN_of hn hd
    exact ⟨enR_find hT hU hI hs hd, fun c => ((qFind_kid hI hs hd).1 c).1⟩
theorem mv1 : (if and32 x 1 = 1 then (1 : Int) else 0) = if and32 x 1 = 0 then 0 else 1 := by
  by_cases q : and32 x 1 = 0
  · rw [if_pos q, if_neg (by rw [q]; decide)]
  · rw [if_neg q, if_pos (show and32 x 1 = 1 from and32_bit (j := 0) (by decide) q)]
/-- a walk ends at a file that is there -/
theorem wlk_to (hT : NT W R P S s ord t) (hR : TRX P s ord) (hU : UNq P s) (hI : IV false T U P) (hs : 0 ≤ s ∧ s < 3) (h00 : qUp P s 0 = 0) (hn : isN P s n) : ∀ r : List (List Int), isN P s (wlk P s u r n).2.1 := fun r => by
  induction r generalizing n with
  | nil => exact hn
  | cons nm r ih =>
    unfold wlk
    split
    · rename_i q
      obtain ⟨b, hb⟩ : ∃ b, noA S ord t n = some b := by
        unfold noA
        rw [if_pos ((hT.1.1 n).mpr hn)]
        exact ⟨_, rfl⟩
      unfold qSt at q
      by_cases q1 : qMode P s n < 0
      · rw [if_neg (fun c => c q1)] at q
        have h2 := (entry_to (nm := nm) hT hR hU hI hs hn hb q1 (fun c => by rw [c]; exact h00)).2
        by_cases q2 : qMv P s n u 1 = 0
        · rw [if_pos q2] at q
          omega
        · rw [if_neg q2] at q
          by_cases q3 : qTo P s n nm < 0
          · rw [if_pos q3] at q
            omega
          · exact ih (h2 (by omega))
      · rw [if_pos q1] at q
        omega
    · exact hn
theorem FV_fdW (hi : 0 ≤ i ∧ i < 96) (hS : 0 < S ∧ S + 294 ≤ 2372) : FV S 0 W (fdW W (S + 198 + i.toNat) v u p) R (oU R (S + 198 + i.toNat) 2291 r) := by
  unfold fdW
  exact FV_tr (FV_tr (FV_tr (FV_tr (FV_tr (FV_tr (FV_tr (FV_tr (FV_own (by omega) hS (by omega)) (FV_own (by omega) hS (by omega))) (FV_own (by omega) hS (by omega))) (FV_own (by omega) hS (by omega))) (FV_own (by omega) hS (by omega))) (FV_own (by omega) hS (by omega))) (FV_own (by omega) hS (by omega))) (FV_own (by omega) hS (by omega))) (FV_ref (by omega) (by omega) (by decide))
theorem x_walk_loop (hS : VS S s) (hT0 : NT W R P S s ord t) (hR : TRX P s ord) (hU : UNq P s) (hI : IV false T U P) (h00 : qUp P s 0 = 0) (hr : R S 2233 = some mb) (hrp : R S 2234 = some rp) (hB0 : BY W mb M l) (hz : (l.length : Int) = z) (hmr : mb ≠ rp) (hno : ∀ j, j < 64 → S + 7 + 3 * j ≠ rp) (hfo : tX a = some (Sum.inl 9)) (hfu : W a 2290 = u) {Q : Option AV → hM → Prop} {D A E C : Int} {LL : List Int} (hC8 : C ≤ 8) (hQ : ∀ (σ : hM) (W2 : qR) (a2 : Nat) (x7 x10 x11 x12 : Option AV), PX σ0 W2 R σ → BY W2 rp 300 LL → FB rp W W2 → noA S ord t A = some a2 → WP fb (d + 3) 54 246 [some (vR (some S)), some (vR (some a)), some (vL v), none, some (vR r), some (vI C), some (vR (some a2)), x7, some (vI D), some (vI E), x10, x11, x12] [] σ Q) : ∀ (m : Nat) (i p n : Int) (b : Nat) (L : List Int) (W1 : qR) (x11 x12 : Option AV) (σ : hM), i + m = C → 0 ≤ i → 0 ≤ p → wkE (lg l) z m p = z → isN P s n → noA S ord t n = some b → PX σ0 W1 R σ → BY W1 rp 300 L → FB rp W W1 → L.length + 13 * m ≤ 300 → D = i + ((wlk P s u (nms (lg l) (wkS (lg l) z m p)) n).1 : Int) → A = (wlk P s u (nms (lg l) (wkS (lg l) z m p)) n).2.1 → E = (wlk P s u (nms (lg l) (wkS (lg l) z m p)) n).2.2.1 → LL = L ++ (wlk P s u (nms (lg l) (wkS (lg l) z m p)) n).2.2.2 → WP fb (d + 3) 54 133 [some (vR (some S)), some (vR (some a)), some (vL v), none, some (vR r), some (vI C), some (vR (some b)), some (vI p), some (vI i), some (vI 0), some (vI i), x11, x12] [] σ Q := by
  have hO := hS.o
  have hsr := hS.1
  have hrg := hS.rng
  have hbo := hB0.1
  have hlz := hB0.2.2.2.2.1
  have hn1 := hB0.2.2.1
  intro m
  induction m with
  | zero =>
    intro i p n b L W1 x11 x12 σ h1 h2 hp hw hn hb hP hBr hF hroom hD hA hE hL
    have h1 : i + ((0 : Nat) : Int) = C := h1
    rw [show wlk P s u (nms (lg l) (wkS (lg l) z 0 p)) n = (0, n, 0, []) from rfl] at hD hA hE hL
    have hD : D = i := by rw [hD]; show i + ((0 : Nat) : Int) = i; omega
    have hA : A = n := hA
    have hE : E = 0 := hE
    have hL : LL = L := by rw [hL]; exact List.append_nil L
    have hgo := hQ σ W1 b (some (vI p)) (some (vI i)) x11 x12 hP (by rw [hL]; exact hBr) hF (by rw [hA]; exact hb)
    rw [hD, hE] at hgo
    refine x_li (z := i) T_54_133 rfl ?_
    refine x_li (z := C) T_54_135 rfl ?_
    refine x_ic2 T_54_137 (fun _ => ?_) (fun h => absurd (show C ≤ i by omega) h)
    exact hgo
  | succ m ih =>
    intro i p n b L W1 x11 x12 σ h1 h2 hp hw hn hb hP hBr hF hroom hD hA hE hL
    have hT := hT0.fb hF hno
    have hB := hF.by hB0 hmr
    obtain ⟨j, j0, j1, hj⟩ := mem_lg ((hT.1.1 n).mpr hn)
    have hbj := noA_get (S := S) (t := t) hT.nodup j0 j1
    rw [hj, hb] at hbj
    have hbj := Option.some.inj hbj
    have hN := hT.2.2.2.1 j j0 j1
    rw [hj, ← hbj] at hN
    have hbn : tX b = some (Sum.inl 8) := hN.1
    have hse : 0 ≤ sE (lg l) z p := by
      apply Decidable.byContradiction
      intro c
      have := wkE_neg (a := lg l) (z := z) (p := sE (lg l) z p) (by omega) m
      have hw2 : wkE (lg l) z m (sE (lg l) z p) = z := hw
      omega
    have g1 := sE_ge hse
    have hnu := (nu_rng (f := lg l) (i := p) 2 (fun j _ => hB.2.2.2.2.2.1 _ (by omega))).1
    have hend := x_stringEnd (fb := fb) (d := d + 2) (s := p) hP hB hz ⟨by omega, by omega⟩
    have ews : wkS (lg l) z (m + 1) p = (p + 2, nu (lg l) p 2) :: wkS (lg l) z m (sE (lg l) z p) := if_neg (by omega)
    have hw2 : wkE (lg l) z m (sE (lg l) z p) = z := hw
    obtain ⟨nm, hnm⟩ : ∃ nm, seg (lg l) (p + 2) (nu (lg l) p 2).toNat = nm := ⟨_, rfl⟩
    have ewl : nms (lg l) (wkS (lg l) z (m + 1) p) = nm :: nms (lg l) (wkS (lg l) z m (sE (lg l) z p)) := by rw [ews, ← hnm]; rfl
    rw [ewl] at hD hA hE hL
    have ewk : ∀ r, wlk P s u (nm :: r) n = if qSt P s n u nm = 0 then ((wlk P s u r (qTo P s n nm)).1 + 1, (wlk P s u r (qTo P s n nm)).2.1, (wlk P s u r (qTo P s n nm)).2.2.1, qidL P s (qTo P s n nm) ++ (wlk P s u r (qTo P s n nm)).2.2.2) else (0, n, qSt P s n u nm, []) := fun r => rfl
    rw [ewk] at hD hA hE hL
    obtain ⟨ed, hed⟩ : ∃ ed, sE (lg l) z p = ed := ⟨_, rfl⟩
    rw [hed] at hend hse g1 hw2 hD hA hE hL
    have hdir := x_isDirectory (fb := fb) (d := d + 2) hP hbn hN.2.1.1 hN.2.1.2
    have hlt := x_lets (fb := fb) (d := d + 2) (u := u) (w := 1) hP hbn hN.2.1.1 hN.2.2.2.2.1.1 hN.2.2.2.2.2.1.1 hN.2.1.2
    rw [mv1] at hlt
    have emv : qMv P s n u 1 = and32 (ltB (qMode P s n) (qUid P s n) (qGid P s n) u) 1 := rfl
    rw [← emv] at hlt
    have hfu1 : W1 a 2290 = u := (hF.o (by decide) (by decide)).trans hfu
    have fail : ∀ (e : Int) (x12 : Option AV) (σ : hM), PX σ0 W1 R σ → qSt P s n u nm = e → ¬ e = 0 → WP fb (d + 3) 54 133 [some (vR (some S)), some (vR (some a)), some (vL v), none, some (vR r), some (vI C), some (vR (some b)), some (vI p), some (vI i), some (vI e), some (vI (i + 1)), some (vI ed), x12] [] σ Q := fun e x12 σ hP q q0 => by
      rw [q, if_neg q0] at hD hA hE hL
      have hD : D = i := by rw [hD]; show i + ((0 : Nat) : Int) = i; omega
      have hA : A = n := hA
      have hE : E = e := hE
      have hL : LL = L := by rw [hL]; exact List.append_nil L
      have hgo := hQ σ W1 b (some (vI p)) (some (vI (i + 1))) (some (vI ed)) x12 hP (by rw [hL]; exact hBr) hF (by rw [hA]; exact hb)
      rw [hD, hE] at hgo
      by_cases q1 : C ≤ i + 1
      · skip
        refine x_li (z := (i + 1)) T_54_133 rfl ?_
        refine x_li (z := C) T_54_135 rfl ?_
        refine x_ic2 T_54_137 (fun _ => ?_) (fun h => absurd (show C ≤ (i + 1) by omega) h)
        exact hgo
      · skip
        refine x_li (z := (i + 1)) T_54_133 rfl ?_
        refine x_li (z := C) T_54_135 rfl ?_
        refine x_ic2 T_54_137 (fun h => absurd (show C ≤ (i + 1) from h) (by omega)) (fun _ => ?_)
        refine x_li (z := e) T_54_140 rfl ?_
        refine x_if T_54_142 (fun _ => ?_) (fun h => absurd (show ¬ e = 0 by omega) h)
        exact hgo
    have est : qSt P s n u nm = if ¬ qMode P s n < 0 then 2 else if qMv P s n u 1 = 0 then 3 else if qTo P s n nm < 0 then 1 else 0 := rfl
    by_cases q1 : qMode P s n < 0
    · rw [if_pos q1] at hdir
      rw [if_neg (fun c => c q1)] at est
      by_cases q2 : qMv P s n u 1 = 0
      · rw [if_pos q2] at hlt est
        have hgo := fun σ hP => fail 3 (some (vR none)) σ hP est (by decide)
        refine x_li (z := i) T_54_133 rfl ?_
        refine x_li (z := C) T_54_135 rfl ?_
        refine x_ic2 T_54_137 (fun h => absurd (show C ≤ i from h) (by omega)) (fun _ => ?_)
        refine x_li (z := 0) T_54_140 rfl ?_
        refine x_if T_54_142 (fun h => absurd (show ¬ (0 : Int) = 0 from h) (by decide)) (fun _ => ?_)
        refine x_lr (z := some S) T_54_145 rfl ?_
        refine x_gR (z := some mb) T_54_146 F_7_9 (hP.o hO) (Eq.trans (hP.rm hO rfl (key := 2233) rfl) hr) ?_
        refine x_li (z := p) T_54_149 rfl ?_
        refine x_cv2 T_54_151 mN_36 mL_36 (Nat.le_of_ble_eq_true rfl) mO_36 (hP.o hbo) (Nat.le_of_ble_eq_true rfl) (hend) ?_
        rintro _ σ ⟨rfl, rfl⟩
        refine cI ?_
        refine x_si (ls1 := [some (vR (some S)), some (vR (some a)), some (vL v), none, some (vR r), some (vI C), some (vR (some b)), some (vI p), some (vI i), some (vI 0), some (vI i), some (vI ed), x12]) T_54_154 rfl ?_
        refine x_nu T_54_156 ?_
        refine x_sr (ls1 := [some (vR (some S)), some (vR (some a)), some (vL v), none, some (vR r), some (vI C), some (vR (some b)), some (vI p), some (vI i), some (vI 0), some (vI i), some (vI ed), some (vR none)]) T_54_157 rfl ?_
        refine x_lr (z := some b) T_54_159 rfl ?_
        refine x_cv1 T_54_161 mN_55 mL_55 (Nat.le_of_ble_eq_true rfl) mO_55 (hP.o hbn) (Nat.le_of_ble_eq_true rfl) (hdir) ?_
        rintro _ σ ⟨rfl, rfl⟩
        refine cI ?_
        refine x_if T_54_164 (fun _ => ?_) (fun h => absurd (show ¬ (1 : Int) = 0 by decide) h)
        refine x_lr (z := some b) T_54_173 rfl ?_
        refine x_lr (z := some a) T_54_175 rfl ?_
        refine x_gI (z := u) T_54_176 (Or.inl F_9_2) (hP.o hfo) (Eq.trans (hP.gi hfo (key := 2290) rfl) hfu1) ?_
        refine x_ic T_54_179 ?_
        refine x_cv3 T_54_180 mN_43 mL_43 (Nat.le_of_ble_eq_true rfl) mO_43 (hP.o hbn) (Nat.le_of_ble_eq_true rfl) (hlt) ?_
        rintro _ σ ⟨rfl, rfl⟩
        refine cI ?_
        refine x_if T_54_183 (fun h => absurd (show ¬ (0 : Int) = 0 from h) (by decide)) (fun _ => ?_)
        refine x_ic T_54_186 ?_
        refine x_si (ls1 := [some (vR (some S)), some (vR (some a)), some (vL v), none, some (vR r), some (vI C), some (vR (some b)), some (vI p), some (vI i), some (vI 3), some (vI i), some (vI ed), some (vR none)]) T_54_187 rfl ?_
        refine x_goto T_54_189 ?_
        refine x_lr (z := none) T_54_218 rfl ?_
        refine x_nul T_54_220 (fun _ => ?_) (fun a0 h0 => absurd h0 (by simp))
        refine x_inc (w := (i + 1)) (ls1 := [some (vR (some S)), some (vR (some a)), some (vL v), none, some (vR r), some (vI C), some (vR (some b)), some (vI p), some (vI i), some (vI 3), some (vI (i + 1)), some (vI ed), some (vR none)]) T_54_240 rfl (w32_id (by omega) (by omega)) rfl ?_
        refine x_goto T_54_243 ?_
        exact hgo σ hP
      · rw [if_neg q2] at hlt est
        have hen := x_entry (fb := fb) (d := d + 1) (u := p + 2) (e := ed) hP hS hT hR.2.2.1 hr hB ((hT.1.1 n).mpr hn) hb ⟨by omega, by omega, by omega⟩
        obtain ⟨he1, he2⟩ := entry_to (nm := nm) hT hR hU hI hsr hn hb q1 (fun c => by rw [c]; exact h00)
        rw [show (ed - (p + 2)).toNat = (nu (lg l) p 2).toNat by omega, hnm, he1] at hen
        by_cases q3 : qTo P s n nm < 0
        · rw [if_pos q3] at hen est
          have hgo := fun σ hP => fail 1 (some (vR none)) σ hP est (by decide)
          refine x_li (z := i) T_54_133 rfl ?_
          refine x_li (z := C) T_54_135 rfl ?_
          refine x_ic2 T_54_137 (fun h => absurd (show C ≤ i from h) (by omega)) (fun _ => ?_)
          refine x_li (z := 0) T_54_140 rfl ?_
          refine x_if T_54_142 (fun h => absurd (show ¬ (0 : Int) = 0 from h) (by decide)) (fun _ => ?_)
          refine x_lr (z := some S) T_54_145 rfl ?_
          refine x_gR (z := some mb) T_54_146 F_7_9 (hP.o hO) (Eq.trans (hP.rm hO rfl (key := 2233) rfl) hr) ?_
          refine x_li (z := p) T_54_149 rfl ?_
          refine x_cv2 T_54_151 mN_36 mL_36 (Nat.le_of_ble_eq_true rfl) mO_36 (hP.o hbo) (Nat.le_of_ble_eq_true rfl) (hend) ?_
          rintro _ σ ⟨rfl, rfl⟩
          refine cI ?_
          refine x_si (ls1 := [some (vR (some S)), some (vR (some a)), some (vL v), none, some (vR r), some (vI C), some (vR (some b)), some (vI p), some (vI i), some (vI 0), some (vI i), some (vI ed), x12]) T_54_154 rfl ?_
          refine x_nu T_54_156 ?_
          refine x_sr (ls1 := [some (vR (some S)), some (vR (some a)), some (vL v), none, some (vR r), some (vI C), some (vR (some b)), some (vI p), some (vI i), some (vI 0), some (vI i), some (vI ed), some (vR none)]) T_54_157 rfl ?_
          refine x_lr (z := some b) T_54_159 rfl ?_
          refine x_cv1 T_54_161 mN_55 mL_55 (Nat.le_of_ble_eq_true rfl) mO_55 (hP.o hbn) (Nat.le_of_ble_eq_true rfl) (hdir) ?_
          rintro _ σ ⟨rfl, rfl⟩
          refine cI ?_
          refine x_if T_54_164 (fun _ => ?_) (fun h => absurd (show ¬ (1 : Int) = 0 by decide) h)
          refine x_lr (z := some b) T_54_173 rfl ?_
          refine x_lr (z := some a) T_54_175 rfl ?_
          refine x_gI (z := u) T_54_176 (Or.inl F_9_2) (hP.o hfo) (Eq.trans (hP.gi hfo (key := 2290) rfl) hfu1) ?_
          refine x_ic T_54_179 ?_
          refine x_cv3 T_54_180 mN_43 mL_43 (Nat.le_of_ble_eq_true rfl) mO_43 (hP.o hbn) (Nat.le_of_ble_eq_true rfl) (hlt) ?_
          rintro _ σ ⟨rfl, rfl⟩
          refine cI ?_
          refine x_if T_54_183 (fun _ => ?_) (fun h => absurd (show ¬ (1 : Int) = 0 by decide) h)
          refine x_lr (z := some S) T_54_192 rfl ?_
          refine x_lr (z := some b) T_54_193 rfl ?_
          refine x_li (z := p) T_54_195 rfl ?_
          refine x_ic T_54_197 ?_
          refine x_ib (w := (p + 2)) T_54_198 (fun h => absurd h.1 (by decide)) (w32_id (by omega) (by omega)) ?_
          refine x_li (z := ed) T_54_199 rfl ?_
          refine x_cv4 T_54_201 mN_56 mL_56 (Nat.le_of_ble_eq_true rfl) mO_56 (hP.o hO) (Nat.le_of_ble_eq_true rfl) (hen) ?_
          rintro _ σ ⟨rfl, rfl⟩
          refine cR ?_
          refine x_sr (ls1 := [some (vR (some S)), some (vR (some a)), some (vL v), none, some (vR r), some (vI C), some (vR (some b)), some (vI p), some (vI i), some (vI 0), some (vI i), some (vI ed), some (vR none)]) T_54_204 rfl ?_
          refine x_lr (z := none) T_54_206 rfl ?_
          refine x_nnul T_54_208 (fun a0 h0 => absurd h0 (by simp)) (fun _ => ?_)
          refine x_ic T_54_211 ?_
          refine x_goto T_54_212 ?_
          refine x_si (ls1 := [some (vR (some S)), some (vR (some a)), some (vL v), none, some (vR r), some (vI C), some (vR (some b)), some (vI p), some (vI i), some (vI 1), some (vI i), some (vI ed), some (vR none)]) T_54_216 rfl ?_
          refine x_lr (z := none) T_54_218 rfl ?_
          refine x_nul T_54_220 (fun _ => ?_) (fun a0 h0 => absurd h0 (by simp))
          refine x_inc (w := (i + 1)) (ls1 := [some (vR (some S)), some (vR (some a)), some (vL v), none, some (vR r), some (vI C), some (vR (some b)), some (vI p), some (vI i), some (vI 1), some (vI (i + 1)), some (vI ed), some (vR none)]) T_54_240 rfl (w32_id (by omega) (by omega)) rfl ?_
          refine x_goto T_54_243 ?_
          exact hgo σ hP
        · rw [if_neg q3] at hen est
          rw [est, if_pos rfl] at hD hA hE hL
          obtain ⟨n2, hn2⟩ : ∃ n2, qTo P s n nm = n2 := ⟨_, rfl⟩
          rw [hn2] at hen he2 hD hA hE hL q3
          have hl2 := he2 (by omega)
          obtain ⟨j2, k0, k1, hj2⟩ := mem_lg ((hT.1.1 n2).mpr hl2)
          have hb2 := noA_get (S := S) (t := t) hT.nodup k0 k1
          rw [hj2] at hb2
          have hN2 := hT.2.2.2.1 j2 k0 k1
          rw [hj2] at hN2
          have htl := hT.2.1.1 j2.toNat (by have := hT.1.2.1; omega)
          have hnr := hno _ htl
          obtain ⟨b2, hb2e⟩ : ∃ b2, S + 6 + 3 * t j2.toNat = b2 := ⟨_, rfl⟩
          rw [hb2e] at hb2 hN2
          rw [hb2] at hen
          have hpq := x_putQid (fb := fb) (d := d + 1) hP hS hrp hBr hN2 (by omega) (by omega)
          have hgo := fun (σ : hM) (W2 : qR) (hP : PX σ0 W2 R σ) (hB2 : BY W2 rp 300 (L ++ qidL P s n2)) (hF2 : FB rp W1 W2) => ih (i + 1) ed n2 b2 (L ++ qidL P s n2) W2 (some (vI ed)) (some (vR (some b2))) σ (by omega) (by omega) hse hw2 hl2 hb2 hP hB2 (FB_tr hF hF2) (by have := qidL_len P s n2; rw [List.length_append]; omega) (by rw [hD]; show i + ((_ + 1 : Nat) : Int) = _; omega) hA hE (by rw [hL, List.append_assoc])
          have hbn2 := hN2.1
          refine x_li (z := i) T_54_133 rfl ?_
          refine x_li (z := C) T_54_135 rfl ?_
          refine x_ic2 T_54_137 (fun h => absurd (show C ≤ i from h) (by omega)) (fun _ => ?_)
          refine x_li (z := 0) T_54_140 rfl ?_
          refine x_if T_54_142 (fun h => absurd (show ¬ (0 : Int) = 0 from h) (by decide)) (fun _ => ?_)
          refine x_lr (z := some S) T_54_145 rfl ?_
          refine x_gR (z := some mb) T_54_146 F_7_9 (hP.o hO) (Eq.trans (hP.rm hO rfl (key := 2233) rfl) hr) ?_
          refine x_li (z := p) T_54_149 rfl ?_
          refine x_cv2 T_54_151 mN_36 mL_36 (Nat.le_of_ble_eq_true rfl) mO_36 (hP.o hbo) (Nat.le_of_ble_eq_true rfl) (hend) ?_
          rintro _ σ ⟨rfl, rfl⟩
          refine cI ?_
          refine x_si (ls1 := [some (vR (some S)), some (vR (some a)), some (vL v), none, some (vR r), some (vI C), some (vR (some b)), some (vI p), some (vI i), some (vI 0), some (vI i), some (vI ed), x12]) T_54_154 rfl ?_
          refine x_nu T_54_156 ?_
          refine x_sr (ls1 := [some (vR (some S)), some (vR (some a)), some (vL v), none, some (vR r), some (vI C), some (vR (some b)), some (vI p), some (vI i), some (vI 0), some (vI i), some (vI ed), some (vR none)]) T_54_157 rfl ?_
          refine x_lr (z := some b) T_54_159 rfl ?_
          refine x_cv1 T_54_161 mN_55 mL_55 (Nat.le_of_ble_eq_true rfl) mO_55 (hP.o hbn) (Nat.le_of_ble_eq_true rfl) (hdir) ?_
          rintro _ σ ⟨rfl, rfl⟩
          refine cI ?_
          refine x_if T_54_164 (fun _ => ?_) (fun h => absurd (show ¬ (1 : Int) = 0 by decide) h)
          refine x_lr (z := some b) T_54_173 rfl ?_
          refine x_lr (z := some a) T_54_175 rfl ?_
          refine x_gI (z := u) T_54_176 (Or.inl F_9_2) (hP.o hfo) (Eq.trans (hP.gi hfo (key := 2290) rfl) hfu1) ?_
          refine x_ic T_54_179 ?_
          refine x_cv3 T_54_180 mN_43 mL_43 (Nat.le_of_ble_eq_true rfl) mO_43 (hP.o hbn) (Nat.le_of_ble_eq_true rfl) (hlt) ?_
          rintro _ σ ⟨rfl, rfl⟩
          refine cI ?_
          refine x_if T_54_183 (fun _ => ?_) (fun h => absurd (show ¬ (1 : Int) = 0 by decide) h)
          refine x_lr (z := some S) T_54_192 rfl ?_
          refine x_lr (z := some b) T_54_193 rfl ?_
          refine x_li (z := p) T_54_195 rfl ?_
          refine x_ic T_54_197 ?_
          refine x_ib (w := (p + 2)) T_54_198 (fun h => absurd h.1 (by decide)) (w32_id (by omega) (by omega)) ?_
          refine x_li (z := ed) T_54_199 rfl ?_
          refine x_cv4 T_54_201 mN_56 mL_56 (Nat.le_of_ble_eq_true rfl) mO_56 (hP.o hO) (Nat.le_of_ble_eq_true rfl) (hen) ?_
          rintro _ σ ⟨rfl, rfl⟩
          refine cR ?_
          refine x_sr (ls1 := [some (vR (some S)), some (vR (some a)), some (vL v), none, some (vR r), some (vI C), some (vR (some b)), some (vI p), some (vI i), some (vI 0), some (vI i), some (vI ed), some (vR (some b2))]) T_54_204 rfl ?_
          refine x_lr (z := some b2) T_54_206 rfl ?_
          refine x_nnul T_54_208 (fun _ _ => ?_) (fun h0 => absurd h0 (by simp))
          refine x_ic T_54_215 ?_
          refine x_si (ls1 := [some (vR (some S)), some (vR (some a)), some (vL v), none, some (vR r), some (vI C), some (vR (some b)), some (vI p), some (vI i), some (vI 0), some (vI i), some (vI ed), some (vR (some b2))]) T_54_216 rfl ?_
          refine x_lr (z := some b2) T_54_218 rfl ?_
          refine x_nul T_54_220 (fun h0 => absurd h0 (by simp)) (fun _ _ => ?_)
          refine x_lr (z := some b2) T_54_223 rfl ?_
          refine x_sr (ls1 := [some (vR (some S)), some (vR (some a)), some (vL v), none, some (vR r), some (vI C), some (vR (some b2)), some (vI p), some (vI i), some (vI 0), some (vI i), some (vI ed), some (vR (some b2))]) T_54_225 rfl ?_
          refine x_lr (z := some S) T_54_227 rfl ?_
          refine x_lr (z := some b2) T_54_228 rfl ?_
          refine x_cv2 T_54_230 mN_52 mL_52 (Nat.le_of_ble_eq_true rfl) mO_52 (hP.o hO) (Nat.le_of_ble_eq_true rfl) (hpq) ?_
          clear hP hpq
          rintro _ σ ⟨rfl, W2, hP, hB2, hF2⟩
          refine cV ?_
          refine x_li (z := ed) T_54_233 rfl ?_
          refine x_si (ls1 := [some (vR (some S)), some (vR (some a)), some (vL v), none, some (vR r), some (vI C), some (vR (some b2)), some (vI ed), some (vI i), some (vI 0), some (vI i), some (vI ed), some (vR (some b2))]) T_54_235 rfl ?_
          refine x_inc (w := (i + 1)) (ls1 := [some (vR (some S)), some (vR (some a)), some (vL v), none, some (vR r), some (vI C), some (vR (some b2)), some (vI ed), some (vI (i + 1)), some (vI 0), some (vI i), some (vI ed), some (vR (some b2))]) T_54_237 rfl (w32_id (by omega) (by omega)) rfl ?_
          refine x_inc (w := (i + 1)) (ls1 := [some (vR (some S)), some (vR (some a)), some (vL v), none, some (vR r), some (vI C), some (vR (some b2)), some (vI ed), some (vI (i + 1)), some (vI 0), some (vI (i + 1)), some (vI ed), some (vR (some b2))]) T_54_240 rfl (w32_id (by omega) (by omega)) rfl ?_
          refine x_goto T_54_243 ?_
          exact hgo σ W2 hP hB2 hF2
    · rw [if_neg q1] at hdir
      rw [if_pos q1] at est
      have hgo := fun σ hP => fail 2 (some (vR none)) σ hP est (by decide)
      refine x_li (z := i) T_54_133 rfl ?_
      refine x_li (z := C) T_54_135 rfl ?_
      refine x_ic2 T_54_137 (fun h => absurd (show C ≤ i from h) (by omega)) (fun _ => ?_)
      refine x_li (z := 0) T_54_140 rfl ?_
      refine x_if T_54_142 (fun h => absurd (show ¬ (0 : Int) = 0 from h) (by decide)) (fun _ => ?_)
      refine x_lr (z := some S) T_54_145 rfl ?_
      refine x_gR (z := some mb) T_54_146 F_7_9 (hP.o hO) (Eq.trans (hP.rm hO rfl (key := 2233) rfl) hr) ?_
      refine x_li (z := p) T_54_149 rfl ?_
      refine x_cv2 T_54_151 mN_36 mL_36 (Nat.le_of_ble_eq_true rfl) mO_36 (hP.o hbo) (Nat.le_of_ble_eq_true rfl) (hend) ?_
      rintro _ σ ⟨rfl, rfl⟩
      refine cI ?_
      refine x_si (ls1 := [some (vR (some S)), some (vR (some a)), some (vL v), none, some (vR r), some (vI C), some (vR (some b)), some (vI p), some (vI i), some (vI 0), some (vI i), some (vI ed), x12]) T_54_154 rfl ?_
      refine x_nu T_54_156 ?_
      refine x_sr (ls1 := [some (vR (some S)), some (vR (some a)), some (vL v), none, some (vR r), some (vI C), some (vR (some b)), some (vI p), some (vI i), some (vI 0), some (vI i), some (vI ed), some (vR none)]) T_54_157 rfl ?_
      refine x_lr (z := some b) T_54_159 rfl ?_
      refine x_cv1 T_54_161 mN_55 mL_55 (Nat.le_of_ble_eq_true rfl) mO_55 (hP.o hbn) (Nat.le_of_ble_eq_true rfl) (hdir) ?_
      rintro _ σ ⟨rfl, rfl⟩
      refine cI ?_
      refine x_if T_54_164 (fun h => absurd (show ¬ (0 : Int) = 0 from h) (by decide)) (fun _ => ?_)
      refine x_ic T_54_167 ?_
      refine x_si (ls1 := [some (vR (some S)), some (vR (some a)), some (vL v), none, some (vR r), some (vI C), some (vR (some b)), some (vI p), some (vI i), some (vI 2), some (vI i), some (vI ed), some (vR none)]) T_54_168 rfl ?_
      refine x_goto T_54_170 ?_
      refine x_lr (z := none) T_54_218 rfl ?_
      refine x_nul T_54_220 (fun _ => ?_) (fun a0 h0 => absurd h0 (by simp))
      refine x_inc (w := (i + 1)) (ls1 := [some (vR (some S)), some (vR (some a)), some (vL v), none, some (vR r), some (vI C), some (vR (some b)), some (vI p), some (vI i), some (vI 2), some (vI (i + 1)), some (vI ed), some (vR none)]) T_54_240 rfl (w32_id (by omega) (by omega)) rfl ?_
      refine x_goto T_54_243 ?_
      exact hgo σ hP
theorem gMake_qid : qidL (gMake P k v n u) s w = qidL P s w := gMake_fe.qid
theorem x_doWalk (hP : PX σ0 W R σ) (hS : VS S s) (hX : XV W R P S s ord t) (hK : CT K W R) (hG : GI T U P) (hD : TI P) (hU2 : UNq P 2) (hr : R S 2233 = some mb) (hrp : R S 2234 = some rp) (hcn : W S 2235 = c) (hc : c = 0 ∨ c = 1) (hB : BY W mb M l) (hz : (l.length : Int) = z) (hmo : mb + 1 < S ∨ S + 294 ≤ mb) (hBr : BY W rp 300 l2) (hro : rp + 1 < S ∨ S + 294 ≤ rp) (hmr : mb ≠ rp) (hroom : l2.length = 7) (hw : 17 ≤ z ∧ wkE (lg l) z (nu (lg l) 15 2).toNat 17 = z) (hi : 0 ≤ i ∧ i < 96) (hk : qFid P s c (nu (lg l) 7 4) = 96 * s + i) (hu : ¬ P 2304 (96 * s + i) = 0) : CL fb (d + 4) 54 [vR (some S), vR (some (S + 198 + i.toNat))] σ (XS σ0 K W R S rp s (wlE P s c (lg l) z) (if wlE P s c (lg l) z = 0 then wlP P s c (lg l) z else P) (l2 ++ wlL P s c (lg l) z)) := by
  have hO := hS.o
  have hsr := hS.1
  have hrg := hS.rng
  have hbo := hB.1
  have hro1 := hBr.1
  have hrlt := hBr.lt
  have hr0 := (tX_o hro1).1
  have hm0 := (tX_o hbo).1
  have hb := hB.2.2.2.2.2.1
  have hlz := hB.2.2.2.2.1
  have hn1 := hB.2.2.1
  have hfo := hS.fd hi
  have hc2 : 0 ≤ c ∧ c < 2 := by omega
  have hR := TRX_of hX.1 hG hsr
  have hUs : UNq P s := by
    by_cases q : s < 2
    · exact hD.1 s hsr.1 q
    · have e : s = 2 := by omega
      rw [e]
      exact hU2
  have h00 : qUp P s 0 = 0 := by
    unfold qUp
    split
    · rw [Int.add_zero]
      exact (hG.2.1.1 s hsr.1 (by omega)).2.1
    · rfl
  have hno : ∀ j, j < 64 → S + 7 + 3 * j ≠ rp := fun j hj => by omega
  obtain ⟨f1, f2, f3, f4, f5, f6, f7, f8⟩ := (hX.2.1 i hi.1 hi.2).2.1 hu
  obtain ⟨n, hn⟩ : ∃ n, nu (lg l) 15 2 = n := ⟨_, rfl⟩
  obtain ⟨v, hv⟩ : ∃ v, nu (lg l) 11 4 = v := ⟨_, rfl⟩
  obtain ⟨num, hnum⟩ : ∃ v, nu (lg l) 7 4 = v := ⟨_, rfl⟩
  have hnr := nu_rng (f := lg l) (i := 15) 2 (fun j _ => hb _ (by omega))
  have hvr := nu_rng (f := lg l) (i := 11) 4 (fun j _ => hb _ (by omega))
  rw [hn] at hnr hw
  rw [hv] at hvr
  have hvr2 : v < 4294967296 := hvr.2
  have hnr2 : n < 65536 := hnr.2
  have hqr := (qFid_rng (P := P) num hsr hc2).resolve_left (by rw [← hnum, hk]; omega)
  rw [hnum] at hk
  rw [hk] at hqr
  have h1 := x_num (fb := fb) (d := d + 3) (s := 11) (k := 4) 4 hP hB hz rfl (by decide) (by decide) (by omega) hv
  have h2 := x_num (fb := fb) (d := d + 3) (s := 15) (k := 2) 2 hP hB hz rfl (by decide) (by decide) (by omega) hn
  have h3 := x_find (fb := fb) (d := d + 3) (c := c) (v := v) hP hS hX.2.1.fu hc
  have h4 := x_spareFid (fb := fb) (d := d + 3) hP hS hX.2.1.fu hc hcn
  obtain ⟨md, hmd⟩ : ∃ y, P 2309 (96 * s + i) = y := ⟨_, rfl⟩
  obtain ⟨gn, hgn⟩ : ∃ y, P 2310 (96 * s + i) = y := ⟨_, rfl⟩
  obtain ⟨u, hu0⟩ : ∃ y, P 2308 (96 * s + i) = y := ⟨_, rfl⟩
  have eT : wlT P s c (lg l) = if num = v then 96 * s + i else qFree P s c := by
    unfold wlT
    rw [hnum, hv, hk]
  have eE : wlE P s c (lg l) z = if 0 ≤ md then 8 else if ¬ num = v ∧ 0 ≤ qFid P s c v then 7 else if 8 < n then 14 else if (if num = v then 96 * s + i else qFree P s c) < 0 then 12 else if ¬ gn = 0 then 1 else if ¬ n = 0 ∧ (wlW P s c (lg l) z).1 = 0 then (wlW P s c (lg l) z).2.2.1 else 0 := by
    unfold wlE
    rw [eT, hnum, hv, hn, hk, hmd, hgn, if_neg (fun c => c hw), if_neg (by omega)]
  have hno0 : ∀ e0 : Int, ¬ e0 = 0 → wlE P s c (lg l) z = e0 → XS σ0 K W R S rp s (wlE P s c (lg l) z) (if wlE P s c (lg l) z = 0 then wlP P s c (lg l) z else P) (l2 ++ wlL P s c (lg l) z) (some (vI e0)) σ := fun e0 q1 q2 => by
    rw [q2, if_neg q1]
    exact ⟨rfl, W, R, ord, t, l2, hP, hBr, fun c => absurd c q1, hX, hK, FV_rfl⟩
  have hmo2 : W (S + 198 + i.toNat) 2293 = if md < 0 then -1 else and32 md 3 := by rw [f4, hmd]; rfl
  rw [hgn] at f8
  rw [hu0] at f2
  have hfob := FD.fu hX.2.1 i hi.1 hi.2
  -- the fid that is asked, by its number
  have hsame : qFid P s c v = 96 * s + i ↔ num = v := by
    constructor
    · intro q
      have := (qFid_rng (P := P) v hsr hc2).resolve_left (by omega)
      rw [q] at this
      exact hqr.2.2.2.symm.trans this.2.2.2
    · intro q
      rw [← q]
      exact hk
  obtain ⟨fa, hfa⟩ : ∃ fa, S + 198 + i.toNat = fa := ⟨_, rfl⟩
  rw [hfa] at f2 f8 hfo hmo2 ⊢
  by_cases q8 : 0 ≤ md
  · rw [if_pos q8] at eE
    rw [if_neg (by omega)] at hmo2
    have hne : ¬ and32 md 3 = -1 := by
      have := and3_rng (x := md)
      omega
    obtain ⟨mv, hmv⟩ : ∃ mv, and32 md 3 = mv := ⟨_, rfl⟩
    rw [hmv] at hmo2 hne
    have hno0 := hno0 8 (by decide) eE
    refine CL_in mL_54 rfl ?_
    show WP fb _ 54 0 [some (vR (some S)), some (vR (some fa)), none, none, none, none, none, none, none, none, none, none, none] [] σ _
    refine x_lr (z := some fa) T_54_0 rfl ?_
    refine x_gI (z := mv) T_54_1 (Or.inl F_9_5) (hP.o hfo) (Eq.trans (hP.gi hfo (key := 2293) rfl) hmo2) ?_
    refine x_ic T_54_4 ?_
    refine x_ic2 T_54_5 (fun h => absurd (show mv = (-1) from h) (by omega)) (fun _ => ?_)
    refine x_ic T_54_8 ?_
    refine x_ri T_54_10 ?_
    exact hno0
  rw [if_neg q8] at eE
  rw [if_pos (by omega)] at hmo2
  -- from where the fid that is wanted has been found
  have h47 : ∀ r0 : Option Nat, (r0 = fdA S s (qFid P s c v)) → (num = v ∨ qFid P s c v < 0) → WP fb (d + 4) 54 47 [some (vR (some S)), some (vR (some fa)), some (vL v), none, some (vR r0), none, none, none, none, none, none, none, none] [] σ (XS σ0 K W R S rp s (wlE P s c (lg l) z) (if wlE P s c (lg l) z = 0 then wlP P s c (lg l) z else P) (l2 ++ wlL P s c (lg l) z)) := fun r0 hr0e hcase => by
    rw [if_neg (fun c => by rcases hcase with q | q
                            · exact c.1 q
                            · omega)] at eE
    by_cases q14 : 8 < n
    · rw [if_pos q14] at eE
      have hno0 := hno0 14 (by decide) eE
      refine x_lr (z := some S) T_54_47 rfl ?_
      refine x_gR (z := some mb) T_54_48 F_7_9 (hP.o hO) (Eq.trans (hP.rm hO rfl (key := 2233) rfl) hr) ?_
      refine x_ic T_54_51 ?_
      refine x_ic T_54_53 ?_
      refine x_cv3 T_54_54 mN_29 mL_29 (Nat.le_of_ble_eq_true rfl) mO_29 (hP.o hbo) (Nat.le_of_ble_eq_true rfl) (h2) ?_
      rintro _ σ ⟨rfl, rfl⟩
      refine cL ?_
      refine x_l2i (w := n) T_54_57 (w32_id (by omega) (by omega)) ?_
      refine x_si (ls1 := [some (vR (some S)), some (vR (some fa)), some (vL v), none, some (vR r0), some (vI n), none, none, none, none, none, none, none]) T_54_58 rfl ?_
      refine x_li (z := n) T_54_60 rfl ?_
      refine x_ic T_54_62 ?_
      refine x_ic2 T_54_64 (fun h => absurd (show n ≤ 8 from h) (by omega)) (fun _ => ?_)
      refine x_ic T_54_67 ?_
      refine x_ri T_54_69 ?_
      exact hno0
    rw [if_neg q14] at eE
    -- the target
    have hto : ∀ r1 : Option Nat, r1 = fdA S s (if num = v then 96 * s + i else qFree P s c) → WP fb (d + 4) 54 84 [some (vR (some S)), some (vR (some fa)), some (vL v), none, some (vR r0), some (vI n), none, none, none, none, none, none, none] [vR r1] σ (XS σ0 K W R S rp s (wlE P s c (lg l) z) (if wlE P s c (lg l) z = 0 then wlP P s c (lg l) z else P) (l2 ++ wlL P s c (lg l) z)) := fun r1 hr1 => by
      obtain ⟨to, hto⟩ : ∃ to, (if num = v then 96 * s + i else qFree P s c) = to := ⟨_, rfl⟩
      have eT := eT.trans hto
      rw [hto] at hr1 eE
      by_cases q12 : to < 0
      · rw [if_pos q12] at eE
        rw [show fdA S s to = none from if_pos q12] at hr1
        subst hr1
        have hno0 := hno0 12 (by decide) eE
        refine x_sr (ls1 := [some (vR (some S)), some (vR (some fa)), some (vL v), none, some (vR none), some (vI n), none, none, none, none, none, none, none]) T_54_84 rfl ?_
        refine x_lr (z := none) T_54_86 rfl ?_
        refine x_nnul T_54_88 (fun a0 h0 => absurd h0 (by simp)) (fun _ => ?_)
        refine x_ic T_54_91 ?_
        refine x_ri T_54_93 ?_
        exact hno0
      rw [if_neg q12] at eE
      obtain ⟨j, hj, hj0⟩ : ∃ j : Int, to = 96 * s + j ∧ (0 ≤ j ∧ j < 96) := by
        by_cases e : num = v
        · rw [if_pos e] at hto
          exact ⟨i, hto.symm, hi⟩
        · rw [if_neg e] at hto
          have := qFree_in (P := P) hsr hc2 (by rw [hto]; omega)
          rw [hto] at this
          exact ⟨to - 96 * s, by omega, by omega⟩
      rw [hj, fdA_p hS hj0.1] at hr1
      have hfj := hS.fd hj0
      obtain ⟨fj, hfje⟩ : ∃ fj, S + 198 + j.toNat = fj := ⟨_, rfl⟩
      rw [hfje] at hr1 hfj
      subst hr1
      by_cases q1 : gn = 0
      · rw [if_neg (fun c => c q1)] at eE
        rw [if_pos q1] at f8
        have hlv := hD.live hG hsr hi hu (hgn.trans q1)
        obtain ⟨nd, hnd⟩ : ∃ nd, P 2306 (96 * s + i) = nd := ⟨_, rfl⟩
        rw [hnd] at f8 hlv
        obtain ⟨b, hb2⟩ : ∃ b, noA S ord t nd = some b := by
          unfold noA
          rw [if_pos ((hX.1.1.1 nd).mpr hlv)]
          exact ⟨_, rfl⟩
        rw [hb2] at f8
        have hwW : wlW P s c (lg l) z = wlk P s u (nms (lg l) (wkS (lg l) z n.toNat 17)) nd := by
          unfold wlW
          rw [hnum, hk, hu0, hnd, hn]
        have hle := wlk_le P s u (nms (lg l) (wkS (lg l) z n.toNat 17)) nd
        rw [← hwW] at hle
        have hml : (nms (lg l) (wkS (lg l) z n.toNat 17)).length = n.toNat := by
          unfold nms
          rw [List.length_map, wkS_len _ _ (by omega)]
        rw [hml] at hle
        have hto2 := wlk_to hX.1 hR hUs hG.iv hsr h00 hlv (u := u) (nms (lg l) (wkS (lg l) z n.toNat 17))
        rw [← hwW] at hto2
        obtain ⟨⟨DN, A, E, QL⟩, hWW⟩ : ∃ x, wlW P s c (lg l) z = x := ⟨_, rfl⟩
        rw [hWW] at eE hle hto2 hwW
        have eL : wlL P s c (lg l) z = leb 2 (DN : Int) ++ QL := by
          unfold wlL
          rw [hWW]
        have eP : wlP P s c (lg l) z = if (DN : Int) = n then gMake P (96 * s + j) v A u else P := by
          unfold wlP
          rw [hWW, hn, eT, hv, hnum, hk, hu0, hj]
        have hle1 : DN ≤ n.toNat := hle.1
        have hto2 : isN P s A := hto2
        have eE : wlE P s c (lg l) z = if ¬ n = 0 ∧ DN = 0 then E else 0 := eE
        have hle2 : DN < n.toNat → 1 ≤ E ∧ E ≤ 3 := hle.2
        rw [eL, eP]
        obtain ⟨D, hDe⟩ : ∃ D : Int, (DN : Int) = D := ⟨_, rfl⟩
        rw [hDe]
        have hp1 := x_put (fb := fb) (d := d + 3) (k := 2) (v := n) 2 hP hBr rfl (by decide) ⟨by omega, by omega⟩ (by omega)
        have hmid : ∀ L : List Int, lay (l2 ++ leb 2 n ++ L) 7 (leb 2 D) = l2 ++ leb 2 D ++ L := fun L => by
          rw [← hroom]
          exact lay_mid _ _ _ _ rfl
        have hl246 : ∀ (σ : hM) (W2 : qR) (a2 : Nat) (x7 x10 x11 x12 : Option AV), PX σ0 W2 R σ → BY W2 rp 300 (l2 ++ leb 2 n ++ QL) → FB rp W W2 → noA S ord t A = some a2 → WP fb (d + 4) 54 246 [some (vR (some S)), some (vR (some fa)), some (vL v), none, some (vR (some fj)), some (vI n), some (vR (some a2)), x7, some (vI D), some (vI E), x10, x11, x12] [] σ (XS σ0 K W R S rp s (wlE P s c (lg l) z) (if wlE P s c (lg l) z = 0 then (if D = n then gMake P (96 * s + j) v A u else P) else P) (l2 ++ (leb 2 D ++ QL))) := fun σ W2 a2 x7 x10 x11 x12 hP hB2 hF ha2 => by
          have hT2 := hX.1.fb hF hno
          obtain ⟨p, p0, p1, hp⟩ := mem_lg ((hT2.1.1 A).mpr hto2)
          have hpn := noA_get (S := S) (t := t) hT2.nodup p0 p1
          rw [hp, ha2] at hpn
          have hpn := Option.some.inj hpn
          have hN := hT2.2.2.2.1 p p0 p1
          rw [hp, ← hpn] at hN
          have han : tX a2 = some (Sum.inl 8) := hN.1
          have hfu2 : W2 fa 2290 = u := (hF.o (by decide) (by decide)).trans f2
          by_cases qd : D = n
          · have eE2 : wlE P s c (lg l) z = 0 := by rw [eE, if_neg (fun c => by omega)]
            rw [eE2, if_pos rfl, if_pos qd]
            have hbe := x_fidBecome (fb := fb) (d := d + 3) (num := v) (u := u) hP hfj han hN.2.2.1.1
            have hend : ∀ σ, PX σ0 (fdW W2 fj v u (qPath P s A)) (oU R fj 2291 (some a2)) σ → XS σ0 K W R S rp s 0 (gMake P (96 * s + j) v A u) (l2 ++ (leb 2 D ++ QL)) (some (vI 0)) σ := fun σ hP => by
              have h6 := XV.len6 hG.iv hsr.1
              have hX2 := hX.fbb hF (by omega) hro h6
              have hm : ∀ n, n ∈ ord → isN P s n := fun n hn => (hX.1.1.1 n).mp hn
              subst hfje
              refine ⟨rfl, _, _, ord, t, _, hP, hB2.fid, fun _ => by rw [qd, List.append_assoc], ⟨hX2.1.fid.fe gMake_fe, hX2.2.1.make hS hj0 ha2 rfl, ?_, fun k k0 k1 => (((hX2.2.2.2 k k0 k1).fr ?_ (oU_j (by decide)) (oU_j (by decide)) (fun c _ _ i i0 i1 => ?_) (fun q => h6 _ q (hm _ (lg_mem k0 k1)))).pp (fun _ => gMake_fe _ _ rfl) (fun _ _ _ _ => RF_gMake _ _ rfl))⟩, (hK.fbb hF hr0).fv ?_ ?_ (fun _ => oU_j (by decide)), FV_tr (FV_fb hF (by omega) (by omega)) (FV_w ?_)⟩
              · obtain ⟨z1, z2, z3, z4⟩ := hX2.2.2.1
                have w : ∀ (x : Nat) (k : Int), (k < 2288 ∨ 2296 < k) → fdW W2 (S + 198 + j.toNat) v u (qPath P s A) x k = W2 x k := fun x k q => by
                  unfold fdW
                  rw [rU_j (by omega), rU_j (by omega), rU_j (by omega), rU_j (by omega), rU_j (by omega), rU_j (by omega), rU_j (by omega), rU_j (by omega)]
                have r : ∀ f k1, [2307, 2304, 2305, 2306, 2308, 2309, 2310, 2311, 2312].elem f = false → gMake P (96 * s + j) v A u f k1 = P f k1 := RF_gMake
                unfold SZ
                rw [w _ _ (by decide), w _ _ (by decide), w _ _ (by decide), w _ _ (by decide), w _ _ (by decide), r _ _ rfl, r _ _ rfl, r _ _ rfl, r _ _ rfl]
                exact ⟨z1, z2, z3, z4⟩
              · unfold fdW
                rw [rU_j (by decide), rU_j (by decide), rU_j (by decide), rU_j (by decide), rU_j (by decide), rU_j (by decide), rU_j (by decide), rU_j (by decide)]
              · unfold fdW
                rw [rU_j (by omega), rU_j (by omega), rU_j (by omega), rU_j (by omega), rU_j (by omega), rU_j (by omega), rU_j (by omega), rU_j (by omega)]
              · unfold fdW
                rw [rU_j (by decide), rU_j (by decide), rU_j (by decide), rU_j (by decide), rU_j (by decide), rU_j (by decide), rU_j (by decide), rU_j (by decide)]
              · unfold fdW
                rw [rU_j (by decide), rU_j (by decide), rU_j (by decide), rU_j (by decide), rU_j (by decide), rU_j (by decide), rU_j (by decide), rU_j (by decide)]
              · exact FV_fdW hj0 (by omega)
            subst qd
            refine x_li (z := D) T_54_246 rfl ?_
            refine x_li (z := D) T_54_248 rfl ?_
            refine x_ic2 T_54_250 (fun h => absurd (show ¬ D = D from h) (by omega)) (fun _ => ?_)
            refine x_lr (z := some fj) T_54_253 rfl ?_
            refine x_ll (z := v) T_54_255 rfl ?_
            refine x_lr (z := some fa) T_54_256 rfl ?_
            refine x_gI (z := u) T_54_257 (Or.inl F_9_2) (hP.o hfo) (Eq.trans (hP.gi hfo (key := 2290) rfl) hfu2) ?_
            refine x_lr (z := some a2) T_54_260 rfl ?_
            refine x_cv4 T_54_262 mN_51 mL_51 (Nat.le_of_ble_eq_true rfl) mO_51 (hP.o hfj) (Nat.le_of_ble_eq_true rfl) (hbe) ?_
            clear hP hbe
            rintro _ σ ⟨rfl, hP⟩
            refine cV ?_
            refine x_ic T_54_265 ?_
            refine x_ri T_54_266 ?_
            exact hend σ hP
          · rw [if_neg qd]
            have hrpl := x_replace (fb := fb) (d := d + 3) (k := 2) (s := 7) (v := D) 2 hP hB2 rfl (by decide) (by decide) ⟨by omega, by omega⟩ (by rw [List.length_append, List.length_append, leb_len]; omega)
            rw [show (7 : Int).toNat = 7 from rfl, hmid QL] at hrpl
            have hend : ∀ (σ : hM) (W3 : qR) (e : Int), PX σ0 W3 R σ → BY W3 rp 300 (l2 ++ leb 2 D ++ QL) → FB rp W2 W3 → wlE P s c (lg l) z = e → XS σ0 K W R S rp s (wlE P s c (lg l) z) (if wlE P s c (lg l) z = 0 then P else P) (l2 ++ (leb 2 D ++ QL)) (some (vI e)) σ := fun σ W3 e hP hB3 hF3 he => by
              rw [he, ite_self]
              have hFF := FB_tr hF hF3
              exact ⟨rfl, W3, R, ord, t, _, hP, hB3, fun _ => List.append_assoc _ _ _, hX.fbb hFF (by omega) hro (XV.len6 hG.iv hsr.1), hK.fbb hFF hr0, FV_fb hFF (by omega) (by omega)⟩
            by_cases q0 : D = 0
            · have eE2 : wlE P s c (lg l) z = E := by rw [eE, if_pos ⟨by omega, by omega⟩]
              refine x_li (z := D) T_54_246 rfl ?_
              refine x_li (z := n) T_54_248 rfl ?_
              refine x_ic2 T_54_250 (fun _ => ?_) (fun h => absurd (show ¬ D = n by omega) h)
              refine x_lr (z := some S) T_54_267 rfl ?_
              refine x_gR (z := some rp) T_54_268 F_7_10 (hP.o hO) (Eq.trans (hP.rm hO rfl (key := 2234) rfl) hrp) ?_
              refine x_ic T_54_271 ?_
              refine x_li (z := D) T_54_273 rfl ?_
              refine x_i2l T_54_275 ?_
              refine x_ic T_54_276 ?_
              refine x_cv4 T_54_277 mN_25 mL_25 (Nat.le_of_ble_eq_true rfl) mO_25 (hP.o hro1) (Nat.le_of_ble_eq_true rfl) (hrpl) ?_
              clear hP hrpl
              rintro _ σ ⟨rfl, W3, hP, hB3, hF3⟩
              refine cV ?_
              refine x_li (z := D) T_54_280 rfl ?_
              refine x_if T_54_282 (fun h => absurd (show ¬ D = 0 from h) (by omega)) (fun _ => ?_)
              refine x_li (z := E) T_54_285 rfl ?_
              refine x_goto T_54_287 ?_
              refine x_ri T_54_291 ?_
              exact hend σ W3 E hP hB3 hF3 eE2
            · have eE2 : wlE P s c (lg l) z = 0 := by rw [eE, if_neg (fun c => by omega)]
              refine x_li (z := D) T_54_246 rfl ?_
              refine x_li (z := n) T_54_248 rfl ?_
              refine x_ic2 T_54_250 (fun _ => ?_) (fun h => absurd (show ¬ D = n by omega) h)
              refine x_lr (z := some S) T_54_267 rfl ?_
              refine x_gR (z := some rp) T_54_268 F_7_10 (hP.o hO) (Eq.trans (hP.rm hO rfl (key := 2234) rfl) hrp) ?_
              refine x_ic T_54_271 ?_
              refine x_li (z := D) T_54_273 rfl ?_
              refine x_i2l T_54_275 ?_
              refine x_ic T_54_276 ?_
              refine x_cv4 T_54_277 mN_25 mL_25 (Nat.le_of_ble_eq_true rfl) mO_25 (hP.o hro1) (Nat.le_of_ble_eq_true rfl) (hrpl) ?_
              clear hP hrpl
              rintro _ σ ⟨rfl, W3, hP, hB3, hF3⟩
              refine cV ?_
              refine x_li (z := D) T_54_280 rfl ?_
              refine x_if T_54_282 (fun _ => ?_) (fun h => absurd (show ¬ D = 0 by omega) h)
              refine x_ic T_54_290 ?_
              refine x_ri T_54_291 ?_
              exact hend σ W3 0 hP hB3 hF3 eE2
        have hlo := fun (σ : hM) (W1 : qR) (hP : PX σ0 W1 R σ) (hB1 : BY W1 rp 300 (l2 ++ leb 2 n)) (hF1 : FB rp W W1) => x_walk_loop (fb := fb) (d := d + 1) (v := v) (r := some fj) hS hX.1 hR hUs hG.iv h00 hr hrp hB hz hmr hno hfo f2 (by omega) hl246 n.toNat 0 17 nd b (l2 ++ leb 2 n) W1 none none σ (by omega) (by decide) (by decide) hw.2 hlv hb2 hP hB1 hF1 (by rw [List.length_append, leb_len]; omega) (by rw [← hwW, ← hDe]; show (DN : Int) = 0 + (DN : Int); omega) (by rw [← hwW]) (by rw [← hwW]) (by rw [← hwW])
        refine x_sr (ls1 := [some (vR (some S)), some (vR (some fa)), some (vL v), none, some (vR (some fj)), some (vI n), none, none, none, none, none, none, none]) T_54_84 rfl ?_
        refine x_lr (z := some fj) T_54_86 rfl ?_
        refine x_nnul T_54_88 (fun _ _ => ?_) (fun h0 => absurd h0 (by simp))
        refine x_lr (z := some fa) T_54_94 rfl ?_
        refine x_gR (z := some b) T_54_95 F_9_3 (hP.o hfo) (Eq.trans (hP.rm hfo rfl (key := 2291) rfl) f8) ?_
        refine x_nnul T_54_98 (fun _ _ => ?_) (fun h0 => absurd h0 (by simp))
        refine x_lr (z := some S) T_54_103 rfl ?_
        refine x_gR (z := some rp) T_54_104 F_7_10 (hP.o hO) (Eq.trans (hP.rm hO rfl (key := 2234) rfl) hrp) ?_
        refine x_li (z := n) T_54_107 rfl ?_
        refine x_i2l T_54_109 ?_
        refine x_ic T_54_110 ?_
        refine x_cv3 T_54_111 mN_22 mL_22 (Nat.le_of_ble_eq_true rfl) mO_22 (hP.o hro1) (Nat.le_of_ble_eq_true rfl) (hp1) ?_
        clear hP hp1
        rintro _ σ ⟨rfl, W1, hP, hB1, hF1⟩
        refine cV ?_
        refine x_lr (z := some fa) T_54_114 rfl ?_
        refine x_gR (z := some b) T_54_115 F_9_3 (hP.o hfo) (Eq.trans (hP.rm hfo rfl (key := 2291) rfl) f8) ?_
        refine x_sr (ls1 := [some (vR (some S)), some (vR (some fa)), some (vL v), none, some (vR (some fj)), some (vI n), some (vR (some b)), none, none, none, none, none, none]) T_54_118 rfl ?_
        refine x_ic T_54_120 ?_
        refine x_si (ls1 := [some (vR (some S)), some (vR (some fa)), some (vL v), none, some (vR (some fj)), some (vI n), some (vR (some b)), some (vI 17), none, none, none, none, none]) T_54_122 rfl ?_
        refine x_ic T_54_124 ?_
        refine x_si (ls1 := [some (vR (some S)), some (vR (some fa)), some (vL v), none, some (vR (some fj)), some (vI n), some (vR (some b)), some (vI 17), some (vI 0), none, none, none, none]) T_54_125 rfl ?_
        refine x_ic T_54_127 ?_
        refine x_si (ls1 := [some (vR (some S)), some (vR (some fa)), some (vL v), none, some (vR (some fj)), some (vI n), some (vR (some b)), some (vI 17), some (vI 0), some (vI 0), none, none, none]) T_54_128 rfl ?_
        refine x_ic T_54_130 ?_
        refine x_si (ls1 := [some (vR (some S)), some (vR (some fa)), some (vL v), none, some (vR (some fj)), some (vI n), some (vR (some b)), some (vI 17), some (vI 0), some (vI 0), some (vI 0), none, none]) T_54_131 rfl ?_
        exact hlo σ W1 hP hB1 hF1
      · rw [if_pos q1] at eE
        rw [if_neg q1] at f8
        have hno0 := hno0 1 (by decide) eE
        refine x_sr (ls1 := [some (vR (some S)), some (vR (some fa)), some (vL v), none, some (vR (some fj)), some (vI n), none, none, none, none, none, none, none]) T_54_84 rfl ?_
        refine x_lr (z := some fj) T_54_86 rfl ?_
        refine x_nnul T_54_88 (fun _ _ => ?_) (fun h0 => absurd h0 (by simp))
        refine x_lr (z := some fa) T_54_94 rfl ?_
        refine x_gR (z := none) T_54_95 F_9_3 (hP.o hfo) (Eq.trans (hP.rm hfo rfl (key := 2291) rfl) f8) ?_
        refine x_nnul T_54_98 (fun a0 h0 => absurd h0 (by simp)) (fun _ => ?_)
        refine x_ic T_54_101 ?_
        refine x_ri T_54_102 ?_
        exact hno0
    rcases Decidable.em (num = v) with e | e
    · have hr0e2 : r0 = some fa := by rw [hr0e, hsame.mpr e, fdA_p hS hi.1, hfa]
      have hgo := hto (some fa) (by rw [if_pos e, fdA_p hS hi.1, hfa])
      subst hr0e2
      refine x_lr (z := some S) T_54_47 rfl ?_
      refine x_gR (z := some mb) T_54_48 F_7_9 (hP.o hO) (Eq.trans (hP.rm hO rfl (key := 2233) rfl) hr) ?_
      refine x_ic T_54_51 ?_
      refine x_ic T_54_53 ?_
      refine x_cv3 T_54_54 mN_29 mL_29 (Nat.le_of_ble_eq_true rfl) mO_29 (hP.o hbo) (Nat.le_of_ble_eq_true rfl) (h2) ?_
      rintro _ σ ⟨rfl, rfl⟩
      refine cL ?_
      refine x_l2i (w := n) T_54_57 (w32_id (by omega) (by omega)) ?_
      refine x_si (ls1 := [some (vR (some S)), some (vR (some fa)), some (vL v), none, some (vR (some fa)), some (vI n), none, none, none, none, none, none, none]) T_54_58 rfl ?_
      refine x_li (z := n) T_54_60 rfl ?_
      refine x_ic T_54_62 ?_
      refine x_ic2 T_54_64 (fun _ => ?_) (fun h => absurd (show n ≤ 8 by omega) h)
      refine x_lr (z := some fa) T_54_70 rfl ?_
      refine x_nnul T_54_72 (fun _ _ => ?_) (fun h0 => absurd h0 (by simp))
      refine x_lr (z := some fa) T_54_82 rfl ?_
      exact hgo
    · have hneg := hcase.resolve_left e
      have hr0e2 : r0 = none := by rw [hr0e]; exact if_pos hneg
      have hgo := fun r1 hr1 => hto r1 (by rw [if_neg e]; exact hr1)
      obtain ⟨r1, hr1⟩ : ∃ r1, fdA S s (qFree P s c) = r1 := ⟨_, rfl⟩
      have hgo := hgo r1 hr1.symm
      rw [hr1] at h4
      subst hr0e2
      refine x_lr (z := some S) T_54_47 rfl ?_
      refine x_gR (z := some mb) T_54_48 F_7_9 (hP.o hO) (Eq.trans (hP.rm hO rfl (key := 2233) rfl) hr) ?_
      refine x_ic T_54_51 ?_
      refine x_ic T_54_53 ?_
      refine x_cv3 T_54_54 mN_29 mL_29 (Nat.le_of_ble_eq_true rfl) mO_29 (hP.o hbo) (Nat.le_of_ble_eq_true rfl) (h2) ?_
      rintro _ σ ⟨rfl, rfl⟩
      refine cL ?_
      refine x_l2i (w := n) T_54_57 (w32_id (by omega) (by omega)) ?_
      refine x_si (ls1 := [some (vR (some S)), some (vR (some fa)), some (vL v), none, some (vR none), some (vI n), none, none, none, none, none, none, none]) T_54_58 rfl ?_
      refine x_li (z := n) T_54_60 rfl ?_
      refine x_ic T_54_62 ?_
      refine x_ic2 T_54_64 (fun _ => ?_) (fun h => absurd (show n ≤ 8 by omega) h)
      refine x_lr (z := none) T_54_70 rfl ?_
      refine x_nnul T_54_72 (fun a0 h0 => absurd h0 (by simp)) (fun _ => ?_)
      refine x_lr (z := some S) T_54_75 rfl ?_
      refine x_cv1 T_54_76 mN_50 mL_50 (Nat.le_of_ble_eq_true rfl) mO_50 (hP.o hO) (Nat.le_of_ble_eq_true rfl) (h4) ?_
      rintro _ σ ⟨rfl, rfl⟩
      refine cR ?_
      refine x_goto T_54_79 ?_
      exact hgo
  by_cases q7 : ¬ num = v ∧ 0 ≤ qFid P s c v
  · rw [if_pos q7] at eE
    have hno0 := hno0 7 (by decide) eE
    have hq := (qFid_rng (P := P) v hsr hc2).resolve_left (by omega)
    obtain ⟨j, hj⟩ : ∃ j, qFid P s c v = 96 * s + j := ⟨qFid P s c v - 96 * s, by omega⟩
    have hne : j ≠ i := fun e => q7.1 (hsame.mp (by rw [hj, e]))
    rw [hj, fdA_p hS (by omega)] at h3
    have hfj := hS.fd (i := j) ⟨by omega, by omega⟩
    obtain ⟨fj, hfje⟩ : ∃ fj, S + 198 + j.toNat = fj := ⟨_, rfl⟩
    have hfne : fj ≠ fa := by omega
    rw [hfje] at h3 hfj
    rcases hc with rfl | rfl
    · skip
      refine CL_in mL_54 rfl ?_
      show WP fb _ 54 0 [some (vR (some S)), some (vR (some fa)), none, none, none, none, none, none, none, none, none, none, none] [] σ _
      refine x_lr (z := some fa) T_54_0 rfl ?_
      refine x_gI (z := (-1)) T_54_1 (Or.inl F_9_5) (hP.o hfo) (Eq.trans (hP.gi hfo (key := 2293) rfl) hmo2) ?_
      refine x_ic T_54_4 ?_
      refine x_ic2 T_54_5 (fun _ => ?_) (fun h => absurd (show ((-1) : Int) = (-1) by decide) h)
      refine x_lr (z := some S) T_54_11 rfl ?_
      refine x_gR (z := some mb) T_54_12 F_7_9 (hP.o hO) (Eq.trans (hP.rm hO rfl (key := 2233) rfl) hr) ?_
      refine x_ic T_54_15 ?_
      refine x_ic T_54_17 ?_
      refine x_cv3 T_54_18 mN_29 mL_29 (Nat.le_of_ble_eq_true rfl) mO_29 (hP.o hbo) (Nat.le_of_ble_eq_true rfl) (h1) ?_
      rintro _ σ ⟨rfl, rfl⟩
      refine cL ?_
      refine x_sl (ls1 := [some (vR (some S)), some (vR (some fa)), some (vL v), none, none, none, none, none, none, none, none, none, none]) T_54_21 rfl ?_
      refine x_lr (z := some S) T_54_22 rfl ?_
      refine x_lr (z := some S) T_54_23 rfl ?_
      refine x_gI (z := 0) T_54_24 (Or.inl F_7_11) (hP.o hO) (Eq.trans (hP.gi hO (key := 2235) rfl) hcn) ?_
      refine x_ll (z := v) T_54_27 rfl ?_
      refine x_cv3 T_54_28 mN_39 mL_39 (Nat.le_of_ble_eq_true rfl) mO_39 (hP.o hO) (Nat.le_of_ble_eq_true rfl) (h3) ?_
      rintro _ σ ⟨rfl, rfl⟩
      refine cR ?_
      refine x_sr (ls1 := [some (vR (some S)), some (vR (some fa)), some (vL v), none, some (vR (some fj)), none, none, none, none, none, none, none, none]) T_54_31 rfl ?_
      refine x_lr (z := some fj) T_54_33 rfl ?_
      refine x_nul T_54_35 (fun h0 => absurd h0 (by simp)) (fun _ _ => ?_)
      refine x_lr (z := some fj) T_54_38 rfl ?_
      refine x_lr (z := some fa) T_54_40 rfl ?_
      refine x_aeq T_54_41 (tX_o hfo).1 (tX_o hfj).1 (fun h0 => absurd h0 (by exact fun c => hfne (Option.some.inj c))) (fun _ => ?_)
      refine x_ic T_54_44 ?_
      refine x_ri T_54_46 ?_
      exact hno0
    · skip
      refine CL_in mL_54 rfl ?_
      show WP fb _ 54 0 [some (vR (some S)), some (vR (some fa)), none, none, none, none, none, none, none, none, none, none, none] [] σ _
      refine x_lr (z := some fa) T_54_0 rfl ?_
      refine x_gI (z := (-1)) T_54_1 (Or.inl F_9_5) (hP.o hfo) (Eq.trans (hP.gi hfo (key := 2293) rfl) hmo2) ?_
      refine x_ic T_54_4 ?_
      refine x_ic2 T_54_5 (fun _ => ?_) (fun h => absurd (show ((-1) : Int) = (-1) by decide) h)
      refine x_lr (z := some S) T_54_11 rfl ?_
      refine x_gR (z := some mb) T_54_12 F_7_9 (hP.o hO) (Eq.trans (hP.rm hO rfl (key := 2233) rfl) hr) ?_
      refine x_ic T_54_15 ?_
      refine x_ic T_54_17 ?_
      refine x_cv3 T_54_18 mN_29 mL_29 (Nat.le_of_ble_eq_true rfl) mO_29 (hP.o hbo) (Nat.le_of_ble_eq_true rfl) (h1) ?_
      rintro _ σ ⟨rfl, rfl⟩
      refine cL ?_
      refine x_sl (ls1 := [some (vR (some S)), some (vR (some fa)), some (vL v), none, none, none, none, none, none, none, none, none, none]) T_54_21 rfl ?_
      refine x_lr (z := some S) T_54_22 rfl ?_
      refine x_lr (z := some S) T_54_23 rfl ?_
      refine x_gI (z := 1) T_54_24 (Or.inl F_7_11) (hP.o hO) (Eq.trans (hP.gi hO (key := 2235) rfl) hcn) ?_
      refine x_ll (z := v) T_54_27 rfl ?_
      refine x_cv3 T_54_28 mN_39 mL_39 (Nat.le_of_ble_eq_true rfl) mO_39 (hP.o hO) (Nat.le_of_ble_eq_true rfl) (h3) ?_
      rintro _ σ ⟨rfl, rfl⟩
      refine cR ?_
      refine x_sr (ls1 := [some (vR (some S)), some (vR (some fa)), some (vL v), none, some (vR (some fj)), none, none, none, none, none, none, none, none]) T_54_31 rfl ?_
      refine x_lr (z := some fj) T_54_33 rfl ?_
      refine x_nul T_54_35 (fun h0 => absurd h0 (by simp)) (fun _ _ => ?_)
      refine x_lr (z := some fj) T_54_38 rfl ?_
      refine x_lr (z := some fa) T_54_40 rfl ?_
      refine x_aeq T_54_41 (tX_o hfo).1 (tX_o hfj).1 (fun h0 => absurd h0 (by exact fun c => hfne (Option.some.inj c))) (fun _ => ?_)
      refine x_ic T_54_44 ?_
      refine x_ri T_54_46 ?_
      exact hno0
  · have hcase : num = v ∨ qFid P s c v < 0 := by
      by_cases e : num = v
      · exact Or.inl e
      · exact Or.inr (by omega)
    by_cases e : num = v
    · have h3 : CL fb (d + 3) 39 [vR (some S), vI c, vL v] σ (rPR (some fa) σ) := by
        rw [hsame.mpr e, fdA_p hS hi.1, hfa] at h3
        exact h3
      have hgo := h47 (some fa) (by rw [hsame.mpr e, fdA_p hS hi.1, hfa]) hcase
      rcases hc with rfl | rfl
      · skip
        refine CL_in mL_54 rfl ?_
        show WP fb _ 54 0 [some (vR (some S)), some (vR (some fa)), none, none, none, none, none, none, none, none, none, none, none] [] σ _
        refine x_lr (z := some fa) T_54_0 rfl ?_
        refine x_gI (z := (-1)) T_54_1 (Or.inl F_9_5) (hP.o hfo) (Eq.trans (hP.gi hfo (key := 2293) rfl) hmo2) ?_
        refine x_ic T_54_4 ?_
        refine x_ic2 T_54_5 (fun _ => ?_) (fun h => absurd (show ((-1) : Int) = (-1) by decide) h)
        refine x_lr (z := some S) T_54_11 rfl ?_
        refine x_gR (z := some mb) T_54_12 F_7_9 (hP.o hO) (Eq.trans (hP.rm hO rfl (key := 2233) rfl) hr) ?_
        refine x_ic T_54_15 ?_
        refine x_ic T_54_17 ?_
        refine x_cv3 T_54_18 mN_29 mL_29 (Nat.le_of_ble_eq_true rfl) mO_29 (hP.o hbo) (Nat.le_of_ble_eq_true rfl) (h1) ?_
        rintro _ σ ⟨rfl, rfl⟩
        refine cL ?_
        refine x_sl (ls1 := [some (vR (some S)), some (vR (some fa)), some (vL v), none, none, none, none, none, none, none, none, none, none]) T_54_21 rfl ?_
        refine x_lr (z := some S) T_54_22 rfl ?_
        refine x_lr (z := some S) T_54_23 rfl ?_
        refine x_gI (z := 0) T_54_24 (Or.inl F_7_11) (hP.o hO) (Eq.trans (hP.gi hO (key := 2235) rfl) hcn) ?_
        refine x_ll (z := v) T_54_27 rfl ?_
        refine x_cv3 T_54_28 mN_39 mL_39 (Nat.le_of_ble_eq_true rfl) mO_39 (hP.o hO) (Nat.le_of_ble_eq_true rfl) (h3) ?_
        rintro _ σ ⟨rfl, rfl⟩
        refine cR ?_
        refine x_sr (ls1 := [some (vR (some S)), some (vR (some fa)), some (vL v), none, some (vR (some fa)), none, none, none, none, none, none, none, none]) T_54_31 rfl ?_
        refine x_lr (z := some fa) T_54_33 rfl ?_
        refine x_nul T_54_35 (fun h0 => absurd h0 (by simp)) (fun _ _ => ?_)
        refine x_lr (z := some fa) T_54_38 rfl ?_
        refine x_lr (z := some fa) T_54_40 rfl ?_
        refine x_aeq T_54_41 (tX_o hfo).1 (tX_o hfo).1 (fun _ => ?_) (fun h0 => absurd h0 (by exact fun c => c rfl))
        exact hgo
      · skip
        refine CL_in mL_54 rfl ?_
        show WP fb _ 54 0 [some (vR (some S)), some (vR (some fa)), none, none, none, none, none, none, none, none, none, none, none] [] σ _
        refine x_lr (z := some fa) T_54_0 rfl ?_
        refine x_gI (z := (-1)) T_54_1 (Or.inl F_9_5) (hP.o hfo) (Eq.trans (hP.gi hfo (key := 2293) rfl) hmo2) ?_
        refine x_ic T_54_4 ?_
        refine x_ic2 T_54_5 (fun _ => ?_) (fun h => absurd (show ((-1) : Int) = (-1) by decide) h)
        refine x_lr (z := some S) T_54_11 rfl ?_
        refine x_gR (z := some mb) T_54_12 F_7_9 (hP.o hO) (Eq.trans (hP.rm hO rfl (key := 2233) rfl) hr) ?_
        refine x_ic T_54_15 ?_
        refine x_ic T_54_17 ?_
        refine x_cv3 T_54_18 mN_29 mL_29 (Nat.le_of_ble_eq_true rfl) mO_29 (hP.o hbo) (Nat.le_of_ble_eq_true rfl) (h1) ?_
        rintro _ σ ⟨rfl, rfl⟩
        refine cL ?_
        refine x_sl (ls1 := [some (vR (some S)), some (vR (some fa)), some (vL v), none, none, none, none, none, none, none, none, none, none]) T_54_21 rfl ?_
        refine x_lr (z := some S) T_54_22 rfl ?_
        refine x_lr (z := some S) T_54_23 rfl ?_
        refine x_gI (z := 1) T_54_24 (Or.inl F_7_11) (hP.o hO) (Eq.trans (hP.gi hO (key := 2235) rfl) hcn) ?_
        refine x_ll (z := v) T_54_27 rfl ?_
        refine x_cv3 T_54_28 mN_39 mL_39 (Nat.le_of_ble_eq_true rfl) mO_39 (hP.o hO) (Nat.le_of_ble_eq_true rfl) (h3) ?_
        rintro _ σ ⟨rfl, rfl⟩
        refine cR ?_
        refine x_sr (ls1 := [some (vR (some S)), some (vR (some fa)), some (vL v), none, some (vR (some fa)), none, none, none, none, none, none, none, none]) T_54_31 rfl ?_
        refine x_lr (z := some fa) T_54_33 rfl ?_
        refine x_nul T_54_35 (fun h0 => absurd h0 (by simp)) (fun _ _ => ?_)
        refine x_lr (z := some fa) T_54_38 rfl ?_
        refine x_lr (z := some fa) T_54_40 rfl ?_
        refine x_aeq T_54_41 (tX_o hfo).1 (tX_o hfo).1 (fun _ => ?_) (fun h0 => absurd h0 (by exact fun c => c rfl))
        exact hgo
    · have hneg := hcase.resolve_left e
      have h3 : CL fb (d + 3) 39 [vR (some S), vI c, vL v] σ (rPR none σ) := by
        rw [show fdA S s (qFid P s c v) = none from if_pos hneg] at h3
        exact h3
      have hgo := h47 none (if_pos hneg).symm hcase
      rcases hc with rfl | rfl
      · skip
        refine CL_in mL_54 rfl ?_
        show WP fb _ 54 0 [some (vR (some S)), some (vR (some fa)), none, none, none, none, none, none, none, none, none, none, none] [] σ _
        refine x_lr (z := some fa) T_54_0 rfl ?_
        refine x_gI (z := (-1)) T_54_1 (Or.inl F_9_5) (hP.o hfo) (Eq.trans (hP.gi hfo (key := 2293) rfl) hmo2) ?_
        refine x_ic T_54_4 ?_
        refine x_ic2 T_54_5 (fun _ => ?_) (fun h => absurd (show ((-1) : Int) = (-1) by decide) h)
        refine x_lr (z := some S) T_54_11 rfl ?_
        refine x_gR (z := some mb) T_54_12 F_7_9 (hP.o hO) (Eq.trans (hP.rm hO rfl (key := 2233) rfl) hr) ?_
        refine x_ic T_54_15 ?_
        refine x_ic T_54_17 ?_
        refine x_cv3 T_54_18 mN_29 mL_29 (Nat.le_of_ble_eq_true rfl) mO_29 (hP.o hbo) (Nat.le_of_ble_eq_true rfl) (h1) ?_
        rintro _ σ ⟨rfl, rfl⟩
        refine cL ?_
        refine x_sl (ls1 := [some (vR (some S)), some (vR (some fa)), some (vL v), none, none, none, none, none, none, none, none, none, none]) T_54_21 rfl ?_
        refine x_lr (z := some S) T_54_22 rfl ?_
        refine x_lr (z := some S) T_54_23 rfl ?_
        refine x_gI (z := 0) T_54_24 (Or.inl F_7_11) (hP.o hO) (Eq.trans (hP.gi hO (key := 2235) rfl) hcn) ?_
        refine x_ll (z := v) T_54_27 rfl ?_
        refine x_cv3 T_54_28 mN_39 mL_39 (Nat.le_of_ble_eq_true rfl) mO_39 (hP.o hO) (Nat.le_of_ble_eq_true rfl) (h3) ?_
        rintro _ σ ⟨rfl, rfl⟩
        refine cR ?_
        refine x_sr (ls1 := [some (vR (some S)), some (vR (some fa)), some (vL v), none, some (vR none), none, none, none, none, none, none, none, none]) T_54_31 rfl ?_
        refine x_lr (z := none) T_54_33 rfl ?_
        refine x_nul T_54_35 (fun _ => ?_) (fun a0 h0 => absurd h0 (by simp))
        exact hgo
      · skip
        refine CL_in mL_54 rfl ?_
        show WP fb _ 54 0 [some (vR (some S)), some (vR (some fa)), none, none, none, none, none, none, none, none, none, none, none] [] σ _
        refine x_lr (z := some fa) T_54_0 rfl ?_
        refine x_gI (z := (-1)) T_54_1 (Or.inl F_9_5) (hP.o hfo) (Eq.trans (hP.gi hfo (key := 2293) rfl) hmo2) ?_
        refine x_ic T_54_4 ?_
        refine x_ic2 T_54_5 (fun _ => ?_) (fun h => absurd (show ((-1) : Int) = (-1) by decide) h)
        refine x_lr (z := some S) T_54_11 rfl ?_
        refine x_gR (z := some mb) T_54_12 F_7_9 (hP.o hO) (Eq.trans (hP.rm hO rfl (key := 2233) rfl) hr) ?_
        refine x_ic T_54_15 ?_
        refine x_ic T_54_17 ?_
        refine x_cv3 T_54_18 mN_29 mL_29 (Nat.le_of_ble_eq_true rfl) mO_29 (hP.o hbo) (Nat.le_of_ble_eq_true rfl) (h1) ?_
        rintro _ σ ⟨rfl, rfl⟩
        refine cL ?_
        refine x_sl (ls1 := [some (vR (some S)), some (vR (some fa)), some (vL v), none, none, none, none, none, none, none, none, none, none]) T_54_21 rfl ?_
        refine x_lr (z := some S) T_54_22 rfl ?_
        refine x_lr (z := some S) T_54_23 rfl ?_
        refine x_gI (z := 1) T_54_24 (Or.inl F_7_11) (hP.o hO) (Eq.trans (hP.gi hO (key := 2235) rfl) hcn) ?_
        refine x_ll (z := v) T_54_27 rfl ?_
        refine x_cv3 T_54_28 mN_39 mL_39 (Nat.le_of_ble_eq_true rfl) mO_39 (hP.o hO) (Nat.le_of_ble_eq_true rfl) (h3) ?_
        rintro _ σ ⟨rfl, rfl⟩
        refine cR ?_
        refine x_sr (ls1 := [some (vR (some S)), some (vR (some fa)), some (vL v), none, some (vR none), none, none, none, none, none, none, none, none]) T_54_31 rfl ?_
        refine x_lr (z := none) T_54_33 rfl ?_
        refine x_nul T_54_35 (fun _ => ?_) (fun a0 h0 => absurd h0 (by simp))
        exact hgo
end XWAL
