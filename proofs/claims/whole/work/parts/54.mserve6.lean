/-! What the reference's servers answer: a walk as a whole. -/
theorem T_266_0 : hTab 266 0 = some ((3, 0, 2, []), 1) := rfl
theorem T_266_1 : hTab 266 1 = some ((0, 0, 4, []), 2) := rfl
theorem T_266_2 : hTab 266 2 = some ((31, 234, 0, []), 5) := rfl
theorem T_266_5 : hTab 266 5 = some ((4, 3, 1, []), 6) := rfl
theorem T_266_6 : hTab 266 6 = some ((3, 0, 2, []), 7) := rfl
theorem T_266_7 : hTab 266 7 = some ((0, 0, 4, []), 8) := rfl
theorem T_266_8 : hTab 266 8 = some ((31, 234, 0, []), 11) := rfl
theorem T_266_11 : hTab 266 11 = some ((4, 5, 1, []), 13) := rfl
theorem T_266_13 : hTab 266 13 = some ((3, 0, 2, []), 14) := rfl
theorem T_266_14 : hTab 266 14 = some ((0, 0, 2, []), 15) := rfl
theorem T_266_15 : hTab 266 15 = some ((31, 234, 0, []), 18) := rfl
theorem T_266_18 : hTab 266 18 = some ((15, 0, 0, []), 19) := rfl
theorem T_266_19 : hTab 266 19 = some ((4, 7, 0, []), 21) := rfl
theorem T_266_21 : hTab 266 21 = some ((0, 0, 0, []), 22) := rfl
theorem T_266_22 : hTab 266 22 = some ((4, 8, 0, []), 24) := rfl
theorem T_266_24 : hTab 266 24 = some ((3, 8, 0, []), 26) := rfl
theorem T_266_26 : hTab 266 26 = some ((3, 7, 0, []), 28) := rfl
theorem T_266_28 : hTab 266 28 = some ((19, 3, Int.ofNat 48, []), 31) := rfl
theorem T_266_31 : hTab 266 31 = some ((3, 0, 2, []), 32) := rfl
theorem T_266_32 : hTab 266 32 = some ((24, 17, Int.ofNat 9, []), 35) := rfl
theorem T_266_35 : hTab 266 35 = some ((18, 1, Int.ofNat 48, []), 38) := rfl
theorem T_266_38 : hTab 266 38 = some ((3, 0, 2, []), 39) := rfl
theorem T_266_39 : hTab 266 39 = some ((31, 240, 0, []), 42) := rfl
theorem T_266_42 : hTab 266 42 = some ((5, 8, 1, []), 45) := rfl
theorem T_266_45 : hTab 266 45 = some ((22, 0, Int.ofNat 24, []), 48) := rfl
theorem T_266_48 : hTab 266 48 = some ((3, 0, 2, []), 49) := rfl
theorem T_266_49 : hTab 266 49 = some ((31, 241, 0, []), 52) := rfl
theorem T_266_52 : hTab 266 52 = some ((18, 1, Int.ofNat 56, []), 55) := rfl
theorem T_266_55 : hTab 266 55 = some ((33, 0, 0, []), 56) := rfl
theorem T_266_56 : hTab 266 56 = some ((3, 0, 2, []), 57) := rfl
theorem T_266_57 : hTab 266 57 = some ((3, 1, 0, []), 58) := rfl
theorem T_266_58 : hTab 266 58 = some ((3, 2, 0, []), 59) := rfl
theorem T_266_59 : hTab 266 59 = some ((3, 3, 1, []), 60) := rfl
theorem T_266_60 : hTab 266 60 = some ((31, 261, 0, []), 63) := rfl
theorem T_266_63 : hTab 266 63 = some ((4, 8, 0, []), 65) := rfl
theorem T_266_65 : hTab 266 65 = some ((3, 3, 1, []), 66) := rfl
theorem T_266_66 : hTab 266 66 = some ((3, 5, 1, []), 68) := rfl
theorem T_266_68 : hTab 266 68 = some ((17, 0, 0, []), 69) := rfl
theorem T_266_69 : hTab 266 69 = some ((18, 1, Int.ofNat 76, []), 72) := rfl
theorem T_266_72 : hTab 266 72 = some ((0, 0, 1, []), 73) := rfl
theorem T_266_73 : hTab 266 73 = some ((22, 0, Int.ofNat 77, []), 76) := rfl
theorem T_266_76 : hTab 266 76 = some ((0, 0, 0, []), 77) := rfl
theorem T_266_77 : hTab 266 77 = some ((4, 9, 0, []), 79) := rfl
theorem T_266_79 : hTab 266 79 = some ((3, 9, 0, []), 81) := rfl
theorem T_266_81 : hTab 266 81 = some ((18, 0, Int.ofNat 89, []), 84) := rfl
theorem T_266_84 : hTab 266 84 = some ((3, 8, 0, []), 86) := rfl
theorem T_266_86 : hTab 266 86 = some ((22, 0, Int.ofNat 95, []), 89) := rfl
theorem T_266_89 : hTab 266 89 = some ((3, 0, 2, []), 90) := rfl
theorem T_266_90 : hTab 266 90 = some ((3, 1, 0, []), 91) := rfl
theorem T_266_91 : hTab 266 91 = some ((3, 2, 0, []), 92) := rfl
theorem T_266_92 : hTab 266 92 = some ((31, 260, 0, []), 95) := rfl
theorem T_266_95 : hTab 266 95 = some ((4, 10, 0, []), 97) := rfl
theorem T_266_97 : hTab 266 97 = some ((3, 8, 0, []), 99) := rfl
theorem T_266_99 : hTab 266 99 = some ((18, 3, Int.ofNat 107, []), 102) := rfl
theorem T_266_102 : hTab 266 102 = some ((0, 0, 6, []), 104) := rfl
theorem T_266_104 : hTab 266 104 = some ((22, 0, Int.ofNat 180, []), 107) := rfl
theorem T_266_107 : hTab 266 107 = some ((3, 0, 2, []), 108) := rfl
theorem T_266_108 : hTab 266 108 = some ((24, 17, Int.ofNat 33, []), 111) := rfl
theorem T_266_111 : hTab 266 111 = some ((3, 8, 0, []), 113) := rfl
theorem T_266_113 : hTab 266 113 = some ((26, 0, 0, []), 114) := rfl
theorem T_266_114 : hTab 266 114 = some ((18, 2, Int.ofNat 122, []), 117) := rfl
theorem T_266_117 : hTab 266 117 = some ((0, 0, 8, []), 119) := rfl
theorem T_266_119 : hTab 266 119 = some ((22, 0, Int.ofNat 180, []), 122) := rfl
theorem T_266_122 : hTab 266 122 = some ((3, 9, 0, []), 124) := rfl
theorem T_266_124 : hTab 266 124 = some ((18, 1, Int.ofNat 143, []), 127) := rfl
theorem T_266_127 : hTab 266 127 = some ((3, 0, 2, []), 128) := rfl
theorem T_266_128 : hTab 266 128 = some ((3, 1, 0, []), 129) := rfl
theorem T_266_129 : hTab 266 129 = some ((3, 2, 0, []), 130) := rfl
theorem T_266_130 : hTab 266 130 = some ((3, 5, 1, []), 132) := rfl
theorem T_266_132 : hTab 266 132 = some ((31, 261, 0, []), 135) := rfl
theorem T_266_135 : hTab 266 135 = some ((18, 2, Int.ofNat 143, []), 138) := rfl
theorem T_266_138 : hTab 266 138 = some ((0, 0, 7, []), 140) := rfl
theorem T_266_140 : hTab 266 140 = some ((22, 0, Int.ofNat 180, []), 143) := rfl
theorem T_266_143 : hTab 266 143 = some ((3, 7, 0, []), 145) := rfl
theorem T_266_145 : hTab 266 145 = some ((0, 0, 8, []), 147) := rfl
theorem T_266_147 : hTab 266 147 = some ((19, 5, Int.ofNat 155, []), 150) := rfl
theorem T_266_150 : hTab 266 150 = some ((0, 0, 14, []), 152) := rfl
theorem T_266_152 : hTab 266 152 = some ((22, 0, Int.ofNat 180, []), 155) := rfl
theorem T_266_155 : hTab 266 155 = some ((3, 10, 0, []), 157) := rfl
theorem T_266_157 : hTab 266 157 = some ((18, 3, Int.ofNat 165, []), 160) := rfl
theorem T_266_160 : hTab 266 160 = some ((0, 0, 12, []), 162) := rfl
theorem T_266_162 : hTab 266 162 = some ((22, 0, Int.ofNat 180, []), 165) := rfl
theorem T_266_165 : hTab 266 165 = some ((3, 0, 2, []), 166) := rfl
theorem T_266_166 : hTab 266 166 = some ((24, 17, Int.ofNat 34, []), 169) := rfl
theorem T_266_169 : hTab 266 169 = some ((3, 8, 0, []), 171) := rfl
theorem T_266_171 : hTab 266 171 = some ((26, 2, 0, []), 172) := rfl
theorem T_266_172 : hTab 266 172 = some ((18, 0, Int.ofNat 179, []), 175) := rfl
theorem T_266_175 : hTab 266 175 = some ((0, 0, 1, []), 176) := rfl
theorem T_266_176 : hTab 266 176 = some ((22, 0, Int.ofNat 180, []), 179) := rfl
theorem T_266_179 : hTab 266 179 = some ((0, 0, 0, []), 180) := rfl
theorem T_266_180 : hTab 266 180 = some ((4, 11, 0, []), 182) := rfl
theorem T_266_182 : hTab 266 182 = some ((3, 11, 0, []), 184) := rfl
theorem T_266_184 : hTab 266 184 = some ((18, 5, Int.ofNat 194, []), 187) := rfl
theorem T_266_187 : hTab 266 187 = some ((3, 0, 2, []), 188) := rfl
theorem T_266_188 : hTab 266 188 = some ((3, 11, 0, []), 190) := rfl
theorem T_266_190 : hTab 266 190 = some ((31, 235, 0, []), 193) := rfl
theorem T_266_193 : hTab 266 193 = some ((33, 0, 0, []), 194) := rfl
theorem T_266_194 : hTab 266 194 = some ((3, 0, 2, []), 195) := rfl
theorem T_266_195 : hTab 266 195 = some ((24, 17, Int.ofNat 32, []), 198) := rfl
theorem T_266_198 : hTab 266 198 = some ((3, 8, 0, []), 200) := rfl
theorem T_266_200 : hTab 266 200 = some ((26, 0, 0, []), 201) := rfl
theorem T_266_201 : hTab 266 201 = some ((4, 12, 0, []), 203) := rfl
theorem T_266_203 : hTab 266 203 = some ((3, 0, 2, []), 204) := rfl
theorem T_266_204 : hTab 266 204 = some ((24, 17, Int.ofNat 30, []), 207) := rfl
theorem T_266_207 : hTab 266 207 = some ((3, 8, 0, []), 209) := rfl
theorem T_266_209 : hTab 266 209 = some ((26, 0, 0, []), 210) := rfl
theorem T_266_210 : hTab 266 210 = some ((4, 13, 0, []), 212) := rfl
theorem T_266_212 : hTab 266 212 = some ((3, 0, 2, []), 213) := rfl
theorem T_266_213 : hTab 266 213 = some ((0, 0, 111, []), 215) := rfl
theorem T_266_215 : hTab 266 215 = some ((31, 236, 0, []), 218) := rfl
theorem T_266_218 : hTab 266 218 = some ((3, 0, 2, []), 219) := rfl
theorem T_266_219 : hTab 266 219 = some ((0, 0, 2, []), 220) := rfl
theorem T_266_220 : hTab 266 220 = some ((3, 7, 0, []), 222) := rfl
theorem T_266_222 : hTab 266 222 = some ((14, 0, 0, []), 223) := rfl
theorem T_266_223 : hTab 266 223 = some ((31, 237, 0, []), 226) := rfl
theorem T_266_226 : hTab 266 226 = some ((0, 0, 0, []), 227) := rfl
theorem T_266_227 : hTab 266 227 = some ((4, 14, 0, []), 229) := rfl
theorem T_266_229 : hTab 266 229 = some ((0, 0, 0, []), 230) := rfl
theorem T_266_230 : hTab 266 230 = some ((4, 15, 0, []), 232) := rfl
theorem T_266_281 : hTab 266 281 = some ((3, 14, 0, []), 283) := rfl
theorem T_266_283 : hTab 266 283 = some ((3, 7, 0, []), 285) := rfl
theorem T_266_285 : hTab 266 285 = some ((19, 1, Int.ofNat 303, []), 288) := rfl
theorem T_266_288 : hTab 266 288 = some ((3, 0, 2, []), 289) := rfl
theorem T_266_289 : hTab 266 289 = some ((3, 10, 0, []), 291) := rfl
theorem T_266_291 : hTab 266 291 = some ((3, 5, 1, []), 293) := rfl
theorem T_266_293 : hTab 266 293 = some ((3, 13, 0, []), 295) := rfl
theorem T_266_295 : hTab 266 295 = some ((3, 12, 0, []), 297) := rfl
theorem T_266_297 : hTab 266 297 = some ((31, 262, 0, []), 300) := rfl
theorem T_266_300 : hTab 266 300 = some ((22, 0, Int.ofNat 326, []), 303) := rfl
theorem T_266_303 : hTab 266 303 = some ((3, 14, 0, []), 305) := rfl
theorem T_266_305 : hTab 266 305 = some ((18, 1, Int.ofNat 317, []), 308) := rfl
theorem T_266_308 : hTab 266 308 = some ((3, 0, 2, []), 309) := rfl
theorem T_266_309 : hTab 266 309 = some ((3, 15, 0, []), 311) := rfl
theorem T_266_311 : hTab 266 311 = some ((31, 235, 0, []), 314) := rfl
theorem T_266_314 : hTab 266 314 = some ((22, 0, Int.ofNat 326, []), 317) := rfl
theorem T_266_317 : hTab 266 317 = some ((3, 0, 2, []), 318) := rfl
theorem T_266_318 : hTab 266 318 = some ((24, 17, Int.ofNat 5, []), 321) := rfl
theorem T_266_321 : hTab 266 321 = some ((0, 0, 7, []), 323) := rfl
theorem T_266_323 : hTab 266 323 = some ((3, 14, 0, []), 325) := rfl
theorem T_266_325 : hTab 266 325 = some ((27, 0, 0, []), 326) := rfl
theorem T_266_326 : hTab 266 326 = some ((33, 0, 0, []), 327) := rfl
section MSERVE6
variable {fb : Bool} {d : Nat} {σ0 σ : hM} {P S S1 : qR} {T U s n u c t p z : Int} {st : List (Int × Int)}
theorem wkE_le {a : Int → Int} (hz : 0 ≤ z) : ∀ (m : Nat) (p : Int), p ≤ z → wkE a z m p ≤ z
  | 0, _, h => h
  | m + 1, p, _ => wkE_le hz m (sE a z p) (by
      unfold sE
      (repeat' split) <;> omega)
theorem okS_wk {a : Int → Int} (hb : ∀ j, 0 ≤ j → j < z → 0 ≤ a j ∧ a j ≤ 255) : ∀ (m : Nat) (p : Int), okS z (wkS a z m p)
  | 0, _ => fun i h => by cases h
  | m + 1, p => fun i h => by
    rcases sE_cases (p := p) hb with hc | hc
    · have e : wkS a z (m + 1) p = [] := by unfold wkS; rw [hc]; rfl
      rw [e] at h
      cases h
    · have e : wkS a z (m + 1) p = (p + 2, nu a p 2) :: wkS a z m (sE a z p) := if_neg (by omega)
      rw [e] at h ⊢
      cases i with
      | zero => exact ⟨by show 0 ≤ p + 2; omega, by show 0 ≤ nu a p 2; omega, by show p + 2 + nu a p 2 ≤ z; omega⟩
      | succ i => exact okS_wk hb m (sE a z p) i (by simpa using h)
theorem m_names_loop {v w nn : Int} {Q : Option AV → hM → Prop} (hb : ∀ j, 0 ≤ j → j < S 2281 4 → 0 ≤ S 2285 j ∧ S 2285 j ≤ 255) (hz1 : S 2281 4 ≤ 512) : ∀ (m : Nat) (i p : Int) (st : List (Int × Int)) (σ : hM) (S1 : qR), i + m = nn → 0 ≤ i → nn ≤ 65535 → PM σ0 P S1 σ → RS T U S S1 p st → (0 ≤ p → 2 * (st.length : Int) ≤ p) → (p < 0 → (st.length : Int) ≤ 300) →
    (∀ σ S1 q i st', PM σ0 P S1 σ → RS T U S S1 q st' → (q = wkE (S 2285) (S 2281 4) m p ∨ (q < 0 ∧ wkE (S 2285) (S 2281 4) m p < 0)) → (0 ≤ q → st' = st ++ wkS (S 2285) (S 2281 4) m p) → WP fb (d + 6) 266 48 [some (vR (some 2281)), some (vI s), some (vI c), some (vL v), none, some (vL w), none, some (vI nn), some (vI i), none, none, none, none, none, none, none] [] σ Q) →
    WP fb (d + 6) 266 24 [some (vR (some 2281)), some (vI s), some (vI c), some (vL v), none, some (vL w), none, some (vI nn), some (vI i), none, none, none, none, none, none, none] [] σ Q := by
  intro m
  induction m with
  | zero =>
    intro i p st σ S1 h1 h2 h3 hP hR h4 h5 hQ
    refine x_li (z := i) T_266_24 rfl ?_
    refine x_li (z := nn) T_266_26 rfl ?_
    refine x_ic2 T_266_28 (fun _ => ?_) (fun h => absurd (show nn ≤ i by omega) h)
    exact hQ σ S1 p _ st hP hR (Or.inl rfl) (fun _ => (List.append_nil st).symm)
  | succ m ih =>
    intro i p st σ S1 h1 h2 h3 hP hR h4 h5 hQ
    have hbad := hR.2.2.1
    by_cases hp : p < 0
    · rw [if_pos hp] at hbad
      refine x_li (z := i) T_266_24 rfl ?_
      refine x_li (z := nn) T_266_26 rfl ?_
      refine x_ic2 T_266_28 (fun h => absurd (show nn ≤ i from h) (by omega)) (fun _ => ?_)
      refine x_lr (z := some 2281) T_266_31 rfl ?_
      refine x_gI (z := 1) T_266_32 (Or.inr (Or.inl F_17_9)) (PM.t hP) (Eq.trans (PM.nS hP 2281 9 9 rfl rfl rfl) hbad) ?_
      refine x_if T_266_35 (fun _ => ?_) (fun h => absurd (show ¬ (1 : Int) = 0 by decide) h)
      exact hQ σ S1 p _ st hP hR (Or.inr ⟨hp, wkE_neg hp _⟩) (fun q => by omega)
    · rw [if_neg hp] at hbad
      have hp2 : p ≤ S 2281 4 := hR.2.2.2.2.1
      rcases sE_cases (p := p) hb with hc | hc
      · skip
        refine x_li (z := i) T_266_24 rfl ?_
        refine x_li (z := nn) T_266_26 rfl ?_
        refine x_ic2 T_266_28 (fun h => absurd (show nn ≤ i from h) (by omega)) (fun _ => ?_)
        refine x_lr (z := some 2281) T_266_31 rfl ?_
        refine x_gI (z := 0) T_266_32 (Or.inr (Or.inl F_17_9)) (PM.t hP) (Eq.trans (PM.nS hP 2281 9 9 rfl rfl rfl) hbad) ?_
        refine x_if T_266_35 (fun h => absurd (show ¬ (0 : Int) = 0 from h) (by decide)) (fun _ => ?_)
        refine x_lr (z := some 2281) T_266_38 rfl ?_
        refine x_cv1 T_266_39 mN_240 mL_240 (Nat.le_of_ble_eq_true rfl) mO_240 (PM.t hP) (Nat.le_of_ble_eq_true rfl) (r_string hP hR (by omega)) ?_
        rintro _ σ ⟨rfl, S1, hP, hR⟩
        rw [hc, if_pos (by decide)] at hR
        refine cV ?_
        refine x_inc (w := (i + 1)) (ls1 := [some (vR (some 2281)), some (vI s), some (vI c), some (vL v), none, some (vL w), none, some (vI nn), some (vI (i + 1)), none, none, none, none, none, none, none]) T_266_42 rfl (w32_id (by omega) (by omega)) rfl ?_
        refine x_goto T_266_45 ?_
        refine ih (i + 1) (-1) st σ S1 (by omega) (by omega) h3 hP hR (fun q => by omega) (fun _ => by omega) (fun σ S1 q i st2 q1 q2 q3 q4 => ?_)
        refine hQ σ S1 q i st2 q1 q2 ?_ ?_
        · rw [show wkE (S 2285) (S 2281 4) (m + 1) p = wkE (S 2285) (S 2281 4) m (-1) by show wkE _ _ m (sE _ _ p) = _; rw [hc]]
          exact q3
        · intro q5
          have := wkE_neg (a := S 2285) (z := S 2281 4) (p := -1) (by decide) m
          omega
      · skip
        refine x_li (z := i) T_266_24 rfl ?_
        refine x_li (z := nn) T_266_26 rfl ?_
        refine x_ic2 T_266_28 (fun h => absurd (show nn ≤ i from h) (by omega)) (fun _ => ?_)
        refine x_lr (z := some 2281) T_266_31 rfl ?_
        refine x_gI (z := 0) T_266_32 (Or.inr (Or.inl F_17_9)) (PM.t hP) (Eq.trans (PM.nS hP 2281 9 9 rfl rfl rfl) hbad) ?_
        refine x_if T_266_35 (fun h => absurd (show ¬ (0 : Int) = 0 from h) (by decide)) (fun _ => ?_)
        refine x_lr (z := some 2281) T_266_38 rfl ?_
        refine x_cv1 T_266_39 mN_240 mL_240 (Nat.le_of_ble_eq_true rfl) mO_240 (PM.t hP) (Nat.le_of_ble_eq_true rfl) (r_string hP hR (by omega)) ?_
        rintro _ σ ⟨rfl, S1, hP, hR⟩
        rw [if_neg (by omega)] at hR
        refine cV ?_
        refine x_inc (w := (i + 1)) (ls1 := [some (vR (some 2281)), some (vI s), some (vI c), some (vL v), none, some (vL w), none, some (vI nn), some (vI (i + 1)), none, none, none, none, none, none, none]) T_266_42 rfl (w32_id (by omega) (by omega)) rfl ?_
        refine x_goto T_266_45 ?_
        refine ih (i + 1) _ _ σ S1 (by omega) (by omega) h3 hP hR (fun q => by rw [List.length_append]; have := h4 (by omega); simp only [List.length_cons, List.length_nil]; omega) (fun q => by omega) (fun σ S1 q i st2 q1 q2 q3 q4 => ?_)
        refine hQ σ S1 q i st2 q1 q2 q3 (fun q5 => ?_)
        rw [q4 q5, List.append_assoc]
        congr 1
        rw [show wkS (S 2285) (S 2281 4) (m + 1) p = (p + 2, nu (S 2285) p 2) :: wkS (S 2285) (S 2281 4) m (sE (S 2285) (S 2281 4) p) from if_neg (by omega)]
        rfl
/-- a walk's answer -/
def wlW (P : qR) (s c : Int) (a : Int → Int) (z : Int) : Nat × Int × Int × List Int := wlk P s (P 2308 (qFid P s c (nu a 7 4))) (nms a (wkS a z (nu a 15 2).toNat 17)) (P 2306 (qFid P s c (nu a 7 4)))
def wlT (P : qR) (s c : Int) (a : Int → Int) : Int := if nu a 7 4 = nu a 11 4 then qFid P s c (nu a 7 4) else qFree P s c
def wlE (P : qR) (s c : Int) (a : Int → Int) (z : Int) : Int := if ¬ (17 ≤ z ∧ wkE a z (nu a 15 2).toNat 17 = z) then 14 else if qFid P s c (nu a 7 4) < 0 then 6 else if 0 ≤ P 2309 (qFid P s c (nu a 7 4)) then 8 else if ¬ nu a 7 4 = nu a 11 4 ∧ 0 ≤ qFid P s c (nu a 11 4) then 7 else if 8 < nu a 15 2 then 14 else if wlT P s c a < 0 then 12 else if ¬ P 2310 (qFid P s c (nu a 7 4)) = 0 then 1 else if ¬ nu a 15 2 = 0 ∧ (wlW P s c a z).1 = 0 then (wlW P s c a z).2.2.1 else 0
def wlP (P : qR) (s c : Int) (a : Int → Int) (z : Int) : qR := if ((wlW P s c a z).1 : Int) = nu a 15 2 then gMake P (wlT P s c a) (nu a 11 4) (wlW P s c a z).2.1 (P 2308 (qFid P s c (nu a 7 4))) else P
def wlL (P : qR) (s c : Int) (a : Int → Int) (z : Int) : List Int := leb 2 ((wlW P s c a z).1 : Int) ++ (wlW P s c a z).2.2.2
theorem wlk_le (P : qR) (s u : Int) : ∀ (r : List (List Int)) (n : Int), (wlk P s u r n).1 ≤ r.length ∧ ((wlk P s u r n).1 < r.length → 1 ≤ (wlk P s u r n).2.2.1 ∧ (wlk P s u r n).2.2.1 ≤ 3)
  | [], n => ⟨Nat.le_refl _, fun h => by cases h⟩
  | nm :: r, n => by
    have h := wlk_le P s u r (qTo P s n nm)
    unfold wlk
    split
    · rw [List.length_cons]
      exact ⟨by show _ + 1 ≤ _; omega, fun q => h.2 (by have q : (wlk P s u r (qTo P s n nm)).1 + 1 < r.length + 1 := q; omega)⟩
    · rename_i q
      rw [List.length_cons]
      refine ⟨by show 0 ≤ _; omega, fun _ => ?_⟩
      rcases qSt_v P s n u nm with h2 | h2
      · exact absurd h2.1 q
      · exact h2
theorem SV_mid {Q : qR} {e : Int} {l : List Int} (hW : RW T U S S1 st) (hP : PM σ0 Q (rA (rpl S1 t) l) σ) (h0 : S 2281 7 = 0) (hl : byt l) (hz : (l.length : Int) ≤ 400) (he : e = 0) : SV T U σ0 S Q e t l none σ := ⟨rfl, _, hP, by
  rw [he, if_pos rfl, if_pos rfl]
  exact RP_mk0 (fun f k h1 _ h2 h3 => hW.1 f k h1 h2 h3) hW.2.1 hW.2.2.1 (hW.2.2.2.1.trans h0) hl hz⟩
theorem SV_mno {Q : qR} {e t1 : Int} {l l1 : List Int} (hW : RW T U S S1 st) (hP : PM σ0 Q (rfs (rA (rpl S1 t1) l1) e) σ) (hl : byt l1) (hz : (l1.length : Int) ≤ 400) (he : 1 ≤ e ∧ e ≤ 16) : SV T U σ0 S Q e t l none σ := ⟨rfl, _, hP, by
  rw [if_neg (by omega), if_neg (by omega)]
  have hA : ∀ (f : Nat) (k : Int), f ≠ 2281 → f ≠ 2286 → f ≠ 2287 → f ≠ 2288 → rU (rA (rpl S1 t1) l1) 2281 7 e f k = S f k := fun f k h1 h2 h3 h4 => by
    rw [rU_f h1, rA_o h2 (fun q => h1 q.1), rpl_o h2 (fun q => h1 q.1)]
    exact hW.1 f k h1 h3 h4
  have hz2 : kS (rU (rA (rpl S1 t1) l1) 2281 7 e) S := fun k h6 h7 h8 h9 h12 h92 => by
    rw [rU_k h7, rA_o (by decide) (fun q => h6 q.2), rpl_o (by decide) (fun q => h6 q.2)]
    exact hW.2.1 k h6 h7 h8 h9 h12 h92
  exact RP_mk0 hA hz2 ((IV_ans hW.2.2.1 hl hz).uN 7 7 rfl (by show 0 ≤ e ∧ e ≤ 20; omega)) rU_s (byt_errL e) (by have := errL_len he; omega)⟩
set_option maxHeartbeats 4000000 in
theorem m_serveWalk (hP : PM σ0 P S1 σ) (hR : RS T U S S1 7 []) (hI : IV false T U P) (hs : 0 ≤ s ∧ s < 3) (hc : 0 ≤ c ∧ c < 2) (h0 : S 2281 7 = 0) : CL fb (d + 6) 266 [vR (some 2281), vI s, vI c] σ (SV T U σ0 S (if wlE P s c (S 2285) (S 2281 4) = 0 then wlP P s c (S 2285) (S 2281 4) else P) (wlE P s c (S 2285) (S 2281 4)) 111 (wlL P s c (S 2285) (S 2281 4))) := by
  obtain ⟨hz0, hz1, hb⟩ := hR.pb
  have hz7 : 7 ≤ S 2281 4 := hR.2.2.2.2.1
  by_cases h17 : 17 ≤ S 2281 4
  · obtain ⟨v, hv0⟩ : ∃ v, nu (S 2285) 7 4 = v := ⟨_, rfl⟩
    obtain ⟨w, hw0⟩ : ∃ w, nu (S 2285) 11 4 = w := ⟨_, rfl⟩
    obtain ⟨nn, hn0⟩ : ∃ nn, nu (S 2285) 15 2 = nn := ⟨_, rfl⟩
    have hv1 : nv (S 2285) (S 2281 4) 7 4 = v := (nv_ok (n := 4) (by decide) (by omega) hb).1.trans hv0
    have hw1 : nv (S 2285) (S 2281 4) 11 4 = w := (nv_ok (n := 4) (by decide) (by omega) hb).1.trans hw0
    have hn1 := nv_ok (a := S 2285) (z := S 2281 4) (p := 15) (n := 2) (by decide) (by omega) hb
    rw [hn0] at hn1
    have hn2 : 0 ≤ nn ∧ nn < 65536 := hn1.2
    have a1 : av (S 2281 4) 7 4 = 11 := if_neg (by omega)
    have a2 : av (S 2281 4) 11 4 = 15 := if_neg (by omega)
    have a3 : av (S 2281 4) 15 2 = 17 := if_neg (by omega)
    obtain ⟨E, hE⟩ : ∃ E, wkE (S 2285) (S 2281 4) nn.toNat 17 = E := ⟨_, rfl⟩
    obtain ⟨ST, hST⟩ : ∃ ST, wkS (S 2285) (S 2281 4) nn.toNat 17 = ST := ⟨_, rfl⟩
    have hok : okS (S 2281 4) ST := by rw [← hST]; exact okS_wk hb _ _
    refine CL_in mL_266 rfl ?_
    show WP fb _ 266 0 [some (vR (some 2281)), some (vI s), some (vI c), none, none, none, none, none, none, none, none, none, none, none, none, none] [] σ _
    refine x_lr (z := some 2281) T_266_0 rfl ?_
    refine x_ic T_266_1 ?_
    refine x_cv2 T_266_2 mN_234 mL_234 (Nat.le_of_ble_eq_true rfl) mO_234 (PM.t hP) (Nat.le_of_ble_eq_true rfl) (r_num 4 rfl hP hR (by decide) hv1) ?_
    rintro _ σ ⟨rfl, S1, hP, hR⟩
    rw [a1] at hR
    refine cL ?_
    refine x_sl (ls1 := [some (vR (some 2281)), some (vI s), some (vI c), some (vL v), none, none, none, none, none, none, none, none, none, none, none, none]) T_266_5 rfl ?_
    refine x_lr (z := some 2281) T_266_6 rfl ?_
    refine x_ic T_266_7 ?_
    refine x_cv2 T_266_8 mN_234 mL_234 (Nat.le_of_ble_eq_true rfl) mO_234 (PM.t hP) (Nat.le_of_ble_eq_true rfl) (r_num 4 rfl hP hR (by decide) hw1) ?_
    rintro _ σ ⟨rfl, S1, hP, hR⟩
    rw [a2] at hR
    refine cL ?_
    refine x_sl (ls1 := [some (vR (some 2281)), some (vI s), some (vI c), some (vL v), none, some (vL w), none, none, none, none, none, none, none, none, none, none]) T_266_11 rfl ?_
    refine x_lr (z := some 2281) T_266_13 rfl ?_
    refine x_ic T_266_14 ?_
    refine x_cv2 T_266_15 mN_234 mL_234 (Nat.le_of_ble_eq_true rfl) mO_234 (PM.t hP) (Nat.le_of_ble_eq_true rfl) (r_num 2 rfl hP hR (by decide) hn1.1) ?_
    rintro _ σ ⟨rfl, S1, hP, hR⟩
    rw [a3] at hR
    refine cL ?_
    refine x_l2i (w := nn) T_266_18 (w32_id (by omega) (by omega)) ?_
    refine x_si (ls1 := [some (vR (some 2281)), some (vI s), some (vI c), some (vL v), none, some (vL w), none, some (vI nn), none, none, none, none, none, none, none, none]) T_266_19 rfl ?_
    refine x_ic T_266_21 ?_
    refine x_si (ls1 := [some (vR (some 2281)), some (vI s), some (vI c), some (vL v), none, some (vL w), none, some (vI nn), some (vI 0), none, none, none, none, none, none, none]) T_266_22 rfl ?_
    refine m_names_loop (d := d) (P := P) hb hz1 nn.toNat 0 17 [] σ S1 (by omega) (by decide) (by omega) hP hR (fun _ => by decide) (fun q => by omega) (fun σ S1 q i st hP hR hq hst => ?_)
    rw [hE] at hq
    rw [hST, List.nil_append] at hst
    by_cases hw : E = S 2281 4
    · have hq : q = E := by rcases hq with hq | hq <;> omega
      have hst := hst (by omega)
      rw [hst, hq, hw] at hR
      have hh : S 2281 4 = S 2281 4 ∧ 0 ≤ S 2281 4 := ⟨rfl, hz0⟩
      have hlen : (ST.length : Int) = nn := by
        rw [← hST, wkS_len nn.toNat 17 (by omega)]
        omega
      have hk := qFid_rng (P := P) (s := s) (c := c) v hs hc
      have hk2 := qFid_rng (P := P) (s := s) (c := c) w hs hc
      have hfr := frFid_rng (P := P) 48 (48 * (2 * s + c)) (by omega)
      obtain ⟨old, hold⟩ : ∃ old, qFid P s c v = old := ⟨_, rfl⟩
      obtain ⟨nf, hnf⟩ : ∃ nf, qFid P s c w = nf := ⟨_, rfl⟩
      obtain ⟨fr, hfr0⟩ : ∃ fr, qFree P s c = fr := ⟨_, rfl⟩
      rw [show frFid P 48 (48 * (2 * s + c)) = fr from hfr0] at hfr
      rw [hold] at hk
      rw [hnf] at hk2
      obtain ⟨W, hW⟩ : ∃ W, wlk P s (P 2308 old) (nms (S 2285) ST) (P 2306 old) = W := ⟨_, rfl⟩
      have hle := wlk_le P s (P 2308 old) (nms (S 2285) ST) (P 2306 old)
      rw [hW, show (nms (S 2285) ST).length = ST.length by unfold nms; rw [List.length_map]] at hle
      obtain ⟨k, hkd⟩ : ∃ k, (if v = w then old else fr) = k := ⟨_, rfl⟩
      unfold wlE wlP wlL wlW wlT
      rw [hv0, hw0, hn0, hE, hST, hold, hnf, hfr0, hW, hkd]
      have hC : ¬ ¬ (17 ≤ S 2281 4 ∧ E = S 2281 4) := fun q => q ⟨h17, hw⟩
      rw [if_neg hC]
      have fin : ∀ (σ : hM) (S1 : qR) (i2 : Int), PM σ0 P (rA (rpl S1 111) (leb 2 nn)) σ → RW T U S S1 ST → 0 ≤ old → P 2309 old < 0 → ¬ (¬ v = w ∧ 0 ≤ nf) → ¬ 8 < nn → 0 ≤ k → P 2310 old = 0 → WP fb (d + 6) 266 232 [some (vR (some 2281)), some (vI s), some (vI c), some (vL v), none, some (vL w), none, some (vI nn), some (vI old), some (vI i2), some (vI k), some (vI 0), some (vI (P 2308 old)), some (vI (P 2306 old)), some (vI 0), some (vI 0)] [] σ (SV T U σ0 S (if (if old < 0 then 6 else if 0 ≤ P 2309 old then 8 else if ¬ v = w ∧ 0 ≤ nf then 7 else if 8 < nn then 14 else if k < 0 then 12 else if ¬ P 2310 old = 0 then 1 else if ¬ nn = 0 ∧ W.1 = 0 then W.2.2.1 else 0) = 0 then (if (W.1 : Int) = nn then gMake P k w W.2.1 (P 2308 old) else P) else P) (if old < 0 then 6 else if 0 ≤ P 2309 old then 8 else if ¬ v = w ∧ 0 ≤ nf then 7 else if 8 < nn then 14 else if k < 0 then 12 else if ¬ P 2310 old = 0 then 1 else if ¬ nn = 0 ∧ W.1 = 0 then W.2.2.1 else 0) 111 (leb 2 (W.1 : Int) ++ W.2.2.2)) := by
        intro σ S1 i2 hP hWr c1 c2 c3 c4 c5 c6
        have hkr : 48 * (2 * s + c) ≤ k ∧ k < 48 * (2 * s + c) + 48 := by
          rw [← hkd]
          split <;> omega
        have bn : 0 ≤ P 2306 old ∧ P 2306 old ≤ (if old < 192 then 63 else 143) := IV.a hI 2306 0 288 rfl rfl rfl (by omega) (by omega)
        have e0 : (if old < 0 then 6 else if 0 ≤ P 2309 old then 8 else if ¬ v = w ∧ 0 ≤ nf then 7 else if 8 < nn then 14 else if k < 0 then 12 else if ¬ P 2310 old = 0 then 1 else if ¬ nn = 0 ∧ W.1 = 0 then W.2.2.1 else 0) = if ¬ nn = 0 ∧ W.1 = 0 then W.2.2.1 else (0 : Int) := by
          rw [if_neg (by omega), if_neg (by omega), if_neg c3, if_neg c4, if_neg (by omega), if_neg (fun q => q c6)]
        rw [e0]
        refine m_walk_loop (d := d) (P := P) (st := ST) hI (fun i hi => by have := hok i hi; omega) (by omega) hlen.symm ST.length 0 (P 2306 old) (leb 2 nn) σ S1 none none (by omega) (by decide) hP hWr (byt_leb 2 _) (by rw [leb_len]; rfl) (by omega) (fun σ S1 l2 q1 q2 q3 q4 q5 q6 => ?_)
        rw [show (nms (S 2285) ST).drop (0 : Int).toNat = nms (S 2285) ST from rfl, hW] at q5 q6 ⊢
        subst q5
        rw [Int.zero_add]
        obtain ⟨dn, hdn⟩ : ∃ dn : Int, (W.1 : Int) = dn := ⟨_, rfl⟩
        rw [hdn]
        have hz2 : ((leb 2 nn ++ W.2.2.2).length : Int) ≤ 400 := by
          rw [List.length_append, leb_len]
          omega
        have hP := q1
        by_cases hd : dn = nn
        · rw [show (if ¬ nn = 0 ∧ W.1 = 0 then W.2.2.1 else (0 : Int)) = 0 from if_neg (by omega), if_pos rfl, if_pos hd]
          refine x_li (z := dn) T_266_281 rfl ?_
          refine x_li (z := nn) T_266_283 rfl ?_
          refine x_ic2 T_266_285 (fun h => absurd (show ¬ dn = nn from h) (by omega)) (fun _ => ?_)
          refine x_lr (z := some 2281) T_266_288 rfl ?_
          refine x_li (z := k) T_266_289 rfl ?_
          refine x_ll (z := w) T_266_291 rfl ?_
          refine x_li (z := W.2.1) T_266_293 rfl ?_
          refine x_li (z := P 2308 old) T_266_295 rfl ?_
          refine x_cv5 T_266_297 mN_262 mL_262 (Nat.le_of_ble_eq_true rfl) mO_262 (PM.t hP) (Nat.le_of_ble_eq_true rfl) (m_makeFid hP (by omega) (by omega)) ?_
          rintro _ σ ⟨rfl, hP⟩
          refine cV ?_
          refine x_goto T_266_300 ?_
          refine x_rv T_266_326 ?_
          rw [hd]
          exact SV_mid q2 hP h0 (byt_app (byt_leb 2 _) q3) (by omega) rfl
        · rw [if_neg hd, ite_self]
          by_cases h00 : W.1 = 0
          · have hwy := hle.2 (by omega)
            rw [if_pos ⟨by omega, h00⟩]
            refine x_li (z := dn) T_266_281 rfl ?_
            refine x_li (z := nn) T_266_283 rfl ?_
            refine x_ic2 T_266_285 (fun _ => ?_) (fun h => absurd (show ¬ dn = nn by omega) h)
            refine x_li (z := dn) T_266_303 rfl ?_
            refine x_if T_266_305 (fun h => absurd (show ¬ dn = 0 from h) (by omega)) (fun _ => ?_)
            refine x_lr (z := some 2281) T_266_308 rfl ?_
            refine x_li (z := W.2.2.1) T_266_309 rfl ?_
            refine x_cv2 T_266_311 mN_235 mL_235 (Nat.le_of_ble_eq_true rfl) mO_235 (PM.t hP) (Nat.le_of_ble_eq_true rfl) (m_refuse hP (by omega)) ?_
            rintro _ σ ⟨rfl, hP⟩
            refine cV ?_
            refine x_goto T_266_314 ?_
            refine x_rv T_266_326 ?_
            exact SV_mno q2 hP (byt_app (byt_leb 2 _) q3) (by omega) (by omega)
          · rw [if_neg (fun q => h00 q.2)]
            refine x_li (z := dn) T_266_281 rfl ?_
            refine x_li (z := nn) T_266_283 rfl ?_
            refine x_ic2 T_266_285 (fun _ => ?_) (fun h => absurd (show ¬ dn = nn by omega) h)
            refine x_li (z := dn) T_266_303 rfl ?_
            refine x_if T_266_305 (fun _ => ?_) (fun h => absurd (show ¬ dn = 0 by omega) h)
            refine x_lr (z := some 2281) T_266_317 rfl ?_
            refine x_gR (z := some 2286) T_266_318 F_17_5 (PM.t hP) (PM.r hP 5 2286 rfl) ?_
            refine x_ic T_266_321 ?_
            refine x_li (z := dn) T_266_323 rfl ?_
            refine y_aIS hP T_266_325 2286 512 rfl rfl rfl (by omega) (by omega) (fun σ hP => ?_)
            refine x_rv T_266_326 ?_
            have e1 : leb 2 nn ++ W.2.2.2 = nn % 256 :: (0 :: W.2.2.2) := by show nn % 256 :: (nn / 256 % 256 :: W.2.2.2) = _; rw [show nn / 256 % 256 = 0 by omega]
            have e2 : leb 2 dn ++ W.2.2.2 = dn :: (0 :: W.2.2.2) := by show dn % 256 :: (dn / 256 % 256 :: W.2.2.2) = _; rw [show dn / 256 % 256 = 0 by omega, show dn % 256 = dn by omega]
            rw [e1, rA_set0 rpl_z, ← e2] at hP
            exact SV_mid q2 hP h0 (byt_app (byt_leb 2 _) q3) (by rw [List.length_append, leb_len] at hz2 ⊢; omega) rfl
      have hob : -1 ≤ old ∧ old < 288 := by omega
      clear hk hk2 hfr hle hq hst hn1 hn2 hlen hok
      by_cases hvw : v = w
      · have hko : k = old := by rw [← hkd, if_pos hvw]
        refine x_lr (z := some 2281) T_266_48 rfl ?_
        have hw := r_isWhole (fb := fb) (d := d + 2) hP hR
        rw [if_pos hh, if_pos hh] at hw
        refine x_cv1 T_266_49 mN_241 mL_241 (Nat.le_of_ble_eq_true rfl) mO_241 (PM.t hP) (Nat.le_of_ble_eq_true rfl) (hw) ?_
        rintro _ σ ⟨rfl, hP⟩
        refine cI ?_
        refine x_if T_266_52 (fun _ => ?_) (fun h => absurd (show ¬ (1 : Int) = 0 by decide) h)
        refine x_lr (z := some 2281) T_266_56 rfl ?_
        refine x_li (z := s) T_266_57 rfl ?_
        refine x_li (z := c) T_266_58 rfl ?_
        refine x_ll (z := v) T_266_59 rfl ?_
        refine x_cv4 T_266_60 mN_261 mL_261 (Nat.le_of_ble_eq_true rfl) mO_261 (PM.t hP) (Nat.le_of_ble_eq_true rfl) (CL_val (m_findFid hP (by omega) (by omega)) hold) ?_
        rintro _ σ ⟨rfl, rfl⟩
        refine cI ?_
        refine x_si (ls1 := [some (vR (some 2281)), some (vI s), some (vI c), some (vL v), none, some (vL w), none, some (vI nn), some (vI old), none, none, none, none, none, none, none]) T_266_63 rfl ?_
        refine x_ll (z := v) T_266_65 rfl ?_
        refine x_ll (z := w) T_266_66 rfl ?_
        refine x_lif T_266_68 T_266_69 (fun h => absurd (show ¬ v = w from h) (by exact fun q => q hvw)) (fun _ => ?_)
        refine x_ic T_266_72 ?_
        refine x_goto T_266_73 ?_
        refine x_si (ls1 := [some (vR (some 2281)), some (vI s), some (vI c), some (vL v), none, some (vL w), none, some (vI nn), some (vI old), some (vI 1), none, none, none, none, none, none]) T_266_77 rfl ?_
        refine x_li (z := 1) T_266_79 rfl ?_
        refine x_if T_266_81 (fun h => absurd (show (1 : Int) = 0 from h) (by decide)) (fun _ => ?_)
        refine x_li (z := old) T_266_84 rfl ?_
        refine x_goto T_266_86 ?_
        refine x_si (ls1 := [some (vR (some 2281)), some (vI s), some (vI c), some (vL v), none, some (vL w), none, some (vI nn), some (vI old), some (vI 1), some (vI old), none, none, none, none, none]) T_266_95 rfl ?_
        refine x_li (z := old) T_266_97 rfl ?_
        refine x_if T_266_99 (fun h99 => ?_) (fun h99 => ?_)
        · replace h99 : 0 ≤ old := h99
          refine x_lr (z := some 2281) T_266_107 rfl ?_
          refine x_gR (z := some 2309) T_266_108 F_17_33 (PM.t hP) (PM.r hP 33 2309 rfl) ?_
          refine x_li (z := old) T_266_111 rfl ?_
          have b1 : -1 ≤ P 2309 old ∧ P 2309 old ≤ 255 := IV.a hI 2309 0 288 rfl rfl rfl (by omega) (by omega)
          refine x_alI (z := P 2309 old) T_266_113 (by decide) (PM.ta hP 2309 0 288 rfl rfl) (by omega) (by omega) (PM.aP hP 2309 rfl rfl (by omega)) ?_
          refine x_if T_266_114 (fun h114 => ?_) (fun h114 => ?_)
          · replace h114 : P 2309 old < 0 := h114
            refine x_li (z := 1) T_266_122 rfl ?_
            refine x_if T_266_124 (fun _ => ?_) (fun h => absurd (show ¬ (1 : Int) = 0 by decide) h)
            refine x_li (z := nn) T_266_143 rfl ?_
            refine x_ic T_266_145 ?_
            refine x_ic2 T_266_147 (fun h147 => ?_) (fun h147 => ?_)
            · replace h147 : nn ≤ 8 := h147
              refine x_li (z := old) T_266_155 rfl ?_
              refine x_if T_266_157 (fun h157 => ?_) (fun h157 => ?_)
              · replace h157 : 0 ≤ old := h157
                refine x_lr (z := some 2281) T_266_165 rfl ?_
                refine x_gR (z := some 2310) T_266_166 F_17_34 (PM.t hP) (PM.r hP 34 2310 rfl) ?_
                refine x_li (z := old) T_266_169 rfl ?_
                have b2 : 0 ≤ P 2310 old ∧ P 2310 old ≤ 1 := IV.a hI 2310 2 288 rfl rfl rfl (by omega) (by omega)
                refine x_alI (z := P 2310 old) T_266_171 (by decide) (PM.ta hP 2310 2 288 rfl rfl) (by omega) (by omega) (PM.aP hP 2310 rfl rfl (by omega)) ?_
                refine x_if T_266_172 (fun h172 => ?_) (fun h172 => ?_)
                · replace h172 : P 2310 old = 0 := h172
                  refine x_ic T_266_179 ?_
                  refine x_si (ls1 := [some (vR (some 2281)), some (vI s), some (vI c), some (vL v), none, some (vL w), none, some (vI nn), some (vI old), some (vI 1), some (vI old), some (vI 0), none, none, none, none]) T_266_180 rfl ?_
                  refine x_li (z := 0) T_266_182 rfl ?_
                  refine x_if T_266_184 (fun _ => ?_) (fun h => absurd (show (0 : Int) ≤ 0 by decide) h)
                  refine x_lr (z := some 2281) T_266_194 rfl ?_
                  refine x_gR (z := some 2308) T_266_195 F_17_32 (PM.t hP) (PM.r hP 32 2308 rfl) ?_
                  refine x_li (z := old) T_266_198 rfl ?_
                  have b3 : 0 ≤ P 2308 old ∧ P 2308 old ≤ 3 := IV.a hI 2308 0 288 rfl rfl rfl (by omega) (by omega)
                  refine x_alI (z := P 2308 old) T_266_200 (by decide) (PM.ta hP 2308 0 288 rfl rfl) (by omega) (by omega) (PM.aP hP 2308 rfl rfl (by omega)) ?_
                  refine x_si (ls1 := [some (vR (some 2281)), some (vI s), some (vI c), some (vL v), none, some (vL w), none, some (vI nn), some (vI old), some (vI 1), some (vI old), some (vI 0), some (vI (P 2308 old)), none, none, none]) T_266_201 rfl ?_
                  refine x_lr (z := some 2281) T_266_203 rfl ?_
                  refine x_gR (z := some 2306) T_266_204 F_17_30 (PM.t hP) (PM.r hP 30 2306 rfl) ?_
                  refine x_li (z := old) T_266_207 rfl ?_
                  have b4 : 0 ≤ P 2306 old ∧ P 2306 old ≤ (if old < 192 then 63 else 143) := IV.a hI 2306 0 288 rfl rfl rfl (by omega) (by omega)
                  refine x_alI (z := P 2306 old) T_266_209 (by decide) (PM.ta hP 2306 0 288 rfl rfl) (by omega) (by omega) (PM.aP hP 2306 rfl rfl (by omega)) ?_
                  refine x_si (ls1 := [some (vR (some 2281)), some (vI s), some (vI c), some (vL v), none, some (vL w), none, some (vI nn), some (vI old), some (vI 1), some (vI old), some (vI 0), some (vI (P 2308 old)), some (vI (P 2306 old)), none, none]) T_266_210 rfl ?_
                  refine x_lr (z := some 2281) T_266_212 rfl ?_
                  refine x_ic T_266_213 ?_
                  refine x_cv2 T_266_215 mN_236 mL_236 (Nat.le_of_ble_eq_true rfl) mO_236 (PM.t hP) (Nat.le_of_ble_eq_true rfl) (m_reply hP) ?_
                  rintro _ σ ⟨rfl, hP⟩
                  refine cV ?_
                  refine x_lr (z := some 2281) T_266_218 rfl ?_
                  refine x_ic T_266_219 ?_
                  refine x_li (z := nn) T_266_220 rfl ?_
                  refine x_i2l T_266_222 ?_
                  refine x_cv3 T_266_223 mN_237 mL_237 (Nat.le_of_ble_eq_true rfl) mO_237 (PM.t hP) (Nat.le_of_ble_eq_true rfl) (m_put 2 rfl hP (by decide) rpl_z (by omega) (by omega)) ?_
                  rintro _ σ ⟨rfl, hP⟩
                  refine cV ?_
                  refine x_ic T_266_226 ?_
                  refine x_si (ls1 := [some (vR (some 2281)), some (vI s), some (vI c), some (vL v), none, some (vL w), none, some (vI nn), some (vI old), some (vI 1), some (vI old), some (vI 0), some (vI (P 2308 old)), some (vI (P 2306 old)), some (vI 0), none]) T_266_227 rfl ?_
                  refine x_ic T_266_229 ?_
                  refine x_si (ls1 := [some (vR (some 2281)), some (vI s), some (vI c), some (vL v), none, some (vL w), none, some (vI nn), some (vI old), some (vI 1), some (vI old), some (vI 0), some (vI (P 2308 old)), some (vI (P 2306 old)), some (vI 0), some (vI 0)]) T_266_230 rfl ?_
                  rw [← hko] at hkd
                  subst hko
                  exact fin σ S1 1 hP hR.rw (by omega) (by omega) (fun q => q.1 hvw) (by omega) (by omega) (by omega)
                · replace h172 : ¬ (P 2310 old = 0) := h172
                  refine x_ic T_266_175 ?_
                  refine x_goto T_266_176 ?_
                  refine x_si (ls1 := [some (vR (some 2281)), some (vI s), some (vI c), some (vL v), none, some (vL w), none, some (vI nn), some (vI old), some (vI 1), some (vI old), some (vI 1), none, none, none, none]) T_266_180 rfl ?_
                  refine x_li (z := 1) T_266_182 rfl ?_
                  refine x_if T_266_184 (fun h => absurd (show (1 : Int) ≤ 0 from h) (by decide)) (fun _ => ?_)
                  refine x_lr (z := some 2281) T_266_187 rfl ?_
                  refine x_li (z := 1) T_266_188 rfl ?_
                  refine x_cv2 T_266_190 mN_235 mL_235 (Nat.le_of_ble_eq_true rfl) mO_235 (PM.t hP) (Nat.le_of_ble_eq_true rfl) (m_refuse hP (by omega)) ?_
                  rintro _ σ ⟨rfl, hP⟩
                  refine cV ?_
                  refine x_rv T_266_193 ?_
                  exact SV_not hP hR (by decide) (if_neg (by rw [if_neg (by omega), if_neg (by omega), if_neg (by omega), if_neg (by omega), if_neg (by omega), if_pos (by omega)]; decide)) (by rw [if_neg (by omega), if_neg (by omega), if_neg (by omega), if_neg (by omega), if_neg (by omega), if_pos (by omega)])
              · replace h157 : ¬ (0 ≤ old) := h157
                refine x_ic T_266_160 ?_
                refine x_goto T_266_162 ?_
                refine x_si (ls1 := [some (vR (some 2281)), some (vI s), some (vI c), some (vL v), none, some (vL w), none, some (vI nn), some (vI old), some (vI 1), some (vI old), some (vI 12), none, none, none, none]) T_266_180 rfl ?_
                refine x_li (z := 12) T_266_182 rfl ?_
                refine x_if T_266_184 (fun h => absurd (show (12 : Int) ≤ 0 from h) (by decide)) (fun _ => ?_)
                refine x_lr (z := some 2281) T_266_187 rfl ?_
                refine x_li (z := 12) T_266_188 rfl ?_
                refine x_cv2 T_266_190 mN_235 mL_235 (Nat.le_of_ble_eq_true rfl) mO_235 (PM.t hP) (Nat.le_of_ble_eq_true rfl) (m_refuse hP (by omega)) ?_
                rintro _ σ ⟨rfl, hP⟩
                refine cV ?_
                refine x_rv T_266_193 ?_
                exact SV_not hP hR (by decide) (if_neg (by rw [if_neg (by omega), if_neg (by omega), if_neg (by omega), if_neg (by omega), if_pos (by omega)]; decide)) (by rw [if_neg (by omega), if_neg (by omega), if_neg (by omega), if_neg (by omega), if_pos (by omega)])
            · replace h147 : ¬ (nn ≤ 8) := h147
              refine x_ic T_266_150 ?_
              refine x_goto T_266_152 ?_
              refine x_si (ls1 := [some (vR (some 2281)), some (vI s), some (vI c), some (vL v), none, some (vL w), none, some (vI nn), some (vI old), some (vI 1), some (vI old), some (vI 14), none, none, none, none]) T_266_180 rfl ?_
              refine x_li (z := 14) T_266_182 rfl ?_
              refine x_if T_266_184 (fun h => absurd (show (14 : Int) ≤ 0 from h) (by decide)) (fun _ => ?_)
              refine x_lr (z := some 2281) T_266_187 rfl ?_
              refine x_li (z := 14) T_266_188 rfl ?_
              refine x_cv2 T_266_190 mN_235 mL_235 (Nat.le_of_ble_eq_true rfl) mO_235 (PM.t hP) (Nat.le_of_ble_eq_true rfl) (m_refuse hP (by omega)) ?_
              rintro _ σ ⟨rfl, hP⟩
              refine cV ?_
              refine x_rv T_266_193 ?_
              exact SV_not hP hR (by decide) (if_neg (by rw [if_neg (by omega), if_neg (by omega), if_neg (by omega), if_pos (by omega)]; decide)) (by rw [if_neg (by omega), if_neg (by omega), if_neg (by omega), if_pos (by omega)])
          · replace h114 : ¬ (P 2309 old < 0) := h114
            refine x_ic T_266_117 ?_
            refine x_goto T_266_119 ?_
            refine x_si (ls1 := [some (vR (some 2281)), some (vI s), some (vI c), some (vL v), none, some (vL w), none, some (vI nn), some (vI old), some (vI 1), some (vI old), some (vI 8), none, none, none, none]) T_266_180 rfl ?_
            refine x_li (z := 8) T_266_182 rfl ?_
            refine x_if T_266_184 (fun h => absurd (show (8 : Int) ≤ 0 from h) (by decide)) (fun _ => ?_)
            refine x_lr (z := some 2281) T_266_187 rfl ?_
            refine x_li (z := 8) T_266_188 rfl ?_
            refine x_cv2 T_266_190 mN_235 mL_235 (Nat.le_of_ble_eq_true rfl) mO_235 (PM.t hP) (Nat.le_of_ble_eq_true rfl) (m_refuse hP (by omega)) ?_
            rintro _ σ ⟨rfl, hP⟩
            refine cV ?_
            refine x_rv T_266_193 ?_
            exact SV_not hP hR (by decide) (if_neg (by rw [if_neg (by omega), if_pos (by omega)]; decide)) (by rw [if_neg (by omega), if_pos (by omega)])
        · replace h99 : ¬ (0 ≤ old) := h99
          refine x_ic T_266_102 ?_
          refine x_goto T_266_104 ?_
          refine x_si (ls1 := [some (vR (some 2281)), some (vI s), some (vI c), some (vL v), none, some (vL w), none, some (vI nn), some (vI old), some (vI 1), some (vI old), some (vI 6), none, none, none, none]) T_266_180 rfl ?_
          refine x_li (z := 6) T_266_182 rfl ?_
          refine x_if T_266_184 (fun h => absurd (show (6 : Int) ≤ 0 from h) (by decide)) (fun _ => ?_)
          refine x_lr (z := some 2281) T_266_187 rfl ?_
          refine x_li (z := 6) T_266_188 rfl ?_
          refine x_cv2 T_266_190 mN_235 mL_235 (Nat.le_of_ble_eq_true rfl) mO_235 (PM.t hP) (Nat.le_of_ble_eq_true rfl) (m_refuse hP (by omega)) ?_
          rintro _ σ ⟨rfl, hP⟩
          refine cV ?_
          refine x_rv T_266_193 ?_
          exact SV_not hP hR (by decide) (if_neg (by rw [if_pos (by omega)]; decide)) (by rw [if_pos (by omega)])
      · have hko : k = fr := by rw [← hkd, if_neg hvw]
        subst hko
        refine x_lr (z := some 2281) T_266_48 rfl ?_
        have hw := r_isWhole (fb := fb) (d := d + 2) hP hR
        rw [if_pos hh, if_pos hh] at hw
        refine x_cv1 T_266_49 mN_241 mL_241 (Nat.le_of_ble_eq_true rfl) mO_241 (PM.t hP) (Nat.le_of_ble_eq_true rfl) (hw) ?_
        rintro _ σ ⟨rfl, hP⟩
        refine cI ?_
        refine x_if T_266_52 (fun _ => ?_) (fun h => absurd (show ¬ (1 : Int) = 0 by decide) h)
        refine x_lr (z := some 2281) T_266_56 rfl ?_
        refine x_li (z := s) T_266_57 rfl ?_
        refine x_li (z := c) T_266_58 rfl ?_
        refine x_ll (z := v) T_266_59 rfl ?_
        refine x_cv4 T_266_60 mN_261 mL_261 (Nat.le_of_ble_eq_true rfl) mO_261 (PM.t hP) (Nat.le_of_ble_eq_true rfl) (CL_val (m_findFid hP (by omega) (by omega)) hold) ?_
        rintro _ σ ⟨rfl, rfl⟩
        refine cI ?_
        refine x_si (ls1 := [some (vR (some 2281)), some (vI s), some (vI c), some (vL v), none, some (vL w), none, some (vI nn), some (vI old), none, none, none, none, none, none, none]) T_266_63 rfl ?_
        refine x_ll (z := v) T_266_65 rfl ?_
        refine x_ll (z := w) T_266_66 rfl ?_
        refine x_lif T_266_68 T_266_69 (fun _ => ?_) (fun h => absurd (show ¬ v = w by exact hvw) h)
        refine x_ic T_266_76 ?_
        refine x_si (ls1 := [some (vR (some 2281)), some (vI s), some (vI c), some (vL v), none, some (vL w), none, some (vI nn), some (vI old), some (vI 0), none, none, none, none, none, none]) T_266_77 rfl ?_
        refine x_li (z := 0) T_266_79 rfl ?_
        refine x_if T_266_81 (fun _ => ?_) (fun h => absurd (show (0 : Int) = 0 by decide) h)
        refine x_lr (z := some 2281) T_266_89 rfl ?_
        refine x_li (z := s) T_266_90 rfl ?_
        refine x_li (z := c) T_266_91 rfl ?_
        refine x_cv3 T_266_92 mN_260 mL_260 (Nat.le_of_ble_eq_true rfl) mO_260 (PM.t hP) (Nat.le_of_ble_eq_true rfl) (CL_val (m_freeFid hP (by omega) (by omega)) hfr0) ?_
        rintro _ σ ⟨rfl, rfl⟩
        refine cI ?_
        refine x_si (ls1 := [some (vR (some 2281)), some (vI s), some (vI c), some (vL v), none, some (vL w), none, some (vI nn), some (vI old), some (vI 0), some (vI k), none, none, none, none, none]) T_266_95 rfl ?_
        refine x_li (z := old) T_266_97 rfl ?_
        refine x_if T_266_99 (fun h99 => ?_) (fun h99 => ?_)
        · replace h99 : 0 ≤ old := h99
          refine x_lr (z := some 2281) T_266_107 rfl ?_
          refine x_gR (z := some 2309) T_266_108 F_17_33 (PM.t hP) (PM.r hP 33 2309 rfl) ?_
          refine x_li (z := old) T_266_111 rfl ?_
          have b1 : -1 ≤ P 2309 old ∧ P 2309 old ≤ 255 := IV.a hI 2309 0 288 rfl rfl rfl (by omega) (by omega)
          refine x_alI (z := P 2309 old) T_266_113 (by decide) (PM.ta hP 2309 0 288 rfl rfl) (by omega) (by omega) (PM.aP hP 2309 rfl rfl (by omega)) ?_
          refine x_if T_266_114 (fun h114 => ?_) (fun h114 => ?_)
          · replace h114 : P 2309 old < 0 := h114
            refine x_li (z := 0) T_266_122 rfl ?_
            refine x_if T_266_124 (fun h => absurd (show ¬ (0 : Int) = 0 from h) (by decide)) (fun _ => ?_)
            refine x_lr (z := some 2281) T_266_127 rfl ?_
            refine x_li (z := s) T_266_128 rfl ?_
            refine x_li (z := c) T_266_129 rfl ?_
            refine x_ll (z := w) T_266_130 rfl ?_
            refine x_cv4 T_266_132 mN_261 mL_261 (Nat.le_of_ble_eq_true rfl) mO_261 (PM.t hP) (Nat.le_of_ble_eq_true rfl) (m_findFid hP (by omega) (by omega)) ?_
            rintro _ σ ⟨rfl, rfl⟩
            refine cI ?_
            refine x_if T_266_135 (fun h135 => ?_) (fun h135 => ?_)
            · replace h135 : qFid P s c w < 0 := h135
              refine x_li (z := nn) T_266_143 rfl ?_
              refine x_ic T_266_145 ?_
              refine x_ic2 T_266_147 (fun h147 => ?_) (fun h147 => ?_)
              · replace h147 : nn ≤ 8 := h147
                refine x_li (z := k) T_266_155 rfl ?_
                refine x_if T_266_157 (fun h157 => ?_) (fun h157 => ?_)
                · replace h157 : 0 ≤ k := h157
                  refine x_lr (z := some 2281) T_266_165 rfl ?_
                  refine x_gR (z := some 2310) T_266_166 F_17_34 (PM.t hP) (PM.r hP 34 2310 rfl) ?_
                  refine x_li (z := old) T_266_169 rfl ?_
                  have b2 : 0 ≤ P 2310 old ∧ P 2310 old ≤ 1 := IV.a hI 2310 2 288 rfl rfl rfl (by omega) (by omega)
                  refine x_alI (z := P 2310 old) T_266_171 (by decide) (PM.ta hP 2310 2 288 rfl rfl) (by omega) (by omega) (PM.aP hP 2310 rfl rfl (by omega)) ?_
                  refine x_if T_266_172 (fun h172 => ?_) (fun h172 => ?_)
                  · replace h172 : P 2310 old = 0 := h172
                    refine x_ic T_266_179 ?_
                    refine x_si (ls1 := [some (vR (some 2281)), some (vI s), some (vI c), some (vL v), none, some (vL w), none, some (vI nn), some (vI old), some (vI 0), some (vI k), some (vI 0), none, none, none, none]) T_266_180 rfl ?_
                    refine x_li (z := 0) T_266_182 rfl ?_
                    refine x_if T_266_184 (fun _ => ?_) (fun h => absurd (show (0 : Int) ≤ 0 by decide) h)
                    refine x_lr (z := some 2281) T_266_194 rfl ?_
                    refine x_gR (z := some 2308) T_266_195 F_17_32 (PM.t hP) (PM.r hP 32 2308 rfl) ?_
                    refine x_li (z := old) T_266_198 rfl ?_
                    have b3 : 0 ≤ P 2308 old ∧ P 2308 old ≤ 3 := IV.a hI 2308 0 288 rfl rfl rfl (by omega) (by omega)
                    refine x_alI (z := P 2308 old) T_266_200 (by decide) (PM.ta hP 2308 0 288 rfl rfl) (by omega) (by omega) (PM.aP hP 2308 rfl rfl (by omega)) ?_
                    refine x_si (ls1 := [some (vR (some 2281)), some (vI s), some (vI c), some (vL v), none, some (vL w), none, some (vI nn), some (vI old), some (vI 0), some (vI k), some (vI 0), some (vI (P 2308 old)), none, none, none]) T_266_201 rfl ?_
                    refine x_lr (z := some 2281) T_266_203 rfl ?_
                    refine x_gR (z := some 2306) T_266_204 F_17_30 (PM.t hP) (PM.r hP 30 2306 rfl) ?_
                    refine x_li (z := old) T_266_207 rfl ?_
                    have b4 : 0 ≤ P 2306 old ∧ P 2306 old ≤ (if old < 192 then 63 else 143) := IV.a hI 2306 0 288 rfl rfl rfl (by omega) (by omega)
                    refine x_alI (z := P 2306 old) T_266_209 (by decide) (PM.ta hP 2306 0 288 rfl rfl) (by omega) (by omega) (PM.aP hP 2306 rfl rfl (by omega)) ?_
                    refine x_si (ls1 := [some (vR (some 2281)), some (vI s), some (vI c), some (vL v), none, some (vL w), none, some (vI nn), some (vI old), some (vI 0), some (vI k), some (vI 0), some (vI (P 2308 old)), some (vI (P 2306 old)), none, none]) T_266_210 rfl ?_
                    refine x_lr (z := some 2281) T_266_212 rfl ?_
                    refine x_ic T_266_213 ?_
                    refine x_cv2 T_266_215 mN_236 mL_236 (Nat.le_of_ble_eq_true rfl) mO_236 (PM.t hP) (Nat.le_of_ble_eq_true rfl) (m_reply hP) ?_
                    rintro _ σ ⟨rfl, hP⟩
                    refine cV ?_
                    refine x_lr (z := some 2281) T_266_218 rfl ?_
                    refine x_ic T_266_219 ?_
                    refine x_li (z := nn) T_266_220 rfl ?_
                    refine x_i2l T_266_222 ?_
                    refine x_cv3 T_266_223 mN_237 mL_237 (Nat.le_of_ble_eq_true rfl) mO_237 (PM.t hP) (Nat.le_of_ble_eq_true rfl) (m_put 2 rfl hP (by decide) rpl_z (by omega) (by omega)) ?_
                    rintro _ σ ⟨rfl, hP⟩
                    refine cV ?_
                    refine x_ic T_266_226 ?_
                    refine x_si (ls1 := [some (vR (some 2281)), some (vI s), some (vI c), some (vL v), none, some (vL w), none, some (vI nn), some (vI old), some (vI 0), some (vI k), some (vI 0), some (vI (P 2308 old)), some (vI (P 2306 old)), some (vI 0), none]) T_266_227 rfl ?_
                    refine x_ic T_266_229 ?_
                    refine x_si (ls1 := [some (vR (some 2281)), some (vI s), some (vI c), some (vL v), none, some (vL w), none, some (vI nn), some (vI old), some (vI 0), some (vI k), some (vI 0), some (vI (P 2308 old)), some (vI (P 2306 old)), some (vI 0), some (vI 0)]) T_266_230 rfl ?_
                    exact fin σ S1 0 hP hR.rw (by omega) (by omega) (fun q => by omega) (by omega) (by omega) (by omega)
                  · replace h172 : ¬ (P 2310 old = 0) := h172
                    refine x_ic T_266_175 ?_
                    refine x_goto T_266_176 ?_
                    refine x_si (ls1 := [some (vR (some 2281)), some (vI s), some (vI c), some (vL v), none, some (vL w), none, some (vI nn), some (vI old), some (vI 0), some (vI k), some (vI 1), none, none, none, none]) T_266_180 rfl ?_
                    refine x_li (z := 1) T_266_182 rfl ?_
                    refine x_if T_266_184 (fun h => absurd (show (1 : Int) ≤ 0 from h) (by decide)) (fun _ => ?_)
                    refine x_lr (z := some 2281) T_266_187 rfl ?_
                    refine x_li (z := 1) T_266_188 rfl ?_
                    refine x_cv2 T_266_190 mN_235 mL_235 (Nat.le_of_ble_eq_true rfl) mO_235 (PM.t hP) (Nat.le_of_ble_eq_true rfl) (m_refuse hP (by omega)) ?_
                    rintro _ σ ⟨rfl, hP⟩
                    refine cV ?_
                    refine x_rv T_266_193 ?_
                    exact SV_not hP hR (by decide) (if_neg (by rw [if_neg (by omega), if_neg (by omega), if_neg (by omega), if_neg (by omega), if_neg (by omega), if_pos (by omega)]; decide)) (by rw [if_neg (by omega), if_neg (by omega), if_neg (by omega), if_neg (by omega), if_neg (by omega), if_pos (by omega)])
                · replace h157 : ¬ (0 ≤ k) := h157
                  refine x_ic T_266_160 ?_
                  refine x_goto T_266_162 ?_
                  refine x_si (ls1 := [some (vR (some 2281)), some (vI s), some (vI c), some (vL v), none, some (vL w), none, some (vI nn), some (vI old), some (vI 0), some (vI k), some (vI 12), none, none, none, none]) T_266_180 rfl ?_
                  refine x_li (z := 12) T_266_182 rfl ?_
                  refine x_if T_266_184 (fun h => absurd (show (12 : Int) ≤ 0 from h) (by decide)) (fun _ => ?_)
                  refine x_lr (z := some 2281) T_266_187 rfl ?_
                  refine x_li (z := 12) T_266_188 rfl ?_
                  refine x_cv2 T_266_190 mN_235 mL_235 (Nat.le_of_ble_eq_true rfl) mO_235 (PM.t hP) (Nat.le_of_ble_eq_true rfl) (m_refuse hP (by omega)) ?_
                  rintro _ σ ⟨rfl, hP⟩
                  refine cV ?_
                  refine x_rv T_266_193 ?_
                  exact SV_not hP hR (by decide) (if_neg (by rw [if_neg (by omega), if_neg (by omega), if_neg (by omega), if_neg (by omega), if_pos (by omega)]; decide)) (by rw [if_neg (by omega), if_neg (by omega), if_neg (by omega), if_neg (by omega), if_pos (by omega)])
              · replace h147 : ¬ (nn ≤ 8) := h147
                refine x_ic T_266_150 ?_
                refine x_goto T_266_152 ?_
                refine x_si (ls1 := [some (vR (some 2281)), some (vI s), some (vI c), some (vL v), none, some (vL w), none, some (vI nn), some (vI old), some (vI 0), some (vI k), some (vI 14), none, none, none, none]) T_266_180 rfl ?_
                refine x_li (z := 14) T_266_182 rfl ?_
                refine x_if T_266_184 (fun h => absurd (show (14 : Int) ≤ 0 from h) (by decide)) (fun _ => ?_)
                refine x_lr (z := some 2281) T_266_187 rfl ?_
                refine x_li (z := 14) T_266_188 rfl ?_
                refine x_cv2 T_266_190 mN_235 mL_235 (Nat.le_of_ble_eq_true rfl) mO_235 (PM.t hP) (Nat.le_of_ble_eq_true rfl) (m_refuse hP (by omega)) ?_
                rintro _ σ ⟨rfl, hP⟩
                refine cV ?_
                refine x_rv T_266_193 ?_
                exact SV_not hP hR (by decide) (if_neg (by rw [if_neg (by omega), if_neg (by omega), if_neg (by omega), if_pos (by omega)]; decide)) (by rw [if_neg (by omega), if_neg (by omega), if_neg (by omega), if_pos (by omega)])
            · replace h135 : ¬ (qFid P s c w < 0) := h135
              refine x_ic T_266_138 ?_
              refine x_goto T_266_140 ?_
              refine x_si (ls1 := [some (vR (some 2281)), some (vI s), some (vI c), some (vL v), none, some (vL w), none, some (vI nn), some (vI old), some (vI 0), some (vI k), some (vI 7), none, none, none, none]) T_266_180 rfl ?_
              refine x_li (z := 7) T_266_182 rfl ?_
              refine x_if T_266_184 (fun h => absurd (show (7 : Int) ≤ 0 from h) (by decide)) (fun _ => ?_)
              refine x_lr (z := some 2281) T_266_187 rfl ?_
              refine x_li (z := 7) T_266_188 rfl ?_
              refine x_cv2 T_266_190 mN_235 mL_235 (Nat.le_of_ble_eq_true rfl) mO_235 (PM.t hP) (Nat.le_of_ble_eq_true rfl) (m_refuse hP (by omega)) ?_
              rintro _ σ ⟨rfl, hP⟩
              refine cV ?_
              refine x_rv T_266_193 ?_
              exact SV_not hP hR (by decide) (if_neg (by rw [if_neg (by omega), if_neg (by omega), if_pos (by omega)]; decide)) (by rw [if_neg (by omega), if_neg (by omega), if_pos (by omega)])
          · replace h114 : ¬ (P 2309 old < 0) := h114
            refine x_ic T_266_117 ?_
            refine x_goto T_266_119 ?_
            refine x_si (ls1 := [some (vR (some 2281)), some (vI s), some (vI c), some (vL v), none, some (vL w), none, some (vI nn), some (vI old), some (vI 0), some (vI k), some (vI 8), none, none, none, none]) T_266_180 rfl ?_
            refine x_li (z := 8) T_266_182 rfl ?_
            refine x_if T_266_184 (fun h => absurd (show (8 : Int) ≤ 0 from h) (by decide)) (fun _ => ?_)
            refine x_lr (z := some 2281) T_266_187 rfl ?_
            refine x_li (z := 8) T_266_188 rfl ?_
            refine x_cv2 T_266_190 mN_235 mL_235 (Nat.le_of_ble_eq_true rfl) mO_235 (PM.t hP) (Nat.le_of_ble_eq_true rfl) (m_refuse hP (by omega)) ?_
            rintro _ σ ⟨rfl, hP⟩
            refine cV ?_
            refine x_rv T_266_193 ?_
            exact SV_not hP hR (by decide) (if_neg (by rw [if_neg (by omega), if_pos (by omega)]; decide)) (by rw [if_neg (by omega), if_pos (by omega)])
        · replace h99 : ¬ (0 ≤ old) := h99
          refine x_ic T_266_102 ?_
          refine x_goto T_266_104 ?_
          refine x_si (ls1 := [some (vR (some 2281)), some (vI s), some (vI c), some (vL v), none, some (vL w), none, some (vI nn), some (vI old), some (vI 0), some (vI k), some (vI 6), none, none, none, none]) T_266_180 rfl ?_
          refine x_li (z := 6) T_266_182 rfl ?_
          refine x_if T_266_184 (fun h => absurd (show (6 : Int) ≤ 0 from h) (by decide)) (fun _ => ?_)
          refine x_lr (z := some 2281) T_266_187 rfl ?_
          refine x_li (z := 6) T_266_188 rfl ?_
          refine x_cv2 T_266_190 mN_235 mL_235 (Nat.le_of_ble_eq_true rfl) mO_235 (PM.t hP) (Nat.le_of_ble_eq_true rfl) (m_refuse hP (by omega)) ?_
          rintro _ σ ⟨rfl, hP⟩
          refine cV ?_
          refine x_rv T_266_193 ?_
          exact SV_not hP hR (by decide) (if_neg (by rw [if_pos (by omega)]; decide)) (by rw [if_pos (by omega)])
    · have hW : wlE P s c (S 2285) (S 2281 4) = 14 := by
        unfold wlE
        rw [hn0, hE]
        exact if_pos (fun q => hw q.2)
      rw [hW, if_neg (show ¬ (14 : Int) = 0 by decide)]
      have hh : ¬ (q = S 2281 4 ∧ 0 ≤ q) := by rcases hq with hq | hq <;> omega
      refine x_lr (z := some 2281) T_266_48 rfl ?_
      have hw := r_isWhole (fb := fb) (d := d + 2) hP hR
      rw [if_neg hh, if_neg hh] at hw
      refine x_cv1 T_266_49 mN_241 mL_241 (Nat.le_of_ble_eq_true rfl) mO_241 (PM.t hP) (Nat.le_of_ble_eq_true rfl) (hw) ?_
      rintro _ σ ⟨rfl, hP⟩
      refine cI ?_
      refine x_if T_266_52 (fun h => absurd (show ¬ (0 : Int) = 0 from h) (by decide)) (fun _ => ?_)
      refine x_rv T_266_55 ?_
      exact SV_no hP hR (by decide)
  · have hW : wlE P s c (S 2285) (S 2281 4) = 14 := by
      unfold wlE
      exact if_pos (fun q => h17 q.1)
    rw [hW, if_neg (show ¬ (14 : Int) = 0 by decide)]
    have ha : av (S 2281 4) (av (S 2281 4) (av (S 2281 4) 7 4) 4) 2 = -1 ∧ nv (S 2285) (S 2281 4) (av (S 2281 4) (av (S 2281 4) 7 4) 4) 2 = 0 := by
      have h1 : av (S 2281 4) (av (S 2281 4) 7 4) 4 < 0 ∨ S 2281 4 < av (S 2281 4) (av (S 2281 4) 7 4) 4 + 2 := by
        unfold av
        (repeat' split) <;> omega
      exact ⟨if_pos h1, if_pos h1⟩
    refine CL_in mL_266 rfl ?_
    show WP fb _ 266 0 [some (vR (some 2281)), some (vI s), some (vI c), none, none, none, none, none, none, none, none, none, none, none, none, none] [] σ _
    refine x_lr (z := some 2281) T_266_0 rfl ?_
    refine x_ic T_266_1 ?_
    refine x_cv2 T_266_2 mN_234 mL_234 (Nat.le_of_ble_eq_true rfl) mO_234 (PM.t hP) (Nat.le_of_ble_eq_true rfl) (r_num 4 rfl hP hR (by decide) rfl) ?_
    rintro _ σ ⟨rfl, S1, hP, hR⟩
    refine cL ?_
    refine x_sl (ls1 := [some (vR (some 2281)), some (vI s), some (vI c), some (vL (nv (S 2285) (S 2281 4) 7 4)), none, none, none, none, none, none, none, none, none, none, none, none]) T_266_5 rfl ?_
    refine x_lr (z := some 2281) T_266_6 rfl ?_
    refine x_ic T_266_7 ?_
    refine x_cv2 T_266_8 mN_234 mL_234 (Nat.le_of_ble_eq_true rfl) mO_234 (PM.t hP) (Nat.le_of_ble_eq_true rfl) (r_num 4 rfl hP hR (by decide) rfl) ?_
    rintro _ σ ⟨rfl, S1, hP, hR⟩
    refine cL ?_
    refine x_sl (ls1 := [some (vR (some 2281)), some (vI s), some (vI c), some (vL (nv (S 2285) (S 2281 4) 7 4)), none, some (vL (nv (S 2285) (S 2281 4) (av (S 2281 4) 7 4) 4)), none, none, none, none, none, none, none, none, none, none]) T_266_11 rfl ?_
    refine x_lr (z := some 2281) T_266_13 rfl ?_
    refine x_ic T_266_14 ?_
    refine x_cv2 T_266_15 mN_234 mL_234 (Nat.le_of_ble_eq_true rfl) mO_234 (PM.t hP) (Nat.le_of_ble_eq_true rfl) (r_num 2 rfl hP hR (by decide) ha.2) ?_
    rintro _ σ ⟨rfl, S1, hP, hR⟩
    rw [ha.1] at hR
    refine cL ?_
    refine x_l2i (w := 0) T_266_18 (w32_id (by omega) (by omega)) ?_
    refine x_si (ls1 := [some (vR (some 2281)), some (vI s), some (vI c), some (vL (nv (S 2285) (S 2281 4) 7 4)), none, some (vL (nv (S 2285) (S 2281 4) (av (S 2281 4) 7 4) 4)), none, some (vI 0), none, none, none, none, none, none, none, none]) T_266_19 rfl ?_
    refine x_ic T_266_21 ?_
    refine x_si (ls1 := [some (vR (some 2281)), some (vI s), some (vI c), some (vL (nv (S 2285) (S 2281 4) 7 4)), none, some (vL (nv (S 2285) (S 2281 4) (av (S 2281 4) 7 4) 4)), none, some (vI 0), some (vI 0), none, none, none, none, none, none, none]) T_266_22 rfl ?_
    refine x_li (z := 0) T_266_24 rfl ?_
    refine x_li (z := 0) T_266_26 rfl ?_
    refine x_ic2 T_266_28 (fun _ => ?_) (fun h => absurd (show 0 ≤ (0 : Int) by decide) h)
    have hh : ¬ ((-1 : Int) = S 2281 4 ∧ (0 : Int) ≤ -1) := fun q => absurd q.2 (by decide)
    refine x_lr (z := some 2281) T_266_48 rfl ?_
    have hw := r_isWhole (fb := fb) (d := d + 2) hP hR
    rw [if_neg hh, if_neg hh] at hw
    refine x_cv1 T_266_49 mN_241 mL_241 (Nat.le_of_ble_eq_true rfl) mO_241 (PM.t hP) (Nat.le_of_ble_eq_true rfl) (hw) ?_
    rintro _ σ ⟨rfl, hP⟩
    refine cI ?_
    refine x_if T_266_52 (fun h => absurd (show ¬ (0 : Int) = 0 from h) (by decide)) (fun _ => ?_)
    refine x_rv T_266_55 ?_
    exact SV_no hP hR (by decide)
end MSERVE6
