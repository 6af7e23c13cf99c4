/-! Whether a message ends where its parts do, whatever its type; the user that an attach names. -/
theorem T_35_0 : hTab 35 0 = some ((3, 0, 2, []), 1) := rfl
theorem T_35_1 : hTab 35 1 = some ((24, 7, Int.ofNat 9, []), 4) := rfl
theorem T_35_4 : hTab 35 4 = some ((31, 28, 0, []), 7) := rfl
theorem T_35_7 : hTab 35 7 = some ((4, 2, 0, []), 8) := rfl
theorem T_35_8 : hTab 35 8 = some ((3, 1, 0, []), 9) := rfl
theorem T_35_9 : hTab 35 9 = some ((23, 287, 100, [132, 287, 287, 287, 151, 287, 287, 287, 177, 287, 189, 287, 194, 287, 206, 287, 227, 287, 239, 287, 270, 287, 270, 287, 270, 287, 282]), 132) := rfl
theorem T_35_132 : hTab 35 132 = some ((3, 0, 2, []), 133) := rfl
theorem T_35_133 : hTab 35 133 = some ((24, 7, Int.ofNat 9, []), 136) := rfl
theorem T_35_136 : hTab 35 136 = some ((0, 0, 11, []), 138) := rfl
theorem T_35_138 : hTab 35 138 = some ((31, 36, 0, []), 141) := rfl
theorem T_35_141 : hTab 35 141 = some ((3, 2, 0, []), 142) := rfl
theorem T_35_142 : hTab 35 142 = some ((19, 1, Int.ofNat 149, []), 145) := rfl
theorem T_35_145 : hTab 35 145 = some ((0, 0, 1, []), 146) := rfl
theorem T_35_146 : hTab 35 146 = some ((22, 0, Int.ofNat 150, []), 149) := rfl
theorem T_35_149 : hTab 35 149 = some ((0, 0, 0, []), 150) := rfl
theorem T_35_150 : hTab 35 150 = some ((33, 2, 0, []), 151) := rfl
theorem T_35_151 : hTab 35 151 = some ((3, 0, 2, []), 152) := rfl
theorem T_35_152 : hTab 35 152 = some ((24, 7, Int.ofNat 9, []), 155) := rfl
theorem T_35_155 : hTab 35 155 = some ((3, 0, 2, []), 156) := rfl
theorem T_35_156 : hTab 35 156 = some ((24, 7, Int.ofNat 9, []), 159) := rfl
theorem T_35_159 : hTab 35 159 = some ((0, 0, 15, []), 161) := rfl
theorem T_35_161 : hTab 35 161 = some ((31, 36, 0, []), 164) := rfl
theorem T_35_164 : hTab 35 164 = some ((31, 36, 0, []), 167) := rfl
theorem T_35_167 : hTab 35 167 = some ((3, 2, 0, []), 168) := rfl
theorem T_35_168 : hTab 35 168 = some ((19, 1, Int.ofNat 175, []), 171) := rfl
theorem T_35_171 : hTab 35 171 = some ((0, 0, 1, []), 172) := rfl
theorem T_35_172 : hTab 35 172 = some ((22, 0, Int.ofNat 176, []), 175) := rfl
theorem T_35_175 : hTab 35 175 = some ((0, 0, 0, []), 176) := rfl
theorem T_35_176 : hTab 35 176 = some ((33, 2, 0, []), 177) := rfl
theorem T_35_177 : hTab 35 177 = some ((3, 2, 0, []), 178) := rfl
theorem T_35_178 : hTab 35 178 = some ((0, 0, 9, []), 180) := rfl
theorem T_35_180 : hTab 35 180 = some ((19, 1, Int.ofNat 187, []), 183) := rfl
theorem T_35_183 : hTab 35 183 = some ((0, 0, 1, []), 184) := rfl
theorem T_35_184 : hTab 35 184 = some ((22, 0, Int.ofNat 188, []), 187) := rfl
theorem T_35_187 : hTab 35 187 = some ((0, 0, 0, []), 188) := rfl
theorem T_35_188 : hTab 35 188 = some ((33, 2, 0, []), 189) := rfl
theorem T_35_189 : hTab 35 189 = some ((3, 0, 2, []), 190) := rfl
theorem T_35_190 : hTab 35 190 = some ((31, 37, 0, []), 193) := rfl
theorem T_35_193 : hTab 35 193 = some ((33, 2, 0, []), 194) := rfl
theorem T_35_194 : hTab 35 194 = some ((3, 2, 0, []), 195) := rfl
theorem T_35_195 : hTab 35 195 = some ((0, 0, 12, []), 197) := rfl
theorem T_35_197 : hTab 35 197 = some ((19, 1, Int.ofNat 204, []), 200) := rfl
theorem T_35_200 : hTab 35 200 = some ((0, 0, 1, []), 201) := rfl
theorem T_35_201 : hTab 35 201 = some ((22, 0, Int.ofNat 205, []), 204) := rfl
theorem T_35_204 : hTab 35 204 = some ((0, 0, 0, []), 205) := rfl
theorem T_35_205 : hTab 35 205 = some ((33, 2, 0, []), 206) := rfl
theorem T_35_206 : hTab 35 206 = some ((3, 0, 2, []), 207) := rfl
theorem T_35_207 : hTab 35 207 = some ((24, 7, Int.ofNat 9, []), 210) := rfl
theorem T_35_210 : hTab 35 210 = some ((0, 0, 11, []), 212) := rfl
theorem T_35_212 : hTab 35 212 = some ((31, 36, 0, []), 215) := rfl
theorem T_35_215 : hTab 35 215 = some ((3, 2, 0, []), 216) := rfl
theorem T_35_216 : hTab 35 216 = some ((0, 0, 5, []), 217) := rfl
theorem T_35_217 : hTab 35 217 = some ((10, 1, 0, []), 218) := rfl
theorem T_35_218 : hTab 35 218 = some ((19, 1, Int.ofNat 225, []), 221) := rfl
theorem T_35_221 : hTab 35 221 = some ((0, 0, 1, []), 222) := rfl
theorem T_35_222 : hTab 35 222 = some ((22, 0, Int.ofNat 226, []), 225) := rfl
theorem T_35_225 : hTab 35 225 = some ((0, 0, 0, []), 226) := rfl
theorem T_35_226 : hTab 35 226 = some ((33, 2, 0, []), 227) := rfl
theorem T_35_227 : hTab 35 227 = some ((3, 2, 0, []), 228) := rfl
theorem T_35_228 : hTab 35 228 = some ((0, 0, 23, []), 230) := rfl
theorem T_35_230 : hTab 35 230 = some ((19, 1, Int.ofNat 237, []), 233) := rfl
theorem T_35_233 : hTab 35 233 = some ((0, 0, 1, []), 234) := rfl
theorem T_35_234 : hTab 35 234 = some ((22, 0, Int.ofNat 238, []), 237) := rfl
theorem T_35_237 : hTab 35 237 = some ((0, 0, 0, []), 238) := rfl
theorem T_35_238 : hTab 35 238 = some ((33, 2, 0, []), 239) := rfl
theorem T_35_239 : hTab 35 239 = some ((3, 2, 0, []), 240) := rfl
theorem T_35_240 : hTab 35 240 = some ((0, 0, 23, []), 242) := rfl
theorem T_35_242 : hTab 35 242 = some ((19, 2, Int.ofNat 268, []), 245) := rfl
theorem T_35_245 : hTab 35 245 = some ((3, 0, 2, []), 246) := rfl
theorem T_35_246 : hTab 35 246 = some ((24, 7, Int.ofNat 9, []), 249) := rfl
theorem T_35_249 : hTab 35 249 = some ((0, 0, 19, []), 251) := rfl
theorem T_35_251 : hTab 35 251 = some ((0, 0, 4, []), 252) := rfl
theorem T_35_252 : hTab 35 252 = some ((31, 29, 0, []), 255) := rfl
theorem T_35_255 : hTab 35 255 = some ((3, 2, 0, []), 256) := rfl
theorem T_35_256 : hTab 35 256 = some ((0, 0, 23, []), 258) := rfl
theorem T_35_258 : hTab 35 258 = some ((10, 1, 0, []), 259) := rfl
theorem T_35_259 : hTab 35 259 = some ((14, 0, 0, []), 260) := rfl
theorem T_35_260 : hTab 35 260 = some ((17, 0, 0, []), 261) := rfl
theorem T_35_261 : hTab 35 261 = some ((18, 1, Int.ofNat 268, []), 264) := rfl
theorem T_35_264 : hTab 35 264 = some ((0, 0, 1, []), 265) := rfl
theorem T_35_265 : hTab 35 265 = some ((22, 0, Int.ofNat 269, []), 268) := rfl
theorem T_35_268 : hTab 35 268 = some ((0, 0, 0, []), 269) := rfl
theorem T_35_269 : hTab 35 269 = some ((33, 2, 0, []), 270) := rfl
theorem T_35_270 : hTab 35 270 = some ((3, 2, 0, []), 271) := rfl
theorem T_35_271 : hTab 35 271 = some ((0, 0, 11, []), 273) := rfl
theorem T_35_273 : hTab 35 273 = some ((19, 1, Int.ofNat 280, []), 276) := rfl
theorem T_35_276 : hTab 35 276 = some ((0, 0, 1, []), 277) := rfl
theorem T_35_277 : hTab 35 277 = some ((22, 0, Int.ofNat 281, []), 280) := rfl
theorem T_35_280 : hTab 35 280 = some ((0, 0, 0, []), 281) := rfl
theorem T_35_281 : hTab 35 281 = some ((33, 2, 0, []), 282) := rfl
theorem T_35_282 : hTab 35 282 = some ((3, 0, 2, []), 283) := rfl
theorem T_35_283 : hTab 35 283 = some ((31, 38, 0, []), 286) := rfl
theorem T_35_286 : hTab 35 286 = some ((33, 2, 0, []), 287) := rfl
theorem T_35_287 : hTab 35 287 = some ((0, 0, 0, []), 288) := rfl
theorem T_35_288 : hTab 35 288 = some ((33, 2, 0, []), 289) := rfl
theorem mN_35 : hmN 35 = 2 := by decide +kernel
theorem mL_35 : hmL 35 = 3 := by decide +kernel
theorem mK_35 : hmK 35 = 1 := by decide +kernel
theorem mO_35 : hmO 35 = 7 := by decide +kernel
section XWHL2
variable {fb : Bool} {d S mb N : Nat} {σ0 σ : hM} {W W0 W1 W2 P : qR} {R : rR} {i k x z v s e w c f u y n p : Int} {l nm ord : List Int}
theorem x_isWhole (hP : PX σ0 W R σ) (hS : VS S s) (hr : R S 2233 = some mb) (hB : BY W mb N l) (hz : (l.length : Int) = z) : CL fb (d + 2) 35 [vR (some S), vI k] σ (rP (whlV (lg l) z k) σ) := by
  have hO := hS.o
  have hbo := hB.1
  have hlz := hB.2.2.2.2.1
  have hn1 := hB.2.2.1
  have hb := hB.2.2.2.2.2.1
  have hsz := x_size (fb := fb) (d := d + 1) hP hB hz
  have hst := fun (p : Int) (h1 : -1 ≤ p) (h2 : p ≤ 1000) => x_stringEnd (fb := fb) (d := d + 1) (s := p) hP hB hz ⟨by omega, by omega⟩
  by_cases hk : 100 ≤ k ∧ k ≤ 126
  · have hk2 : k = 100 ∨ k = 101 ∨ k = 102 ∨ k = 103 ∨ k = 104 ∨ k = 105 ∨ k = 106 ∨ k = 107 ∨ k = 108 ∨ k = 109 ∨ k = 110 ∨ k = 111 ∨ k = 112 ∨ k = 113 ∨ k = 114 ∨ k = 115 ∨ k = 116 ∨ k = 117 ∨ k = 118 ∨ k = 119 ∨ k = 120 ∨ k = 121 ∨ k = 122 ∨ k = 123 ∨ k = 124 ∨ k = 125 ∨ k = 126 := by omega
    rcases hk2 with rfl | rfl | rfl | rfl | rfl | rfl | rfl | rfl | rfl | rfl | rfl | rfl | rfl | rfl | rfl | rfl | rfl | rfl | rfl | rfl | rfl | rfl | rfl | rfl | rfl | rfl | rfl
    · rw [show whlV (lg l) z 100 = (if sE (lg l) z 11 = z then 1 else 0) from rfl]
      have h1 := hst 11 (by decide) (by decide)
      obtain ⟨p1, hp1⟩ : ∃ p1, sE (lg l) z 11 = p1 := ⟨_, rfl⟩
      rw [hp1] at h1 ⊢
      by_cases q : p1 = z
      · rw [if_pos q]
        refine CL_in mL_35 rfl ?_
        show WP fb _ 35 0 [some (vR (some S)), some (vI 100), none] [] σ _
        refine x_lr (z := some S) T_35_0 rfl ?_
        refine x_gR (z := some mb) T_35_1 F_7_9 (hP.o hO) (Eq.trans (hP.rm hO rfl (key := 2233) rfl) hr) ?_
        refine x_cv1 T_35_4 mN_28 mL_28 (Nat.le_of_ble_eq_true rfl) mO_28 (hP.o hbo) (Nat.le_of_ble_eq_true rfl) (hsz) ?_
        rintro _ σ ⟨rfl, rfl⟩
        refine cI ?_
        refine x_si (ls1 := [some (vR (some S)), some (vI 100), some (vI z)]) T_35_7 rfl ?_
        refine x_li (z := 100) T_35_8 rfl ?_
        refine x_swIn T_35_9 (by decide) (by decide) rfl ?_
        refine x_lr (z := some S) T_35_132 rfl ?_
        refine x_gR (z := some mb) T_35_133 F_7_9 (hP.o hO) (Eq.trans (hP.rm hO rfl (key := 2233) rfl) hr) ?_
        refine x_ic T_35_136 ?_
        refine x_cv2 T_35_138 mN_36 mL_36 (Nat.le_of_ble_eq_true rfl) mO_36 (hP.o hbo) (Nat.le_of_ble_eq_true rfl) (h1) ?_
        rintro _ σ ⟨rfl, rfl⟩
        refine cI ?_
        refine x_li (z := z) T_35_141 rfl ?_
        refine x_ic2 T_35_142 (fun h => absurd (show ¬ p1 = z from h) (by omega)) (fun _ => ?_)
        refine x_ic T_35_145 ?_
        refine x_goto T_35_146 ?_
        refine x_rz T_35_150 rfl ?_
        exact ⟨rfl, rfl⟩
      · rw [if_neg q]
        refine CL_in mL_35 rfl ?_
        show WP fb _ 35 0 [some (vR (some S)), some (vI 100), none] [] σ _
        refine x_lr (z := some S) T_35_0 rfl ?_
        refine x_gR (z := some mb) T_35_1 F_7_9 (hP.o hO) (Eq.trans (hP.rm hO rfl (key := 2233) rfl) hr) ?_
        refine x_cv1 T_35_4 mN_28 mL_28 (Nat.le_of_ble_eq_true rfl) mO_28 (hP.o hbo) (Nat.le_of_ble_eq_true rfl) (hsz) ?_
        rintro _ σ ⟨rfl, rfl⟩
        refine cI ?_
        refine x_si (ls1 := [some (vR (some S)), some (vI 100), some (vI z)]) T_35_7 rfl ?_
        refine x_li (z := 100) T_35_8 rfl ?_
        refine x_swIn T_35_9 (by decide) (by decide) rfl ?_
        refine x_lr (z := some S) T_35_132 rfl ?_
        refine x_gR (z := some mb) T_35_133 F_7_9 (hP.o hO) (Eq.trans (hP.rm hO rfl (key := 2233) rfl) hr) ?_
        refine x_ic T_35_136 ?_
        refine x_cv2 T_35_138 mN_36 mL_36 (Nat.le_of_ble_eq_true rfl) mO_36 (hP.o hbo) (Nat.le_of_ble_eq_true rfl) (h1) ?_
        rintro _ σ ⟨rfl, rfl⟩
        refine cI ?_
        refine x_li (z := z) T_35_141 rfl ?_
        refine x_ic2 T_35_142 (fun _ => ?_) (fun h => absurd (show ¬ p1 = z by omega) h)
        refine x_ic T_35_149 ?_
        refine x_rz T_35_150 rfl ?_
        exact ⟨rfl, rfl⟩
    · rw [show whlV (lg l) z 101 = 0 from rfl]
      refine CL_in mL_35 rfl ?_
      show WP fb _ 35 0 [some (vR (some S)), some (vI 101), none] [] σ _
      refine x_lr (z := some S) T_35_0 rfl ?_
      refine x_gR (z := some mb) T_35_1 F_7_9 (hP.o hO) (Eq.trans (hP.rm hO rfl (key := 2233) rfl) hr) ?_
      refine x_cv1 T_35_4 mN_28 mL_28 (Nat.le_of_ble_eq_true rfl) mO_28 (hP.o hbo) (Nat.le_of_ble_eq_true rfl) (hsz) ?_
      rintro _ σ ⟨rfl, rfl⟩
      refine cI ?_
      refine x_si (ls1 := [some (vR (some S)), some (vI 101), some (vI z)]) T_35_7 rfl ?_
      refine x_li (z := 101) T_35_8 rfl ?_
      refine x_swIn T_35_9 (by decide) (by decide) rfl ?_
      refine x_ic T_35_287 ?_
      refine x_rz T_35_288 rfl ?_
      exact ⟨rfl, rfl⟩
    · rw [show whlV (lg l) z 102 = 0 from rfl]
      refine CL_in mL_35 rfl ?_
      show WP fb _ 35 0 [some (vR (some S)), some (vI 102), none] [] σ _
      refine x_lr (z := some S) T_35_0 rfl ?_
      refine x_gR (z := some mb) T_35_1 F_7_9 (hP.o hO) (Eq.trans (hP.rm hO rfl (key := 2233) rfl) hr) ?_
      refine x_cv1 T_35_4 mN_28 mL_28 (Nat.le_of_ble_eq_true rfl) mO_28 (hP.o hbo) (Nat.le_of_ble_eq_true rfl) (hsz) ?_
      rintro _ σ ⟨rfl, rfl⟩
      refine cI ?_
      refine x_si (ls1 := [some (vR (some S)), some (vI 102), some (vI z)]) T_35_7 rfl ?_
      refine x_li (z := 102) T_35_8 rfl ?_
      refine x_swIn T_35_9 (by decide) (by decide) rfl ?_
      refine x_ic T_35_287 ?_
      refine x_rz T_35_288 rfl ?_
      exact ⟨rfl, rfl⟩
    · rw [show whlV (lg l) z 103 = 0 from rfl]
      refine CL_in mL_35 rfl ?_
      show WP fb _ 35 0 [some (vR (some S)), some (vI 103), none] [] σ _
      refine x_lr (z := some S) T_35_0 rfl ?_
      refine x_gR (z := some mb) T_35_1 F_7_9 (hP.o hO) (Eq.trans (hP.rm hO rfl (key := 2233) rfl) hr) ?_
      refine x_cv1 T_35_4 mN_28 mL_28 (Nat.le_of_ble_eq_true rfl) mO_28 (hP.o hbo) (Nat.le_of_ble_eq_true rfl) (hsz) ?_
      rintro _ σ ⟨rfl, rfl⟩
      refine cI ?_
      refine x_si (ls1 := [some (vR (some S)), some (vI 103), some (vI z)]) T_35_7 rfl ?_
      refine x_li (z := 103) T_35_8 rfl ?_
      refine x_swIn T_35_9 (by decide) (by decide) rfl ?_
      refine x_ic T_35_287 ?_
      refine x_rz T_35_288 rfl ?_
      exact ⟨rfl, rfl⟩
    · rw [show whlV (lg l) z 104 = (if sE (lg l) z (sE (lg l) z 15) = z then 1 else 0) from rfl]
      have h1 := hst 15 (by decide) (by decide)
      have hrg : -1 ≤ sE (lg l) z 15 ∧ sE (lg l) z 15 ≤ 1000 := by
        by_cases c : 0 ≤ sE (lg l) z 15
        · have := sE_ge c
          omega
        · have := nu_rng (f := lg l) (i := 15) 2 (fun j _ => hb _ (by omega))
          unfold sE at c ⊢
          split
          · omega
          · split <;> omega
      have h2 := hst _ hrg.1 hrg.2
      obtain ⟨p1, hp1⟩ : ∃ p1, sE (lg l) z 15 = p1 := ⟨_, rfl⟩
      rw [hp1] at h1 h2 ⊢
      obtain ⟨p2, hp2⟩ : ∃ p2, sE (lg l) z p1 = p2 := ⟨_, rfl⟩
      rw [hp2] at h2 ⊢
      by_cases q : p2 = z
      · rw [if_pos q]
        refine CL_in mL_35 rfl ?_
        show WP fb _ 35 0 [some (vR (some S)), some (vI 104), none] [] σ _
        refine x_lr (z := some S) T_35_0 rfl ?_
        refine x_gR (z := some mb) T_35_1 F_7_9 (hP.o hO) (Eq.trans (hP.rm hO rfl (key := 2233) rfl) hr) ?_
        refine x_cv1 T_35_4 mN_28 mL_28 (Nat.le_of_ble_eq_true rfl) mO_28 (hP.o hbo) (Nat.le_of_ble_eq_true rfl) (hsz) ?_
        rintro _ σ ⟨rfl, rfl⟩
        refine cI ?_
        refine x_si (ls1 := [some (vR (some S)), some (vI 104), some (vI z)]) T_35_7 rfl ?_
        refine x_li (z := 104) T_35_8 rfl ?_
        refine x_swIn T_35_9 (by decide) (by decide) rfl ?_
        refine x_lr (z := some S) T_35_151 rfl ?_
        refine x_gR (z := some mb) T_35_152 F_7_9 (hP.o hO) (Eq.trans (hP.rm hO rfl (key := 2233) rfl) hr) ?_
        refine x_lr (z := some S) T_35_155 rfl ?_
        refine x_gR (z := some mb) T_35_156 F_7_9 (hP.o hO) (Eq.trans (hP.rm hO rfl (key := 2233) rfl) hr) ?_
        refine x_ic T_35_159 ?_
        refine x_cv2 T_35_161 mN_36 mL_36 (Nat.le_of_ble_eq_true rfl) mO_36 (hP.o hbo) (Nat.le_of_ble_eq_true rfl) (h1) ?_
        rintro _ σ ⟨rfl, rfl⟩
        refine cI ?_
        refine x_cv2 T_35_164 mN_36 mL_36 (Nat.le_of_ble_eq_true rfl) mO_36 (hP.o hbo) (Nat.le_of_ble_eq_true rfl) (h2) ?_
        rintro _ σ ⟨rfl, rfl⟩
        refine cI ?_
        refine x_li (z := z) T_35_167 rfl ?_
        refine x_ic2 T_35_168 (fun h => absurd (show ¬ p2 = z from h) (by omega)) (fun _ => ?_)
        refine x_ic T_35_171 ?_
        refine x_goto T_35_172 ?_
        refine x_rz T_35_176 rfl ?_
        exact ⟨rfl, rfl⟩
      · rw [if_neg q]
        refine CL_in mL_35 rfl ?_
        show WP fb _ 35 0 [some (vR (some S)), some (vI 104), none] [] σ _
        refine x_lr (z := some S) T_35_0 rfl ?_
        refine x_gR (z := some mb) T_35_1 F_7_9 (hP.o hO) (Eq.trans (hP.rm hO rfl (key := 2233) rfl) hr) ?_
        refine x_cv1 T_35_4 mN_28 mL_28 (Nat.le_of_ble_eq_true rfl) mO_28 (hP.o hbo) (Nat.le_of_ble_eq_true rfl) (hsz) ?_
        rintro _ σ ⟨rfl, rfl⟩
        refine cI ?_
        refine x_si (ls1 := [some (vR (some S)), some (vI 104), some (vI z)]) T_35_7 rfl ?_
        refine x_li (z := 104) T_35_8 rfl ?_
        refine x_swIn T_35_9 (by decide) (by decide) rfl ?_
        refine x_lr (z := some S) T_35_151 rfl ?_
        refine x_gR (z := some mb) T_35_152 F_7_9 (hP.o hO) (Eq.trans (hP.rm hO rfl (key := 2233) rfl) hr) ?_
        refine x_lr (z := some S) T_35_155 rfl ?_
        refine x_gR (z := some mb) T_35_156 F_7_9 (hP.o hO) (Eq.trans (hP.rm hO rfl (key := 2233) rfl) hr) ?_
        refine x_ic T_35_159 ?_
        refine x_cv2 T_35_161 mN_36 mL_36 (Nat.le_of_ble_eq_true rfl) mO_36 (hP.o hbo) (Nat.le_of_ble_eq_true rfl) (h1) ?_
        rintro _ σ ⟨rfl, rfl⟩
        refine cI ?_
        refine x_cv2 T_35_164 mN_36 mL_36 (Nat.le_of_ble_eq_true rfl) mO_36 (hP.o hbo) (Nat.le_of_ble_eq_true rfl) (h2) ?_
        rintro _ σ ⟨rfl, rfl⟩
        refine cI ?_
        refine x_li (z := z) T_35_167 rfl ?_
        refine x_ic2 T_35_168 (fun _ => ?_) (fun h => absurd (show ¬ p2 = z by omega) h)
        refine x_ic T_35_175 ?_
        refine x_rz T_35_176 rfl ?_
        exact ⟨rfl, rfl⟩
    · rw [show whlV (lg l) z 105 = 0 from rfl]
      refine CL_in mL_35 rfl ?_
      show WP fb _ 35 0 [some (vR (some S)), some (vI 105), none] [] σ _
      refine x_lr (z := some S) T_35_0 rfl ?_
      refine x_gR (z := some mb) T_35_1 F_7_9 (hP.o hO) (Eq.trans (hP.rm hO rfl (key := 2233) rfl) hr) ?_
      refine x_cv1 T_35_4 mN_28 mL_28 (Nat.le_of_ble_eq_true rfl) mO_28 (hP.o hbo) (Nat.le_of_ble_eq_true rfl) (hsz) ?_
      rintro _ σ ⟨rfl, rfl⟩
      refine cI ?_
      refine x_si (ls1 := [some (vR (some S)), some (vI 105), some (vI z)]) T_35_7 rfl ?_
      refine x_li (z := 105) T_35_8 rfl ?_
      refine x_swIn T_35_9 (by decide) (by decide) rfl ?_
      refine x_ic T_35_287 ?_
      refine x_rz T_35_288 rfl ?_
      exact ⟨rfl, rfl⟩
    · rw [show whlV (lg l) z 106 = 0 from rfl]
      refine CL_in mL_35 rfl ?_
      show WP fb _ 35 0 [some (vR (some S)), some (vI 106), none] [] σ _
      refine x_lr (z := some S) T_35_0 rfl ?_
      refine x_gR (z := some mb) T_35_1 F_7_9 (hP.o hO) (Eq.trans (hP.rm hO rfl (key := 2233) rfl) hr) ?_
      refine x_cv1 T_35_4 mN_28 mL_28 (Nat.le_of_ble_eq_true rfl) mO_28 (hP.o hbo) (Nat.le_of_ble_eq_true rfl) (hsz) ?_
      rintro _ σ ⟨rfl, rfl⟩
      refine cI ?_
      refine x_si (ls1 := [some (vR (some S)), some (vI 106), some (vI z)]) T_35_7 rfl ?_
      refine x_li (z := 106) T_35_8 rfl ?_
      refine x_swIn T_35_9 (by decide) (by decide) rfl ?_
      refine x_ic T_35_287 ?_
      refine x_rz T_35_288 rfl ?_
      exact ⟨rfl, rfl⟩
    · rw [show whlV (lg l) z 107 = 0 from rfl]
      refine CL_in mL_35 rfl ?_
      show WP fb _ 35 0 [some (vR (some S)), some (vI 107), none] [] σ _
      refine x_lr (z := some S) T_35_0 rfl ?_
      refine x_gR (z := some mb) T_35_1 F_7_9 (hP.o hO) (Eq.trans (hP.rm hO rfl (key := 2233) rfl) hr) ?_
      refine x_cv1 T_35_4 mN_28 mL_28 (Nat.le_of_ble_eq_true rfl) mO_28 (hP.o hbo) (Nat.le_of_ble_eq_true rfl) (hsz) ?_
      rintro _ σ ⟨rfl, rfl⟩
      refine cI ?_
      refine x_si (ls1 := [some (vR (some S)), some (vI 107), some (vI z)]) T_35_7 rfl ?_
      refine x_li (z := 107) T_35_8 rfl ?_
      refine x_swIn T_35_9 (by decide) (by decide) rfl ?_
      refine x_ic T_35_287 ?_
      refine x_rz T_35_288 rfl ?_
      exact ⟨rfl, rfl⟩
    · rw [show whlV (lg l) z 108 = (if z = 9 then 1 else 0) from rfl]
      by_cases q : z = 9
      · rw [if_pos q]
        refine CL_in mL_35 rfl ?_
        show WP fb _ 35 0 [some (vR (some S)), some (vI 108), none] [] σ _
        refine x_lr (z := some S) T_35_0 rfl ?_
        refine x_gR (z := some mb) T_35_1 F_7_9 (hP.o hO) (Eq.trans (hP.rm hO rfl (key := 2233) rfl) hr) ?_
        refine x_cv1 T_35_4 mN_28 mL_28 (Nat.le_of_ble_eq_true rfl) mO_28 (hP.o hbo) (Nat.le_of_ble_eq_true rfl) (hsz) ?_
        rintro _ σ ⟨rfl, rfl⟩
        refine cI ?_
        refine x_si (ls1 := [some (vR (some S)), some (vI 108), some (vI z)]) T_35_7 rfl ?_
        refine x_li (z := 108) T_35_8 rfl ?_
        refine x_swIn T_35_9 (by decide) (by decide) rfl ?_
        refine x_li (z := z) T_35_177 rfl ?_
        refine x_ic T_35_178 ?_
        refine x_ic2 T_35_180 (fun h => absurd (show ¬ z = 9 from h) (by omega)) (fun _ => ?_)
        refine x_ic T_35_183 ?_
        refine x_goto T_35_184 ?_
        refine x_rz T_35_188 rfl ?_
        exact ⟨rfl, rfl⟩
      · rw [if_neg q]
        refine CL_in mL_35 rfl ?_
        show WP fb _ 35 0 [some (vR (some S)), some (vI 108), none] [] σ _
        refine x_lr (z := some S) T_35_0 rfl ?_
        refine x_gR (z := some mb) T_35_1 F_7_9 (hP.o hO) (Eq.trans (hP.rm hO rfl (key := 2233) rfl) hr) ?_
        refine x_cv1 T_35_4 mN_28 mL_28 (Nat.le_of_ble_eq_true rfl) mO_28 (hP.o hbo) (Nat.le_of_ble_eq_true rfl) (hsz) ?_
        rintro _ σ ⟨rfl, rfl⟩
        refine cI ?_
        refine x_si (ls1 := [some (vR (some S)), some (vI 108), some (vI z)]) T_35_7 rfl ?_
        refine x_li (z := 108) T_35_8 rfl ?_
        refine x_swIn T_35_9 (by decide) (by decide) rfl ?_
        refine x_li (z := z) T_35_177 rfl ?_
        refine x_ic T_35_178 ?_
        refine x_ic2 T_35_180 (fun _ => ?_) (fun h => absurd (show ¬ z = 9 by omega) h)
        refine x_ic T_35_187 ?_
        refine x_rz T_35_188 rfl ?_
        exact ⟨rfl, rfl⟩
    · rw [show whlV (lg l) z 109 = 0 from rfl]
      refine CL_in mL_35 rfl ?_
      show WP fb _ 35 0 [some (vR (some S)), some (vI 109), none] [] σ _
      refine x_lr (z := some S) T_35_0 rfl ?_
      refine x_gR (z := some mb) T_35_1 F_7_9 (hP.o hO) (Eq.trans (hP.rm hO rfl (key := 2233) rfl) hr) ?_
      refine x_cv1 T_35_4 mN_28 mL_28 (Nat.le_of_ble_eq_true rfl) mO_28 (hP.o hbo) (Nat.le_of_ble_eq_true rfl) (hsz) ?_
      rintro _ σ ⟨rfl, rfl⟩
      refine cI ?_
      refine x_si (ls1 := [some (vR (some S)), some (vI 109), some (vI z)]) T_35_7 rfl ?_
      refine x_li (z := 109) T_35_8 rfl ?_
      refine x_swIn T_35_9 (by decide) (by decide) rfl ?_
      refine x_ic T_35_287 ?_
      refine x_rz T_35_288 rfl ?_
      exact ⟨rfl, rfl⟩
    · rw [show whlV (lg l) z 110 = (if 17 ≤ z ∧ wkE (lg l) z (nu (lg l) 15 2).toNat 17 = z then 1 else 0) from rfl]
      have h1 := x_areNames (fb := fb) (d := d) hP hS hr hB hz
      obtain ⟨y, hy⟩ : ∃ y : Int, (if 17 ≤ z ∧ wkE (lg l) z (nu (lg l) 15 2).toNat 17 = z then (1 : Int) else 0) = y := ⟨_, rfl⟩
      have hy2 : 0 ≤ y ∧ y ≤ 1 := by rw [← hy]; split <;> decide
      rw [hy] at h1 ⊢
      refine CL_in mL_35 rfl ?_
      show WP fb _ 35 0 [some (vR (some S)), some (vI 110), none] [] σ _
      refine x_lr (z := some S) T_35_0 rfl ?_
      refine x_gR (z := some mb) T_35_1 F_7_9 (hP.o hO) (Eq.trans (hP.rm hO rfl (key := 2233) rfl) hr) ?_
      refine x_cv1 T_35_4 mN_28 mL_28 (Nat.le_of_ble_eq_true rfl) mO_28 (hP.o hbo) (Nat.le_of_ble_eq_true rfl) (hsz) ?_
      rintro _ σ ⟨rfl, rfl⟩
      refine cI ?_
      refine x_si (ls1 := [some (vR (some S)), some (vI 110), some (vI z)]) T_35_7 rfl ?_
      refine x_li (z := 110) T_35_8 rfl ?_
      refine x_swIn T_35_9 (by decide) (by decide) rfl ?_
      refine x_lr (z := some S) T_35_189 rfl ?_
      refine x_cv1 T_35_190 mN_37 mL_37 (Nat.le_of_ble_eq_true rfl) mO_37 (hP.o hO) (Nat.le_of_ble_eq_true rfl) (h1) ?_
      rintro _ σ ⟨rfl, rfl⟩
      refine cI ?_
      refine x_rz T_35_193 (h01_of (by omega)) ?_
      exact ⟨rfl, rfl⟩
    · rw [show whlV (lg l) z 111 = 0 from rfl]
      refine CL_in mL_35 rfl ?_
      show WP fb _ 35 0 [some (vR (some S)), some (vI 111), none] [] σ _
      refine x_lr (z := some S) T_35_0 rfl ?_
      refine x_gR (z := some mb) T_35_1 F_7_9 (hP.o hO) (Eq.trans (hP.rm hO rfl (key := 2233) rfl) hr) ?_
      refine x_cv1 T_35_4 mN_28 mL_28 (Nat.le_of_ble_eq_true rfl) mO_28 (hP.o hbo) (Nat.le_of_ble_eq_true rfl) (hsz) ?_
      rintro _ σ ⟨rfl, rfl⟩
      refine cI ?_
      refine x_si (ls1 := [some (vR (some S)), some (vI 111), some (vI z)]) T_35_7 rfl ?_
      refine x_li (z := 111) T_35_8 rfl ?_
      refine x_swIn T_35_9 (by decide) (by decide) rfl ?_
      refine x_ic T_35_287 ?_
      refine x_rz T_35_288 rfl ?_
      exact ⟨rfl, rfl⟩
    · rw [show whlV (lg l) z 112 = (if z = 12 then 1 else 0) from rfl]
      by_cases q : z = 12
      · rw [if_pos q]
        refine CL_in mL_35 rfl ?_
        show WP fb _ 35 0 [some (vR (some S)), some (vI 112), none] [] σ _
        refine x_lr (z := some S) T_35_0 rfl ?_
        refine x_gR (z := some mb) T_35_1 F_7_9 (hP.o hO) (Eq.trans (hP.rm hO rfl (key := 2233) rfl) hr) ?_
        refine x_cv1 T_35_4 mN_28 mL_28 (Nat.le_of_ble_eq_true rfl) mO_28 (hP.o hbo) (Nat.le_of_ble_eq_true rfl) (hsz) ?_
        rintro _ σ ⟨rfl, rfl⟩
        refine cI ?_
        refine x_si (ls1 := [some (vR (some S)), some (vI 112), some (vI z)]) T_35_7 rfl ?_
        refine x_li (z := 112) T_35_8 rfl ?_
        refine x_swIn T_35_9 (by decide) (by decide) rfl ?_
        refine x_li (z := z) T_35_194 rfl ?_
        refine x_ic T_35_195 ?_
        refine x_ic2 T_35_197 (fun h => absurd (show ¬ z = 12 from h) (by omega)) (fun _ => ?_)
        refine x_ic T_35_200 ?_
        refine x_goto T_35_201 ?_
        refine x_rz T_35_205 rfl ?_
        exact ⟨rfl, rfl⟩
      · rw [if_neg q]
        refine CL_in mL_35 rfl ?_
        show WP fb _ 35 0 [some (vR (some S)), some (vI 112), none] [] σ _
        refine x_lr (z := some S) T_35_0 rfl ?_
        refine x_gR (z := some mb) T_35_1 F_7_9 (hP.o hO) (Eq.trans (hP.rm hO rfl (key := 2233) rfl) hr) ?_
        refine x_cv1 T_35_4 mN_28 mL_28 (Nat.le_of_ble_eq_true rfl) mO_28 (hP.o hbo) (Nat.le_of_ble_eq_true rfl) (hsz) ?_
        rintro _ σ ⟨rfl, rfl⟩
        refine cI ?_
        refine x_si (ls1 := [some (vR (some S)), some (vI 112), some (vI z)]) T_35_7 rfl ?_
        refine x_li (z := 112) T_35_8 rfl ?_
        refine x_swIn T_35_9 (by decide) (by decide) rfl ?_
        refine x_li (z := z) T_35_194 rfl ?_
        refine x_ic T_35_195 ?_
        refine x_ic2 T_35_197 (fun _ => ?_) (fun h => absurd (show ¬ z = 12 by omega) h)
        refine x_ic T_35_204 ?_
        refine x_rz T_35_205 rfl ?_
        exact ⟨rfl, rfl⟩
    · rw [show whlV (lg l) z 113 = 0 from rfl]
      refine CL_in mL_35 rfl ?_
      show WP fb _ 35 0 [some (vR (some S)), some (vI 113), none] [] σ _
      refine x_lr (z := some S) T_35_0 rfl ?_
      refine x_gR (z := some mb) T_35_1 F_7_9 (hP.o hO) (Eq.trans (hP.rm hO rfl (key := 2233) rfl) hr) ?_
      refine x_cv1 T_35_4 mN_28 mL_28 (Nat.le_of_ble_eq_true rfl) mO_28 (hP.o hbo) (Nat.le_of_ble_eq_true rfl) (hsz) ?_
      rintro _ σ ⟨rfl, rfl⟩
      refine cI ?_
      refine x_si (ls1 := [some (vR (some S)), some (vI 113), some (vI z)]) T_35_7 rfl ?_
      refine x_li (z := 113) T_35_8 rfl ?_
      refine x_swIn T_35_9 (by decide) (by decide) rfl ?_
      refine x_ic T_35_287 ?_
      refine x_rz T_35_288 rfl ?_
      exact ⟨rfl, rfl⟩
    · rw [show whlV (lg l) z 114 = (if sE (lg l) z 11 = z - 5 then 1 else 0) from rfl]
      have h1 := hst 11 (by decide) (by decide)
      obtain ⟨p1, hp1⟩ : ∃ p1, sE (lg l) z 11 = p1 := ⟨_, rfl⟩
      rw [hp1] at h1 ⊢
      by_cases q : p1 = z - 5
      · rw [if_pos q]
        refine CL_in mL_35 rfl ?_
        show WP fb _ 35 0 [some (vR (some S)), some (vI 114), none] [] σ _
        refine x_lr (z := some S) T_35_0 rfl ?_
        refine x_gR (z := some mb) T_35_1 F_7_9 (hP.o hO) (Eq.trans (hP.rm hO rfl (key := 2233) rfl) hr) ?_
        refine x_cv1 T_35_4 mN_28 mL_28 (Nat.le_of_ble_eq_true rfl) mO_28 (hP.o hbo) (Nat.le_of_ble_eq_true rfl) (hsz) ?_
        rintro _ σ ⟨rfl, rfl⟩
        refine cI ?_
        refine x_si (ls1 := [some (vR (some S)), some (vI 114), some (vI z)]) T_35_7 rfl ?_
        refine x_li (z := 114) T_35_8 rfl ?_
        refine x_swIn T_35_9 (by decide) (by decide) rfl ?_
        refine x_lr (z := some S) T_35_206 rfl ?_
        refine x_gR (z := some mb) T_35_207 F_7_9 (hP.o hO) (Eq.trans (hP.rm hO rfl (key := 2233) rfl) hr) ?_
        refine x_ic T_35_210 ?_
        refine x_cv2 T_35_212 mN_36 mL_36 (Nat.le_of_ble_eq_true rfl) mO_36 (hP.o hbo) (Nat.le_of_ble_eq_true rfl) (h1) ?_
        rintro _ σ ⟨rfl, rfl⟩
        refine cI ?_
        refine x_li (z := z) T_35_215 rfl ?_
        refine x_ic T_35_216 ?_
        refine x_ib (w := (z - 5)) T_35_217 (fun h => absurd h.1 (by decide)) (w32_id (by omega) (by omega)) ?_
        refine x_ic2 T_35_218 (fun h => absurd (show ¬ p1 = (z - 5) from h) (by omega)) (fun _ => ?_)
        refine x_ic T_35_221 ?_
        refine x_goto T_35_222 ?_
        refine x_rz T_35_226 rfl ?_
        exact ⟨rfl, rfl⟩
      · rw [if_neg q]
        refine CL_in mL_35 rfl ?_
        show WP fb _ 35 0 [some (vR (some S)), some (vI 114), none] [] σ _
        refine x_lr (z := some S) T_35_0 rfl ?_
        refine x_gR (z := some mb) T_35_1 F_7_9 (hP.o hO) (Eq.trans (hP.rm hO rfl (key := 2233) rfl) hr) ?_
        refine x_cv1 T_35_4 mN_28 mL_28 (Nat.le_of_ble_eq_true rfl) mO_28 (hP.o hbo) (Nat.le_of_ble_eq_true rfl) (hsz) ?_
        rintro _ σ ⟨rfl, rfl⟩
        refine cI ?_
        refine x_si (ls1 := [some (vR (some S)), some (vI 114), some (vI z)]) T_35_7 rfl ?_
        refine x_li (z := 114) T_35_8 rfl ?_
        refine x_swIn T_35_9 (by decide) (by decide) rfl ?_
        refine x_lr (z := some S) T_35_206 rfl ?_
        refine x_gR (z := some mb) T_35_207 F_7_9 (hP.o hO) (Eq.trans (hP.rm hO rfl (key := 2233) rfl) hr) ?_
        refine x_ic T_35_210 ?_
        refine x_cv2 T_35_212 mN_36 mL_36 (Nat.le_of_ble_eq_true rfl) mO_36 (hP.o hbo) (Nat.le_of_ble_eq_true rfl) (h1) ?_
        rintro _ σ ⟨rfl, rfl⟩
        refine cI ?_
        refine x_li (z := z) T_35_215 rfl ?_
        refine x_ic T_35_216 ?_
        refine x_ib (w := (z - 5)) T_35_217 (fun h => absurd h.1 (by decide)) (w32_id (by omega) (by omega)) ?_
        refine x_ic2 T_35_218 (fun _ => ?_) (fun h => absurd (show ¬ p1 = (z - 5) by omega) h)
        refine x_ic T_35_225 ?_
        refine x_rz T_35_226 rfl ?_
        exact ⟨rfl, rfl⟩
    · rw [show whlV (lg l) z 115 = 0 from rfl]
      refine CL_in mL_35 rfl ?_
      show WP fb _ 35 0 [some (vR (some S)), some (vI 115), none] [] σ _
      refine x_lr (z := some S) T_35_0 rfl ?_
      refine x_gR (z := some mb) T_35_1 F_7_9 (hP.o hO) (Eq.trans (hP.rm hO rfl (key := 2233) rfl) hr) ?_
      refine x_cv1 T_35_4 mN_28 mL_28 (Nat.le_of_ble_eq_true rfl) mO_28 (hP.o hbo) (Nat.le_of_ble_eq_true rfl) (hsz) ?_
      rintro _ σ ⟨rfl, rfl⟩
      refine cI ?_
      refine x_si (ls1 := [some (vR (some S)), some (vI 115), some (vI z)]) T_35_7 rfl ?_
      refine x_li (z := 115) T_35_8 rfl ?_
      refine x_swIn T_35_9 (by decide) (by decide) rfl ?_
      refine x_ic T_35_287 ?_
      refine x_rz T_35_288 rfl ?_
      exact ⟨rfl, rfl⟩
    · rw [show whlV (lg l) z 116 = (if z = 23 then 1 else 0) from rfl]
      by_cases q : z = 23
      · rw [if_pos q]
        refine CL_in mL_35 rfl ?_
        show WP fb _ 35 0 [some (vR (some S)), some (vI 116), none] [] σ _
        refine x_lr (z := some S) T_35_0 rfl ?_
        refine x_gR (z := some mb) T_35_1 F_7_9 (hP.o hO) (Eq.trans (hP.rm hO rfl (key := 2233) rfl) hr) ?_
        refine x_cv1 T_35_4 mN_28 mL_28 (Nat.le_of_ble_eq_true rfl) mO_28 (hP.o hbo) (Nat.le_of_ble_eq_true rfl) (hsz) ?_
        rintro _ σ ⟨rfl, rfl⟩
        refine cI ?_
        refine x_si (ls1 := [some (vR (some S)), some (vI 116), some (vI z)]) T_35_7 rfl ?_
        refine x_li (z := 116) T_35_8 rfl ?_
        refine x_swIn T_35_9 (by decide) (by decide) rfl ?_
        refine x_li (z := z) T_35_227 rfl ?_
        refine x_ic T_35_228 ?_
        refine x_ic2 T_35_230 (fun h => absurd (show ¬ z = 23 from h) (by omega)) (fun _ => ?_)
        refine x_ic T_35_233 ?_
        refine x_goto T_35_234 ?_
        refine x_rz T_35_238 rfl ?_
        exact ⟨rfl, rfl⟩
      · rw [if_neg q]
        refine CL_in mL_35 rfl ?_
        show WP fb _ 35 0 [some (vR (some S)), some (vI 116), none] [] σ _
        refine x_lr (z := some S) T_35_0 rfl ?_
        refine x_gR (z := some mb) T_35_1 F_7_9 (hP.o hO) (Eq.trans (hP.rm hO rfl (key := 2233) rfl) hr) ?_
        refine x_cv1 T_35_4 mN_28 mL_28 (Nat.le_of_ble_eq_true rfl) mO_28 (hP.o hbo) (Nat.le_of_ble_eq_true rfl) (hsz) ?_
        rintro _ σ ⟨rfl, rfl⟩
        refine cI ?_
        refine x_si (ls1 := [some (vR (some S)), some (vI 116), some (vI z)]) T_35_7 rfl ?_
        refine x_li (z := 116) T_35_8 rfl ?_
        refine x_swIn T_35_9 (by decide) (by decide) rfl ?_
        refine x_li (z := z) T_35_227 rfl ?_
        refine x_ic T_35_228 ?_
        refine x_ic2 T_35_230 (fun _ => ?_) (fun h => absurd (show ¬ z = 23 by omega) h)
        refine x_ic T_35_237 ?_
        refine x_rz T_35_238 rfl ?_
        exact ⟨rfl, rfl⟩
    · rw [show whlV (lg l) z 117 = 0 from rfl]
      refine CL_in mL_35 rfl ?_
      show WP fb _ 35 0 [some (vR (some S)), some (vI 117), none] [] σ _
      refine x_lr (z := some S) T_35_0 rfl ?_
      refine x_gR (z := some mb) T_35_1 F_7_9 (hP.o hO) (Eq.trans (hP.rm hO rfl (key := 2233) rfl) hr) ?_
      refine x_cv1 T_35_4 mN_28 mL_28 (Nat.le_of_ble_eq_true rfl) mO_28 (hP.o hbo) (Nat.le_of_ble_eq_true rfl) (hsz) ?_
      rintro _ σ ⟨rfl, rfl⟩
      refine cI ?_
      refine x_si (ls1 := [some (vR (some S)), some (vI 117), some (vI z)]) T_35_7 rfl ?_
      refine x_li (z := 117) T_35_8 rfl ?_
      refine x_swIn T_35_9 (by decide) (by decide) rfl ?_
      refine x_ic T_35_287 ?_
      refine x_rz T_35_288 rfl ?_
      exact ⟨rfl, rfl⟩
    · rw [show whlV (lg l) z 118 = (if 23 ≤ z ∧ nu (lg l) 19 4 = z - 23 then 1 else 0) from rfl]
      by_cases q1 : 23 ≤ z
      · obtain ⟨n, hn⟩ : ∃ n, nu (lg l) 19 4 = n := ⟨_, rfl⟩
        have h1 := x_num (fb := fb) (d := d + 1) (s := 19) (k := 4) 4 hP hB hz rfl (by decide) (by decide) (by omega) hn
        rw [hn]
        by_cases q : n = z - 23
        · rw [if_pos ⟨q1, q⟩]
          refine CL_in mL_35 rfl ?_
          show WP fb _ 35 0 [some (vR (some S)), some (vI 118), none] [] σ _
          refine x_lr (z := some S) T_35_0 rfl ?_
          refine x_gR (z := some mb) T_35_1 F_7_9 (hP.o hO) (Eq.trans (hP.rm hO rfl (key := 2233) rfl) hr) ?_
          refine x_cv1 T_35_4 mN_28 mL_28 (Nat.le_of_ble_eq_true rfl) mO_28 (hP.o hbo) (Nat.le_of_ble_eq_true rfl) (hsz) ?_
          rintro _ σ ⟨rfl, rfl⟩
          refine cI ?_
          refine x_si (ls1 := [some (vR (some S)), some (vI 118), some (vI z)]) T_35_7 rfl ?_
          refine x_li (z := 118) T_35_8 rfl ?_
          refine x_swIn T_35_9 (by decide) (by decide) rfl ?_
          refine x_li (z := z) T_35_239 rfl ?_
          refine x_ic T_35_240 ?_
          refine x_ic2 T_35_242 (fun h => absurd (show z < 23 from h) (by omega)) (fun _ => ?_)
          refine x_lr (z := some S) T_35_245 rfl ?_
          refine x_gR (z := some mb) T_35_246 F_7_9 (hP.o hO) (Eq.trans (hP.rm hO rfl (key := 2233) rfl) hr) ?_
          refine x_ic T_35_249 ?_
          refine x_ic T_35_251 ?_
          refine x_cv3 T_35_252 mN_29 mL_29 (Nat.le_of_ble_eq_true rfl) mO_29 (hP.o hbo) (Nat.le_of_ble_eq_true rfl) (h1) ?_
          rintro _ σ ⟨rfl, rfl⟩
          refine cL ?_
          refine x_li (z := z) T_35_255 rfl ?_
          refine x_ic T_35_256 ?_
          refine x_ib (w := (z - 23)) T_35_258 (fun h => absurd h.1 (by decide)) (w32_id (by omega) (by omega)) ?_
          refine x_i2l T_35_259 ?_
          refine x_lif T_35_260 T_35_261 (fun h => absurd (show ¬ n = (z - 23) from h) (by omega)) (fun _ => ?_)
          refine x_ic T_35_264 ?_
          refine x_goto T_35_265 ?_
          refine x_rz T_35_269 rfl ?_
          exact ⟨rfl, rfl⟩
        · rw [if_neg (fun c => q c.2)]
          refine CL_in mL_35 rfl ?_
          show WP fb _ 35 0 [some (vR (some S)), some (vI 118), none] [] σ _
          refine x_lr (z := some S) T_35_0 rfl ?_
          refine x_gR (z := some mb) T_35_1 F_7_9 (hP.o hO) (Eq.trans (hP.rm hO rfl (key := 2233) rfl) hr) ?_
          refine x_cv1 T_35_4 mN_28 mL_28 (Nat.le_of_ble_eq_true rfl) mO_28 (hP.o hbo) (Nat.le_of_ble_eq_true rfl) (hsz) ?_
          rintro _ σ ⟨rfl, rfl⟩
          refine cI ?_
          refine x_si (ls1 := [some (vR (some S)), some (vI 118), some (vI z)]) T_35_7 rfl ?_
          refine x_li (z := 118) T_35_8 rfl ?_
          refine x_swIn T_35_9 (by decide) (by decide) rfl ?_
          refine x_li (z := z) T_35_239 rfl ?_
          refine x_ic T_35_240 ?_
          refine x_ic2 T_35_242 (fun h => absurd (show z < 23 from h) (by omega)) (fun _ => ?_)
          refine x_lr (z := some S) T_35_245 rfl ?_
          refine x_gR (z := some mb) T_35_246 F_7_9 (hP.o hO) (Eq.trans (hP.rm hO rfl (key := 2233) rfl) hr) ?_
          refine x_ic T_35_249 ?_
          refine x_ic T_35_251 ?_
          refine x_cv3 T_35_252 mN_29 mL_29 (Nat.le_of_ble_eq_true rfl) mO_29 (hP.o hbo) (Nat.le_of_ble_eq_true rfl) (h1) ?_
          rintro _ σ ⟨rfl, rfl⟩
          refine cL ?_
          refine x_li (z := z) T_35_255 rfl ?_
          refine x_ic T_35_256 ?_
          refine x_ib (w := (z - 23)) T_35_258 (fun h => absurd h.1 (by decide)) (w32_id (by omega) (by omega)) ?_
          refine x_i2l T_35_259 ?_
          refine x_lif T_35_260 T_35_261 (fun _ => ?_) (fun h => absurd (show ¬ n = (z - 23) by omega) h)
          refine x_ic T_35_268 ?_
          refine x_rz T_35_269 rfl ?_
          exact ⟨rfl, rfl⟩
      · rw [if_neg (fun c => q1 c.1)]
        refine CL_in mL_35 rfl ?_
        show WP fb _ 35 0 [some (vR (some S)), some (vI 118), none] [] σ _
        refine x_lr (z := some S) T_35_0 rfl ?_
        refine x_gR (z := some mb) T_35_1 F_7_9 (hP.o hO) (Eq.trans (hP.rm hO rfl (key := 2233) rfl) hr) ?_
        refine x_cv1 T_35_4 mN_28 mL_28 (Nat.le_of_ble_eq_true rfl) mO_28 (hP.o hbo) (Nat.le_of_ble_eq_true rfl) (hsz) ?_
        rintro _ σ ⟨rfl, rfl⟩
        refine cI ?_
        refine x_si (ls1 := [some (vR (some S)), some (vI 118), some (vI z)]) T_35_7 rfl ?_
        refine x_li (z := 118) T_35_8 rfl ?_
        refine x_swIn T_35_9 (by decide) (by decide) rfl ?_
        refine x_li (z := z) T_35_239 rfl ?_
        refine x_ic T_35_240 ?_
        refine x_ic2 T_35_242 (fun _ => ?_) (fun h => absurd (show z < 23 by omega) h)
        refine x_ic T_35_268 ?_
        refine x_rz T_35_269 rfl ?_
        exact ⟨rfl, rfl⟩
    · rw [show whlV (lg l) z 119 = 0 from rfl]
      refine CL_in mL_35 rfl ?_
      show WP fb _ 35 0 [some (vR (some S)), some (vI 119), none] [] σ _
      refine x_lr (z := some S) T_35_0 rfl ?_
      refine x_gR (z := some mb) T_35_1 F_7_9 (hP.o hO) (Eq.trans (hP.rm hO rfl (key := 2233) rfl) hr) ?_
      refine x_cv1 T_35_4 mN_28 mL_28 (Nat.le_of_ble_eq_true rfl) mO_28 (hP.o hbo) (Nat.le_of_ble_eq_true rfl) (hsz) ?_
      rintro _ σ ⟨rfl, rfl⟩
      refine cI ?_
      refine x_si (ls1 := [some (vR (some S)), some (vI 119), some (vI z)]) T_35_7 rfl ?_
      refine x_li (z := 119) T_35_8 rfl ?_
      refine x_swIn T_35_9 (by decide) (by decide) rfl ?_
      refine x_ic T_35_287 ?_
      refine x_rz T_35_288 rfl ?_
      exact ⟨rfl, rfl⟩
    · rw [show whlV (lg l) z 120 = (if z = 11 then 1 else 0) from rfl]
      by_cases q : z = 11
      · rw [if_pos q]
        refine CL_in mL_35 rfl ?_
        show WP fb _ 35 0 [some (vR (some S)), some (vI 120), none] [] σ _
        refine x_lr (z := some S) T_35_0 rfl ?_
        refine x_gR (z := some mb) T_35_1 F_7_9 (hP.o hO) (Eq.trans (hP.rm hO rfl (key := 2233) rfl) hr) ?_
        refine x_cv1 T_35_4 mN_28 mL_28 (Nat.le_of_ble_eq_true rfl) mO_28 (hP.o hbo) (Nat.le_of_ble_eq_true rfl) (hsz) ?_
        rintro _ σ ⟨rfl, rfl⟩
        refine cI ?_
        refine x_si (ls1 := [some (vR (some S)), some (vI 120), some (vI z)]) T_35_7 rfl ?_
        refine x_li (z := 120) T_35_8 rfl ?_
        refine x_swIn T_35_9 (by decide) (by decide) rfl ?_
        refine x_li (z := z) T_35_270 rfl ?_
        refine x_ic T_35_271 ?_
        refine x_ic2 T_35_273 (fun h => absurd (show ¬ z = 11 from h) (by omega)) (fun _ => ?_)
        refine x_ic T_35_276 ?_
        refine x_goto T_35_277 ?_
        refine x_rz T_35_281 rfl ?_
        exact ⟨rfl, rfl⟩
      · rw [if_neg q]
        refine CL_in mL_35 rfl ?_
        show WP fb _ 35 0 [some (vR (some S)), some (vI 120), none] [] σ _
        refine x_lr (z := some S) T_35_0 rfl ?_
        refine x_gR (z := some mb) T_35_1 F_7_9 (hP.o hO) (Eq.trans (hP.rm hO rfl (key := 2233) rfl) hr) ?_
        refine x_cv1 T_35_4 mN_28 mL_28 (Nat.le_of_ble_eq_true rfl) mO_28 (hP.o hbo) (Nat.le_of_ble_eq_true rfl) (hsz) ?_
        rintro _ σ ⟨rfl, rfl⟩
        refine cI ?_
        refine x_si (ls1 := [some (vR (some S)), some (vI 120), some (vI z)]) T_35_7 rfl ?_
        refine x_li (z := 120) T_35_8 rfl ?_
        refine x_swIn T_35_9 (by decide) (by decide) rfl ?_
        refine x_li (z := z) T_35_270 rfl ?_
        refine x_ic T_35_271 ?_
        refine x_ic2 T_35_273 (fun _ => ?_) (fun h => absurd (show ¬ z = 11 by omega) h)
        refine x_ic T_35_280 ?_
        refine x_rz T_35_281 rfl ?_
        exact ⟨rfl, rfl⟩
    · rw [show whlV (lg l) z 121 = 0 from rfl]
      refine CL_in mL_35 rfl ?_
      show WP fb _ 35 0 [some (vR (some S)), some (vI 121), none] [] σ _
      refine x_lr (z := some S) T_35_0 rfl ?_
      refine x_gR (z := some mb) T_35_1 F_7_9 (hP.o hO) (Eq.trans (hP.rm hO rfl (key := 2233) rfl) hr) ?_
      refine x_cv1 T_35_4 mN_28 mL_28 (Nat.le_of_ble_eq_true rfl) mO_28 (hP.o hbo) (Nat.le_of_ble_eq_true rfl) (hsz) ?_
      rintro _ σ ⟨rfl, rfl⟩
      refine cI ?_
      refine x_si (ls1 := [some (vR (some S)), some (vI 121), some (vI z)]) T_35_7 rfl ?_
      refine x_li (z := 121) T_35_8 rfl ?_
      refine x_swIn T_35_9 (by decide) (by decide) rfl ?_
      refine x_ic T_35_287 ?_
      refine x_rz T_35_288 rfl ?_
      exact ⟨rfl, rfl⟩
    · rw [show whlV (lg l) z 122 = (if z = 11 then 1 else 0) from rfl]
      by_cases q : z = 11
      · rw [if_pos q]
        refine CL_in mL_35 rfl ?_
        show WP fb _ 35 0 [some (vR (some S)), some (vI 122), none] [] σ _
        refine x_lr (z := some S) T_35_0 rfl ?_
        refine x_gR (z := some mb) T_35_1 F_7_9 (hP.o hO) (Eq.trans (hP.rm hO rfl (key := 2233) rfl) hr) ?_
        refine x_cv1 T_35_4 mN_28 mL_28 (Nat.le_of_ble_eq_true rfl) mO_28 (hP.o hbo) (Nat.le_of_ble_eq_true rfl) (hsz) ?_
        rintro _ σ ⟨rfl, rfl⟩
        refine cI ?_
        refine x_si (ls1 := [some (vR (some S)), some (vI 122), some (vI z)]) T_35_7 rfl ?_
        refine x_li (z := 122) T_35_8 rfl ?_
        refine x_swIn T_35_9 (by decide) (by decide) rfl ?_
        refine x_li (z := z) T_35_270 rfl ?_
        refine x_ic T_35_271 ?_
        refine x_ic2 T_35_273 (fun h => absurd (show ¬ z = 11 from h) (by omega)) (fun _ => ?_)
        refine x_ic T_35_276 ?_
        refine x_goto T_35_277 ?_
        refine x_rz T_35_281 rfl ?_
        exact ⟨rfl, rfl⟩
      · rw [if_neg q]
        refine CL_in mL_35 rfl ?_
        show WP fb _ 35 0 [some (vR (some S)), some (vI 122), none] [] σ _
        refine x_lr (z := some S) T_35_0 rfl ?_
        refine x_gR (z := some mb) T_35_1 F_7_9 (hP.o hO) (Eq.trans (hP.rm hO rfl (key := 2233) rfl) hr) ?_
        refine x_cv1 T_35_4 mN_28 mL_28 (Nat.le_of_ble_eq_true rfl) mO_28 (hP.o hbo) (Nat.le_of_ble_eq_true rfl) (hsz) ?_
        rintro _ σ ⟨rfl, rfl⟩
        refine cI ?_
        refine x_si (ls1 := [some (vR (some S)), some (vI 122), some (vI z)]) T_35_7 rfl ?_
        refine x_li (z := 122) T_35_8 rfl ?_
        refine x_swIn T_35_9 (by decide) (by decide) rfl ?_
        refine x_li (z := z) T_35_270 rfl ?_
        refine x_ic T_35_271 ?_
        refine x_ic2 T_35_273 (fun _ => ?_) (fun h => absurd (show ¬ z = 11 by omega) h)
        refine x_ic T_35_280 ?_
        refine x_rz T_35_281 rfl ?_
        exact ⟨rfl, rfl⟩
    · rw [show whlV (lg l) z 123 = 0 from rfl]
      refine CL_in mL_35 rfl ?_
      show WP fb _ 35 0 [some (vR (some S)), some (vI 123), none] [] σ _
      refine x_lr (z := some S) T_35_0 rfl ?_
      refine x_gR (z := some mb) T_35_1 F_7_9 (hP.o hO) (Eq.trans (hP.rm hO rfl (key := 2233) rfl) hr) ?_
      refine x_cv1 T_35_4 mN_28 mL_28 (Nat.le_of_ble_eq_true rfl) mO_28 (hP.o hbo) (Nat.le_of_ble_eq_true rfl) (hsz) ?_
      rintro _ σ ⟨rfl, rfl⟩
      refine cI ?_
      refine x_si (ls1 := [some (vR (some S)), some (vI 123), some (vI z)]) T_35_7 rfl ?_
      refine x_li (z := 123) T_35_8 rfl ?_
      refine x_swIn T_35_9 (by decide) (by decide) rfl ?_
      refine x_ic T_35_287 ?_
      refine x_rz T_35_288 rfl ?_
      exact ⟨rfl, rfl⟩
    · rw [show whlV (lg l) z 124 = (if z = 11 then 1 else 0) from rfl]
      by_cases q : z = 11
      · rw [if_pos q]
        refine CL_in mL_35 rfl ?_
        show WP fb _ 35 0 [some (vR (some S)), some (vI 124), none] [] σ _
        refine x_lr (z := some S) T_35_0 rfl ?_
        refine x_gR (z := some mb) T_35_1 F_7_9 (hP.o hO) (Eq.trans (hP.rm hO rfl (key := 2233) rfl) hr) ?_
        refine x_cv1 T_35_4 mN_28 mL_28 (Nat.le_of_ble_eq_true rfl) mO_28 (hP.o hbo) (Nat.le_of_ble_eq_true rfl) (hsz) ?_
        rintro _ σ ⟨rfl, rfl⟩
        refine cI ?_
        refine x_si (ls1 := [some (vR (some S)), some (vI 124), some (vI z)]) T_35_7 rfl ?_
        refine x_li (z := 124) T_35_8 rfl ?_
        refine x_swIn T_35_9 (by decide) (by decide) rfl ?_
        refine x_li (z := z) T_35_270 rfl ?_
        refine x_ic T_35_271 ?_
        refine x_ic2 T_35_273 (fun h => absurd (show ¬ z = 11 from h) (by omega)) (fun _ => ?_)
        refine x_ic T_35_276 ?_
        refine x_goto T_35_277 ?_
        refine x_rz T_35_281 rfl ?_
        exact ⟨rfl, rfl⟩
      · rw [if_neg q]
        refine CL_in mL_35 rfl ?_
        show WP fb _ 35 0 [some (vR (some S)), some (vI 124), none] [] σ _
        refine x_lr (z := some S) T_35_0 rfl ?_
        refine x_gR (z := some mb) T_35_1 F_7_9 (hP.o hO) (Eq.trans (hP.rm hO rfl (key := 2233) rfl) hr) ?_
        refine x_cv1 T_35_4 mN_28 mL_28 (Nat.le_of_ble_eq_true rfl) mO_28 (hP.o hbo) (Nat.le_of_ble_eq_true rfl) (hsz) ?_
        rintro _ σ ⟨rfl, rfl⟩
        refine cI ?_
        refine x_si (ls1 := [some (vR (some S)), some (vI 124), some (vI z)]) T_35_7 rfl ?_
        refine x_li (z := 124) T_35_8 rfl ?_
        refine x_swIn T_35_9 (by decide) (by decide) rfl ?_
        refine x_li (z := z) T_35_270 rfl ?_
        refine x_ic T_35_271 ?_
        refine x_ic2 T_35_273 (fun _ => ?_) (fun h => absurd (show ¬ z = 11 by omega) h)
        refine x_ic T_35_280 ?_
        refine x_rz T_35_281 rfl ?_
        exact ⟨rfl, rfl⟩
    · rw [show whlV (lg l) z 125 = 0 from rfl]
      refine CL_in mL_35 rfl ?_
      show WP fb _ 35 0 [some (vR (some S)), some (vI 125), none] [] σ _
      refine x_lr (z := some S) T_35_0 rfl ?_
      refine x_gR (z := some mb) T_35_1 F_7_9 (hP.o hO) (Eq.trans (hP.rm hO rfl (key := 2233) rfl) hr) ?_
      refine x_cv1 T_35_4 mN_28 mL_28 (Nat.le_of_ble_eq_true rfl) mO_28 (hP.o hbo) (Nat.le_of_ble_eq_true rfl) (hsz) ?_
      rintro _ σ ⟨rfl, rfl⟩
      refine cI ?_
      refine x_si (ls1 := [some (vR (some S)), some (vI 125), some (vI z)]) T_35_7 rfl ?_
      refine x_li (z := 125) T_35_8 rfl ?_
      refine x_swIn T_35_9 (by decide) (by decide) rfl ?_
      refine x_ic T_35_287 ?_
      refine x_rz T_35_288 rfl ?_
      exact ⟨rfl, rfl⟩
    · rw [show whlV (lg l) z 126 = (if 54 ≤ z ∧ nu (lg l) 11 2 = z - 13 ∧ nu (lg l) 13 2 = z - 15 ∧ wkE (lg l) z 4 54 = z then 1 else 0) from rfl]
      have h1 := x_isStat (fb := fb) (d := d) hP hS hr hB hz
      obtain ⟨y, hy⟩ : ∃ y : Int, (if 54 ≤ z ∧ nu (lg l) 11 2 = z - 13 ∧ nu (lg l) 13 2 = z - 15 ∧ wkE (lg l) z 4 54 = z then (1 : Int) else 0) = y := ⟨_, rfl⟩
      have hy2 : 0 ≤ y ∧ y ≤ 1 := by rw [← hy]; split <;> decide
      rw [hy] at h1 ⊢
      refine CL_in mL_35 rfl ?_
      show WP fb _ 35 0 [some (vR (some S)), some (vI 126), none] [] σ _
      refine x_lr (z := some S) T_35_0 rfl ?_
      refine x_gR (z := some mb) T_35_1 F_7_9 (hP.o hO) (Eq.trans (hP.rm hO rfl (key := 2233) rfl) hr) ?_
      refine x_cv1 T_35_4 mN_28 mL_28 (Nat.le_of_ble_eq_true rfl) mO_28 (hP.o hbo) (Nat.le_of_ble_eq_true rfl) (hsz) ?_
      rintro _ σ ⟨rfl, rfl⟩
      refine cI ?_
      refine x_si (ls1 := [some (vR (some S)), some (vI 126), some (vI z)]) T_35_7 rfl ?_
      refine x_li (z := 126) T_35_8 rfl ?_
      refine x_swIn T_35_9 (by decide) (by decide) rfl ?_
      refine x_lr (z := some S) T_35_282 rfl ?_
      refine x_cv1 T_35_283 mN_38 mL_38 (Nat.le_of_ble_eq_true rfl) mO_38 (hP.o hO) (Nat.le_of_ble_eq_true rfl) (h1) ?_
      rintro _ σ ⟨rfl, rfl⟩
      refine cI ?_
      refine x_rz T_35_286 (h01_of (by omega)) ?_
      exact ⟨rfl, rfl⟩
  · have hv : whlV (lg l) z k = 0 := by
      unfold whlV
      rw [if_neg (by omega), if_neg (by omega), if_neg (by omega), if_neg (by omega), if_neg (by omega), if_neg (by omega), if_neg (by omega), if_neg (by omega), if_neg (by omega), if_neg (by omega)]
    rw [hv]
    refine CL_in mL_35 rfl ?_
    show WP fb _ 35 0 [some (vR (some S)), some (vI k), none] [] σ _
    refine x_lr (z := some S) T_35_0 rfl ?_
    refine x_gR (z := some mb) T_35_1 F_7_9 (hP.o hO) (Eq.trans (hP.rm hO rfl (key := 2233) rfl) hr) ?_
    refine x_cv1 T_35_4 mN_28 mL_28 (Nat.le_of_ble_eq_true rfl) mO_28 (hP.o hbo) (Nat.le_of_ble_eq_true rfl) (hsz) ?_
    rintro _ σ ⟨rfl, rfl⟩
    refine cI ?_
    refine x_si (ls1 := [some (vR (some S)), some (vI k), some (vI z)]) T_35_7 rfl ?_
    refine x_li (z := k) T_35_8 rfl ?_
    refine x_swOut T_35_9  (by simp only [List.length]; omega) ?_
    refine x_ic T_35_287 ?_
    refine x_rz T_35_288 rfl ?_
    exact ⟨rfl, rfl⟩
end XWHL2
