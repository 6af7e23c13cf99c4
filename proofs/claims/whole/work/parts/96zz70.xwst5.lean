/-! The class's servers: what a wstat asks, and its name. -/
theorem T_86_149 : hTab 86 149 = some ((3, 0, 2, []), 150) := rfl
theorem T_86_150 : hTab 86 150 = some ((24, 7, Int.ofNat 9, []), 153) := rfl
theorem T_86_153 : hTab 86 153 = some ((0, 0, 46, []), 155) := rfl
theorem T_86_155 : hTab 86 155 = some ((0, 0, 8, []), 157) := rfl
theorem T_86_157 : hTab 86 157 = some ((31, 29, 0, []), 160) := rfl
theorem T_86_160 : hTab 86 160 = some ((4, 9, 1, []), 162) := rfl
theorem T_86_162 : hTab 86 162 = some ((3, 0, 2, []), 163) := rfl
theorem T_86_163 : hTab 86 163 = some ((24, 7, Int.ofNat 9, []), 166) := rfl
theorem T_86_166 : hTab 86 166 = some ((0, 0, 34, []), 168) := rfl
theorem T_86_168 : hTab 86 168 = some ((0, 0, 4, []), 169) := rfl
theorem T_86_169 : hTab 86 169 = some ((31, 29, 0, []), 172) := rfl
theorem T_86_172 : hTab 86 172 = some ((15, 0, 0, []), 173) := rfl
theorem T_86_173 : hTab 86 173 = some ((4, 11, 0, []), 175) := rfl
theorem T_86_175 : hTab 86 175 = some ((3, 2, 2, []), 176) := rfl
theorem T_86_176 : hTab 86 176 = some ((24, 8, Int.ofNat 1, []), 179) := rfl
theorem T_86_179 : hTab 86 179 = some ((20, 1, Int.ofNat 186, []), 182) := rfl
theorem T_86_182 : hTab 86 182 = some ((2, 0, 0, []), 183) := rfl
theorem T_86_183 : hTab 86 183 = some ((22, 0, Int.ofNat 199, []), 186) := rfl
theorem T_86_186 : hTab 86 186 = some ((3, 0, 2, []), 187) := rfl
theorem T_86_187 : hTab 86 187 = some ((3, 2, 2, []), 188) := rfl
theorem T_86_188 : hTab 86 188 = some ((24, 8, Int.ofNat 1, []), 191) := rfl
theorem T_86_191 : hTab 86 191 = some ((3, 3, 0, []), 192) := rfl
theorem T_86_192 : hTab 86 192 = some ((0, 0, 2, []), 193) := rfl
theorem T_86_193 : hTab 86 193 = some ((10, 0, 0, []), 194) := rfl
theorem T_86_194 : hTab 86 194 = some ((3, 4, 0, []), 196) := rfl
theorem T_86_196 : hTab 86 196 = some ((31, 56, 0, []), 199) := rfl
theorem T_86_199 : hTab 86 199 = some ((4, 12, 2, []), 201) := rfl
theorem T_86_201 : hTab 86 201 = some ((3, 0, 2, []), 202) := rfl
theorem T_86_202 : hTab 86 202 = some ((24, 7, Int.ofNat 1, []), 205) := rfl
theorem T_86_205 : hTab 86 205 = some ((18, 0, Int.ofNat 212, []), 208) := rfl
theorem T_86_212 : hTab 86 212 = some ((3, 6, 0, []), 214) := rfl
theorem T_86_214 : hTab 86 214 = some ((18, 0, Int.ofNat 243, []), 217) := rfl
theorem T_86_217 : hTab 86 217 = some ((3, 0, 2, []), 218) := rfl
theorem T_86_218 : hTab 86 218 = some ((3, 2, 2, []), 219) := rfl
theorem T_86_219 : hTab 86 219 = some ((3, 1, 2, []), 220) := rfl
theorem T_86_220 : hTab 86 220 = some ((24, 9, Int.ofNat 2, []), 223) := rfl
theorem T_86_223 : hTab 86 223 = some ((3, 0, 2, []), 224) := rfl
theorem T_86_224 : hTab 86 224 = some ((24, 7, Int.ofNat 9, []), 227) := rfl
theorem T_86_227 : hTab 86 227 = some ((3, 3, 0, []), 228) := rfl
theorem T_86_228 : hTab 86 228 = some ((0, 0, 2, []), 229) := rfl
theorem T_86_229 : hTab 86 229 = some ((10, 0, 0, []), 230) := rfl
theorem T_86_230 : hTab 86 230 = some ((3, 4, 0, []), 232) := rfl
theorem T_86_232 : hTab 86 232 = some ((31, 65, 0, []), 235) := rfl
theorem T_86_235 : hTab 86 235 = some ((3, 12, 2, []), 237) := rfl
theorem T_86_237 : hTab 86 237 = some ((31, 88, 0, []), 240) := rfl
theorem T_86_240 : hTab 86 240 = some ((22, 0, Int.ofNat 244, []), 243) := rfl
theorem T_86_243 : hTab 86 243 = some ((0, 0, 0, []), 244) := rfl
theorem T_86_244 : hTab 86 244 = some ((4, 13, 0, []), 246) := rfl
section XWSTE
variable {fb : Bool} {d S a c0 rp mb m0 N M fa pr bb pa : Nat} {σ0 σ σ' : hM} {W W1 W2 W3 P Q : qR} {R R1 R2 : rR} {b i k x z v s e w f u p g ln K T U C c y off cnt n md tb j m sv nv mr lr e0 ok : Int} {ord l l2 nm lo D L li : List Int} {t : Nat → Nat} {F : Int → Int} {oth : Option Nat}
/-- the numbers, the other file, the name's refusal -/
theorem ws_149 {Post : Option AV → hM → Prop} (hP : PX σ0 W R σ) (hO : tX S = some (Sum.inl 7)) (hfo : tX fa = some (Sum.inl 9)) (hno : tX a = some (Sum.inl 8)) (hsh : W S 2225 = 0) (hu : W fa 2290 = u) (hr : R S 2233 = some mb) (hB : BY W mb M l) (hz : (l.length : Int) = z) (h54 : 54 ≤ z) (hln : w64 (nu (lg l) 46 8) = ln) (hmd : nu (lg l) 34 4 = md) (hm : w32 md = m) (hpar : (R a 2257 = none ∧ oth = none) ∨ ∃ pa, R a 2257 = some pa ∧ tX pa = some (Sum.inl 8) ∧ CL fb (d + 3) 56 [vR (some S), vR (some pa), vI 56, vI e] σ (rPR oth σ)) (hnf : nv = 0 ∨ nv = 1) (hok : CL fb (d + 3) 65 [vR (some mb), vI 56, vI e] σ (rP ok σ)) (hnr : nv = 1 → CL fb (d + 3) 88 [vR (some S), vR (some a), vI u, vI ok, vR oth] σ (rP e0 σ)) (hn0 : nv = 0 → e0 = 0) (hgo : WP fb (d + 4) 86 246 [some (vR (some S)), some (vR (some fa)), some (vR (some a)), some (vI 54), some (vI e), some (vI 38), some (vI nv), some (vI sv), some (vI v), some (vL ln), none, some (vI m), some (vR oth), some (vI e0)] [] σ Post) : WP fb (d + 4) 86 149 [some (vR (some S)), some (vR (some fa)), some (vR (some a)), some (vI 54), some (vI e), some (vI 38), some (vI nv), some (vI sv), some (vI v), none, none, none, none, none] [] σ Post := by
  have hbm := hB.1
  have h1 := x_number (fb := fb) (d := d + 3) (s := 46) (k := 8) hP hB hz (by decide) (by decide)
  rw [if_pos (by omega), show ((8 : Int)).toNat = 8 from rfl, hln] at h1
  have h2 := x_num (fb := fb) (d := d + 3) (s := 34) (k := 4) 4 hP hB hz rfl (by decide) (by decide) (by omega) hmd
  have h56 : w32 (54 + 2) = 56 := w32_id (by decide) (by decide)
  rcases hpar with ⟨hp, rfl⟩ | ⟨pa, hp, hpo, hen⟩
  · rcases hnf with rfl | rfl
    · have hn0 := hn0 rfl
      subst hn0
      refine x_lr (z := some S) T_86_149 rfl ?_
      refine x_gR (z := some mb) T_86_150 F_7_9 (hP.o hO) (Eq.trans (hP.rm hO rfl (key := 2233) rfl) hr) ?_
      refine x_ic T_86_153 ?_
      refine x_ic T_86_155 ?_
      refine x_cv3 T_86_157 mN_29 mL_29 (Nat.le_of_ble_eq_true rfl) mO_29 (hP.o hbm) (Nat.le_of_ble_eq_true rfl) (h1) ?_
      rintro _ σ ⟨rfl, rfl⟩
      refine cL ?_
      refine x_sl (ls1 := [some (vR (some S)), some (vR (some fa)), some (vR (some a)), some (vI 54), some (vI e), some (vI 38), some (vI 0), some (vI sv), some (vI v), some (vL ln), none, none, none, none]) T_86_160 rfl ?_
      refine x_lr (z := some S) T_86_162 rfl ?_
      refine x_gR (z := some mb) T_86_163 F_7_9 (hP.o hO) (Eq.trans (hP.rm hO rfl (key := 2233) rfl) hr) ?_
      refine x_ic T_86_166 ?_
      refine x_ic T_86_168 ?_
      refine x_cv3 T_86_169 mN_29 mL_29 (Nat.le_of_ble_eq_true rfl) mO_29 (hP.o hbm) (Nat.le_of_ble_eq_true rfl) (h2) ?_
      rintro _ σ ⟨rfl, rfl⟩
      refine cL ?_
      refine x_l2i (w := m) T_86_172 hm ?_
      refine x_si (ls1 := [some (vR (some S)), some (vR (some fa)), some (vR (some a)), some (vI 54), some (vI e), some (vI 38), some (vI 0), some (vI sv), some (vI v), some (vL ln), none, some (vI m), none, none]) T_86_173 rfl ?_
      refine x_lr (z := some a) T_86_175 rfl ?_
      refine x_gR (z := none) T_86_176 F_8_1 (hP.o hno) (Eq.trans (hP.rm hno rfl (key := 2257) rfl) hp) ?_
      refine x_nnul T_86_179 (fun a0 h0 => absurd h0 (by simp)) (fun _ => ?_)
      refine x_nu T_86_182 ?_
      refine x_goto T_86_183 ?_
      refine x_sr (ls1 := [some (vR (some S)), some (vR (some fa)), some (vR (some a)), some (vI 54), some (vI e), some (vI 38), some (vI 0), some (vI sv), some (vI v), some (vL ln), none, some (vI m), some (vR none), none]) T_86_199 rfl ?_
      refine x_lr (z := some S) T_86_201 rfl ?_
      refine x_gI (z := 0) T_86_202 (Or.inr (Or.inl F_7_1)) (hP.o hO) (Eq.trans (hP.gi hO (key := 2225) rfl) hsh) ?_
      refine x_if T_86_205 (fun _ => ?_) (fun h => absurd (show (0 : Int) = 0 by decide) h)
      refine x_li (z := 0) T_86_212 rfl ?_
      refine x_if T_86_214 (fun _ => ?_) (fun h => absurd (show (0 : Int) = 0 by decide) h)
      refine x_ic T_86_243 ?_
      refine x_si (ls1 := [some (vR (some S)), some (vR (some fa)), some (vR (some a)), some (vI 54), some (vI e), some (vI 38), some (vI 0), some (vI sv), some (vI v), some (vL ln), none, some (vI m), some (vR none), some (vI 0)]) T_86_244 rfl ?_
      exact hgo
    · have hnr := hnr rfl
      refine x_lr (z := some S) T_86_149 rfl ?_
      refine x_gR (z := some mb) T_86_150 F_7_9 (hP.o hO) (Eq.trans (hP.rm hO rfl (key := 2233) rfl) hr) ?_
      refine x_ic T_86_153 ?_
      refine x_ic T_86_155 ?_
      refine x_cv3 T_86_157 mN_29 mL_29 (Nat.le_of_ble_eq_true rfl) mO_29 (hP.o hbm) (Nat.le_of_ble_eq_true rfl) (h1) ?_
      rintro _ σ ⟨rfl, rfl⟩
      refine cL ?_
      refine x_sl (ls1 := [some (vR (some S)), some (vR (some fa)), some (vR (some a)), some (vI 54), some (vI e), some (vI 38), some (vI 1), some (vI sv), some (vI v), some (vL ln), none, none, none, none]) T_86_160 rfl ?_
      refine x_lr (z := some S) T_86_162 rfl ?_
      refine x_gR (z := some mb) T_86_163 F_7_9 (hP.o hO) (Eq.trans (hP.rm hO rfl (key := 2233) rfl) hr) ?_
      refine x_ic T_86_166 ?_
      refine x_ic T_86_168 ?_
      refine x_cv3 T_86_169 mN_29 mL_29 (Nat.le_of_ble_eq_true rfl) mO_29 (hP.o hbm) (Nat.le_of_ble_eq_true rfl) (h2) ?_
      rintro _ σ ⟨rfl, rfl⟩
      refine cL ?_
      refine x_l2i (w := m) T_86_172 hm ?_
      refine x_si (ls1 := [some (vR (some S)), some (vR (some fa)), some (vR (some a)), some (vI 54), some (vI e), some (vI 38), some (vI 1), some (vI sv), some (vI v), some (vL ln), none, some (vI m), none, none]) T_86_173 rfl ?_
      refine x_lr (z := some a) T_86_175 rfl ?_
      refine x_gR (z := none) T_86_176 F_8_1 (hP.o hno) (Eq.trans (hP.rm hno rfl (key := 2257) rfl) hp) ?_
      refine x_nnul T_86_179 (fun a0 h0 => absurd h0 (by simp)) (fun _ => ?_)
      refine x_nu T_86_182 ?_
      refine x_goto T_86_183 ?_
      refine x_sr (ls1 := [some (vR (some S)), some (vR (some fa)), some (vR (some a)), some (vI 54), some (vI e), some (vI 38), some (vI 1), some (vI sv), some (vI v), some (vL ln), none, some (vI m), some (vR none), none]) T_86_199 rfl ?_
      refine x_lr (z := some S) T_86_201 rfl ?_
      refine x_gI (z := 0) T_86_202 (Or.inr (Or.inl F_7_1)) (hP.o hO) (Eq.trans (hP.gi hO (key := 2225) rfl) hsh) ?_
      refine x_if T_86_205 (fun _ => ?_) (fun h => absurd (show (0 : Int) = 0 by decide) h)
      refine x_li (z := 1) T_86_212 rfl ?_
      refine x_if T_86_214 (fun h => absurd (show (1 : Int) = 0 from h) (by decide)) (fun _ => ?_)
      refine x_lr (z := some S) T_86_217 rfl ?_
      refine x_lr (z := some a) T_86_218 rfl ?_
      refine x_lr (z := some fa) T_86_219 rfl ?_
      refine x_gI (z := u) T_86_220 (Or.inl F_9_2) (hP.o hfo) (Eq.trans (hP.gi hfo (key := 2290) rfl) hu) ?_
      refine x_lr (z := some S) T_86_223 rfl ?_
      refine x_gR (z := some mb) T_86_224 F_7_9 (hP.o hO) (Eq.trans (hP.rm hO rfl (key := 2233) rfl) hr) ?_
      refine x_li (z := 54) T_86_227 rfl ?_
      refine x_ic T_86_228 ?_
      refine x_ib (w := 56) T_86_229 (fun h => absurd h.1 (by decide)) h56 ?_
      refine x_li (z := e) T_86_230 rfl ?_
      refine x_cv3 T_86_232 mN_65 mL_65 (Nat.le_of_ble_eq_true rfl) mO_65 (hP.o hbm) (Nat.le_of_ble_eq_true rfl) (hok) ?_
      rintro _ σ ⟨rfl, rfl⟩
      refine cI ?_
      refine x_lr (z := none) T_86_235 rfl ?_
      refine x_cv5 T_86_237 mN_88 mL_88 (Nat.le_of_ble_eq_true rfl) mO_88 (hP.o hO) (Nat.le_of_ble_eq_true rfl) (hnr) ?_
      rintro _ σ ⟨rfl, rfl⟩
      refine cI ?_
      refine x_goto T_86_240 ?_
      refine x_si (ls1 := [some (vR (some S)), some (vR (some fa)), some (vR (some a)), some (vI 54), some (vI e), some (vI 38), some (vI 1), some (vI sv), some (vI v), some (vL ln), none, some (vI m), some (vR none), some (vI e0)]) T_86_244 rfl ?_
      exact hgo
  · rcases hnf with rfl | rfl
    · have hn0 := hn0 rfl
      subst hn0
      refine x_lr (z := some S) T_86_149 rfl ?_
      refine x_gR (z := some mb) T_86_150 F_7_9 (hP.o hO) (Eq.trans (hP.rm hO rfl (key := 2233) rfl) hr) ?_
      refine x_ic T_86_153 ?_
      refine x_ic T_86_155 ?_
      refine x_cv3 T_86_157 mN_29 mL_29 (Nat.le_of_ble_eq_true rfl) mO_29 (hP.o hbm) (Nat.le_of_ble_eq_true rfl) (h1) ?_
      rintro _ σ ⟨rfl, rfl⟩
      refine cL ?_
      refine x_sl (ls1 := [some (vR (some S)), some (vR (some fa)), some (vR (some a)), some (vI 54), some (vI e), some (vI 38), some (vI 0), some (vI sv), some (vI v), some (vL ln), none, none, none, none]) T_86_160 rfl ?_
      refine x_lr (z := some S) T_86_162 rfl ?_
      refine x_gR (z := some mb) T_86_163 F_7_9 (hP.o hO) (Eq.trans (hP.rm hO rfl (key := 2233) rfl) hr) ?_
      refine x_ic T_86_166 ?_
      refine x_ic T_86_168 ?_
      refine x_cv3 T_86_169 mN_29 mL_29 (Nat.le_of_ble_eq_true rfl) mO_29 (hP.o hbm) (Nat.le_of_ble_eq_true rfl) (h2) ?_
      rintro _ σ ⟨rfl, rfl⟩
      refine cL ?_
      refine x_l2i (w := m) T_86_172 hm ?_
      refine x_si (ls1 := [some (vR (some S)), some (vR (some fa)), some (vR (some a)), some (vI 54), some (vI e), some (vI 38), some (vI 0), some (vI sv), some (vI v), some (vL ln), none, some (vI m), none, none]) T_86_173 rfl ?_
      refine x_lr (z := some a) T_86_175 rfl ?_
      refine x_gR (z := some pa) T_86_176 F_8_1 (hP.o hno) (Eq.trans (hP.rm hno rfl (key := 2257) rfl) hp) ?_
      refine x_nnul T_86_179 (fun _ _ => ?_) (fun h0 => absurd h0 (by simp))
      refine x_lr (z := some S) T_86_186 rfl ?_
      refine x_lr (z := some a) T_86_187 rfl ?_
      refine x_gR (z := some pa) T_86_188 F_8_1 (hP.o hno) (Eq.trans (hP.rm hno rfl (key := 2257) rfl) hp) ?_
      refine x_li (z := 54) T_86_191 rfl ?_
      refine x_ic T_86_192 ?_
      refine x_ib (w := 56) T_86_193 (fun h => absurd h.1 (by decide)) h56 ?_
      refine x_li (z := e) T_86_194 rfl ?_
      refine x_cv4 T_86_196 mN_56 mL_56 (Nat.le_of_ble_eq_true rfl) mO_56 (hP.o hO) (Nat.le_of_ble_eq_true rfl) (hen) ?_
      rintro _ σ ⟨rfl, rfl⟩
      refine cR ?_
      refine x_sr (ls1 := [some (vR (some S)), some (vR (some fa)), some (vR (some a)), some (vI 54), some (vI e), some (vI 38), some (vI 0), some (vI sv), some (vI v), some (vL ln), none, some (vI m), some (vR oth), none]) T_86_199 rfl ?_
      refine x_lr (z := some S) T_86_201 rfl ?_
      refine x_gI (z := 0) T_86_202 (Or.inr (Or.inl F_7_1)) (hP.o hO) (Eq.trans (hP.gi hO (key := 2225) rfl) hsh) ?_
      refine x_if T_86_205 (fun _ => ?_) (fun h => absurd (show (0 : Int) = 0 by decide) h)
      refine x_li (z := 0) T_86_212 rfl ?_
      refine x_if T_86_214 (fun _ => ?_) (fun h => absurd (show (0 : Int) = 0 by decide) h)
      refine x_ic T_86_243 ?_
      refine x_si (ls1 := [some (vR (some S)), some (vR (some fa)), some (vR (some a)), some (vI 54), some (vI e), some (vI 38), some (vI 0), some (vI sv), some (vI v), some (vL ln), none, some (vI m), some (vR oth), some (vI 0)]) T_86_244 rfl ?_
      exact hgo
    · have hnr := hnr rfl
      refine x_lr (z := some S) T_86_149 rfl ?_
      refine x_gR (z := some mb) T_86_150 F_7_9 (hP.o hO) (Eq.trans (hP.rm hO rfl (key := 2233) rfl) hr) ?_
      refine x_ic T_86_153 ?_
      refine x_ic T_86_155 ?_
      refine x_cv3 T_86_157 mN_29 mL_29 (Nat.le_of_ble_eq_true rfl) mO_29 (hP.o hbm) (Nat.le_of_ble_eq_true rfl) (h1) ?_
      rintro _ σ ⟨rfl, rfl⟩
      refine cL ?_
      refine x_sl (ls1 := [some (vR (some S)), some (vR (some fa)), some (vR (some a)), some (vI 54), some (vI e), some (vI 38), some (vI 1), some (vI sv), some (vI v), some (vL ln), none, none, none, none]) T_86_160 rfl ?_
      refine x_lr (z := some S) T_86_162 rfl ?_
      refine x_gR (z := some mb) T_86_163 F_7_9 (hP.o hO) (Eq.trans (hP.rm hO rfl (key := 2233) rfl) hr) ?_
      refine x_ic T_86_166 ?_
      refine x_ic T_86_168 ?_
      refine x_cv3 T_86_169 mN_29 mL_29 (Nat.le_of_ble_eq_true rfl) mO_29 (hP.o hbm) (Nat.le_of_ble_eq_true rfl) (h2) ?_
      rintro _ σ ⟨rfl, rfl⟩
      refine cL ?_
      refine x_l2i (w := m) T_86_172 hm ?_
      refine x_si (ls1 := [some (vR (some S)), some (vR (some fa)), some (vR (some a)), some (vI 54), some (vI e), some (vI 38), some (vI 1), some (vI sv), some (vI v), some (vL ln), none, some (vI m), none, none]) T_86_173 rfl ?_
      refine x_lr (z := some a) T_86_175 rfl ?_
      refine x_gR (z := some pa) T_86_176 F_8_1 (hP.o hno) (Eq.trans (hP.rm hno rfl (key := 2257) rfl) hp) ?_
      refine x_nnul T_86_179 (fun _ _ => ?_) (fun h0 => absurd h0 (by simp))
      refine x_lr (z := some S) T_86_186 rfl ?_
      refine x_lr (z := some a) T_86_187 rfl ?_
      refine x_gR (z := some pa) T_86_188 F_8_1 (hP.o hno) (Eq.trans (hP.rm hno rfl (key := 2257) rfl) hp) ?_
      refine x_li (z := 54) T_86_191 rfl ?_
      refine x_ic T_86_192 ?_
      refine x_ib (w := 56) T_86_193 (fun h => absurd h.1 (by decide)) h56 ?_
      refine x_li (z := e) T_86_194 rfl ?_
      refine x_cv4 T_86_196 mN_56 mL_56 (Nat.le_of_ble_eq_true rfl) mO_56 (hP.o hO) (Nat.le_of_ble_eq_true rfl) (hen) ?_
      rintro _ σ ⟨rfl, rfl⟩
      refine cR ?_
      refine x_sr (ls1 := [some (vR (some S)), some (vR (some fa)), some (vR (some a)), some (vI 54), some (vI e), some (vI 38), some (vI 1), some (vI sv), some (vI v), some (vL ln), none, some (vI m), some (vR oth), none]) T_86_199 rfl ?_
      refine x_lr (z := some S) T_86_201 rfl ?_
      refine x_gI (z := 0) T_86_202 (Or.inr (Or.inl F_7_1)) (hP.o hO) (Eq.trans (hP.gi hO (key := 2225) rfl) hsh) ?_
      refine x_if T_86_205 (fun _ => ?_) (fun h => absurd (show (0 : Int) = 0 by decide) h)
      refine x_li (z := 1) T_86_212 rfl ?_
      refine x_if T_86_214 (fun h => absurd (show (1 : Int) = 0 from h) (by decide)) (fun _ => ?_)
      refine x_lr (z := some S) T_86_217 rfl ?_
      refine x_lr (z := some a) T_86_218 rfl ?_
      refine x_lr (z := some fa) T_86_219 rfl ?_
      refine x_gI (z := u) T_86_220 (Or.inl F_9_2) (hP.o hfo) (Eq.trans (hP.gi hfo (key := 2290) rfl) hu) ?_
      refine x_lr (z := some S) T_86_223 rfl ?_
      refine x_gR (z := some mb) T_86_224 F_7_9 (hP.o hO) (Eq.trans (hP.rm hO rfl (key := 2233) rfl) hr) ?_
      refine x_li (z := 54) T_86_227 rfl ?_
      refine x_ic T_86_228 ?_
      refine x_ib (w := 56) T_86_229 (fun h => absurd h.1 (by decide)) h56 ?_
      refine x_li (z := e) T_86_230 rfl ?_
      refine x_cv3 T_86_232 mN_65 mL_65 (Nat.le_of_ble_eq_true rfl) mO_65 (hP.o hbm) (Nat.le_of_ble_eq_true rfl) (hok) ?_
      rintro _ σ ⟨rfl, rfl⟩
      refine cI ?_
      refine x_lr (z := oth) T_86_235 rfl ?_
      refine x_cv5 T_86_237 mN_88 mL_88 (Nat.le_of_ble_eq_true rfl) mO_88 (hP.o hO) (Nat.le_of_ble_eq_true rfl) (hnr) ?_
      rintro _ σ ⟨rfl, rfl⟩
      refine cI ?_
      refine x_goto T_86_240 ?_
      refine x_si (ls1 := [some (vR (some S)), some (vR (some fa)), some (vR (some a)), some (vI 54), some (vI e), some (vI 38), some (vI 1), some (vI sv), some (vI v), some (vL ln), none, some (vI m), some (vR oth), some (vI e0)]) T_86_244 rfl ?_
      exact hgo
end XWSTE
