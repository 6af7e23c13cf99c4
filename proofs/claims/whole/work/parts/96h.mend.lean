/-! A process goes. -/
theorem T_401_0 : hTab 401 0 = some ((0, 0, 0, []), 1) := rfl
theorem T_401_1 : hTab 401 1 = some ((4, 1, 0, []), 2) := rfl
theorem T_401_2 : hTab 401 2 = some ((3, 1, 0, []), 3) := rfl
theorem T_401_3 : hTab 401 3 = some ((0, 0, 8, []), 5) := rfl
theorem T_401_5 : hTab 401 5 = some ((19, 3, Int.ofNat 37, []), 8) := rfl
theorem T_401_8 : hTab 401 8 = some ((3, 0, 2, []), 9) := rfl
theorem T_401_9 : hTab 401 9 = some ((24, 17, Int.ofNat 50, []), 12) := rfl
theorem T_401_12 : hTab 401 12 = some ((3, 1, 0, []), 13) := rfl
theorem T_401_13 : hTab 401 13 = some ((26, 2, 0, []), 14) := rfl
theorem T_401_14 : hTab 401 14 = some ((18, 0, Int.ofNat 31, []), 17) := rfl
theorem T_401_17 : hTab 401 17 = some ((3, 0, 2, []), 18) := rfl
theorem T_401_18 : hTab 401 18 = some ((24, 17, Int.ofNat 51, []), 21) := rfl
theorem T_401_21 : hTab 401 21 = some ((3, 1, 0, []), 22) := rfl
theorem T_401_22 : hTab 401 22 = some ((26, 2, 0, []), 23) := rfl
theorem T_401_23 : hTab 401 23 = some ((18, 0, Int.ofNat 31, []), 26) := rfl
theorem T_401_26 : hTab 401 26 = some ((3, 0, 2, []), 27) := rfl
theorem T_401_27 : hTab 401 27 = some ((3, 1, 0, []), 28) := rfl
theorem T_401_28 : hTab 401 28 = some ((31, 402, 0, []), 31) := rfl
theorem T_401_31 : hTab 401 31 = some ((5, 1, 1, []), 34) := rfl
theorem T_401_34 : hTab 401 34 = some ((22, 0, Int.ofNat 2, []), 37) := rfl
theorem T_401_37 : hTab 401 37 = some ((33, 0, 0, []), 38) := rfl
theorem T_402_0 : hTab 402 0 = some ((0, 0, 0, []), 1) := rfl
theorem T_402_1 : hTab 402 1 = some ((4, 2, 0, []), 2) := rfl
theorem T_402_2 : hTab 402 2 = some ((3, 2, 0, []), 3) := rfl
theorem T_402_3 : hTab 402 3 = some ((0, 0, 8, []), 5) := rfl
theorem T_402_5 : hTab 402 5 = some ((19, 3, Int.ofNat 35, []), 8) := rfl
theorem T_402_8 : hTab 402 8 = some ((3, 0, 2, []), 9) := rfl
theorem T_402_9 : hTab 402 9 = some ((24, 17, Int.ofNat 57, []), 12) := rfl
theorem T_402_12 : hTab 402 12 = some ((0, 0, 8, []), 14) := rfl
theorem T_402_14 : hTab 402 14 = some ((3, 1, 0, []), 15) := rfl
theorem T_402_15 : hTab 402 15 = some ((10, 2, 0, []), 16) := rfl
theorem T_402_16 : hTab 402 16 = some ((3, 2, 0, []), 17) := rfl
theorem T_402_17 : hTab 402 17 = some ((10, 0, 0, []), 18) := rfl
theorem T_402_18 : hTab 402 18 = some ((26, 0, 0, []), 19) := rfl
theorem T_402_19 : hTab 402 19 = some ((18, 2, Int.ofNat 29, []), 22) := rfl
theorem T_402_22 : hTab 402 22 = some ((3, 0, 2, []), 23) := rfl
theorem T_402_23 : hTab 402 23 = some ((3, 1, 0, []), 24) := rfl
theorem T_402_24 : hTab 402 24 = some ((3, 2, 0, []), 25) := rfl
theorem T_402_25 : hTab 402 25 = some ((31, 380, 0, []), 28) := rfl
theorem T_402_28 : hTab 402 28 = some ((7, 0, 0, []), 29) := rfl
theorem T_402_29 : hTab 402 29 = some ((5, 2, 1, []), 32) := rfl
theorem T_402_32 : hTab 402 32 = some ((22, 0, Int.ofNat 2, []), 35) := rfl
theorem T_402_35 : hTab 402 35 = some ((3, 0, 2, []), 36) := rfl
theorem T_402_36 : hTab 402 36 = some ((24, 17, Int.ofNat 50, []), 39) := rfl
theorem T_402_39 : hTab 402 39 = some ((3, 1, 0, []), 40) := rfl
theorem T_402_40 : hTab 402 40 = some ((0, 0, 0, []), 41) := rfl
theorem T_402_41 : hTab 402 41 = some ((27, 2, 0, []), 42) := rfl
theorem T_402_42 : hTab 402 42 = some ((3, 0, 2, []), 43) := rfl
theorem T_402_43 : hTab 402 43 = some ((24, 17, Int.ofNat 51, []), 46) := rfl
theorem T_402_46 : hTab 402 46 = some ((3, 1, 0, []), 47) := rfl
theorem T_402_47 : hTab 402 47 = some ((0, 0, 0, []), 48) := rfl
theorem T_402_48 : hTab 402 48 = some ((27, 2, 0, []), 49) := rfl
theorem T_402_49 : hTab 402 49 = some ((3, 0, 2, []), 50) := rfl
theorem T_402_50 : hTab 402 50 = some ((24, 17, Int.ofNat 53, []), 53) := rfl
theorem T_402_53 : hTab 402 53 = some ((3, 1, 0, []), 54) := rfl
theorem T_402_54 : hTab 402 54 = some ((26, 0, 0, []), 55) := rfl
theorem T_402_55 : hTab 402 55 = some ((4, 2, 0, []), 56) := rfl
theorem T_402_56 : hTab 402 56 = some ((3, 0, 2, []), 57) := rfl
theorem T_402_57 : hTab 402 57 = some ((3, 2, 0, []), 58) := rfl
theorem T_402_58 : hTab 402 58 = some ((31, 385, 0, []), 61) := rfl
theorem T_402_61 : hTab 402 61 = some ((18, 1, Int.ofNat 99, []), 64) := rfl
theorem T_402_64 : hTab 402 64 = some ((0, 0, 0, []), 65) := rfl
theorem T_402_65 : hTab 402 65 = some ((4, 3, 0, []), 66) := rfl
theorem T_402_66 : hTab 402 66 = some ((3, 3, 0, []), 67) := rfl
theorem T_402_67 : hTab 402 67 = some ((3, 0, 2, []), 68) := rfl
theorem T_402_68 : hTab 402 68 = some ((24, 17, Int.ofNat 64, []), 71) := rfl
theorem T_402_71 : hTab 402 71 = some ((3, 2, 0, []), 72) := rfl
theorem T_402_72 : hTab 402 72 = some ((26, 0, 0, []), 73) := rfl
theorem T_402_73 : hTab 402 73 = some ((19, 3, Int.ofNat 92, []), 76) := rfl
theorem T_402_76 : hTab 402 76 = some ((3, 0, 2, []), 77) := rfl
theorem T_402_77 : hTab 402 77 = some ((0, 0, 8, []), 79) := rfl
theorem T_402_79 : hTab 402 79 = some ((3, 2, 0, []), 80) := rfl
theorem T_402_80 : hTab 402 80 = some ((10, 2, 0, []), 81) := rfl
theorem T_402_81 : hTab 402 81 = some ((3, 3, 0, []), 82) := rfl
theorem T_402_82 : hTab 402 82 = some ((10, 0, 0, []), 83) := rfl
theorem T_402_83 : hTab 402 83 = some ((31, 367, 0, []), 86) := rfl
theorem T_402_86 : hTab 402 86 = some ((5, 3, 1, []), 89) := rfl
theorem T_402_89 : hTab 402 89 = some ((22, 0, Int.ofNat 66, []), 92) := rfl
theorem T_402_92 : hTab 402 92 = some ((3, 0, 2, []), 93) := rfl
theorem T_402_93 : hTab 402 93 = some ((24, 17, Int.ofNat 64, []), 96) := rfl
theorem T_402_96 : hTab 402 96 = some ((3, 2, 0, []), 97) := rfl
theorem T_402_97 : hTab 402 97 = some ((0, 0, 0, []), 98) := rfl
theorem T_402_98 : hTab 402 98 = some ((27, 0, 0, []), 99) := rfl
theorem T_402_99 : hTab 402 99 = some ((3, 0, 2, []), 100) := rfl
theorem T_402_100 : hTab 402 100 = some ((0, 0, 120, []), 102) := rfl
theorem T_402_102 : hTab 402 102 = some ((0, 0, 0, []), 103) := rfl
theorem T_402_103 : hTab 402 103 = some ((3, 0, 2, []), 104) := rfl
theorem T_402_104 : hTab 402 104 = some ((24, 17, Int.ofNat 54, []), 107) := rfl
theorem T_402_107 : hTab 402 107 = some ((3, 1, 0, []), 108) := rfl
theorem T_402_108 : hTab 402 108 = some ((26, 0, 0, []), 109) := rfl
theorem T_402_109 : hTab 402 109 = some ((31, 345, 0, []), 112) := rfl
theorem T_402_112 : hTab 402 112 = some ((7, 0, 0, []), 113) := rfl
theorem T_402_113 : hTab 402 113 = some ((0, 0, 2, []), 114) := rfl
theorem T_402_114 : hTab 402 114 = some ((0, 0, 0, []), 115) := rfl
theorem T_402_115 : hTab 402 115 = some ((31, 243, 0, []), 118) := rfl
theorem T_402_118 : hTab 402 118 = some ((4, 3, 0, []), 119) := rfl
theorem T_402_119 : hTab 402 119 = some ((3, 3, 0, []), 120) := rfl
theorem T_402_120 : hTab 402 120 = some ((0, 0, 2, []), 121) := rfl
theorem T_402_121 : hTab 402 121 = some ((0, 0, 0, []), 122) := rfl
theorem T_402_122 : hTab 402 122 = some ((31, 243, 0, []), 125) := rfl
theorem T_402_125 : hTab 402 125 = some ((0, 0, 96, []), 127) := rfl
theorem T_402_127 : hTab 402 127 = some ((10, 0, 0, []), 128) := rfl
theorem T_402_128 : hTab 402 128 = some ((19, 3, Int.ofNat 195, []), 131) := rfl
theorem T_402_131 : hTab 402 131 = some ((3, 0, 2, []), 132) := rfl
theorem T_402_132 : hTab 402 132 = some ((24, 17, Int.ofNat 34, []), 135) := rfl
theorem T_402_135 : hTab 402 135 = some ((3, 3, 0, []), 136) := rfl
theorem T_402_136 : hTab 402 136 = some ((3, 0, 2, []), 137) := rfl
theorem T_402_137 : hTab 402 137 = some ((24, 17, Int.ofNat 34, []), 140) := rfl
theorem T_402_140 : hTab 402 140 = some ((3, 3, 0, []), 141) := rfl
theorem T_402_141 : hTab 402 141 = some ((26, 2, 0, []), 142) := rfl
theorem T_402_142 : hTab 402 142 = some ((18, 1, Int.ofNat 183, []), 145) := rfl
theorem T_402_145 : hTab 402 145 = some ((3, 0, 2, []), 146) := rfl
theorem T_402_146 : hTab 402 146 = some ((24, 17, Int.ofNat 28, []), 149) := rfl
theorem T_402_149 : hTab 402 149 = some ((3, 3, 0, []), 150) := rfl
theorem T_402_150 : hTab 402 150 = some ((26, 2, 0, []), 151) := rfl
theorem T_402_151 : hTab 402 151 = some ((18, 0, Int.ofNat 187, []), 154) := rfl
theorem T_402_154 : hTab 402 154 = some ((3, 0, 2, []), 155) := rfl
theorem T_402_155 : hTab 402 155 = some ((24, 17, Int.ofNat 30, []), 158) := rfl
theorem T_402_158 : hTab 402 158 = some ((3, 3, 0, []), 159) := rfl
theorem T_402_159 : hTab 402 159 = some ((26, 0, 0, []), 160) := rfl
theorem T_402_160 : hTab 402 160 = some ((14, 0, 0, []), 161) := rfl
theorem T_402_161 : hTab 402 161 = some ((0, 0, 16, []), 163) := rfl
theorem T_402_163 : hTab 402 163 = some ((3, 1, 0, []), 164) := rfl
theorem T_402_164 : hTab 402 164 = some ((10, 2, 0, []), 165) := rfl
theorem T_402_165 : hTab 402 165 = some ((0, 0, 16, []), 167) := rfl
theorem T_402_167 : hTab 402 167 = some ((10, 0, 0, []), 168) := rfl
theorem T_402_168 : hTab 402 168 = some ((14, 0, 0, []), 169) := rfl
theorem T_402_169 : hTab 402 169 = some ((0, 0, 16, []), 171) := rfl
theorem T_402_171 : hTab 402 171 = some ((3, 1, 0, []), 172) := rfl
theorem T_402_172 : hTab 402 172 = some ((10, 2, 0, []), 173) := rfl
theorem T_402_173 : hTab 402 173 = some ((0, 0, 18, []), 175) := rfl
theorem T_402_175 : hTab 402 175 = some ((10, 0, 0, []), 176) := rfl
theorem T_402_176 : hTab 402 176 = some ((14, 0, 0, []), 177) := rfl
theorem T_402_177 : hTab 402 177 = some ((31, 282, 0, []), 180) := rfl
theorem T_402_180 : hTab 402 180 = some ((18, 0, Int.ofNat 187, []), 183) := rfl
theorem T_402_183 : hTab 402 183 = some ((0, 0, 1, []), 184) := rfl
theorem T_402_184 : hTab 402 184 = some ((22, 0, Int.ofNat 188, []), 187) := rfl
theorem T_402_187 : hTab 402 187 = some ((0, 0, 0, []), 188) := rfl
theorem T_402_188 : hTab 402 188 = some ((27, 2, 0, []), 189) := rfl
theorem T_402_189 : hTab 402 189 = some ((5, 3, 1, []), 192) := rfl
theorem T_402_192 : hTab 402 192 = some ((22, 0, Int.ofNat 119, []), 195) := rfl
theorem T_402_195 : hTab 402 195 = some ((33, 0, 0, []), 196) := rfl
theorem mN_401 : hmN 401 = 1 := by decide +kernel
theorem mL_401 : hmL 401 = 2 := by decide +kernel
theorem mK_401 : hmK 401 = 1 := by decide +kernel
theorem mO_401 : hmO 401 = 17 := by decide +kernel
theorem mN_402 : hmN 402 = 2 := by decide +kernel
theorem mL_402 : hmL 402 = 4 := by decide +kernel
theorem mK_402 : hmK 402 = 1 := by decide +kernel
theorem mO_402 : hmO 402 = 17 := by decide +kernel
def gEn (P : qR) (lo hi a : Int) : qR := fun g k => if g = 2310 ∧ lo ≤ k ∧ k < hi then (if ¬ P 2310 k = 0 ∨ (¬ P 2304 k = 0 ∧ (a ≤ P 2306 k ∧ P 2306 k ≤ a + 2)) then 1 else 0) else P g k
def enCl (p : Int) : Nat → Int → qR → qR
  | 0, _, P => P
  | m + 1, k, P => enCl p m (k + 1) (if P 2327 (8 * p + k) < 0 then P else cClP P p k)
def enDr (g : Int) : Nat → Int → qR → qR
  | 0, _, P => P
  | m + 1, k, P => enDr g m (k + 1) (kDrM (8 * g + k) (P 2337 (8 * g + k)).toNat 0 P)
def en1 (P : qR) (p : Int) : qR := rU (rU (enCl p 8 0 P) 2320 p 0) 2321 p 0
def en2 (P : qR) (g : Int) : qR := if qPn P g 8 0 = 0 then rU (enDr g (P 2334 g).toNat 0 P) 2334 g 0 else P
def cEnd (P : qR) (p : Int) : qR := gEn (tP (en2 (en1 P p) (P 2323 p)) 0 (mOne 120 (P 2324 p))) 192 288 (16 * p + 16)
def enAll : Nat → Int → qR → qR
  | 0, _, P => P
  | m + 1, k, P => enAll m (k + 1) (if ¬ P 2320 k = 0 ∧ ¬ P 2321 k = 0 then cEnd P k else P)
section MEND
variable {fb : Bool} {d : Nat} {σ0 σ : hM} {P Q R S S1 S2 : qR} {T U s w g u p k e t z o q r pt off n N v np y a : Int} {l l1 l2 nm wd A : List Int} {h : List Ch} {l2v l3v : Option AV}
theorem gEn_f {lo hi : Int} {g : Nat} {k : Int} (h : g ≠ 2310) : gEn P lo hi a g k = P g k := if_neg (fun e => h e.1)
theorem gEn_o {lo hi : Int} {g : Nat} {k : Int} (h : k < lo ∨ hi ≤ k) : gEn P lo hi a g k = P g k := if_neg (fun e => by omega)
theorem gEn_z {lo : Int} : gEn P lo lo a = P := by
  funext g k
  exact if_neg (fun e => by omega)
theorem gEn_s {lo k z : Int} (h : lo ≤ k) (hz : z = if ¬ P 2310 k = 0 ∨ (¬ P 2304 k = 0 ∧ (a ≤ P 2306 k ∧ P 2306 k ≤ a + 2)) then 1 else 0) : rU (gEn P lo k a) 2310 k z = gEn P lo (k + 1) a := by
  funext g j
  unfold rU gEn
  by_cases h1 : g = 2310 ∧ j = k
  · rw [if_pos h1, if_pos ⟨h1.1, by omega, by omega⟩, h1.2]
    exact hz
  · rw [if_neg h1]
    by_cases h2 : g = 2310 ∧ lo ≤ j ∧ j < k
    · rw [if_pos h2, if_pos (show g = 2310 ∧ lo ≤ j ∧ j < k + 1 from ⟨h2.1, h2.2.1, by omega⟩)]
    · rw [if_neg h2, if_neg (show ¬ (g = 2310 ∧ lo ≤ j ∧ j < k + 1) from fun e => by have e1 := e.1; have e2 := e.2; by_cases h3 : j = k; exact h1 ⟨e1, h3⟩; exact h2 ⟨e1, e2.1, by omega⟩)]
theorem gEn_rf {lo hi : Int} : RF [2310] (gEn P lo hi a) P := fun f k hf => gEn_f (fun q => by rw [q] at hf; exact absurd hf (by decide))
theorem IV_gEn {lo hi : Int} (h : IV false T U P) : IV false T U (gEn P lo hi a) := by
  refine ⟨fun g ty len i a1 a2 a3 a4 a5 => ?_, fun j a1 a2 => ?_⟩
  · by_cases c : g = 2310 ∧ lo ≤ i ∧ i < hi
    · rw [show gEn P lo hi a g i = (if ¬ P 2310 i = 0 ∨ (¬ P 2304 i = 0 ∧ (a ≤ P 2306 i ∧ P 2306 i ≤ a + 2)) then 1 else 0) from if_pos c]
      obtain ⟨rfl, -⟩ := c
      show (0 : Int) ≤ _ ∧ _ ≤ (1 : Int)
      split <;> decide
    · rw [show gEn P lo hi a g i = P g i from if_neg c]
      exact h.1 g ty len i a1 a2 a3 a4 a5
  · rw [gEn_f (by decide)]
    exact h.2 j a1 a2
theorem GI_gEn {lo hi : Int} (h : GI T U P) (hl : 192 ≤ lo) : GI T U (gEn P lo hi a) := by
  refine ⟨⟨⟨IV_gEn h.iv, h.1.1.2.of (fun _ => gEn_f (by decide)) (fun _ => gEn_f (by decide)) (fun _ => gEn_f (by decide)) (fun _ => gEn_f (by decide))⟩, fun k a1 a2 a3 a4 => ?_⟩, h.2.1.of (fun _ => gEn_f (by decide)) (fun _ => gEn_f (by decide)) (fun _ => gEn_f (by decide)) (fun _ => gEn_f (by decide)) (fun _ => gEn_f (by decide)), h.2.2.of (fun _ => gEn_f (by decide)) (fun _ => gEn_f (by decide))⟩
  rw [gEn_f (by decide)] at a3
  rw [gEn_o (Or.inl (by omega))] at a4
  rw [gEn_f (by decide), gEn_f (by decide)]
  exact h.1.2 k a1 a2 a3 a4
/-- rows that closing leaves alone -/
theorem cClP_kf {f : Nat} {j : Int} (h1 : srvRow f = false) (h2 : f ≠ 2281) (h3 : f ≠ 2316) (h4 : f ≠ 2317) (h5 : f ≠ 2327) (h6 : f ≠ 2330) : cClP P p k f j = P f j := by
  unfold cClP
  split
  · rw [tP_f h1 h2 h3 h4]
    unfold gCl2 gCl
    rw [rU_f h6, rU_f h5]
  · exact rU_f h5
theorem enCl_kf {f : Nat} {j : Int} (h1 : srvRow f = false) (h2 : f ≠ 2281) (h3 : f ≠ 2316) (h4 : f ≠ 2317) (h5 : f ≠ 2327) (h6 : f ≠ 2330) : ∀ (m : Nat) (k : Int) (P : qR), enCl p m k P f j = P f j
  | 0, _, _ => rfl
  | m + 1, k, P => by
    show enCl p m (k + 1) (if P 2327 (8 * p + k) < 0 then P else cClP P p k) f j = _
    rw [enCl_kf h1 h2 h3 h4 h5 h6 m (k + 1) _]
    split
    · rfl
    · exact cClP_kf h1 h2 h3 h4 h5 h6
theorem enDr_kf : ∀ (m : Nat) (k : Int) (P : qR), KF (enDr g m k P) P
  | 0, _, _ => KF_rfl
  | m + 1, k, P => KF_tr (enDr_kf m (k + 1) _) (kDrM_kf _ _ _)
theorem m_end_cl (hp : 0 ≤ p ∧ p < 8) {Q : Option AV → hM → Prop} : ∀ (m : Nat) (k T : Int) (P S : qR) (σ : hM), k + m = 8 → 0 ≤ k → T + 4 * m + 49 ≤ 2147483000 → PM σ0 P S σ → KS T U P S l h → (∀ (σ : hM) (S2 : qR), PM σ0 (enCl p m k P) S2 σ → KS (T + 4 * m) U (enCl p m k P) S2 l h → SX scR scN S S2 → WP fb (d + 13) 402 35 [some (vR (some 2281)), some (vI p), some (vI 8), none] [] σ Q) → WP fb (d + 13) 402 2 [some (vR (some 2281)), some (vI p), some (vI k), none] [] σ Q := by
  intro m
  induction m with
  | zero =>
    intro k T P S σ h1 h2 h3 hP hK hQ
    have h1 : k + ((0 : Nat) : Int) = 8 := h1
    have hk : k = 8 := by omega
    subst hk
    have hgo := hQ σ S hP (hK.mono (by omega)) SX_rfl
    refine x_li (z := 8) T_402_2 rfl ?_
    refine x_ic T_402_3 ?_
    refine x_ic2 T_402_5 (fun _ => ?_) (fun h => absurd (show 8 ≤ (8 : Int) by decide) h)
    exact hgo
  | succ m ih =>
    intro k T P S σ h1 h2 h3 hP hK hQ
    have ek : enCl p (m + 1) k P = enCl p m (k + 1) (if P 2327 (8 * p + k) < 0 then P else cClP P p k) := rfl
    rw [ek] at hQ
    obtain ⟨y, hy⟩ : ∃ y, P 2327 (8 * p + k) = y := ⟨_, rfl⟩
    rw [hy] at hQ
    by_cases q : y < 0
    · rw [if_pos q] at hQ
      have hgo := ih (k + 1) T P S σ (by omega) (by omega) (by omega) hP hK (fun σ S2 a1 a2 a3 => hQ σ S2 a1 (a2.mono (by omega)) a3)
      refine x_li (z := k) T_402_2 rfl ?_
      refine x_ic T_402_3 ?_
      refine x_ic2 T_402_5 (fun h => absurd (show 8 ≤ k from h) (by omega)) (fun _ => ?_)
      refine x_lr (z := some 2281) T_402_8 rfl ?_
      refine x_gR (z := some 2327) T_402_9 F_17_57 (PM.t hP) (PM.r hP 57 2327 rfl) ?_
      refine x_ic T_402_12 ?_
      refine x_li (z := p) T_402_14 rfl ?_
      refine x_ib (w := (8 * p)) T_402_15 (fun h => absurd h.1 (by decide)) (w32_id (by omega) (by omega)) ?_
      refine x_li (z := k) T_402_16 rfl ?_
      refine x_ib (w := ((8 * p) + k)) T_402_17 (fun h => absurd h.1 (by decide)) (w32_id (by omega) (by omega)) ?_
      refine x_alI (z := y) T_402_18 (by decide) (PM.ta hP 2327 0 64 rfl rfl) (by omega) (by omega) (Eq.trans (PM.aP hP 2327 rfl rfl (by omega)) hy) ?_
      refine x_if T_402_19 (fun _ => ?_) (fun h => absurd (show y < 0 by omega) h)
      refine x_inc (w := (k + 1)) (ls1 := [some (vR (some 2281)), some (vI p), some (vI (k + 1)), none]) T_402_29 rfl (w32_id (by omega) (by omega)) rfl ?_
      refine x_goto T_402_32 ?_
      exact hgo
    · rw [if_neg q] at hQ
      have hcl := m_close (fb := fb) (d := d) hP hK hp ⟨h2, by omega⟩ (by omega) (by rw [hy]; omega)
      have hgo := fun (σ : hM) (S2 : qR) (a1 : PM σ0 (cClP P p k) S2 σ) (a2 : KS (T + 4) U (cClP P p k) S2 l h) (a3 : SX scR scN S S2) => ih (k + 1) (T + 4) _ S2 σ (by omega) (by omega) (by omega) a1 a2 (fun σ S3 b1 b2 b3 => hQ σ S3 b1 (b2.mono (by omega)) (SX_tr a3 b3))
      refine x_li (z := k) T_402_2 rfl ?_
      refine x_ic T_402_3 ?_
      refine x_ic2 T_402_5 (fun h => absurd (show 8 ≤ k from h) (by omega)) (fun _ => ?_)
      refine x_lr (z := some 2281) T_402_8 rfl ?_
      refine x_gR (z := some 2327) T_402_9 F_17_57 (PM.t hP) (PM.r hP 57 2327 rfl) ?_
      refine x_ic T_402_12 ?_
      refine x_li (z := p) T_402_14 rfl ?_
      refine x_ib (w := (8 * p)) T_402_15 (fun h => absurd h.1 (by decide)) (w32_id (by omega) (by omega)) ?_
      refine x_li (z := k) T_402_16 rfl ?_
      refine x_ib (w := ((8 * p) + k)) T_402_17 (fun h => absurd h.1 (by decide)) (w32_id (by omega) (by omega)) ?_
      refine x_alI (z := y) T_402_18 (by decide) (PM.ta hP 2327 0 64 rfl rfl) (by omega) (by omega) (Eq.trans (PM.aP hP 2327 rfl rfl (by omega)) hy) ?_
      refine x_if T_402_19 (fun h => absurd (show y < 0 from h) (by omega)) (fun _ => ?_)
      refine x_lr (z := some 2281) T_402_22 rfl ?_
      refine x_li (z := p) T_402_23 rfl ?_
      refine x_li (z := k) T_402_24 rfl ?_
      refine x_cv3 T_402_25 mN_380 mL_380 (Nat.le_of_ble_eq_true rfl) mO_380 (PM.t hP) (Nat.le_of_ble_eq_true rfl) (hcl) ?_
      clear hP hcl
      rintro _ σ ⟨S2, rfl, hP, hK2, hX2⟩
      refine cI ?_
      refine x_popI T_402_28 ?_
      refine x_inc (w := (k + 1)) (ls1 := [some (vR (some 2281)), some (vI p), some (vI (k + 1)), none]) T_402_29 rfl (w32_id (by omega) (by omega)) rfl ?_
      refine x_goto T_402_32 ?_
      exact hgo σ S2 hP hK2 hX2
theorem m_end_dr (hg : 0 ≤ g ∧ g < 8) (hn8 : np ≤ 8) {Q : Option AV → hM → Prop} : ∀ (m : Nat) (k T : Int) (P S : qR) (σ : hM), k + m = np → 0 ≤ k → P 2334 g = np → T + 24 * m + 100 ≤ 2147483000 → PM σ0 P S σ → KS T U P S l h → (∀ (σ : hM) (S2 : qR), PM σ0 (enDr g m k P) S2 σ → KS (T + 24 * m) U (enDr g m k P) S2 l h → SX scR scN S S2 → WP fb (d + 13) 402 92 [some (vR (some 2281)), some (vI p), some (vI g), some (vI np)] [] σ Q) → WP fb (d + 13) 402 66 [some (vR (some 2281)), some (vI p), some (vI g), some (vI k)] [] σ Q := by
  intro m
  induction m with
  | zero =>
    intro k T P S σ h1 h2 h3 h4 hP hK hQ
    have h1 : k + ((0 : Nat) : Int) = np := h1
    have hk : k = np := by omega
    subst hk
    have hgo := hQ σ S hP (hK.mono (by omega)) SX_rfl
    refine x_li (z := k) T_402_66 rfl ?_
    refine x_lr (z := some 2281) T_402_67 rfl ?_
    refine x_gR (z := some 2334) T_402_68 F_17_64 (PM.t hP) (PM.r hP 64 2334 rfl) ?_
    refine x_li (z := g) T_402_71 rfl ?_
    refine x_alI (z := k) T_402_72 (by decide) (PM.ta hP 2334 0 8 rfl rfl) (by omega) (by omega) (Eq.trans (PM.aP hP 2334 rfl rfl (by omega)) h3) ?_
    refine x_ic2 T_402_73 (fun _ => ?_) (fun h => absurd (show k ≤ k by omega) h)
    exact hgo
  | succ m ih =>
    intro k T P S σ h1 h2 h3 h4 hP hK hQ
    have ek : enDr g (m + 1) k P = enDr g m (k + 1) (kDrM (8 * g + k) (P 2337 (8 * g + k)).toNat 0 P) := rfl
    rw [ek] at hQ
    have hdm := m_dropMembers (fb := fb) (d := d) (pt := 8 * g + k) ⟨by omega, by omega⟩ (by omega) hP hK
    have hkm := kDrM_kf (pt := 8 * g + k) (P 2337 (8 * g + k)).toNat 0 P
    obtain ⟨P3, hP3⟩ : ∃ P3, kDrM (8 * g + k) (P 2337 (8 * g + k)).toNat 0 P = P3 := ⟨_, rfl⟩
    rw [hP3] at hdm hkm hQ
    have h33 : P3 2334 g = np := (hkm _ _ rfl (by decide) (by decide) (by decide)).trans h3
    have hgo := fun (σ : hM) (S2 : qR) (a1 : PM σ0 P3 S2 σ) (a2 : KS (T + 24) U P3 S2 l h) (a3 : SK S S2) => ih (k + 1) (T + 24) _ S2 σ (by omega) (by omega) h33 (by omega) a1 a2 (fun σ S3 b1 b2 b3 => hQ σ S3 b1 (b2.mono (by omega)) (SX_tr (SX_sc a3.sw) b3))
    refine x_li (z := k) T_402_66 rfl ?_
    refine x_lr (z := some 2281) T_402_67 rfl ?_
    refine x_gR (z := some 2334) T_402_68 F_17_64 (PM.t hP) (PM.r hP 64 2334 rfl) ?_
    refine x_li (z := g) T_402_71 rfl ?_
    refine x_alI (z := np) T_402_72 (by decide) (PM.ta hP 2334 0 8 rfl rfl) (by omega) (by omega) (Eq.trans (PM.aP hP 2334 rfl rfl (by omega)) h3) ?_
    refine x_ic2 T_402_73 (fun h => absurd (show np ≤ k from h) (by omega)) (fun _ => ?_)
    refine x_lr (z := some 2281) T_402_76 rfl ?_
    refine x_ic T_402_77 ?_
    refine x_li (z := g) T_402_79 rfl ?_
    refine x_ib (w := (8 * g)) T_402_80 (fun h => absurd h.1 (by decide)) (w32_id (by omega) (by omega)) ?_
    refine x_li (z := k) T_402_81 rfl ?_
    refine x_ib (w := ((8 * g) + k)) T_402_82 (fun h => absurd h.1 (by decide)) (w32_id (by omega) (by omega)) ?_
    refine x_cv2 T_402_83 mN_367 mL_367 (Nat.le_of_ble_eq_true rfl) mO_367 (PM.t hP) (Nat.le_of_ble_eq_true rfl) (hdm) ?_
    clear hP hdm
    rintro _ σ ⟨S2, rfl, hP, hK2, hX2⟩
    refine cV ?_
    refine x_inc (w := (k + 1)) (ls1 := [some (vR (some 2281)), some (vI p), some (vI g), some (vI (k + 1))]) T_402_86 rfl (w32_id (by omega) (by omega)) rfl ?_
    refine x_goto T_402_89 ?_
    exact hgo σ S2 hP hK2 hX2
theorem m_end_gone (ha : a = 16 * p + 16) (hp : 0 ≤ p ∧ p < 8) (hI : IV false T U P) {Q : Option AV → hM → Prop} : ∀ (m : Nat) (k : Int) (σ : hM), k + m = 288 → 192 ≤ k → PM σ0 (gEn P 192 k a) S σ → (∀ σ : hM, PM σ0 (gEn P 192 288 a) S σ → Q none σ) → WP fb (d + 13) 402 119 [some (vR (some 2281)), some (vI p), some (vI g), some (vI k)] [] σ Q := by
  intro m
  induction m with
  | zero =>
    intro k σ h1 h2 hP hQ
    have h1 : k + ((0 : Nat) : Int) = 288 := h1
    have hk : k = 288 := by omega
    subst hk
    have hgo := hQ σ hP
    refine x_li (z := 288) T_402_119 rfl ?_
    refine x_ic T_402_120 ?_
    refine x_ic T_402_121 ?_
    refine x_cs2 T_402_122 mN_243 mL_243 (Nat.le_of_ble_eq_true rfl) mK_243 (Nat.le_of_ble_eq_true rfl) (m_base (by decide) (by decide)) ?_
    rintro _ σ ⟨rfl, rfl⟩
    refine cI ?_
    refine x_ic T_402_125 ?_
    refine x_ib (w := 288) T_402_127 (fun h => absurd h.1 (by decide)) (by decide) ?_
    refine x_ic2 T_402_128 (fun _ => ?_) (fun h => absurd (show 288 ≤ (288 : Int) by decide) h)
    refine x_rv T_402_195 ?_
    exact hgo
  | succ m ih =>
    intro k σ h1 h2 hP hQ
    have e1 : gEn P 192 k a 2310 k = P 2310 k := gEn_o (Or.inr (Int.le_refl k))
    have e2 : gEn P 192 k a 2304 k = P 2304 k := gEn_f (by decide)
    have e3 : gEn P 192 k a 2306 k = P 2306 k := gEn_f (by decide)
    have b1 : 0 ≤ P 2310 k ∧ P 2310 k ≤ 1 := IV.a hI 2310 2 288 rfl rfl rfl (by omega) (by omega)
    have b2 : 0 ≤ P 2304 k ∧ P 2304 k ≤ 1 := IV.a hI 2304 2 288 rfl rfl rfl (by omega) (by omega)
    have b3 : 0 ≤ P 2306 k ∧ P 2306 k ≤ 143 := by
      have := IV.a hI 2306 0 288 rfl rfl rfl (show 0 ≤ k by omega) (by omega)
      have e : ivP T U 2306 k = (0, if k < 192 then 63 else 143) := rfl
      rw [e, if_neg (by omega)] at this
      exact this
    obtain ⟨y1, hy1⟩ : ∃ y, P 2310 k = y := ⟨_, rfl⟩
    obtain ⟨y2, hy2⟩ : ∃ y, P 2304 k = y := ⟨_, rfl⟩
    obtain ⟨y3, hy3⟩ : ∃ y, P 2306 k = y := ⟨_, rfl⟩
    rw [hy1] at e1 b1
    rw [hy2] at e2 b2
    rw [hy3] at e3 b3
    have hgo : ∀ (z : Int), z = (if ¬ y1 = 0 ∨ (¬ y2 = 0 ∧ (a ≤ y3 ∧ y3 ≤ a + 2)) then 1 else 0) → ∀ σ : hM, PM σ0 (rU (gEn P 192 k a) 2310 k z) S σ → WP fb (d + 13) 402 119 [some (vR (some 2281)), some (vI p), some (vI g), some (vI (k + 1))] [] σ Q := fun z hz σ hP => ih (k + 1) σ (by omega) (by omega) (by rw [gEn_s (by omega) (by rw [hy1, hy2, hy3]; exact hz)] at hP; exact hP) hQ
    by_cases q1 : y1 = 0
    · by_cases q2 : y2 = 0
      · skip
        refine x_li (z := k) T_402_119 rfl ?_
        refine x_ic T_402_120 ?_
        refine x_ic T_402_121 ?_
        refine x_cs2 T_402_122 mN_243 mL_243 (Nat.le_of_ble_eq_true rfl) mK_243 (Nat.le_of_ble_eq_true rfl) (m_base (by decide) (by decide)) ?_
        rintro _ σ ⟨rfl, rfl⟩
        refine cI ?_
        refine x_ic T_402_125 ?_
        refine x_ib (w := 288) T_402_127 (fun h => absurd h.1 (by decide)) (by decide) ?_
        refine x_ic2 T_402_128 (fun h => absurd (show 288 ≤ k from h) (by omega)) (fun _ => ?_)
        refine x_lr (z := some 2281) T_402_131 rfl ?_
        refine x_gR (z := some 2310) T_402_132 F_17_34 (PM.t hP) (PM.r hP 34 2310 rfl) ?_
        refine x_li (z := k) T_402_135 rfl ?_
        refine x_lr (z := some 2281) T_402_136 rfl ?_
        refine x_gR (z := some 2310) T_402_137 F_17_34 (PM.t hP) (PM.r hP 34 2310 rfl) ?_
        refine x_li (z := k) T_402_140 rfl ?_
        refine x_alI (z := y1) T_402_141 (by decide) (PM.ta hP 2310 2 288 rfl rfl) (by omega) (by omega) (Eq.trans (PM.aP hP 2310 rfl rfl (by omega)) e1) ?_
        refine x_if T_402_142 (fun h => absurd (show ¬ y1 = 0 from h) (by omega)) (fun _ => ?_)
        refine x_lr (z := some 2281) T_402_145 rfl ?_
        refine x_gR (z := some 2304) T_402_146 F_17_28 (PM.t hP) (PM.r hP 28 2304 rfl) ?_
        refine x_li (z := k) T_402_149 rfl ?_
        refine x_alI (z := y2) T_402_150 (by decide) (PM.ta hP 2304 2 288 rfl rfl) (by omega) (by omega) (Eq.trans (PM.aP hP 2304 rfl rfl (by omega)) e2) ?_
        refine x_if T_402_151 (fun _ => ?_) (fun h => absurd (show y2 = 0 by omega) h)
        refine x_ic T_402_187 ?_
        refine y_aZP hP T_402_188 rfl 2310 288 rfl rfl rfl (by omega) (by omega) (fun σ hP => ?_)
        refine x_inc (w := (k + 1)) (ls1 := [some (vR (some 2281)), some (vI p), some (vI g), some (vI (k + 1))]) T_402_189 rfl (w32_id (by omega) (by omega)) rfl ?_
        refine x_goto T_402_192 ?_
        exact hgo 0 (if_neg (by omega)).symm σ hP
      · by_cases q3 : a ≤ y3 ∧ y3 ≤ a + 2
        · skip
          refine x_li (z := k) T_402_119 rfl ?_
          refine x_ic T_402_120 ?_
          refine x_ic T_402_121 ?_
          refine x_cs2 T_402_122 mN_243 mL_243 (Nat.le_of_ble_eq_true rfl) mK_243 (Nat.le_of_ble_eq_true rfl) (m_base (by decide) (by decide)) ?_
          rintro _ σ ⟨rfl, rfl⟩
          refine cI ?_
          refine x_ic T_402_125 ?_
          refine x_ib (w := 288) T_402_127 (fun h => absurd h.1 (by decide)) (by decide) ?_
          refine x_ic2 T_402_128 (fun h => absurd (show 288 ≤ k from h) (by omega)) (fun _ => ?_)
          refine x_lr (z := some 2281) T_402_131 rfl ?_
          refine x_gR (z := some 2310) T_402_132 F_17_34 (PM.t hP) (PM.r hP 34 2310 rfl) ?_
          refine x_li (z := k) T_402_135 rfl ?_
          refine x_lr (z := some 2281) T_402_136 rfl ?_
          refine x_gR (z := some 2310) T_402_137 F_17_34 (PM.t hP) (PM.r hP 34 2310 rfl) ?_
          refine x_li (z := k) T_402_140 rfl ?_
          refine x_alI (z := y1) T_402_141 (by decide) (PM.ta hP 2310 2 288 rfl rfl) (by omega) (by omega) (Eq.trans (PM.aP hP 2310 rfl rfl (by omega)) e1) ?_
          refine x_if T_402_142 (fun h => absurd (show ¬ y1 = 0 from h) (by omega)) (fun _ => ?_)
          refine x_lr (z := some 2281) T_402_145 rfl ?_
          refine x_gR (z := some 2304) T_402_146 F_17_28 (PM.t hP) (PM.r hP 28 2304 rfl) ?_
          refine x_li (z := k) T_402_149 rfl ?_
          refine x_alI (z := y2) T_402_150 (by decide) (PM.ta hP 2304 2 288 rfl rfl) (by omega) (by omega) (Eq.trans (PM.aP hP 2304 rfl rfl (by omega)) e2) ?_
          refine x_if T_402_151 (fun h => absurd (show y2 = 0 from h) (by omega)) (fun _ => ?_)
          refine x_lr (z := some 2281) T_402_154 rfl ?_
          refine x_gR (z := some 2306) T_402_155 F_17_30 (PM.t hP) (PM.r hP 30 2306 rfl) ?_
          refine x_li (z := k) T_402_158 rfl ?_
          refine x_alI (z := y3) T_402_159 (by decide) (PM.ta hP 2306 0 288 rfl rfl) (by omega) (by omega) (Eq.trans (PM.aP hP 2306 rfl rfl (by omega)) e3) ?_
          refine x_i2l T_402_160 ?_
          refine x_ic T_402_161 ?_
          refine x_li (z := p) T_402_163 rfl ?_
          refine x_ib (w := (16 * p)) T_402_164 (fun h => absurd h.1 (by decide)) (w32_id (by omega) (by omega)) ?_
          refine x_ic T_402_165 ?_
          refine x_ib (w := ((16 * p) + 16)) T_402_167 (fun h => absurd h.1 (by decide)) (w32_id (by omega) (by omega)) ?_
          refine x_i2l T_402_168 ?_
          refine x_ic T_402_169 ?_
          refine x_li (z := p) T_402_171 rfl ?_
          refine x_ib (w := (16 * p)) T_402_172 (fun h => absurd h.1 (by decide)) (w32_id (by omega) (by omega)) ?_
          refine x_ic T_402_173 ?_
          refine x_ib (w := ((16 * p) + 18)) T_402_175 (fun h => absurd h.1 (by decide)) (w32_id (by omega) (by omega)) ?_
          refine x_i2l T_402_176 ?_
          refine x_cs3 T_402_177 mN_282 mL_282 (Nat.le_of_ble_eq_true rfl) mK_282 (Nat.le_of_ble_eq_true rfl) (CL_val m_in (if_pos (by omega))) ?_
          rintro _ σ ⟨rfl, rfl⟩
          refine cI ?_
          refine x_if T_402_180 (fun h => absurd (show (1 : Int) = 0 from h) (by decide)) (fun _ => ?_)
          refine x_ic T_402_183 ?_
          refine x_goto T_402_184 ?_
          refine y_aZP hP T_402_188 rfl 2310 288 rfl rfl rfl (by omega) (by omega) (fun σ hP => ?_)
          refine x_inc (w := (k + 1)) (ls1 := [some (vR (some 2281)), some (vI p), some (vI g), some (vI (k + 1))]) T_402_189 rfl (w32_id (by omega) (by omega)) rfl ?_
          refine x_goto T_402_192 ?_
          exact hgo 1 (if_pos (Or.inr ⟨q2, q3⟩)).symm σ hP
        · skip
          refine x_li (z := k) T_402_119 rfl ?_
          refine x_ic T_402_120 ?_
          refine x_ic T_402_121 ?_
          refine x_cs2 T_402_122 mN_243 mL_243 (Nat.le_of_ble_eq_true rfl) mK_243 (Nat.le_of_ble_eq_true rfl) (m_base (by decide) (by decide)) ?_
          rintro _ σ ⟨rfl, rfl⟩
          refine cI ?_
          refine x_ic T_402_125 ?_
          refine x_ib (w := 288) T_402_127 (fun h => absurd h.1 (by decide)) (by decide) ?_
          refine x_ic2 T_402_128 (fun h => absurd (show 288 ≤ k from h) (by omega)) (fun _ => ?_)
          refine x_lr (z := some 2281) T_402_131 rfl ?_
          refine x_gR (z := some 2310) T_402_132 F_17_34 (PM.t hP) (PM.r hP 34 2310 rfl) ?_
          refine x_li (z := k) T_402_135 rfl ?_
          refine x_lr (z := some 2281) T_402_136 rfl ?_
          refine x_gR (z := some 2310) T_402_137 F_17_34 (PM.t hP) (PM.r hP 34 2310 rfl) ?_
          refine x_li (z := k) T_402_140 rfl ?_
          refine x_alI (z := y1) T_402_141 (by decide) (PM.ta hP 2310 2 288 rfl rfl) (by omega) (by omega) (Eq.trans (PM.aP hP 2310 rfl rfl (by omega)) e1) ?_
          refine x_if T_402_142 (fun h => absurd (show ¬ y1 = 0 from h) (by omega)) (fun _ => ?_)
          refine x_lr (z := some 2281) T_402_145 rfl ?_
          refine x_gR (z := some 2304) T_402_146 F_17_28 (PM.t hP) (PM.r hP 28 2304 rfl) ?_
          refine x_li (z := k) T_402_149 rfl ?_
          refine x_alI (z := y2) T_402_150 (by decide) (PM.ta hP 2304 2 288 rfl rfl) (by omega) (by omega) (Eq.trans (PM.aP hP 2304 rfl rfl (by omega)) e2) ?_
          refine x_if T_402_151 (fun h => absurd (show y2 = 0 from h) (by omega)) (fun _ => ?_)
          refine x_lr (z := some 2281) T_402_154 rfl ?_
          refine x_gR (z := some 2306) T_402_155 F_17_30 (PM.t hP) (PM.r hP 30 2306 rfl) ?_
          refine x_li (z := k) T_402_158 rfl ?_
          refine x_alI (z := y3) T_402_159 (by decide) (PM.ta hP 2306 0 288 rfl rfl) (by omega) (by omega) (Eq.trans (PM.aP hP 2306 rfl rfl (by omega)) e3) ?_
          refine x_i2l T_402_160 ?_
          refine x_ic T_402_161 ?_
          refine x_li (z := p) T_402_163 rfl ?_
          refine x_ib (w := (16 * p)) T_402_164 (fun h => absurd h.1 (by decide)) (w32_id (by omega) (by omega)) ?_
          refine x_ic T_402_165 ?_
          refine x_ib (w := ((16 * p) + 16)) T_402_167 (fun h => absurd h.1 (by decide)) (w32_id (by omega) (by omega)) ?_
          refine x_i2l T_402_168 ?_
          refine x_ic T_402_169 ?_
          refine x_li (z := p) T_402_171 rfl ?_
          refine x_ib (w := (16 * p)) T_402_172 (fun h => absurd h.1 (by decide)) (w32_id (by omega) (by omega)) ?_
          refine x_ic T_402_173 ?_
          refine x_ib (w := ((16 * p) + 18)) T_402_175 (fun h => absurd h.1 (by decide)) (w32_id (by omega) (by omega)) ?_
          refine x_i2l T_402_176 ?_
          refine x_cs3 T_402_177 mN_282 mL_282 (Nat.le_of_ble_eq_true rfl) mK_282 (Nat.le_of_ble_eq_true rfl) (CL_val m_in (if_neg (by omega))) ?_
          rintro _ σ ⟨rfl, rfl⟩
          refine cI ?_
          refine x_if T_402_180 (fun _ => ?_) (fun h => absurd (show (0 : Int) = 0 by decide) h)
          refine x_ic T_402_187 ?_
          refine y_aZP hP T_402_188 rfl 2310 288 rfl rfl rfl (by omega) (by omega) (fun σ hP => ?_)
          refine x_inc (w := (k + 1)) (ls1 := [some (vR (some 2281)), some (vI p), some (vI g), some (vI (k + 1))]) T_402_189 rfl (w32_id (by omega) (by omega)) rfl ?_
          refine x_goto T_402_192 ?_
          exact hgo 0 (if_neg (by omega)).symm σ hP
    · skip
      refine x_li (z := k) T_402_119 rfl ?_
      refine x_ic T_402_120 ?_
      refine x_ic T_402_121 ?_
      refine x_cs2 T_402_122 mN_243 mL_243 (Nat.le_of_ble_eq_true rfl) mK_243 (Nat.le_of_ble_eq_true rfl) (m_base (by decide) (by decide)) ?_
      rintro _ σ ⟨rfl, rfl⟩
      refine cI ?_
      refine x_ic T_402_125 ?_
      refine x_ib (w := 288) T_402_127 (fun h => absurd h.1 (by decide)) (by decide) ?_
      refine x_ic2 T_402_128 (fun h => absurd (show 288 ≤ k from h) (by omega)) (fun _ => ?_)
      refine x_lr (z := some 2281) T_402_131 rfl ?_
      refine x_gR (z := some 2310) T_402_132 F_17_34 (PM.t hP) (PM.r hP 34 2310 rfl) ?_
      refine x_li (z := k) T_402_135 rfl ?_
      refine x_lr (z := some 2281) T_402_136 rfl ?_
      refine x_gR (z := some 2310) T_402_137 F_17_34 (PM.t hP) (PM.r hP 34 2310 rfl) ?_
      refine x_li (z := k) T_402_140 rfl ?_
      refine x_alI (z := y1) T_402_141 (by decide) (PM.ta hP 2310 2 288 rfl rfl) (by omega) (by omega) (Eq.trans (PM.aP hP 2310 rfl rfl (by omega)) e1) ?_
      refine x_if T_402_142 (fun _ => ?_) (fun h => absurd (show ¬ y1 = 0 by omega) h)
      refine x_ic T_402_183 ?_
      refine x_goto T_402_184 ?_
      refine y_aZP hP T_402_188 rfl 2310 288 rfl rfl rfl (by omega) (by omega) (fun σ hP => ?_)
      refine x_inc (w := (k + 1)) (ls1 := [some (vR (some 2281)), some (vI p), some (vI g), some (vI (k + 1))]) T_402_189 rfl (w32_id (by omega) (by omega)) rfl ?_
      refine x_goto T_402_192 ?_
      exact hgo 1 (if_pos (Or.inl q1)).symm σ hP
/-- behind the points: the root, and what server 2 shows of it -/
theorem m_end_root (hP : PM σ0 P S σ) (hK : KS T U P S l h) (hp : 0 ≤ p ∧ p < 8) (hrt : P 2324 p = r) (hT : T + 100 ≤ 2147483000) : WP fb (d + 13) 402 99 [some (vR (some 2281)), some (vI p), some (vI g), l3v] [] σ (fun r1 σ' => ∃ S2 : qR, r1 = none ∧ PM σ0 (gEn (tP P 0 (mOne 120 r)) 192 288 (16 * p + 16)) S2 σ' ∧ KS (T + 4) U (gEn (tP P 0 (mOne 120 r)) 192 288 (16 * p + 16)) S2 l h ∧ SX scR scN S S2) := by
  obtain ⟨P2, hP2⟩ : ∃ P2, tP P 0 (mOne 120 r) = P2 := ⟨_, rfl⟩
  have ha := g_askOne (fb := fb) (d := d + 1) (f := r) hP hK.2.2.1 hK.1 (by omega) (show (0 : Int) ≤ 0 ∧ (0 : Int) < 3 by decide) (Or.inl rfl)
  have hgo := fun (σ : hM) (S2 : qR) (hP : PM σ0 P2 S2 σ) (hK2 : KS (T + 4) U P2 S2 l h) (hX2 : SX scR scN S S2) => m_end_gone (fb := fb) (d := d) (σ0 := σ0) (P := P2) (S := S2) (p := p) (g := g) (a := 16 * p + 16) rfl hp hK2.1.iv (Q := fun r1 σ' => ∃ S2 : qR, r1 = none ∧ PM σ0 (gEn P2 192 288 (16 * p + 16)) S2 σ' ∧ KS (T + 4) U (gEn P2 192 288 (16 * p + 16)) S2 l h ∧ SX scR scN S S2) 96 192 σ (by decide) (by decide) (by rw [gEn_z]; exact hP) (fun σ hP => ⟨S2, rfl, hP, ⟨GI_gEn hK2.1 (by decide), PTS_rf hK2.2.1 gEn_rf rfl rfl, hK2.2.2⟩, hX2⟩)
  rw [hP2]
  refine x_lr (z := some 2281) T_402_99 rfl ?_
  refine x_ic T_402_100 ?_
  refine x_ic T_402_102 ?_
  refine x_lr (z := some 2281) T_402_103 rfl ?_
  refine x_gR (z := some 2324) T_402_104 F_17_54 (PM.t hP) (PM.r hP 54 2324 rfl) ?_
  refine x_li (z := p) T_402_107 rfl ?_
  refine x_alI (z := r) T_402_108 (by decide) (PM.ta hP 2324 0 8 rfl rfl) (by omega) (by omega) (Eq.trans (PM.aP hP 2324 rfl rfl (by omega)) hrt) ?_
  refine x_cv4 T_402_109 mN_345 mL_345 (Nat.le_of_ble_eq_true rfl) mO_345 (PM.t hP) (Nat.le_of_ble_eq_true rfl) (ha) ?_
  clear hP ha
  intro r1 σ hr
  obtain ⟨S2, rfl, hP, hK2, hX2, -⟩ := hK.ask (T1 := T + 4) (by omega) hr
  rw [hP2] at hP hK2
  refine cI ?_
  refine x_popI T_402_112 ?_
  refine x_ic T_402_113 ?_
  refine x_ic T_402_114 ?_
  refine x_cs2 T_402_115 mN_243 mL_243 (Nat.le_of_ble_eq_true rfl) mK_243 (Nat.le_of_ble_eq_true rfl) (m_base (by decide) (by decide)) ?_
  rintro _ σ ⟨rfl, rfl⟩
  refine cI ?_
  refine x_si (ls1 := [some (vR (some 2281)), some (vI p), some (vI g), some (vI 192)]) T_402_118 rfl ?_
  exact hgo σ S2 hP hK2 hX2
theorem m_end (hP : PM σ0 P S σ) (hK : KS T U P S l h) (hp : 0 ≤ p ∧ p < 8) (hT : T + 500 ≤ 2147483000) : CL fb (d + 13) 402 [vR (some 2281), vI p] σ (fun r1 σ' => ∃ S2 : qR, r1 = none ∧ PM σ0 (cEnd P p) S2 σ' ∧ KS (T + 228) U (cEnd P p) S2 l h ∧ SX scR scN S S2) := by
  have bg : 0 ≤ P 2323 p ∧ P 2323 p ≤ 7 := IV.a hK.1.iv 2323 0 8 rfl rfl rfl (by omega) (by omega)
  have ec1 := enCl_kf (p := p) (f := 2323) (j := p) rfl (by decide) (by decide) (by decide) (by decide) (by decide) 8 0 P
  have ec2 := enCl_kf (p := p) (f := 2324) (j := p) rfl (by decide) (by decide) (by decide) (by decide) (by decide) 8 0 P
  unfold cEnd
  obtain ⟨g, hg⟩ : ∃ g, P 2323 p = g := ⟨_, rfl⟩
  obtain ⟨rt, hrt⟩ : ∃ rt, P 2324 p = rt := ⟨_, rfl⟩
  rw [hg] at ec1 bg
  rw [hrt] at ec2
  rw [hg, hrt]
  unfold en1
  have key : ∀ (P1 : qR) (σ : hM) (S1 : qR), enCl p 8 0 P = P1 → PM σ0 P1 S1 σ → KS (T + 32) U P1 S1 l h → SX scR scN S S1 → WP fb (d + 13) 402 35 [some (vR (some 2281)), some (vI p), some (vI 8), none] [] σ (fun r1 σ' => ∃ S2 : qR, r1 = none ∧ PM σ0 (gEn (tP (en2 (rU (rU P1 2320 p 0) 2321 p 0) g) 0 (mOne 120 rt)) 192 288 (16 * p + 16)) S2 σ' ∧ KS (T + 228) U (gEn (tP (en2 (rU (rU P1 2320 p 0) 2321 p 0) g) 0 (mOne 120 rt)) 192 288 (16 * p + 16)) S2 l h ∧ SX scR scN S S2) := fun P1 σ S1 e1 a1 a2 a3 => by
    rw [e1] at ec1 ec2
    obtain ⟨P2, hP2⟩ : ∃ P2, rU (rU P1 2320 p 0) 2321 p 0 = P2 := ⟨_, rfl⟩
    have h2 : GI (T + 32) U P2 := by
      rw [← hP2]
      exact GI_one (f := 2321) (ty := 2) (len := 8) (GI_one (f := 2320) (j := p) (v := 0) (ty := 2) (len := 8) a2.1 rfl (show (0 : Int) ≤ 0 ∧ (0 : Int) ≤ 1 by decide) rfl rfl rfl rfl rfl rfl rfl rfl rfl (by decide) (by decide)) rfl (show (0 : Int) ≤ 0 ∧ (0 : Int) ≤ 1 by decide) rfl rfl rfl rfl rfl rfl rfl rfl rfl (by decide) (by decide)
    have p2 : PTS P2 := by
      rw [← hP2]
      exact a2.2.1.row (fun k => (rU_f (by decide)).trans (rU_f (by decide))) (fun k => (rU_f (by decide)).trans (rU_f (by decide)))
    have g2 : P2 2323 p = g := by
      rw [← hP2]
      exact (rU_f (by decide)).trans ((rU_f (by decide)).trans ec1)
    have r2 : P2 2324 p = rt := by
      rw [← hP2]
      exact (rU_f (by decide)).trans ((rU_f (by decide)).trans ec2)
    have hK2 : KS (T + 32) U P2 S1 l h := ⟨h2, p2, a2.2.2⟩
    have bp : 0 ≤ P2 2334 g ∧ P2 2334 g ≤ 8 := IV.a h2.iv 2334 0 8 rfl rfl rfl (by omega) (by omega)
    have hpn := fun (σ : hM) (hP : PM σ0 P2 S1 σ) => m_processesOf (fb := fb) (d := d + 12) (g := g) hP
    rw [hP2]
    unfold en2
    obtain ⟨n, hn⟩ : ∃ n, qPn P2 g 8 0 = n := ⟨_, rfl⟩
    rw [hn] at hpn ⊢
    have h41 : ∀ σ : hM, PM σ0 P2 S1 σ → WP fb (d + 13) 402 49 [some (vR (some 2281)), some (vI p), some (vI 8), none] [] σ (fun r1 σ' => ∃ S2 : qR, r1 = none ∧ PM σ0 (gEn (tP (if n = 0 then rU (enDr g (P2 2334 g).toNat 0 P2) 2334 g 0 else P2) 0 (mOne 120 rt)) 192 288 (16 * p + 16)) S2 σ' ∧ KS (T + 228) U (gEn (tP (if n = 0 then rU (enDr g (P2 2334 g).toNat 0 P2) 2334 g 0 else P2) 0 (mOne 120 rt)) 192 288 (16 * p + 16)) S2 l h ∧ SX scR scN S S2) := fun σ hP => by
      by_cases q : n = 0
      · rw [if_pos q]
        obtain ⟨np, hnp⟩ : ∃ np, P2 2334 g = np := ⟨_, rfl⟩
        rw [hnp] at bp ⊢
        have hkm := enDr_kf (g := g) np.toNat 0 P2
        have h66 := fun (σ : hM) (hP : PM σ0 P2 S1 σ) => m_end_dr (fb := fb) (d := d) (p := p) (g := g) (np := np) (by omega) bp.2 (Q := fun r1 σ' => ∃ S2 : qR, r1 = none ∧ PM σ0 (gEn (tP (rU (enDr g np.toNat 0 P2) 2334 g 0) 0 (mOne 120 rt)) 192 288 (16 * p + 16)) S2 σ' ∧ KS (T + 228) U (gEn (tP (rU (enDr g np.toNat 0 P2) 2334 g 0) 0 (mOne 120 rt)) 192 288 (16 * p + 16)) S2 l h ∧ SX scR scN S S2) np.toNat 0 (T + 32) P2 S1 σ (by omega) (by decide) hnp (by omega) hP hK2 (fun σ S3 b1 b2 b3 => by
          obtain ⟨P3, hP3⟩ : ∃ P3, enDr g np.toNat 0 P2 = P3 := ⟨_, rfl⟩
          rw [hP3] at b1 b2 hkm ⊢
          have h3 : GI (T + 32 + 24 * np.toNat) U (rU P3 2334 g 0) := GI_one (f := 2334) (ty := 0) (len := 8) b2.1 rfl (show (0 : Int) ≤ 0 ∧ (0 : Int) ≤ 8 by decide) rfl rfl rfl rfl rfl rfl rfl rfl rfl (by decide) (by decide)
          have r3 : rU P3 2334 g 0 2324 p = rt := (rU_f (by decide)).trans ((hkm _ _ rfl (by decide) (by decide) (by decide)).trans r2)
          have hro := fun (σ : hM) (hP : PM σ0 (rU P3 2334 g 0) S3 σ) => WP.mono (m_end_root (fb := fb) (d := d) (g := g) (l3v := some (vI np)) hP (l := l) (h := h) ⟨h3, PTS_pt0 b2.2.1, b2.2.2⟩ hp r3 (by omega)) (Q := fun r1 σ' => ∃ S2 : qR, r1 = none ∧ PM σ0 (gEn (tP (rU P3 2334 g 0) 0 (mOne 120 rt)) 192 288 (16 * p + 16)) S2 σ' ∧ KS (T + 228) U (gEn (tP (rU P3 2334 g 0) 0 (mOne 120 rt)) 192 288 (16 * p + 16)) S2 l h ∧ SX scR scN S S2) (fun r σ1 hr => by
            obtain ⟨S4, r1, r2, r3, r4⟩ := hr
            exact ⟨S4, r1, r2, r3.mono (by omega), SX_tr a3 (SX_tr b3 r4)⟩)
          have hP := b1
          replace hP : PM σ0 P3 S3 σ := hP
          refine x_lr (z := some 2281) T_402_92 rfl ?_
          refine x_gR (z := some 2334) T_402_93 F_17_64 (PM.t hP) (PM.r hP 64 2334 rfl) ?_
          refine x_li (z := g) T_402_96 rfl ?_
          refine x_ic T_402_97 ?_
          refine y_aIP hP T_402_98 2334 8 rfl rfl rfl (by omega) (by omega) (fun σ hP => ?_)
          exact hro σ hP
          )
        refine x_lr (z := some 2281) T_402_49 rfl ?_
        refine x_gR (z := some 2323) T_402_50 F_17_53 (PM.t hP) (PM.r hP 53 2323 rfl) ?_
        refine x_li (z := p) T_402_53 rfl ?_
        refine x_alI (z := g) T_402_54 (by decide) (PM.ta hP 2323 0 8 rfl rfl) (by omega) (by omega) (Eq.trans (PM.aP hP 2323 rfl rfl (by omega)) g2) ?_
        refine x_si (ls1 := [some (vR (some 2281)), some (vI p), some (vI g), none]) T_402_55 rfl ?_
        refine x_lr (z := some 2281) T_402_56 rfl ?_
        refine x_li (z := g) T_402_57 rfl ?_
        refine x_cv2 T_402_58 mN_385 mL_385 (Nat.le_of_ble_eq_true rfl) mO_385 (PM.t hP) (Nat.le_of_ble_eq_true rfl) (hpn σ hP) ?_
        rintro _ σ ⟨rfl, rfl⟩
        refine cI ?_
        refine x_if T_402_61 (fun h => absurd (show ¬ n = 0 from h) (by omega)) (fun _ => ?_)
        refine x_ic T_402_64 ?_
        refine x_si (ls1 := [some (vR (some 2281)), some (vI p), some (vI g), some (vI 0)]) T_402_65 rfl ?_
        exact h66 σ hP
      · rw [if_neg q]
        have hro := WP.mono (m_end_root (fb := fb) (d := d) (g := g) (l3v := none) hP (l := l) (h := h) hK2 hp r2 (by omega)) (Q := fun r1 σ' => ∃ S2 : qR, r1 = none ∧ PM σ0 (gEn (tP P2 0 (mOne 120 rt)) 192 288 (16 * p + 16)) S2 σ' ∧ KS (T + 228) U (gEn (tP P2 0 (mOne 120 rt)) 192 288 (16 * p + 16)) S2 l h ∧ SX scR scN S S2) (fun r σ1 hr => by
          obtain ⟨S4, r1, r2, r3, r4⟩ := hr
          exact ⟨S4, r1, r2, r3.mono (by omega), SX_tr a3 r4⟩)
        refine x_lr (z := some 2281) T_402_49 rfl ?_
        refine x_gR (z := some 2323) T_402_50 F_17_53 (PM.t hP) (PM.r hP 53 2323 rfl) ?_
        refine x_li (z := p) T_402_53 rfl ?_
        refine x_alI (z := g) T_402_54 (by decide) (PM.ta hP 2323 0 8 rfl rfl) (by omega) (by omega) (Eq.trans (PM.aP hP 2323 rfl rfl (by omega)) g2) ?_
        refine x_si (ls1 := [some (vR (some 2281)), some (vI p), some (vI g), none]) T_402_55 rfl ?_
        refine x_lr (z := some 2281) T_402_56 rfl ?_
        refine x_li (z := g) T_402_57 rfl ?_
        refine x_cv2 T_402_58 mN_385 mL_385 (Nat.le_of_ble_eq_true rfl) mO_385 (PM.t hP) (Nat.le_of_ble_eq_true rfl) (hpn σ hP) ?_
        rintro _ σ ⟨rfl, rfl⟩
        refine cI ?_
        refine x_if T_402_61 (fun _ => ?_) (fun h => absurd (show ¬ n = 0 by omega) h)
        exact hro
    have hP := a1
    refine x_lr (z := some 2281) T_402_35 rfl ?_
    refine x_gR (z := some 2320) T_402_36 F_17_50 (PM.t hP) (PM.r hP 50 2320 rfl) ?_
    refine x_li (z := p) T_402_39 rfl ?_
    refine x_ic T_402_40 ?_
    refine y_aZP hP T_402_41 rfl 2320 8 rfl rfl rfl (by omega) (by omega) (fun σ hP => ?_)
    refine x_lr (z := some 2281) T_402_42 rfl ?_
    refine x_gR (z := some 2321) T_402_43 F_17_51 (PM.t hP) (PM.r hP 51 2321 rfl) ?_
    refine x_li (z := p) T_402_46 rfl ?_
    refine x_ic T_402_47 ?_
    refine y_aZP hP T_402_48 rfl 2321 8 rfl rfl rfl (by omega) (by omega) (fun σ hP => ?_)
    rw [hP2] at hP
    exact h41 σ hP
  have hcl := m_end_cl (fb := fb) (d := d) (U := U) (l := l) (h := h) hp (Q := fun r1 σ' => ∃ S2 : qR, r1 = none ∧ PM σ0 (gEn (tP (en2 (rU (rU (enCl p 8 0 P) 2320 p 0) 2321 p 0) g) 0 (mOne 120 rt)) 192 288 (16 * p + 16)) S2 σ' ∧ KS (T + 228) U (gEn (tP (en2 (rU (rU (enCl p 8 0 P) 2320 p 0) 2321 p 0) g) 0 (mOne 120 rt)) 192 288 (16 * p + 16)) S2 l h ∧ SX scR scN S S2) 8 0 T P S σ (by decide) (by decide) (by omega) hP hK (fun σ S2 b1 b2 b3 => key _ σ S2 rfl b1 b2 b3)
  refine CL_in mL_402 rfl ?_
  show WP fb _ 402 0 [some (vR (some 2281)), some (vI p), none, none] [] σ _
  refine x_ic T_402_0 ?_
  refine x_si (ls1 := [some (vR (some 2281)), some (vI p), some (vI 0), none]) T_402_1 rfl ?_
  exact hcl
theorem m_endAll_loop : ∀ (m : Nat) (k T : Int) (P S : qR) (σ : hM), k + m = 8 → 0 ≤ k → T + 228 * m + 500 ≤ 2147483000 → PM σ0 P S σ → KS T U P S l h → WP fb (d + 14) 401 2 [some (vR (some 2281)), some (vI k)] [] σ (fun r1 σ' => ∃ S2 : qR, r1 = none ∧ PM σ0 (enAll m k P) S2 σ' ∧ KS (T + 228 * m) U (enAll m k P) S2 l h ∧ SX scR scN S S2) := by
  intro m
  induction m with
  | zero =>
    intro k T P S σ h1 h2 h3 hP hK
    have h1 : k + ((0 : Nat) : Int) = 8 := h1
    refine x_li (z := k) T_401_2 rfl ?_
    refine x_ic T_401_3 ?_
    refine x_ic2 T_401_5 (fun _ => ?_) (fun h => absurd (show 8 ≤ k by omega) h)
    refine x_rv T_401_37 ?_
    exact ⟨S, rfl, hP, hK.mono (by omega), SX_rfl⟩
  | succ m ih =>
    intro k T P S σ h1 h2 h3 hP hK
    have ek : enAll (m + 1) k P = enAll m (k + 1) (if ¬ P 2320 k = 0 ∧ ¬ P 2321 k = 0 then cEnd P k else P) := rfl
    rw [ek]
    obtain ⟨y1, hy1⟩ : ∃ y, P 2320 k = y := ⟨_, rfl⟩
    obtain ⟨y2, hy2⟩ : ∃ y, P 2321 k = y := ⟨_, rfl⟩
    rw [hy1, hy2]
    have hno : ¬ (¬ y1 = 0 ∧ ¬ y2 = 0) → WP fb (d + 14) 401 2 [some (vR (some 2281)), some (vI (k + 1))] [] σ (fun r1 σ' => ∃ S2 : qR, r1 = none ∧ PM σ0 (enAll m (k + 1) P) S2 σ' ∧ KS (T + 228 * ((m + 1 : Nat) : Int)) U (enAll m (k + 1) P) S2 l h ∧ SX scR scN S S2) := fun _ => WP.mono (ih (k + 1) T P S σ (by omega) (by omega) (by omega) hP hK) (fun r σ1 hr => by
      obtain ⟨S2, r1, r2, r3, r4⟩ := hr
      exact ⟨S2, r1, r2, r3.mono (by omega), r4⟩)
    by_cases q1 : y1 = 0
    · have hn := hno (fun c => c.1 q1)
      rw [if_neg (fun c => c.1 q1)]
      refine x_li (z := k) T_401_2 rfl ?_
      refine x_ic T_401_3 ?_
      refine x_ic2 T_401_5 (fun h => absurd (show 8 ≤ k from h) (by omega)) (fun _ => ?_)
      refine x_lr (z := some 2281) T_401_8 rfl ?_
      refine x_gR (z := some 2320) T_401_9 F_17_50 (PM.t hP) (PM.r hP 50 2320 rfl) ?_
      refine x_li (z := k) T_401_12 rfl ?_
      refine x_alI (z := y1) T_401_13 (by decide) (PM.ta hP 2320 2 8 rfl rfl) (by omega) (by omega) (Eq.trans (PM.aP hP 2320 rfl rfl (by omega)) hy1) ?_
      refine x_if T_401_14 (fun _ => ?_) (fun h => absurd (show y1 = 0 by omega) h)
      refine x_inc (w := (k + 1)) (ls1 := [some (vR (some 2281)), some (vI (k + 1))]) T_401_31 rfl (w32_id (by omega) (by omega)) rfl ?_
      refine x_goto T_401_34 ?_
      exact hn
    · by_cases q2 : y2 = 0
      · have hn := hno (fun c => c.2 q2)
        rw [if_neg (fun c => c.2 q2)]
        refine x_li (z := k) T_401_2 rfl ?_
        refine x_ic T_401_3 ?_
        refine x_ic2 T_401_5 (fun h => absurd (show 8 ≤ k from h) (by omega)) (fun _ => ?_)
        refine x_lr (z := some 2281) T_401_8 rfl ?_
        refine x_gR (z := some 2320) T_401_9 F_17_50 (PM.t hP) (PM.r hP 50 2320 rfl) ?_
        refine x_li (z := k) T_401_12 rfl ?_
        refine x_alI (z := y1) T_401_13 (by decide) (PM.ta hP 2320 2 8 rfl rfl) (by omega) (by omega) (Eq.trans (PM.aP hP 2320 rfl rfl (by omega)) hy1) ?_
        refine x_if T_401_14 (fun h => absurd (show y1 = 0 from h) (by omega)) (fun _ => ?_)
        refine x_lr (z := some 2281) T_401_17 rfl ?_
        refine x_gR (z := some 2321) T_401_18 F_17_51 (PM.t hP) (PM.r hP 51 2321 rfl) ?_
        refine x_li (z := k) T_401_21 rfl ?_
        refine x_alI (z := y2) T_401_22 (by decide) (PM.ta hP 2321 2 8 rfl rfl) (by omega) (by omega) (Eq.trans (PM.aP hP 2321 rfl rfl (by omega)) hy2) ?_
        refine x_if T_401_23 (fun _ => ?_) (fun h => absurd (show y2 = 0 by omega) h)
        refine x_inc (w := (k + 1)) (ls1 := [some (vR (some 2281)), some (vI (k + 1))]) T_401_31 rfl (w32_id (by omega) (by omega)) rfl ?_
        refine x_goto T_401_34 ?_
        exact hn
      · rw [if_pos ⟨q1, q2⟩]
        have hen := m_end (fb := fb) (d := d) (p := k) hP hK ⟨h2, by omega⟩ (by omega)
        have hgo := fun (σ : hM) (S2 : qR) (a1 : PM σ0 (cEnd P k) S2 σ) (a2 : KS (T + 228) U (cEnd P k) S2 l h) (a3 : SX scR scN S S2) => WP.mono (ih (k + 1) (T + 228) _ S2 σ (by omega) (by omega) (by omega) a1 a2) (Q := fun r1 σ' => ∃ S2 : qR, r1 = none ∧ PM σ0 (enAll m (k + 1) (cEnd P k)) S2 σ' ∧ KS (T + 228 * ((m + 1 : Nat) : Int)) U (enAll m (k + 1) (cEnd P k)) S2 l h ∧ SX scR scN S S2) (fun r σ1 hr => by
          obtain ⟨S3, r1, r2, r3, r4⟩ := hr
          exact ⟨S3, r1, r2, r3.mono (by omega), SX_tr a3 r4⟩)
        refine x_li (z := k) T_401_2 rfl ?_
        refine x_ic T_401_3 ?_
        refine x_ic2 T_401_5 (fun h => absurd (show 8 ≤ k from h) (by omega)) (fun _ => ?_)
        refine x_lr (z := some 2281) T_401_8 rfl ?_
        refine x_gR (z := some 2320) T_401_9 F_17_50 (PM.t hP) (PM.r hP 50 2320 rfl) ?_
        refine x_li (z := k) T_401_12 rfl ?_
        refine x_alI (z := y1) T_401_13 (by decide) (PM.ta hP 2320 2 8 rfl rfl) (by omega) (by omega) (Eq.trans (PM.aP hP 2320 rfl rfl (by omega)) hy1) ?_
        refine x_if T_401_14 (fun h => absurd (show y1 = 0 from h) (by omega)) (fun _ => ?_)
        refine x_lr (z := some 2281) T_401_17 rfl ?_
        refine x_gR (z := some 2321) T_401_18 F_17_51 (PM.t hP) (PM.r hP 51 2321 rfl) ?_
        refine x_li (z := k) T_401_21 rfl ?_
        refine x_alI (z := y2) T_401_22 (by decide) (PM.ta hP 2321 2 8 rfl rfl) (by omega) (by omega) (Eq.trans (PM.aP hP 2321 rfl rfl (by omega)) hy2) ?_
        refine x_if T_401_23 (fun h => absurd (show y2 = 0 from h) (by omega)) (fun _ => ?_)
        refine x_lr (z := some 2281) T_401_26 rfl ?_
        refine x_li (z := k) T_401_27 rfl ?_
        refine x_cv2 T_401_28 mN_402 mL_402 (Nat.le_of_ble_eq_true rfl) mO_402 (PM.t hP) (Nat.le_of_ble_eq_true rfl) (hen) ?_
        clear hP hen
        rintro _ σ ⟨S2, rfl, hP, hK2, hX2⟩
        refine cV ?_
        refine x_inc (w := (k + 1)) (ls1 := [some (vR (some 2281)), some (vI (k + 1))]) T_401_31 rfl (w32_id (by omega) (by omega)) rfl ?_
        refine x_goto T_401_34 ?_
        exact hgo σ S2 hP hK2 hX2
theorem m_endAll (hP : PM σ0 P S σ) (hK : KS T U P S l h) (hT : T + 3000 ≤ 2147483000) : CL fb (d + 14) 401 [vR (some 2281)] σ (fun r1 σ' => ∃ S2 : qR, r1 = none ∧ PM σ0 (enAll 8 0 P) S2 σ' ∧ KS (T + 1824) U (enAll 8 0 P) S2 l h ∧ SX scR scN S S2) := by
  have hgo := WP.mono (m_endAll_loop (fb := fb) (d := d) (σ0 := σ0) (U := U) (l := l) (h := h) 8 0 T P S σ (by decide) (by decide) (by omega) hP hK) (Q := fun r1 σ' => ∃ S2 : qR, r1 = none ∧ PM σ0 (enAll 8 0 P) S2 σ' ∧ KS (T + 1824) U (enAll 8 0 P) S2 l h ∧ SX scR scN S S2) (fun r σ1 hr => by
    obtain ⟨S3, r1, r2, r3, r4⟩ := hr
    exact ⟨S3, r1, r2, r3.mono (by omega), r4⟩)
  refine CL_in mL_401 rfl ?_
  show WP fb _ 401 0 [some (vR (some 2281)), none] [] σ _
  refine x_ic T_401_0 ?_
  refine x_si (ls1 := [some (vR (some 2281)), some (vI 0)]) T_401_1 rfl ?_
  exact hgo
end MEND
