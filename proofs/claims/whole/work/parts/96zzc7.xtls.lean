/-! The class's commands: stat. -/
theorem T_162_0 : hTab 162 0 = some ((3, 2, 2, []), 1) := rfl
theorem T_162_1 : hTab 162 1 = some ((24, 16, Int.ofNat 4, []), 4) := rfl
theorem T_162_4 : hTab 162 4 = some ((0, 0, 2, []), 5) := rfl
theorem T_162_5 : hTab 162 5 = some ((19, 0, Int.ofNat 11, []), 8) := rfl
theorem T_162_11 : hTab 162 11 = some ((3, 0, 2, []), 12) := rfl
theorem T_162_12 : hTab 162 12 = some ((24, 14, Int.ofNat 0, []), 15) := rfl
theorem T_162_15 : hTab 162 15 = some ((3, 1, 2, []), 16) := rfl
theorem T_162_16 : hTab 162 16 = some ((3, 2, 2, []), 17) := rfl
theorem T_162_17 : hTab 162 17 = some ((0, 0, 1, []), 18) := rfl
theorem T_162_18 : hTab 162 18 = some ((3, 0, 2, []), 19) := rfl
theorem T_162_19 : hTab 162 19 = some ((24, 14, Int.ofNat 2, []), 22) := rfl
theorem T_162_22 : hTab 162 22 = some ((0, 0, 1, []), 23) := rfl
theorem T_162_23 : hTab 162 23 = some ((31, 117, 0, []), 26) := rfl
theorem T_162_26 : hTab 162 26 = some ((4, 3, 0, []), 27) := rfl
theorem T_162_27 : hTab 162 27 = some ((3, 3, 0, []), 28) := rfl
theorem T_162_28 : hTab 162 28 = some ((18, 0, Int.ofNat 33, []), 31) := rfl
theorem T_162_31 : hTab 162 31 = some ((3, 3, 0, []), 32) := rfl
theorem T_162_32 : hTab 162 32 = some ((33, 1, 0, []), 33) := rfl
theorem T_162_33 : hTab 162 33 = some ((3, 0, 2, []), 34) := rfl
theorem T_162_34 : hTab 162 34 = some ((3, 0, 2, []), 35) := rfl
theorem T_162_35 : hTab 162 35 = some ((24, 14, Int.ofNat 2, []), 38) := rfl
theorem T_162_38 : hTab 162 38 = some ((3, 0, 2, []), 39) := rfl
theorem T_162_39 : hTab 162 39 = some ((24, 14, Int.ofNat 0, []), 42) := rfl
theorem T_162_42 : hTab 162 42 = some ((0, 0, 124, []), 44) := rfl
theorem T_162_44 : hTab 162 44 = some ((3, 0, 2, []), 45) := rfl
theorem T_162_45 : hTab 162 45 = some ((24, 14, Int.ofNat 2, []), 48) := rfl
theorem T_162_48 : hTab 162 48 = some ((24, 5, Int.ofNat 1, []), 51) := rfl
theorem T_162_51 : hTab 162 51 = some ((31, 131, 0, []), 54) := rfl
theorem T_162_54 : hTab 162 54 = some ((31, 136, 0, []), 57) := rfl
theorem T_162_57 : hTab 162 57 = some ((4, 3, 0, []), 58) := rfl
theorem T_162_58 : hTab 162 58 = some ((3, 3, 0, []), 59) := rfl
theorem T_162_59 : hTab 162 59 = some ((18, 1, Int.ofNat 70, []), 62) := rfl
theorem T_162_62 : hTab 162 62 = some ((3, 0, 2, []), 63) := rfl
theorem T_162_63 : hTab 162 63 = some ((3, 1, 2, []), 64) := rfl
theorem T_162_64 : hTab 162 64 = some ((24, 6, Int.ofNat 2, []), 67) := rfl
theorem T_162_67 : hTab 162 67 = some ((31, 163, 0, []), 70) := rfl
theorem T_162_70 : hTab 162 70 = some ((3, 0, 2, []), 71) := rfl
theorem T_162_71 : hTab 162 71 = some ((24, 14, Int.ofNat 0, []), 74) := rfl
theorem T_162_74 : hTab 162 74 = some ((3, 0, 2, []), 75) := rfl
theorem T_162_75 : hTab 162 75 = some ((24, 14, Int.ofNat 2, []), 78) := rfl
theorem T_162_78 : hTab 162 78 = some ((31, 132, 0, []), 81) := rfl
theorem T_162_81 : hTab 162 81 = some ((7, 0, 0, []), 82) := rfl
theorem T_162_82 : hTab 162 82 = some ((3, 3, 0, []), 83) := rfl
theorem T_162_83 : hTab 162 83 = some ((33, 1, 0, []), 84) := rfl
theorem T_163_0 : hTab 163 0 = some ((3, 0, 2, []), 1) := rfl
theorem T_163_1 : hTab 163 1 = some ((24, 14, Int.ofNat 0, []), 4) := rfl
theorem T_163_4 : hTab 163 4 = some ((24, 1, Int.ofNat 2, []), 7) := rfl
theorem T_163_7 : hTab 163 7 = some ((4, 2, 2, []), 8) := rfl
theorem T_163_8 : hTab 163 8 = some ((0, 0, 50, []), 10) := rfl
theorem T_163_10 : hTab 163 10 = some ((4, 3, 0, []), 11) := rfl
theorem T_163_11 : hTab 163 11 = some ((3, 2, 2, []), 12) := rfl
theorem T_163_12 : hTab 163 12 = some ((3, 3, 0, []), 13) := rfl
theorem T_163_13 : hTab 163 13 = some ((31, 36, 0, []), 16) := rfl
theorem T_163_16 : hTab 163 16 = some ((4, 4, 0, []), 18) := rfl
theorem T_163_18 : hTab 163 18 = some ((3, 2, 2, []), 19) := rfl
theorem T_163_19 : hTab 163 19 = some ((0, 0, 30, []), 21) := rfl
theorem T_163_21 : hTab 163 21 = some ((0, 0, 4, []), 22) := rfl
theorem T_163_22 : hTab 163 22 = some ((31, 29, 0, []), 25) := rfl
theorem T_163_25 : hTab 163 25 = some ((15, 0, 0, []), 26) := rfl
theorem T_163_26 : hTab 163 26 = some ((4, 5, 0, []), 28) := rfl
theorem T_163_28 : hTab 163 28 = some ((3, 1, 2, []), 29) := rfl
theorem T_163_29 : hTab 163 29 = some ((3, 2, 2, []), 30) := rfl
theorem T_163_30 : hTab 163 30 = some ((3, 3, 0, []), 31) := rfl
theorem T_163_31 : hTab 163 31 = some ((0, 0, 2, []), 32) := rfl
theorem T_163_32 : hTab 163 32 = some ((10, 0, 0, []), 33) := rfl
theorem T_163_33 : hTab 163 33 = some ((3, 4, 0, []), 35) := rfl
theorem T_163_35 : hTab 163 35 = some ((31, 32, 0, []), 38) := rfl
theorem T_163_38 : hTab 163 38 = some ((7, 0, 0, []), 39) := rfl
theorem T_163_39 : hTab 163 39 = some ((3, 1, 2, []), 40) := rfl
theorem T_163_40 : hTab 163 40 = some ((0, 0, 32, []), 42) := rfl
theorem T_163_42 : hTab 163 42 = some ((31, 73, 0, []), 45) := rfl
theorem T_163_45 : hTab 163 45 = some ((7, 0, 0, []), 46) := rfl
theorem T_163_46 : hTab 163 46 = some ((3, 1, 2, []), 47) := rfl
theorem T_163_47 : hTab 163 47 = some ((3, 5, 0, []), 49) := rfl
theorem T_163_49 : hTab 163 49 = some ((0, 0, (-2147483648), []), 52) := rfl
theorem T_163_52 : hTab 163 52 = some ((10, 5, 0, []), 53) := rfl
theorem T_163_53 : hTab 163 53 = some ((18, 0, Int.ofNat 61, []), 56) := rfl
theorem T_163_56 : hTab 163 56 = some ((0, 0, 100, []), 58) := rfl
theorem T_163_58 : hTab 163 58 = some ((22, 0, Int.ofNat 77, []), 61) := rfl
theorem T_163_61 : hTab 163 61 = some ((3, 5, 0, []), 63) := rfl
theorem T_163_63 : hTab 163 63 = some ((0, 0, 1073741824, []), 66) := rfl
theorem T_163_66 : hTab 163 66 = some ((10, 5, 0, []), 67) := rfl
theorem T_163_67 : hTab 163 67 = some ((18, 0, Int.ofNat 75, []), 70) := rfl
theorem T_163_70 : hTab 163 70 = some ((0, 0, 97, []), 72) := rfl
theorem T_163_72 : hTab 163 72 = some ((22, 0, Int.ofNat 77, []), 75) := rfl
theorem T_163_75 : hTab 163 75 = some ((0, 0, 45, []), 77) := rfl
theorem T_163_77 : hTab 163 77 = some ((31, 73, 0, []), 80) := rfl
theorem T_163_80 : hTab 163 80 = some ((7, 0, 0, []), 81) := rfl
theorem T_163_81 : hTab 163 81 = some ((3, 1, 2, []), 82) := rfl
theorem T_163_82 : hTab 163 82 = some ((3, 5, 0, []), 84) := rfl
theorem T_163_84 : hTab 163 84 = some ((0, 0, 6, []), 86) := rfl
theorem T_163_86 : hTab 163 86 = some ((10, 9, 0, []), 87) := rfl
theorem T_163_87 : hTab 163 87 = some ((0, 0, 7, []), 89) := rfl
theorem T_163_89 : hTab 163 89 = some ((10, 5, 0, []), 90) := rfl
theorem T_163_90 : hTab 163 90 = some ((14, 0, 0, []), 91) := rfl
theorem T_163_91 : hTab 163 91 = some ((31, 75, 0, []), 94) := rfl
theorem T_163_94 : hTab 163 94 = some ((3, 1, 2, []), 95) := rfl
theorem T_163_95 : hTab 163 95 = some ((3, 5, 0, []), 97) := rfl
theorem T_163_97 : hTab 163 97 = some ((0, 0, 3, []), 98) := rfl
theorem T_163_98 : hTab 163 98 = some ((10, 9, 0, []), 99) := rfl
theorem T_163_99 : hTab 163 99 = some ((0, 0, 7, []), 101) := rfl
theorem T_163_101 : hTab 163 101 = some ((10, 5, 0, []), 102) := rfl
theorem T_163_102 : hTab 163 102 = some ((14, 0, 0, []), 103) := rfl
theorem T_163_103 : hTab 163 103 = some ((31, 75, 0, []), 106) := rfl
theorem T_163_106 : hTab 163 106 = some ((3, 1, 2, []), 107) := rfl
theorem T_163_107 : hTab 163 107 = some ((3, 5, 0, []), 109) := rfl
theorem T_163_109 : hTab 163 109 = some ((0, 0, 7, []), 111) := rfl
theorem T_163_111 : hTab 163 111 = some ((10, 5, 0, []), 112) := rfl
theorem T_163_112 : hTab 163 112 = some ((14, 0, 0, []), 113) := rfl
theorem T_163_113 : hTab 163 113 = some ((31, 75, 0, []), 116) := rfl
theorem T_163_116 : hTab 163 116 = some ((3, 1, 2, []), 117) := rfl
theorem T_163_117 : hTab 163 117 = some ((0, 0, 32, []), 119) := rfl
theorem T_163_119 : hTab 163 119 = some ((31, 73, 0, []), 122) := rfl
theorem T_163_122 : hTab 163 122 = some ((7, 0, 0, []), 123) := rfl
theorem T_163_123 : hTab 163 123 = some ((3, 1, 2, []), 124) := rfl
theorem T_163_124 : hTab 163 124 = some ((3, 2, 2, []), 125) := rfl
theorem T_163_125 : hTab 163 125 = some ((0, 0, 42, []), 127) := rfl
theorem T_163_127 : hTab 163 127 = some ((0, 0, 8, []), 129) := rfl
theorem T_163_129 : hTab 163 129 = some ((31, 29, 0, []), 132) := rfl
theorem T_163_132 : hTab 163 132 = some ((31, 75, 0, []), 135) := rfl
theorem T_163_135 : hTab 163 135 = some ((3, 1, 2, []), 136) := rfl
theorem T_163_136 : hTab 163 136 = some ((0, 0, 32, []), 138) := rfl
theorem T_163_138 : hTab 163 138 = some ((31, 73, 0, []), 141) := rfl
theorem T_163_141 : hTab 163 141 = some ((7, 0, 0, []), 142) := rfl
theorem T_163_142 : hTab 163 142 = some ((3, 1, 2, []), 143) := rfl
theorem T_163_143 : hTab 163 143 = some ((3, 2, 2, []), 144) := rfl
theorem T_163_144 : hTab 163 144 = some ((3, 4, 0, []), 146) := rfl
theorem T_163_146 : hTab 163 146 = some ((0, 0, 2, []), 147) := rfl
theorem T_163_147 : hTab 163 147 = some ((10, 0, 0, []), 148) := rfl
theorem T_163_148 : hTab 163 148 = some ((3, 2, 2, []), 149) := rfl
theorem T_163_149 : hTab 163 149 = some ((3, 4, 0, []), 151) := rfl
theorem T_163_151 : hTab 163 151 = some ((31, 36, 0, []), 154) := rfl
theorem T_163_154 : hTab 163 154 = some ((31, 32, 0, []), 157) := rfl
theorem T_163_157 : hTab 163 157 = some ((7, 0, 0, []), 158) := rfl
theorem T_163_158 : hTab 163 158 = some ((3, 1, 2, []), 159) := rfl
theorem T_163_159 : hTab 163 159 = some ((0, 0, 32, []), 161) := rfl
theorem T_163_161 : hTab 163 161 = some ((31, 73, 0, []), 164) := rfl
theorem T_163_164 : hTab 163 164 = some ((7, 0, 0, []), 165) := rfl
theorem T_163_165 : hTab 163 165 = some ((3, 1, 2, []), 166) := rfl
theorem T_163_166 : hTab 163 166 = some ((3, 2, 2, []), 167) := rfl
theorem T_163_167 : hTab 163 167 = some ((0, 0, 18, []), 169) := rfl
theorem T_163_169 : hTab 163 169 = some ((0, 0, 4, []), 170) := rfl
theorem T_163_170 : hTab 163 170 = some ((31, 29, 0, []), 173) := rfl
theorem T_163_173 : hTab 163 173 = some ((31, 75, 0, []), 176) := rfl
theorem T_163_176 : hTab 163 176 = some ((3, 1, 2, []), 177) := rfl
theorem T_163_177 : hTab 163 177 = some ((0, 0, 10, []), 179) := rfl
theorem T_163_179 : hTab 163 179 = some ((31, 73, 0, []), 182) := rfl
theorem T_163_182 : hTab 163 182 = some ((7, 0, 0, []), 183) := rfl
theorem T_163_183 : hTab 163 183 = some ((33, 0, 0, []), 184) := rfl
theorem mN_162 : hmN 162 = 3 := by decide +kernel
theorem mL_162 : hmL 162 = 4 := by decide +kernel
theorem mK_162 : hmK 162 = 1 := by decide +kernel
theorem mO_162 : hmO 162 = 14 := by decide +kernel
theorem mN_163 : hmN 163 = 2 := by decide +kernel
theorem mL_163 : hmL 163 = 6 := by decide +kernel
theorem mK_163 : hmK 163 = 1 := by decide +kernel
theorem mO_163 : hmO 163 = 14 := by decide +kernel
section XTLS
variable {fb : Bool} {d S b c q n a0 m k : Nat} {σ0 σ : hM} {W W0 W1 W2 V V1 P Q : qR} {R R1 R2 : rR} {i j x z v s e w f g u p p2 o K T U t a dd pa dr md n0 : Int} {l l0 lo nm M wd A : List Int} {ch : Ch}
theorem w32_two (h : 0 ≤ v ∧ v < 4294967296) : (w32 v = v ∧ v < 2147483648) ∨ (w32 v = v - 4294967296 ∧ 2147483648 ≤ v) := by
  by_cases q : v < 2147483648
  · exact Or.inl ⟨w32_id (by omega) (by omega), q⟩
  · refine Or.inr ⟨?_, by omega⟩
    unfold w32
    rw [Int.bmod_def]
    have : v % ((4294967296 : Nat) : Int) = v := Int.emod_eq_of_lt h.1 (by omega)
    rw [this, if_neg (by omega)]
    rfl
theorem and32_7 (z : Int) : and32 z 7 = z % 8 := by
  unfold and32
  show (BitVec.ofInt 32 z &&& 7#32).toInt = z % 8
  have h1 : (BitVec.ofInt 32 z &&& 7#32).toNat = (z % 4294967296).toNat % 8 := by
    rw [BitVec.toNat_and, BitVec.toNat_ofInt]
    exact Nat.and_two_pow_sub_one_eq_mod _ 3
  rw [BitVec.toInt_eq_toNat_of_lt (by rw [h1]; omega), h1]
  omega
theorem and64_30 (h : 0 ≤ v ∧ v < 4294967296) : and64 v 1073741824 = 0 ↔ v % 2147483648 < 1073741824 := by
  obtain ⟨n, rfl⟩ := Int.eq_ofNat_of_zero_le h.1
  unfold and64
  show (BitVec.ofInt 64 (n : Int) &&& BitVec.ofInt 64 1073741824).toInt = 0 ↔ _
  have e : (BitVec.ofInt 64 (n : Int) &&& BitVec.ofInt 64 1073741824).toNat = n % 2147483648 / 1073741824 * 1073741824 := by
    rw [BitVec.ofInt_natCast, BitVec.toNat_and, BitVec.toNat_ofNat, Nat.mod_eq_of_lt (show n < 2 ^ 64 by omega)]
    have := and_hi n 30 1
    rw [shlr] at this
    exact this
  rw [BitVec.toInt_eq_toNat_of_lt (by rw [e]; omega), e]
  omega
theorem and32_30 : and32 x 1073741824 = 0 ↔ x % 2147483648 < 1073741824 := by
  have h := and32_nat (x := x) (j := 30) (by decide)
  rw [Nat.testBit_eq_decide_div_mod_eq, decide_eq_false_iff_not] at h
  have e : ((2 ^ 30 : Nat) : Int) = 1073741824 := by decide
  rw [e] at h
  rw [h]
  omega
/-- a mode's bits, as 32 of them or 64 -/
theorem mode_w (h : 0 ≤ v ∧ v < 4294967296) : ∃ w d6 d3 d0 : Int, w32 v = w ∧ (and32 w (-2147483648) = 0 ↔ and64 v 2147483648 = 0) ∧ (and32 w 1073741824 = 0 ↔ and64 v 1073741824 = 0) ∧ and32 (shr32 w 6) 7 = d6 ∧ and32 (shr32 w 3) 7 = d3 ∧ and32 w 7 = d0 ∧ (0 ≤ d6 ∧ d6 < 8) ∧ (0 ≤ d3 ∧ d3 < 8) ∧ (0 ≤ d0 ∧ d0 < 8) ∧ dg3 v 3 = [48 + d6] ++ [48 + d3] ++ [48 + d0] := by
  have h2 := w32_two h
  have hr := w32_rng v
  obtain ⟨w, hw⟩ : ∃ w, w32 v = w := ⟨_, rfl⟩
  rw [hw] at h2 hr
  have a6 : shr32 w 6 = w32 w / 64 := shr32_n (n := 6) (by decide) (by decide)
  have a3 : shr32 w 3 = w32 w / 8 := shr32_n (n := 3) (by decide) (by decide)
  have b6 : shr64 v 6 = w64 v / 64 := shr64_n (n := 6) (by decide) (by decide)
  have b3 : shr64 v 3 = w64 v / 8 := shr64_n (n := 3) (by decide) (by decide)
  have b0 : shr64 v 0 = w64 v / 1 := shr64_n (n := 0) (by decide) (by decide)
  rw [w32_id hr.1 hr.2] at a6 a3
  rw [w64_id (by omega) (by omega)] at b6 b3 b0
  have ed : dg3 v 3 = [48 + and64 (shr64 v 6) 7] ++ [48 + and64 (shr64 v 3) 7] ++ [48 + and64 (shr64 v 0) 7] := rfl
  refine ⟨w, _, _, _, hw, ?_, ?_, rfl, rfl, rfl, ?_, ?_, ?_, ?_⟩
  · rw [and32_dir hr, and64_31 h]
    omega
  · rw [and32_30, and64_30 h]
    omega
  · rw [and32_7]; omega
  · rw [and32_7]; omega
  · rw [and32_7]; omega
  · rw [ed, and32_7, and32_7, and32_7, and64_7, and64_7, and64_7, a6, a3, b6, b3, b0, show w / 64 % 8 = v / 64 % 8 by omega, show w / 8 % 8 = v / 8 % 8 by omega, show w % 8 = v / 1 % 8 by omega]
/-- a stat's answer, more of it -/
theorem stat_U (hG : GI T U P) (hs : 0 ≤ s ∧ s < 3) (h : tE P s (mOne 124 f) = 0) (hb : byt (tA P s (mOne 124 f))) : ∃ n0 : Int, 0 ≤ n0 ∧ n0 ≤ 12 ∧ nu (lg (tA P s (mOne 124 f))) 50 2 = n0 ∧ ((tA P s (mOne 124 f)).length : Int) = 67 + n0 ∧ 0 ≤ nu (lg (tA P s (mOne 124 f))) 42 8 ∧ nu (lg (tA P s (mOne 124 f))) 42 8 ≤ 600 ∧ nu (lg (tA P s (mOne 124 f))) (52 + n0) 2 = 3 := by
  obtain ⟨n0, g1, g2, g3, g4, g5, g6⟩ := stat_A hG hs h
  refine ⟨n0, g1, g2, g3, g4, g5, g6, ?_⟩
  obtain ⟨n, h1, -, -, -⟩ := stat_ok hs h
  obtain ⟨P1, hP1⟩ : ∃ P1, gM1 P (seg (msgA (mOne 124 f)) 0 (4 + ((mOne 124 f).length : Int)).toNat) = P1 := ⟨_, rfl⟩
  rw [hP1] at h1
  obtain ⟨A, hA⟩ : ∃ A, tA P s (mOne 124 f) = A := ⟨_, rfl⟩
  rw [hA] at h1 g3 g4 ⊢
  obtain ⟨ns, hns⟩ : ∃ ns, qNs P1 s n = ns := ⟨_, rfl⟩
  have hn0 : ns.toNat = n0.toNat := by
    have hl : (A.length : Int) = 67 + ns.toNat := by
      rw [h1]
      unfold ansL statL
      rw [hns]
      simp only [List.length_append, leb_len, List.length_cons, List.length_nil, nmL_len]
      have e1 := qidL_len P1 s n
      have e2 := usrL_len (qUid P1 s n)
      have e3 := usrL_len (qGid P1 s n)
      have e4 := usrL_len (qMuid P1 s n)
      omega
    omega
  have e : A = (leb 4 (7 + (((leb 2 (58 + ns) ++ statL P1 s n).length : Nat) : Int)) ++ [125 % 256, msgA (mOne 124 f) 5, msgA (mOne 124 f) 6] ++ leb 2 (58 + ns) ++ leb 2 (58 + ns - 2) ++ leb 2 0 ++ leb 4 0 ++ qidL P1 s n ++ leb 4 (qMode P1 s n) ++ leb 4 0 ++ leb 4 0 ++ leb 8 (qLen P1 s n) ++ leb 2 ns ++ nmL P1 s n ns.toNat) ++ (leb 2 3 ++ (leb 1 (ubyte (3 * qUid P1 s n + 0)) ++ leb 1 (ubyte (3 * qUid P1 s n + 1)) ++ leb 1 (ubyte (3 * qUid P1 s n + 2)) ++ usrL (qGid P1 s n) ++ usrL (qMuid P1 s n))) := by
    rw [h1]
    unfold ansL
    conv => lhs; rhs; rhs; rhs; unfold statL
    rw [hns]
    conv => lhs; unfold usrL
    unfold usrL
    simp only [List.append_assoc]
  rw [e]
  refine nu_lg2 2 ?_ (by decide)
  simp only [List.length_append, leb_len, List.length_cons, List.length_nil, nmL_len]
  have e1 := qidL_len P1 s n
  omega
/-- more is told -/
theorem x_tAdd (hP : PX σ0 V R σ) (hX : XW K T U V R (gOut P p l)) (hF : FB (prO p + 3) W V) (hp : 0 ≤ p ∧ p < 8) (hlv : ¬ P 2320 p = 0) (hx : 0 ≤ x ∧ x ≤ 255) : CL fb d 73 [vR (some (prO p + 3)), vI x] σ (fun r σ' => ∃ e, r = some (vI e) ∧ ∃ W2, PX σ0 W2 R σ' ∧ XW K T U W2 R (gOut P p (l ++ [x])) ∧ FB (prO p + 3) W W2) := by
  refine (x_outAdd (fb := fb) (d := d) hP hX hp (lv_out hlv) hx).mono ?_
  rintro r σ' ⟨e, rfl, W2, g1, g2, g3⟩
  exact ⟨e, rfl, W2, g1, by rw [gOut_app]; exact g2, FB_tr hF g3⟩
theorem x_tNum (hP : PX σ0 V R σ) (hX : XW K T U V R (gOut P p l)) (hF : FB (prO p + 3) W V) (hp : 0 ≤ p ∧ p < 8) (hlv : ¬ P 2320 p = 0) (hv : 0 ≤ v ∧ v < 1000000000000000000) : CL fb d 75 [vR (some (prO p + 3)), vL v] σ (fun r σ' => r = none ∧ ∃ W2, PX σ0 W2 R σ' ∧ XW K T U W2 R (gOut P p (l ++ decL v)) ∧ FB (prO p + 3) W W2) := by
  refine (x_outNum (fb := fb) (d := d) hP hX hp (lv_out hlv) hv).mono ?_
  rintro r σ' ⟨rfl, W2, g1, g2, g3⟩
  exact ⟨rfl, W2, g1, by rw [gOut_app]; exact g2, FB_tr hF g3⟩
theorem x_tDig (hP : PX σ0 V R σ) (hX : XW K T U V R (gOut P p l)) (hF : FB (prO p + 3) W V) (hp : 0 ≤ p ∧ p < 8) (hlv : ¬ P 2320 p = 0) (hv : 0 ≤ v ∧ v < 8) : CL fb d 75 [vR (some (prO p + 3)), vL v] σ (fun r σ' => r = none ∧ ∃ W2, PX σ0 W2 R σ' ∧ XW K T U W2 R (gOut P p (l ++ [48 + v])) ∧ FB (prO p + 3) W W2) := by
  rw [← dec1 ⟨hv.1, by omega⟩]
  exact x_tNum hP hX hF hp hlv ⟨hv.1, by omega⟩
theorem x_tAll (hP : PX σ0 V R σ) (hX : XW K T U V R (gOut P p l)) (hF : FB (prO p + 3) W V) (hp : 0 ≤ p ∧ p < 8) (hlv : ¬ P 2320 p = 0) (hC : BY W c q lo) (hcb : c + 1 < prO p ∨ prO p + 5 < c) (h : e ≤ s ∨ 0 ≤ s) (he : e ≤ lo.length) : CL fb d 32 [vR (some (prO p + 3)), vR (some c), vI s, vI e] σ (fun r σ' => ∃ e2, r = some (vI e2) ∧ ∃ W2, PX σ0 W2 R σ' ∧ XW K T U W2 R (gOut P p (l ++ seg (lg lo) s (e - s).toNat)) ∧ FB (prO p + 3) W W2) := by
  refine (x_outAll (fb := fb) (d := d) hP hX hp (lv_out hlv) (hF.by hC (by omega)) (by omega) h he).mono ?_
  rintro r σ' ⟨e2, rfl, W2, g1, g2, g3⟩
  exact ⟨e2, rfl, W2, g1, by rw [gOut_app]; exact g2, FB_tr hF g3⟩
theorem sE_at (h : nu (lg A) s 2 = v) (hs : 0 ≤ s) (hv : 0 ≤ v) (hz : s + 2 + v ≤ z) : sE (lg A) z s = s + 2 + v := by
  unfold sE
  rw [h, if_neg (by omega), if_neg (by omega)]
theorem x_tellStat (hP : PX σ0 W R σ) (hX : XW K T U W R P) (hp : 0 ≤ p ∧ p < 8) (hlv : ¬ P 2320 p = 0) (hB : BY W 134 300 A) (hn : 0 ≤ n0 ∧ n0 ≤ 12) (h50 : nu (lg A) 50 2 = n0) (hA : (A.length : Int) = 67 + n0) (h42 : 0 ≤ nu (lg A) 42 8 ∧ nu (lg A) 42 8 ≤ 600) (h3 : nu (lg A) (52 + n0) 2 = 3) : CL fb (d + 1) 163 [vR (some 2175), vR (some (prO p + 3))] σ (fun r σ' => r = none ∧ ∃ W2, PX σ0 W2 R σ' ∧ XW K T U W2 R (gOut P p (stT A)) ∧ FB (prO p + 3) W W2) := by
  have hbt : byt A := hB.2.2.2.2.2.1
  have r30 := nu_rng (f := lg A) (i := 30) 4 (fun j _ => hbt _ (by omega))
  have r18 := nu_rng (f := lg A) (i := 18) 4 (fun j _ => hbt _ (by omega))
  have e4 : (256 : Int) ^ 4 = 4294967296 := by decide
  rw [e4] at r30 r18
  obtain ⟨w, d6, d3, d0, w1, w2, w3, w4, w5, w6, w7, w8, w9, w10⟩ := mode_w (v := nu (lg A) 30 4) ⟨r30.1, r30.2⟩
  have eT : stT A = ((((((((((((((([] ++ seg (lg A) 52 n0.toNat) ++ [32]) ++ [tyC (nu (lg A) 30 4)]) ++ [48 + d6]) ++ [48 + d3]) ++ [48 + d0]) ++ [32]) ++ decL (nu (lg A) 42 8)) ++ [32]) ++ seg (lg A) (54 + n0) 3) ++ [32]) ++ decL (nu (lg A) 18 4)) ++ [10]))) := by
    have es : seg (lg A) (54 + n0) 3 = [lg A (54 + n0)] ++ [lg A (54 + n0 + 1)] ++ [lg A (54 + n0 + 2)] := by
      show [lg A (54 + n0), lg A (54 + n0 + 1), lg A (54 + n0 + 1 + 1)] = [lg A (54 + n0), lg A (54 + n0 + 1), lg A (54 + n0 + 2)]
      rw [show 54 + n0 + 1 + 1 = 54 + n0 + 2 by omega]
    unfold stT
    rw [h50, w10, es]
    simp only [List.append_assoc, List.nil_append]
  rw [eT]
  have hst := fun (σ : hM) (V : qR) (hP : PX σ0 V R σ) (hB : BY V 134 300 A) => x_stringEnd (fb := fb) (d := d) (s := 50) hP hB hA (by decide)
  have hst2 := fun (σ : hM) (V : qR) (hP : PX σ0 V R σ) (hB : BY V 134 300 A) => x_stringEnd (fb := fb) (d := d) (s := 52 + n0) hP hB hA (by omega)
  rw [sE_at h50 (by decide) hn.1 (by omega)] at hst
  rw [sE_at h3 (by omega) (by decide) (by omega)] at hst2
  have hnu := fun (s : Int) (v : Int) (h : nu (lg A) s 4 = v) (h0 : 0 ≤ s ∧ s + 4 ≤ 67 + n0) (σ : hM) (V : qR) (hP : PX σ0 V R σ) (hB : BY V 134 300 A) => x_num (fb := fb) (d := d) (s := s) (k := 4) 4 hP hB hA rfl (by decide) h0.1 h0.2 h
  have hn8 := fun (σ : hM) (V : qR) (hP : PX σ0 V R σ) (hB : BY V 134 300 A) => x_number (fb := fb) (d := d) (s := 42) (k := 8) hP hB hA (by decide) (by decide)
  rw [if_pos (by omega), show (8 : Int).toNat = 8 from rfl, w64_id (by omega) (by omega)] at hn8
  obtain ⟨m4, hm4⟩ : ∃ q, nu (lg A) 30 4 = q := ⟨_, rfl⟩
  obtain ⟨v4, hv4⟩ : ∃ q, nu (lg A) 18 4 = q := ⟨_, rfl⟩
  obtain ⟨l8, hl8⟩ : ∃ q, nu (lg A) 42 8 = q := ⟨_, rfl⟩
  rw [hm4] at r30 w1 w2 w3
  rw [hv4] at r18
  rw [hl8] at h42 hn8
  rw [hm4, hv4, hl8]
  have hpo := prO_o hp
  have hrp := prO_rng hp
  have hot3 : tX (prO p + 3) = some (Sum.inl 2) := (LIV_out hX hp hlv).1
  have hBy : ∀ V : qR, FB (prO p + 3) W V → BY V 134 300 A := fun V hF => hF.by hB (by omega)
  have hX0 : XW K T U W R (gOut P p []) := hX
  have hF0 : FB (prO p + 3) W W := FB_rfl
  have hta := fun (l : List Int) (x : Int) (hx : 0 ≤ x ∧ x ≤ 255) (σ : hM) (V : qR) (hP : PX σ0 V R σ) (hX : XW K T U V R (gOut P p l)) (hF : FB (prO p + 3) W V) => x_tAdd (fb := fb) (d := d) hP hX hF hp hlv hx
  have htn := fun (l : List Int) (v : Int) (hv : 0 ≤ v ∧ v < 1000000000000000000) (σ : hM) (V : qR) (hP : PX σ0 V R σ) (hX : XW K T U V R (gOut P p l)) (hF : FB (prO p + 3) W V) => x_tNum (fb := fb) (d := d) hP hX hF hp hlv hv
  have htd := fun (l : List Int) (v : Int) (hv : 0 ≤ v ∧ v < 8) (σ : hM) (V : qR) (hP : PX σ0 V R σ) (hX : XW K T U V R (gOut P p l)) (hF : FB (prO p + 3) W V) => x_tDig (fb := fb) (d := d) hP hX hF hp hlv hv
  have htl := fun (l : List Int) (s e : Int) (hs : e ≤ s ∨ 0 ≤ s) (he : e ≤ A.length) (σ : hM) (V : qR) (hP : PX σ0 V R σ) (hX : XW K T U V R (gOut P p l)) (hF : FB (prO p + 3) W V) => x_tAll (fb := fb) (d := d) (c := 134) hP hX hF hp hlv hB (by omega) hs he
  have t1 := htl [] 52 (52 + n0) (Or.inr (by decide)) (by omega)
  have t2 := fun (l : List Int) => htl l (54 + n0) (57 + n0) (Or.inr (by omega)) (by omega)
  rw [show (52 + n0 - 52).toNat = n0.toNat by omega] at t1
  rw [show (57 + n0 - (54 + n0)).toNat = 3 by omega] at t2
  obtain ⟨ot, hot⟩ : ∃ q, prO p + 3 = q := ⟨_, rfl⟩
  simp only [hot] at hot3 hBy hF0 hta htn htd htl t1 t2 ⊢
  have e54 : w32 (52 + n0 + 2) = 54 + n0 := w32_e (by omega) (by omega) (by omega)
  have es50 : (50 : Int) + 2 + n0 = 52 + n0 := by omega
  have es52 : 52 + n0 + 2 + 3 = 57 + n0 := by omega
  rw [es50] at hst
  rw [es52] at hst2
  obtain ⟨u, hu⟩ : ∃ u, 52 + n0 = u := ⟨_, rfl⟩
  obtain ⟨u2, hu2⟩ : ∃ u, 54 + n0 = u := ⟨_, rfl⟩
  obtain ⟨u3, hu3⟩ : ∃ u, 57 + n0 = u := ⟨_, rfl⟩
  simp only [hu, hu2, hu3] at hst hst2 t1 t2 e54 ⊢
  have hk30 := hnu 30 m4 hm4 (by omega)
  have hk18 := hnu 18 v4 hv4 (by omega)
  obtain ⟨ty, hty⟩ : ∃ q, tyC m4 = q := ⟨_, rfl⟩
  have hfin : ∀ (σ : hM) (V : qR) (l : List Int) (x5 : Option AV), l = [] ++ seg (lg A) 52 n0.toNat ++ [32] → PX σ0 V R σ → XW K T U V R (gOut P p l) → FB ot W V → WP fb (d + 1) 163 77 [some (vR (some 2175)), some (vR (some ot)), some (vR (some 134)), some (vI 50), some (vI u), some (vI w)] [vI ty, vR (some ot)] σ (fun r σ' => r = none ∧ ∃ W2, PX σ0 W2 R σ' ∧ XW K T U W2 R (gOut P p ([] ++ seg (lg A) 52 n0.toNat ++ [32] ++ [ty] ++ [48 + d6] ++ [48 + d3] ++ [48 + d0] ++ [32] ++ decL l8 ++ [32] ++ seg (lg A) u2 3 ++ [32] ++ decL v4 ++ [10])) ∧ FB ot W W2) := fun σ V l x5 hl hP hX hF => by
    have hty2 : 0 ≤ ty ∧ ty ≤ 255 := by
      rw [← hty]
      unfold tyC
      (repeat' split) <;> decide
    rw [← hl]
    refine x_cv2 T_163_77 mN_73 mL_73 (Nat.le_of_ble_eq_true rfl) mO_73 (hP.o hot3) (Nat.le_of_ble_eq_true rfl) (hta _ ty hty2 σ V hP hX hF) ?_
    clear hP hX hF
    rintro _ σ ⟨e1, rfl, V1, hP, hX, hF⟩
    refine cI ?_
    refine x_popI T_163_80 ?_
    refine x_lr (z := some ot) T_163_81 rfl ?_
    refine x_li (z := w) T_163_82 rfl ?_
    refine x_ic T_163_84 ?_
    refine x_ib (w := (shr32 w 6)) T_163_86 (fun h => absurd h.1 (by decide)) rfl ?_
    refine x_ic T_163_87 ?_
    refine x_ib (w := d6) T_163_89 (fun h => absurd h.1 (by decide)) w4 ?_
    refine x_i2l T_163_90 ?_
    refine x_cv2 T_163_91 mN_75 mL_75 (Nat.le_of_ble_eq_true rfl) mO_75 (hP.o hot3) (Nat.le_of_ble_eq_true rfl) (htd _ d6 w7 σ V1 hP hX hF) ?_
    clear hP hX hF
    rintro _ σ ⟨rfl, V2, hP, hX, hF⟩
    refine cV ?_
    refine x_lr (z := some ot) T_163_94 rfl ?_
    refine x_li (z := w) T_163_95 rfl ?_
    refine x_ic T_163_97 ?_
    refine x_ib (w := (shr32 w 3)) T_163_98 (fun h => absurd h.1 (by decide)) rfl ?_
    refine x_ic T_163_99 ?_
    refine x_ib (w := d3) T_163_101 (fun h => absurd h.1 (by decide)) w5 ?_
    refine x_i2l T_163_102 ?_
    refine x_cv2 T_163_103 mN_75 mL_75 (Nat.le_of_ble_eq_true rfl) mO_75 (hP.o hot3) (Nat.le_of_ble_eq_true rfl) (htd _ d3 w8 σ V2 hP hX hF) ?_
    clear hP hX hF
    rintro _ σ ⟨rfl, V3, hP, hX, hF⟩
    refine cV ?_
    refine x_lr (z := some ot) T_163_106 rfl ?_
    refine x_li (z := w) T_163_107 rfl ?_
    refine x_ic T_163_109 ?_
    refine x_ib (w := d0) T_163_111 (fun h => absurd h.1 (by decide)) w6 ?_
    refine x_i2l T_163_112 ?_
    refine x_cv2 T_163_113 mN_75 mL_75 (Nat.le_of_ble_eq_true rfl) mO_75 (hP.o hot3) (Nat.le_of_ble_eq_true rfl) (htd _ d0 w9 σ V3 hP hX hF) ?_
    clear hP hX hF
    rintro _ σ ⟨rfl, V4, hP, hX, hF⟩
    refine cV ?_
    refine x_lr (z := some ot) T_163_116 rfl ?_
    refine x_ic T_163_117 ?_
    refine x_cv2 T_163_119 mN_73 mL_73 (Nat.le_of_ble_eq_true rfl) mO_73 (hP.o hot3) (Nat.le_of_ble_eq_true rfl) (hta _ 32 (by decide) σ V4 hP hX hF) ?_
    clear hP hX hF
    rintro _ σ ⟨e2, rfl, V5, hP, hX, hF⟩
    refine cI ?_
    refine x_popI T_163_122 ?_
    refine x_lr (z := some ot) T_163_123 rfl ?_
    refine x_lr (z := some 134) T_163_124 rfl ?_
    refine x_ic T_163_125 ?_
    refine x_ic T_163_127 ?_
    refine x_cv3 T_163_129 mN_29 mL_29 (Nat.le_of_ble_eq_true rfl) mO_29 (hP.o xo_134) (Nat.le_of_ble_eq_true rfl) (hn8 σ V5 hP (hBy V5 hF)) ?_
    rintro _ σ ⟨rfl, rfl⟩
    refine cL ?_
    refine x_cv2 T_163_132 mN_75 mL_75 (Nat.le_of_ble_eq_true rfl) mO_75 (hP.o hot3) (Nat.le_of_ble_eq_true rfl) (htn _ l8 (by omega) σ V5 hP hX hF) ?_
    clear hP hX hF
    rintro _ σ ⟨rfl, V6, hP, hX, hF⟩
    refine cV ?_
    refine x_lr (z := some ot) T_163_135 rfl ?_
    refine x_ic T_163_136 ?_
    refine x_cv2 T_163_138 mN_73 mL_73 (Nat.le_of_ble_eq_true rfl) mO_73 (hP.o hot3) (Nat.le_of_ble_eq_true rfl) (hta _ 32 (by decide) σ V6 hP hX hF) ?_
    clear hP hX hF
    rintro _ σ ⟨e3, rfl, V7, hP, hX, hF⟩
    refine cI ?_
    refine x_popI T_163_141 ?_
    refine x_lr (z := some ot) T_163_142 rfl ?_
    refine x_lr (z := some 134) T_163_143 rfl ?_
    refine x_li (z := u) T_163_144 rfl ?_
    refine x_ic T_163_146 ?_
    refine x_ib (w := u2) T_163_147 (fun h => absurd h.1 (by decide)) e54 ?_
    refine x_lr (z := some 134) T_163_148 rfl ?_
    refine x_li (z := u) T_163_149 rfl ?_
    refine x_cv2 T_163_151 mN_36 mL_36 (Nat.le_of_ble_eq_true rfl) mO_36 (hP.o xo_134) (Nat.le_of_ble_eq_true rfl) (hst2 σ V7 hP (hBy V7 hF)) ?_
    rintro _ σ ⟨rfl, rfl⟩
    refine cI ?_
    refine x_cv4 T_163_154 mN_32 mL_32 (Nat.le_of_ble_eq_true rfl) mO_32 (hP.o hot3) (Nat.le_of_ble_eq_true rfl) (t2 _ σ V7 hP hX hF) ?_
    clear hP hX hF
    rintro _ σ ⟨e4, rfl, V8, hP, hX, hF⟩
    refine cI ?_
    refine x_popI T_163_157 ?_
    refine x_lr (z := some ot) T_163_158 rfl ?_
    refine x_ic T_163_159 ?_
    refine x_cv2 T_163_161 mN_73 mL_73 (Nat.le_of_ble_eq_true rfl) mO_73 (hP.o hot3) (Nat.le_of_ble_eq_true rfl) (hta _ 32 (by decide) σ V8 hP hX hF) ?_
    clear hP hX hF
    rintro _ σ ⟨e5, rfl, V9, hP, hX, hF⟩
    refine cI ?_
    refine x_popI T_163_164 ?_
    refine x_lr (z := some ot) T_163_165 rfl ?_
    refine x_lr (z := some 134) T_163_166 rfl ?_
    refine x_ic T_163_167 ?_
    refine x_ic T_163_169 ?_
    refine x_cv3 T_163_170 mN_29 mL_29 (Nat.le_of_ble_eq_true rfl) mO_29 (hP.o xo_134) (Nat.le_of_ble_eq_true rfl) (hk18 σ V9 hP (hBy V9 hF)) ?_
    rintro _ σ ⟨rfl, rfl⟩
    refine cL ?_
    refine x_cv2 T_163_173 mN_75 mL_75 (Nat.le_of_ble_eq_true rfl) mO_75 (hP.o hot3) (Nat.le_of_ble_eq_true rfl) (htn _ v4 (by omega) σ V9 hP hX hF) ?_
    clear hP hX hF
    rintro _ σ ⟨rfl, Va, hP, hX, hF⟩
    refine cV ?_
    refine x_lr (z := some ot) T_163_176 rfl ?_
    refine x_ic T_163_177 ?_
    refine x_cv2 T_163_179 mN_73 mL_73 (Nat.le_of_ble_eq_true rfl) mO_73 (hP.o hot3) (Nat.le_of_ble_eq_true rfl) (hta _ 10 (by decide) σ Va hP hX hF) ?_
    clear hP hX hF
    rintro _ σ ⟨e6, rfl, Vb, hP, hX, hF⟩
    refine cI ?_
    refine x_popI T_163_182 ?_
    refine x_rv T_163_183 ?_
    exact ⟨rfl, Vb, hP, hX, hF⟩
  rw [hty]
  by_cases q1 : and64 m4 2147483648 = 0
  · have c1 := w2.mpr q1
    by_cases q2 : and64 m4 1073741824 = 0
    · have c2 := w3.mpr q2
      have ht : ty = 45 := by rw [← hty]; unfold tyC; rw [if_pos q1, if_pos q2]
      rw [ht] at hfin ⊢
      refine CL_in mL_163 rfl ?_
      show WP fb _ 163 0 [some (vR (some 2175)), some (vR (some ot)), none, none, none, none] [] σ _
      refine x_lr (z := some 2175) T_163_0 rfl ?_
      refine x_gR (z := some 129) T_163_1 F_14_0 (hP.o xo_2175) (hP.rc xo_2175 rfl rfl) ?_
      refine x_gR (z := some 134) T_163_4 F_1_2 (hP.o xo_129) (hP.rc xo_129 rfl rfl) ?_
      refine x_sr (ls1 := [some (vR (some 2175)), some (vR (some ot)), some (vR (some 134)), none, none, none]) T_163_7 rfl ?_
      refine x_ic T_163_8 ?_
      refine x_si (ls1 := [some (vR (some 2175)), some (vR (some ot)), some (vR (some 134)), some (vI 50), none, none]) T_163_10 rfl ?_
      refine x_lr (z := some 134) T_163_11 rfl ?_
      refine x_li (z := 50) T_163_12 rfl ?_
      refine x_cv2 T_163_13 mN_36 mL_36 (Nat.le_of_ble_eq_true rfl) mO_36 (hP.o xo_134) (Nat.le_of_ble_eq_true rfl) (hst σ W hP hB) ?_
      rintro _ σ ⟨rfl, rfl⟩
      refine cI ?_
      refine x_si (ls1 := [some (vR (some 2175)), some (vR (some ot)), some (vR (some 134)), some (vI 50), some (vI u), none]) T_163_16 rfl ?_
      refine x_lr (z := some 134) T_163_18 rfl ?_
      refine x_ic T_163_19 ?_
      refine x_ic T_163_21 ?_
      refine x_cv3 T_163_22 mN_29 mL_29 (Nat.le_of_ble_eq_true rfl) mO_29 (hP.o xo_134) (Nat.le_of_ble_eq_true rfl) (hk30 σ W hP hB) ?_
      rintro _ σ ⟨rfl, rfl⟩
      refine cL ?_
      refine x_l2i (w := w) T_163_25 w1 ?_
      refine x_si (ls1 := [some (vR (some 2175)), some (vR (some ot)), some (vR (some 134)), some (vI 50), some (vI u), some (vI w)]) T_163_26 rfl ?_
      refine x_lr (z := some ot) T_163_28 rfl ?_
      refine x_lr (z := some 134) T_163_29 rfl ?_
      refine x_li (z := 50) T_163_30 rfl ?_
      refine x_ic T_163_31 ?_
      refine x_ib (w := 52) T_163_32 (fun h => absurd h.1 (by decide)) (by decide) ?_
      refine x_li (z := u) T_163_33 rfl ?_
      refine x_cv4 T_163_35 mN_32 mL_32 (Nat.le_of_ble_eq_true rfl) mO_32 (hP.o hot3) (Nat.le_of_ble_eq_true rfl) (t1 σ W hP hX0 hF0) ?_
      clear hP hX hX0
      rintro _ σ ⟨e7, rfl, V1, hP, hX, hF⟩
      refine cI ?_
      refine x_popI T_163_38 ?_
      refine x_lr (z := some ot) T_163_39 rfl ?_
      refine x_ic T_163_40 ?_
      refine x_cv2 T_163_42 mN_73 mL_73 (Nat.le_of_ble_eq_true rfl) mO_73 (hP.o hot3) (Nat.le_of_ble_eq_true rfl) (hta _ 32 (by decide) σ V1 hP hX hF) ?_
      clear hP hX hF
      rintro _ σ ⟨e8, rfl, V2, hP, hX, hF⟩
      refine cI ?_
      refine x_popI T_163_45 ?_
      refine x_lr (z := some ot) T_163_46 rfl ?_
      refine x_li (z := w) T_163_47 rfl ?_
      refine x_ic T_163_49 ?_
      refine x_ib (w := (and32 w (-2147483648))) T_163_52 (fun h => absurd h.1 (by decide)) rfl ?_
      refine x_if T_163_53 (fun _ => ?_) (fun h => absurd (show (and32 w (-2147483648)) = 0 by exact c1) h)
      refine x_li (z := w) T_163_61 rfl ?_
      refine x_ic T_163_63 ?_
      refine x_ib (w := (and32 w 1073741824)) T_163_66 (fun h => absurd h.1 (by decide)) rfl ?_
      refine x_if T_163_67 (fun _ => ?_) (fun h => absurd (show (and32 w 1073741824) = 0 by exact c2) h)
      refine x_ic T_163_75 ?_
      exact hfin σ V2 _ none rfl hP hX hF
    · have c2 := fun c => q2 (w3.mp c)
      have ht : ty = 97 := by rw [← hty]; unfold tyC; rw [if_pos q1, if_neg q2]
      rw [ht] at hfin ⊢
      refine CL_in mL_163 rfl ?_
      show WP fb _ 163 0 [some (vR (some 2175)), some (vR (some ot)), none, none, none, none] [] σ _
      refine x_lr (z := some 2175) T_163_0 rfl ?_
      refine x_gR (z := some 129) T_163_1 F_14_0 (hP.o xo_2175) (hP.rc xo_2175 rfl rfl) ?_
      refine x_gR (z := some 134) T_163_4 F_1_2 (hP.o xo_129) (hP.rc xo_129 rfl rfl) ?_
      refine x_sr (ls1 := [some (vR (some 2175)), some (vR (some ot)), some (vR (some 134)), none, none, none]) T_163_7 rfl ?_
      refine x_ic T_163_8 ?_
      refine x_si (ls1 := [some (vR (some 2175)), some (vR (some ot)), some (vR (some 134)), some (vI 50), none, none]) T_163_10 rfl ?_
      refine x_lr (z := some 134) T_163_11 rfl ?_
      refine x_li (z := 50) T_163_12 rfl ?_
      refine x_cv2 T_163_13 mN_36 mL_36 (Nat.le_of_ble_eq_true rfl) mO_36 (hP.o xo_134) (Nat.le_of_ble_eq_true rfl) (hst σ W hP hB) ?_
      rintro _ σ ⟨rfl, rfl⟩
      refine cI ?_
      refine x_si (ls1 := [some (vR (some 2175)), some (vR (some ot)), some (vR (some 134)), some (vI 50), some (vI u), none]) T_163_16 rfl ?_
      refine x_lr (z := some 134) T_163_18 rfl ?_
      refine x_ic T_163_19 ?_
      refine x_ic T_163_21 ?_
      refine x_cv3 T_163_22 mN_29 mL_29 (Nat.le_of_ble_eq_true rfl) mO_29 (hP.o xo_134) (Nat.le_of_ble_eq_true rfl) (hk30 σ W hP hB) ?_
      rintro _ σ ⟨rfl, rfl⟩
      refine cL ?_
      refine x_l2i (w := w) T_163_25 w1 ?_
      refine x_si (ls1 := [some (vR (some 2175)), some (vR (some ot)), some (vR (some 134)), some (vI 50), some (vI u), some (vI w)]) T_163_26 rfl ?_
      refine x_lr (z := some ot) T_163_28 rfl ?_
      refine x_lr (z := some 134) T_163_29 rfl ?_
      refine x_li (z := 50) T_163_30 rfl ?_
      refine x_ic T_163_31 ?_
      refine x_ib (w := 52) T_163_32 (fun h => absurd h.1 (by decide)) (by decide) ?_
      refine x_li (z := u) T_163_33 rfl ?_
      refine x_cv4 T_163_35 mN_32 mL_32 (Nat.le_of_ble_eq_true rfl) mO_32 (hP.o hot3) (Nat.le_of_ble_eq_true rfl) (t1 σ W hP hX0 hF0) ?_
      clear hP hX hX0
      rintro _ σ ⟨e7, rfl, V1, hP, hX, hF⟩
      refine cI ?_
      refine x_popI T_163_38 ?_
      refine x_lr (z := some ot) T_163_39 rfl ?_
      refine x_ic T_163_40 ?_
      refine x_cv2 T_163_42 mN_73 mL_73 (Nat.le_of_ble_eq_true rfl) mO_73 (hP.o hot3) (Nat.le_of_ble_eq_true rfl) (hta _ 32 (by decide) σ V1 hP hX hF) ?_
      clear hP hX hF
      rintro _ σ ⟨e8, rfl, V2, hP, hX, hF⟩
      refine cI ?_
      refine x_popI T_163_45 ?_
      refine x_lr (z := some ot) T_163_46 rfl ?_
      refine x_li (z := w) T_163_47 rfl ?_
      refine x_ic T_163_49 ?_
      refine x_ib (w := (and32 w (-2147483648))) T_163_52 (fun h => absurd h.1 (by decide)) rfl ?_
      refine x_if T_163_53 (fun _ => ?_) (fun h => absurd (show (and32 w (-2147483648)) = 0 by exact c1) h)
      refine x_li (z := w) T_163_61 rfl ?_
      refine x_ic T_163_63 ?_
      refine x_ib (w := (and32 w 1073741824)) T_163_66 (fun h => absurd h.1 (by decide)) rfl ?_
      refine x_if T_163_67 (fun h => absurd (show (and32 w 1073741824) = 0 from h) (by exact c2)) (fun _ => ?_)
      refine x_ic T_163_70 ?_
      refine x_goto T_163_72 ?_
      exact hfin σ V2 _ none rfl hP hX hF
  · have c1 := fun c => q1 (w2.mp c)
    have ht : ty = 100 := by rw [← hty]; unfold tyC; rw [if_neg q1]
    rw [ht] at hfin ⊢
    refine CL_in mL_163 rfl ?_
    show WP fb _ 163 0 [some (vR (some 2175)), some (vR (some ot)), none, none, none, none] [] σ _
    refine x_lr (z := some 2175) T_163_0 rfl ?_
    refine x_gR (z := some 129) T_163_1 F_14_0 (hP.o xo_2175) (hP.rc xo_2175 rfl rfl) ?_
    refine x_gR (z := some 134) T_163_4 F_1_2 (hP.o xo_129) (hP.rc xo_129 rfl rfl) ?_
    refine x_sr (ls1 := [some (vR (some 2175)), some (vR (some ot)), some (vR (some 134)), none, none, none]) T_163_7 rfl ?_
    refine x_ic T_163_8 ?_
    refine x_si (ls1 := [some (vR (some 2175)), some (vR (some ot)), some (vR (some 134)), some (vI 50), none, none]) T_163_10 rfl ?_
    refine x_lr (z := some 134) T_163_11 rfl ?_
    refine x_li (z := 50) T_163_12 rfl ?_
    refine x_cv2 T_163_13 mN_36 mL_36 (Nat.le_of_ble_eq_true rfl) mO_36 (hP.o xo_134) (Nat.le_of_ble_eq_true rfl) (hst σ W hP hB) ?_
    rintro _ σ ⟨rfl, rfl⟩
    refine cI ?_
    refine x_si (ls1 := [some (vR (some 2175)), some (vR (some ot)), some (vR (some 134)), some (vI 50), some (vI u), none]) T_163_16 rfl ?_
    refine x_lr (z := some 134) T_163_18 rfl ?_
    refine x_ic T_163_19 ?_
    refine x_ic T_163_21 ?_
    refine x_cv3 T_163_22 mN_29 mL_29 (Nat.le_of_ble_eq_true rfl) mO_29 (hP.o xo_134) (Nat.le_of_ble_eq_true rfl) (hk30 σ W hP hB) ?_
    rintro _ σ ⟨rfl, rfl⟩
    refine cL ?_
    refine x_l2i (w := w) T_163_25 w1 ?_
    refine x_si (ls1 := [some (vR (some 2175)), some (vR (some ot)), some (vR (some 134)), some (vI 50), some (vI u), some (vI w)]) T_163_26 rfl ?_
    refine x_lr (z := some ot) T_163_28 rfl ?_
    refine x_lr (z := some 134) T_163_29 rfl ?_
    refine x_li (z := 50) T_163_30 rfl ?_
    refine x_ic T_163_31 ?_
    refine x_ib (w := 52) T_163_32 (fun h => absurd h.1 (by decide)) (by decide) ?_
    refine x_li (z := u) T_163_33 rfl ?_
    refine x_cv4 T_163_35 mN_32 mL_32 (Nat.le_of_ble_eq_true rfl) mO_32 (hP.o hot3) (Nat.le_of_ble_eq_true rfl) (t1 σ W hP hX0 hF0) ?_
    clear hP hX hX0
    rintro _ σ ⟨e7, rfl, V1, hP, hX, hF⟩
    refine cI ?_
    refine x_popI T_163_38 ?_
    refine x_lr (z := some ot) T_163_39 rfl ?_
    refine x_ic T_163_40 ?_
    refine x_cv2 T_163_42 mN_73 mL_73 (Nat.le_of_ble_eq_true rfl) mO_73 (hP.o hot3) (Nat.le_of_ble_eq_true rfl) (hta _ 32 (by decide) σ V1 hP hX hF) ?_
    clear hP hX hF
    rintro _ σ ⟨e8, rfl, V2, hP, hX, hF⟩
    refine cI ?_
    refine x_popI T_163_45 ?_
    refine x_lr (z := some ot) T_163_46 rfl ?_
    refine x_li (z := w) T_163_47 rfl ?_
    refine x_ic T_163_49 ?_
    refine x_ib (w := (and32 w (-2147483648))) T_163_52 (fun h => absurd h.1 (by decide)) rfl ?_
    refine x_if T_163_53 (fun h => absurd (show (and32 w (-2147483648)) = 0 from h) (by exact c1)) (fun _ => ?_)
    refine x_ic T_163_56 ?_
    refine x_goto T_163_58 ?_
    exact hfin σ V2 _ none rfl hP hX hF
theorem CHX.fbw (h : CHX W R c ch) (hF : FB b W W2) : CHX W2 R c ch := ⟨(hF _ _ (by omega) (by omega)).trans h.1, (hF _ _ (by omega) (by omega)).trans h.2.1, (hF _ _ (by omega) (by omega)).trans h.2.2.1, (hF _ _ (by omega) (by omega)).trans h.2.2.2.1, h.2.2.2.2⟩
theorem x_stat (hP : PX σ0 W R σ) (hX : XW K T U W R P) (hT : T + 1200 ≤ 2147483000) (hp : 0 ≤ p ∧ p < 8) (hlv : ¬ P 2320 p = 0) (hC : CMD W k l) (hw : ((lnW l).length : Int) = 2) : CL fb (d + 10) 162 [vR (some 2175), vR (some (prO p)), vR (some k)] σ (XCM σ0 K (T + 308) U W R (cStat P p (lnB l 1))) := by
  have hre := x_reach (fb := fb) (d := d) (thr := 1) hP hX (by omega) hp hlv hC (w := 1) ⟨by decide, by omega⟩ one_o (by decide) (Or.inr rfl)
  have hpo := prO_o hp
  have hrp := prO_rng hp
  have h5 := hC.2.2.2.2.1.trans hw
  have hwf := (KF_kWW (thr := 1) (wd := lnB l 1) hX.1.2.2.2.1.iv hX.1.2.2.2.2.2.2 hp).1
  have hr0 := (KF_kWW (thr := 1) (wd := lnB l 1) hX.1.2.2.2.1.iv hX.1.2.2.2.2.2.2 hp).2
  have hot3 : tX (prO p + 3) = some (Sum.inl 2) := (LIV_out hX hp hlv).1
  unfold cStat
  obtain ⟨A, hA⟩ : ∃ A, kWW P p 1 (lnB l 1) = A := ⟨_, rfl⟩
  rw [hA] at hre hr0 hwf
  rw [hA]
  obtain ⟨e, Q, s, f, pa, kd, cp⟩ := A
  have hwf : KF Q P := hwf
  have hr0 : 0 ≤ e := hr0
  by_cases q4 : e = 0
  rotate_left
  · rw [if_pos (show 0 < e by omega)]
    obtain ⟨pr, hpr⟩ : ∃ q, prO p = q := ⟨_, rfl⟩
    rw [hpr] at hre hpo hot3 ⊢
    refine CL_in mL_162 rfl ?_
    show WP fb _ 162 0 [some (vR (some 2175)), some (vR (some pr)), some (vR (some k)), none] [] σ _
    refine x_lr (z := some k) T_162_0 rfl ?_
    refine x_gI (z := 2) T_162_1 (Or.inl F_16_4) (hP.o hC.1) (Eq.trans (hP.gi hC.1 (key := 2516) rfl) h5) ?_
    refine x_ic T_162_4 ?_
    refine x_ic2 T_162_5 (fun _ => ?_) (fun h => absurd (show (2 : Int) = 2 by decide) h)
    refine x_lr (z := some 2175) T_162_11 rfl ?_
    refine x_gR (z := some 129) T_162_12 F_14_0 (hP.o xo_2175) (hP.rc xo_2175 rfl rfl) ?_
    refine x_lr (z := some pr) T_162_15 rfl ?_
    refine x_lr (z := some k) T_162_16 rfl ?_
    refine x_ic T_162_17 ?_
    refine x_lr (z := some 2175) T_162_18 rfl ?_
    refine x_gR (z := some 2178) T_162_19 F_14_2 (hP.o xo_2175) (hP.rc xo_2175 rfl rfl) ?_
    refine x_ic T_162_22 ?_
    refine x_cv6 T_162_23 mN_117 mL_117 (Nat.le_of_ble_eq_true rfl) mO_117 (hP.o xo_129) (Nat.le_of_ble_eq_true rfl) (hre) ?_
    clear hP hre
    rintro _ σ ⟨rfl, V, V3, hP, hXV, hq, hFV⟩
    refine cI ?_
    refine x_si (ls1 := [some (vR (some 2175)), some (vR (some pr)), some (vR (some k)), some (vI e)]) T_162_26 rfl ?_
    refine x_li (z := e) T_162_27 rfl ?_
    refine x_if T_162_28 (fun h => absurd (show e = 0 from h) (by omega)) (fun _ => ?_)
    refine x_li (z := e) T_162_31 rfl ?_
    refine x_ri T_162_32 ?_
    exact ⟨rfl, V, V3, hP, XW.mono hXV (by omega), FCM_fk hFV (by decide)⟩
  subst q4
  rw [if_neg (show ¬ (0 : Int) < 0 by decide)]
  have hab := fun (σ : hM) (V : qR) (V3 : rR) (hP : PX σ0 V V3 σ) (hf : 0 ≤ f ∧ f ≤ 47) => x_about (fb := fb) (d := d + 6) (t := 124) (f := f) hP (by decide) ⟨by omega, by omega⟩
  have hse := fun (σ : hM) (V : qR) (V3 : rR) (hX : XW K (T + 300) U V V3 Q) (V4 : qR) (hP : PX σ0 V4 V3 σ) (hF : FR1 V V4) (hB : BY V4 138 300 (mFr (mOne 124 f))) (hs0 : V4 2178 2160 = s) (hs : 0 ≤ s ∧ s < 3) => mOne_s (fb := fb) (d := d + 1) hP (hX.fr1 hF) (by omega) hs0 one_o hs (Or.inr (Or.inr rfl)) hB
  have hter : 0 ≤ tE Q s (mOne 124 f) := tE_rng.1
  show CL fb (d + 10) 162 _ σ (XCM σ0 K (T + 308) U W R (if 0 < tE Q s (mOne 124 f) then (tE Q s (mOne 124 f), tP Q s (mOne 124 f), [(s, f, pa, kd, cp)]) else (0, gOut (kDrop (tP Q s (mOne 124 f)) (s, f, pa, kd, cp)) p (stT (tA Q s (mOne 124 f))), [])))
  have hkf2 : KF (tP Q s (mOne 124 f)) P := KF_tr KF_tP hwf
  have hlv2 : ¬ tP Q s (mOne 124 f) 2320 p = 0 := by
    rw [nsR_kf hkf2 2320 _ rfl]
    exact hlv
  have hsu := fun (V : qR) (V3 : rR) (hX : XW K (T + 300) U V V3 Q) (hs : 0 ≤ s ∧ s < 3) => stat_U (f := f) hX.1.2.2.2.1 hs
  obtain ⟨Q2, hQ2⟩ : ∃ q, tP Q s (mOne 124 f) = q := ⟨_, rfl⟩
  obtain ⟨e2, he2⟩ : ∃ q, tE Q s (mOne 124 f) = q := ⟨_, rfl⟩
  obtain ⟨A2, hA2⟩ : ∃ q, tA Q s (mOne 124 f) = q := ⟨_, rfl⟩
  rw [hQ2] at hlv2
  rw [he2] at hter
  simp only [hQ2, he2, hA2] at hse
  simp only [he2, hA2] at hsu
  rw [hQ2, he2, hA2]
  by_cases q5 : e2 = 0
  · subst q5
    rw [if_neg (show ¬ (0 : Int) < 0 by decide)]
    have htl := fun (σ : hM) (V : qR) (V3 : rR) (hP : PX σ0 V V3 σ) (hX : XW K (T + 304) U V V3 Q2) (hB : BY V 134 300 A2) (n0 : Int) (h0 : 0 ≤ n0 ∧ n0 ≤ 12) (h1 : nu (lg A2) 50 2 = n0) (h2 : (A2.length : Int) = 67 + n0) (h3 : 0 ≤ nu (lg A2) 42 8 ∧ nu (lg A2) 42 8 ≤ 600) (h4 : nu (lg A2) (52 + n0) 2 = 3) => x_tellStat (fb := fb) (d := d + 8) hP hX hp hlv2 hB h0 h1 h2 h3 h4
    have hck := fun (σ : hM) (V5 : qR) (V6 : rR) (hP : PX σ0 V5 V6 σ) (hX : XW K (T + 304) U V5 V6 (gOut Q2 p (stT A2))) (hch : CHX V5 V6 2178 (s, f, pa, kd, cp)) (hcr : chR (s, f, pa, kd, cp)) => (x_clunk1 (fb := fb) (d := d + 1) hP hX (by omega) hch hcr).mono (Q := fun r σ' => ∃ e, r = some (vI e) ∧ ∃ W2 R2, PX σ0 W2 R2 σ' ∧ XW K (T + 304 + 4) U W2 R2 (kDrop (gOut Q2 p (stT A2)) (s, f, pa, kd, cp)) ∧ FA V5 W2 V6 R2) (fun r σ' h => ⟨_, h.1, h.2⟩)
    rw [kDrop_out] at hck
    obtain ⟨pr, hpr⟩ : ∃ q, prO p = q := ⟨_, rfl⟩
    rw [hpr] at hre hpo hot3 hrp ⊢
    simp only [hpr] at htl
    refine CL_in mL_162 rfl ?_
    show WP fb _ 162 0 [some (vR (some 2175)), some (vR (some pr)), some (vR (some k)), none] [] σ _
    refine x_lr (z := some k) T_162_0 rfl ?_
    refine x_gI (z := 2) T_162_1 (Or.inl F_16_4) (hP.o hC.1) (Eq.trans (hP.gi hC.1 (key := 2516) rfl) h5) ?_
    refine x_ic T_162_4 ?_
    refine x_ic2 T_162_5 (fun _ => ?_) (fun h => absurd (show (2 : Int) = 2 by decide) h)
    refine x_lr (z := some 2175) T_162_11 rfl ?_
    refine x_gR (z := some 129) T_162_12 F_14_0 (hP.o xo_2175) (hP.rc xo_2175 rfl rfl) ?_
    refine x_lr (z := some pr) T_162_15 rfl ?_
    refine x_lr (z := some k) T_162_16 rfl ?_
    refine x_ic T_162_17 ?_
    refine x_lr (z := some 2175) T_162_18 rfl ?_
    refine x_gR (z := some 2178) T_162_19 F_14_2 (hP.o xo_2175) (hP.rc xo_2175 rfl rfl) ?_
    refine x_ic T_162_22 ?_
    refine x_cv6 T_162_23 mN_117 mL_117 (Nat.le_of_ble_eq_true rfl) mO_117 (hP.o xo_129) (Nat.le_of_ble_eq_true rfl) (hre) ?_
    clear hP hre
    rintro _ σ ⟨rfl, V, V3, hP, hXV, hq, hFV⟩
    obtain ⟨⟨hch, hcr⟩, -⟩ := hq rfl
    have hf0 : V 2178 2161 = f := hch.2.1
    refine cI ?_
    refine x_si (ls1 := [some (vR (some 2175)), some (vR (some pr)), some (vR (some k)), some (vI 0)]) T_162_26 rfl ?_
    refine x_li (z := 0) T_162_27 rfl ?_
    refine x_if T_162_28 (fun _ => ?_) (fun h => absurd (show (0 : Int) = 0 by rfl) h)
    refine x_lr (z := some 2175) T_162_33 rfl ?_
    refine x_lr (z := some 2175) T_162_34 rfl ?_
    refine x_gR (z := some 2178) T_162_35 F_14_2 (hP.o xo_2175) (hP.rc xo_2175 rfl rfl) ?_
    refine x_lr (z := some 2175) T_162_38 rfl ?_
    refine x_gR (z := some 129) T_162_39 F_14_0 (hP.o xo_2175) (hP.rc xo_2175 rfl rfl) ?_
    refine x_ic T_162_42 ?_
    refine x_lr (z := some 2175) T_162_44 rfl ?_
    refine x_gR (z := some 2178) T_162_45 F_14_2 (hP.o xo_2175) (hP.rc xo_2175 rfl rfl) ?_
    refine x_gI (z := f) T_162_48 (Or.inl F_5_1) (hP.o xo_2178) (Eq.trans (hP.gi xo_2178 (key := 2161) rfl) hf0) ?_
    refine x_cv3 T_162_51 mN_131 mL_131 (Nat.le_of_ble_eq_true rfl) mO_131 (hP.o xo_129) (Nat.le_of_ble_eq_true rfl) (hab σ V V3 hP hcr.2.1) ?_
    clear hP hab
    rintro _ σ ⟨rfl, V4, hP, hB4, hF4⟩
    refine cR ?_
    refine x_cv3 T_162_54 mN_136 mL_136 (Nat.le_of_ble_eq_true rfl) mO_136 (hP.o xo_2175) (Nat.le_of_ble_eq_true rfl) (hse σ V V3 hXV V4 hP hF4 hB4 (hch.sf hF4 (by decide)).1 hcr.1) ?_
    clear hP hse
    rintro _ σ ⟨rfl, V5, V6, hP, hX5, hB5, hF5⟩
    have hc5 := hch.fa (FA_tr (FA_fr hF4) (FA_fs hF5)) (by decide) (by decide) hcr.2.2
    obtain ⟨n0, g1, g2, g3, g4, g5, g6, g7⟩ := hsu V V3 hXV hcr.1 rfl hB5.2.2.2.2.2.1
    refine cI ?_
    refine x_si (ls1 := [some (vR (some 2175)), some (vR (some pr)), some (vR (some k)), some (vI 0)]) T_162_57 rfl ?_
    refine x_li (z := 0) T_162_58 rfl ?_
    refine x_if T_162_59 (fun h => absurd (show ¬ (0 : Int) = 0 from h) (by decide)) (fun _ => ?_)
    refine x_lr (z := some 2175) T_162_62 rfl ?_
    refine x_lr (z := some pr) T_162_63 rfl ?_
    refine x_gR (z := some (pr + 3)) T_162_64 F_6_2 (hP.o hpo) (hP.rc hpo rfl rfl) ?_
    refine x_cv2 T_162_67 mN_163 mL_163 (Nat.le_of_ble_eq_true rfl) mO_163 (hP.o xo_2175) (Nat.le_of_ble_eq_true rfl) (htl σ V5 V6 hP (XW.mono hX5 (by omega)) hB5 n0 ⟨g1, g2⟩ g3 g4 ⟨g5, g6⟩ g7) ?_
    clear hP htl
    rintro _ σ ⟨rfl, V7, hP, hX7, hF7⟩
    have hc7 := hc5.fbw hF7
    refine cV ?_
    refine x_lr (z := some 2175) T_162_70 rfl ?_
    refine x_gR (z := some 129) T_162_71 F_14_0 (hP.o xo_2175) (hP.rc xo_2175 rfl rfl) ?_
    refine x_lr (z := some 2175) T_162_74 rfl ?_
    refine x_gR (z := some 2178) T_162_75 F_14_2 (hP.o xo_2175) (hP.rc xo_2175 rfl rfl) ?_
    refine x_cv2 T_162_78 mN_132 mL_132 (Nat.le_of_ble_eq_true rfl) mO_132 (hP.o xo_129) (Nat.le_of_ble_eq_true rfl) (hck σ V7 V6 hP hX7 hc7 hcr) ?_
    clear hP hck
    rintro _ σ ⟨e3, rfl, V8, V9, hP, hX8, hF8⟩
    refine cI ?_
    refine x_popI T_162_81 ?_
    refine x_li (z := 0) T_162_82 rfl ?_
    refine x_ri T_162_83 ?_
    exact ⟨rfl, V8, V9, hP, XW.mono hX8 (by omega), FCM_tr (FCM_tr (FCM_fk hFV (by decide)) (FCM_tr (FCM_fr hF4) (FCM_fs hF5))) (FCM_tr (FCM_fb hF7 (by omega)) (FCM_fa hF8))⟩
  · rw [if_pos (show 0 < e2 by omega)]
    obtain ⟨pr, hpr⟩ : ∃ q, prO p = q := ⟨_, rfl⟩
    rw [hpr] at hre hpo hot3 ⊢
    have hck := fun (σ : hM) (V5 : qR) (V6 : rR) (hP : PX σ0 V5 V6 σ) (hX : XW K (T + 304) U V5 V6 Q2) (hch : CHX V5 V6 2178 (s, f, pa, kd, cp)) (hcr : chR (s, f, pa, kd, cp)) => (x_clunk1 (fb := fb) (d := d + 1) hP hX (by omega) hch hcr).mono (Q := fun r σ' => ∃ e, r = some (vI e) ∧ ∃ W2 R2, PX σ0 W2 R2 σ' ∧ XW K (T + 304 + 4) U W2 R2 (kDrop Q2 (s, f, pa, kd, cp)) ∧ FA V5 W2 V6 R2) (fun r σ' h => ⟨_, h.1, h.2⟩)
    refine CL_in mL_162 rfl ?_
    show WP fb _ 162 0 [some (vR (some 2175)), some (vR (some pr)), some (vR (some k)), none] [] σ _
    refine x_lr (z := some k) T_162_0 rfl ?_
    refine x_gI (z := 2) T_162_1 (Or.inl F_16_4) (hP.o hC.1) (Eq.trans (hP.gi hC.1 (key := 2516) rfl) h5) ?_
    refine x_ic T_162_4 ?_
    refine x_ic2 T_162_5 (fun _ => ?_) (fun h => absurd (show (2 : Int) = 2 by decide) h)
    refine x_lr (z := some 2175) T_162_11 rfl ?_
    refine x_gR (z := some 129) T_162_12 F_14_0 (hP.o xo_2175) (hP.rc xo_2175 rfl rfl) ?_
    refine x_lr (z := some pr) T_162_15 rfl ?_
    refine x_lr (z := some k) T_162_16 rfl ?_
    refine x_ic T_162_17 ?_
    refine x_lr (z := some 2175) T_162_18 rfl ?_
    refine x_gR (z := some 2178) T_162_19 F_14_2 (hP.o xo_2175) (hP.rc xo_2175 rfl rfl) ?_
    refine x_ic T_162_22 ?_
    refine x_cv6 T_162_23 mN_117 mL_117 (Nat.le_of_ble_eq_true rfl) mO_117 (hP.o xo_129) (Nat.le_of_ble_eq_true rfl) (hre) ?_
    clear hP hre
    rintro _ σ ⟨rfl, V, V3, hP, hXV, hq, hFV⟩
    obtain ⟨⟨hch, hcr⟩, -⟩ := hq rfl
    have hf0 : V 2178 2161 = f := hch.2.1
    refine cI ?_
    refine x_si (ls1 := [some (vR (some 2175)), some (vR (some pr)), some (vR (some k)), some (vI 0)]) T_162_26 rfl ?_
    refine x_li (z := 0) T_162_27 rfl ?_
    refine x_if T_162_28 (fun _ => ?_) (fun h => absurd (show (0 : Int) = 0 by rfl) h)
    refine x_lr (z := some 2175) T_162_33 rfl ?_
    refine x_lr (z := some 2175) T_162_34 rfl ?_
    refine x_gR (z := some 2178) T_162_35 F_14_2 (hP.o xo_2175) (hP.rc xo_2175 rfl rfl) ?_
    refine x_lr (z := some 2175) T_162_38 rfl ?_
    refine x_gR (z := some 129) T_162_39 F_14_0 (hP.o xo_2175) (hP.rc xo_2175 rfl rfl) ?_
    refine x_ic T_162_42 ?_
    refine x_lr (z := some 2175) T_162_44 rfl ?_
    refine x_gR (z := some 2178) T_162_45 F_14_2 (hP.o xo_2175) (hP.rc xo_2175 rfl rfl) ?_
    refine x_gI (z := f) T_162_48 (Or.inl F_5_1) (hP.o xo_2178) (Eq.trans (hP.gi xo_2178 (key := 2161) rfl) hf0) ?_
    refine x_cv3 T_162_51 mN_131 mL_131 (Nat.le_of_ble_eq_true rfl) mO_131 (hP.o xo_129) (Nat.le_of_ble_eq_true rfl) (hab σ V V3 hP hcr.2.1) ?_
    clear hP hab
    rintro _ σ ⟨rfl, V4, hP, hB4, hF4⟩
    refine cR ?_
    refine x_cv3 T_162_54 mN_136 mL_136 (Nat.le_of_ble_eq_true rfl) mO_136 (hP.o xo_2175) (Nat.le_of_ble_eq_true rfl) (hse σ V V3 hXV V4 hP hF4 hB4 (hch.sf hF4 (by decide)).1 hcr.1) ?_
    clear hP hse
    rintro _ σ ⟨rfl, V5, V6, hP, hX5, hB5, hF5⟩
    have hc5 := hch.fa (FA_tr (FA_fr hF4) (FA_fs hF5)) (by decide) (by decide) hcr.2.2
    refine cI ?_
    refine x_si (ls1 := [some (vR (some 2175)), some (vR (some pr)), some (vR (some k)), some (vI e2)]) T_162_57 rfl ?_
    refine x_li (z := e2) T_162_58 rfl ?_
    refine x_if T_162_59 (fun _ => ?_) (fun h => absurd (show ¬ e2 = 0 by exact q5) h)
    refine x_lr (z := some 2175) T_162_70 rfl ?_
    refine x_gR (z := some 129) T_162_71 F_14_0 (hP.o xo_2175) (hP.rc xo_2175 rfl rfl) ?_
    refine x_lr (z := some 2175) T_162_74 rfl ?_
    refine x_gR (z := some 2178) T_162_75 F_14_2 (hP.o xo_2175) (hP.rc xo_2175 rfl rfl) ?_
    refine x_cv2 T_162_78 mN_132 mL_132 (Nat.le_of_ble_eq_true rfl) mO_132 (hP.o xo_129) (Nat.le_of_ble_eq_true rfl) (hck σ V5 V6 hP (XW.mono hX5 (by omega)) hc5 hcr) ?_
    clear hP hck
    rintro _ σ ⟨e3, rfl, V7, V8, hP, hX7, hF7⟩
    refine cI ?_
    refine x_popI T_162_81 ?_
    refine x_li (z := e2) T_162_82 rfl ?_
    refine x_ri T_162_83 ?_
    exact ⟨rfl, V7, V8, hP, XW.mono hX7 (by omega), FCM_tr (FCM_tr (FCM_fk hFV (by decide)) (FCM_tr (FCM_fr hF4) (FCM_fs hF5))) (FCM_fa hF7)⟩
end XTLS
