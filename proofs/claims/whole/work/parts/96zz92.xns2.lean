/-! The class's processes, groups, points: what they answer. -/
theorem T_97_22 : hTab 97 22 = some ((0, 0, 1, []), 23) := rfl
theorem T_97_23 : hTab 97 23 = some ((22, 0, Int.ofNat 27, []), 26) := rfl
theorem T_97_32 : hTab 97 32 = some ((3, 0, 2, []), 33) := rfl
theorem T_97_33 : hTab 97 33 = some ((24, 1, Int.ofNat 11, []), 36) := rfl
theorem T_97_36 : hTab 97 36 = some ((3, 1, 0, []), 37) := rfl
theorem T_97_37 : hTab 97 37 = some ((26, 10, 0, []), 38) := rfl
theorem T_97_38 : hTab 97 38 = some ((22, 0, Int.ofNat 42, []), 41) := rfl
theorem T_107_0 : hTab 107 0 = some ((3, 1, 0, []), 1) := rfl
theorem T_107_1 : hTab 107 1 = some ((18, 2, Int.ofNat 10, []), 4) := rfl
theorem T_107_4 : hTab 107 4 = some ((3, 1, 0, []), 5) := rfl
theorem T_107_5 : hTab 107 5 = some ((0, 0, 26, []), 7) := rfl
theorem T_107_7 : hTab 107 7 = some ((19, 2, Int.ofNat 14, []), 10) := rfl
theorem T_107_10 : hTab 107 10 = some ((2, 0, 0, []), 11) := rfl
theorem T_107_11 : hTab 107 11 = some ((22, 0, Int.ofNat 20, []), 14) := rfl
theorem T_107_14 : hTab 107 14 = some ((3, 0, 2, []), 15) := rfl
theorem T_107_15 : hTab 107 15 = some ((24, 6, Int.ofNat 3, []), 18) := rfl
theorem T_107_18 : hTab 107 18 = some ((3, 1, 0, []), 19) := rfl
theorem T_107_19 : hTab 107 19 = some ((26, 10, 0, []), 20) := rfl
theorem T_107_20 : hTab 107 20 = some ((33, 4, 0, []), 21) := rfl
theorem T_128_0 : hTab 128 0 = some ((3, 0, 2, []), 1) := rfl
theorem T_128_1 : hTab 128 1 = some ((3, 1, 0, []), 2) := rfl
theorem T_128_2 : hTab 128 2 = some ((25, 5, Int.ofNat 0, []), 5) := rfl
theorem T_128_5 : hTab 128 5 = some ((3, 0, 2, []), 6) := rfl
theorem T_128_6 : hTab 128 6 = some ((3, 2, 0, []), 7) := rfl
theorem T_128_7 : hTab 128 7 = some ((25, 5, Int.ofNat 1, []), 10) := rfl
theorem T_128_10 : hTab 128 10 = some ((3, 0, 2, []), 11) := rfl
theorem T_128_11 : hTab 128 11 = some ((3, 3, 0, []), 12) := rfl
theorem T_128_12 : hTab 128 12 = some ((25, 5, Int.ofNat 2, []), 15) := rfl
theorem T_128_15 : hTab 128 15 = some ((3, 0, 2, []), 16) := rfl
theorem T_128_16 : hTab 128 16 = some ((3, 4, 0, []), 18) := rfl
theorem T_128_18 : hTab 128 18 = some ((25, 5, Int.ofNat 3, []), 21) := rfl
theorem T_128_21 : hTab 128 21 = some ((3, 0, 2, []), 22) := rfl
theorem T_128_22 : hTab 128 22 = some ((2, 0, 0, []), 23) := rfl
theorem T_128_23 : hTab 128 23 = some ((25, 5, Int.ofNat 4, []), 26) := rfl
theorem T_128_26 : hTab 128 26 = some ((3, 0, 2, []), 27) := rfl
theorem T_128_27 : hTab 128 27 = some ((0, 0, 0, []), 28) := rfl
theorem T_128_28 : hTab 128 28 = some ((25, 5, Int.ofNat 5, []), 31) := rfl
theorem T_128_31 : hTab 128 31 = some ((3, 0, 2, []), 32) := rfl
theorem T_128_32 : hTab 128 32 = some ((0, 0, 0, []), 33) := rfl
theorem T_128_33 : hTab 128 33 = some ((25, 5, Int.ofNat 6, []), 36) := rfl
theorem T_128_36 : hTab 128 36 = some ((3, 0, 2, []), 37) := rfl
theorem T_128_37 : hTab 128 37 = some ((0, 0, 0, []), 38) := rfl
theorem T_128_38 : hTab 128 38 = some ((25, 5, Int.ofNat 7, []), 41) := rfl
theorem T_128_41 : hTab 128 41 = some ((33, 0, 0, []), 42) := rfl
theorem T_130_0 : hTab 130 0 = some ((3, 1, 0, []), 1) := rfl
theorem T_130_1 : hTab 130 1 = some ((18, 2, Int.ofNat 18, []), 4) := rfl
theorem T_130_4 : hTab 130 4 = some ((3, 1, 0, []), 5) := rfl
theorem T_130_5 : hTab 130 5 = some ((3, 0, 2, []), 6) := rfl
theorem T_130_6 : hTab 130 6 = some ((24, 4, Int.ofNat 3, []), 9) := rfl
theorem T_130_9 : hTab 130 9 = some ((19, 3, Int.ofNat 18, []), 12) := rfl
theorem T_130_12 : hTab 130 12 = some ((3, 1, 0, []), 13) := rfl
theorem T_130_13 : hTab 130 13 = some ((0, 0, 6, []), 15) := rfl
theorem T_130_15 : hTab 130 15 = some ((19, 2, Int.ofNat 22, []), 18) := rfl
theorem T_130_18 : hTab 130 18 = some ((2, 0, 0, []), 19) := rfl
theorem T_130_19 : hTab 130 19 = some ((22, 0, Int.ofNat 28, []), 22) := rfl
theorem T_130_22 : hTab 130 22 = some ((3, 0, 2, []), 23) := rfl
theorem T_130_23 : hTab 130 23 = some ((24, 4, Int.ofNat 0, []), 26) := rfl
theorem T_130_26 : hTab 130 26 = some ((3, 1, 0, []), 27) := rfl
theorem T_130_27 : hTab 130 27 = some ((26, 10, 0, []), 28) := rfl
theorem T_130_28 : hTab 130 28 = some ((33, 4, 0, []), 29) := rfl
theorem T_152_0 : hTab 152 0 = some ((0, 0, 0, []), 1) := rfl
theorem T_152_1 : hTab 152 1 = some ((4, 1, 0, []), 2) := rfl
theorem T_152_2 : hTab 152 2 = some ((3, 1, 0, []), 3) := rfl
theorem T_152_3 : hTab 152 3 = some ((0, 0, 8, []), 5) := rfl
theorem T_152_5 : hTab 152 5 = some ((19, 3, Int.ofNat 25, []), 8) := rfl
theorem T_152_8 : hTab 152 8 = some ((3, 0, 2, []), 9) := rfl
theorem T_152_9 : hTab 152 9 = some ((24, 6, Int.ofNat 4, []), 12) := rfl
theorem T_152_12 : hTab 152 12 = some ((3, 1, 0, []), 13) := rfl
theorem T_152_13 : hTab 152 13 = some ((26, 10, 0, []), 14) := rfl
theorem T_152_14 : hTab 152 14 = some ((20, 1, Int.ofNat 19, []), 17) := rfl
theorem T_152_17 : hTab 152 17 = some ((3, 1, 0, []), 18) := rfl
theorem T_152_18 : hTab 152 18 = some ((33, 1, 0, []), 19) := rfl
theorem T_152_19 : hTab 152 19 = some ((5, 1, 1, []), 22) := rfl
theorem T_152_22 : hTab 152 22 = some ((22, 0, Int.ofNat 2, []), 25) := rfl
theorem T_152_25 : hTab 152 25 = some ((0, 0, (-1), []), 26) := rfl
theorem T_152_26 : hTab 152 26 = some ((33, 1, 0, []), 27) := rfl
theorem T_154_0 : hTab 154 0 = some ((0, 0, 0, []), 1) := rfl
theorem T_154_1 : hTab 154 1 = some ((4, 1, 0, []), 2) := rfl
theorem T_154_2 : hTab 154 2 = some ((3, 1, 0, []), 3) := rfl
theorem T_154_3 : hTab 154 3 = some ((3, 0, 2, []), 4) := rfl
theorem T_154_4 : hTab 154 4 = some ((24, 1, Int.ofNat 13, []), 7) := rfl
theorem T_154_7 : hTab 154 7 = some ((28, 0, 0, []), 8) := rfl
theorem T_154_8 : hTab 154 8 = some ((19, 3, Int.ofNat 36, []), 11) := rfl
theorem T_154_11 : hTab 154 11 = some ((3, 0, 2, []), 12) := rfl
theorem T_154_12 : hTab 154 12 = some ((24, 1, Int.ofNat 13, []), 15) := rfl
theorem T_154_15 : hTab 154 15 = some ((3, 1, 0, []), 16) := rfl
theorem T_154_16 : hTab 154 16 = some ((26, 10, 0, []), 17) := rfl
theorem T_154_17 : hTab 154 17 = some ((24, 5, Int.ofNat 7, []), 20) := rfl
theorem T_154_20 : hTab 154 20 = some ((18, 1, Int.ofNat 30, []), 23) := rfl
theorem T_154_23 : hTab 154 23 = some ((3, 0, 2, []), 24) := rfl
theorem T_154_24 : hTab 154 24 = some ((24, 1, Int.ofNat 13, []), 27) := rfl
theorem T_154_27 : hTab 154 27 = some ((3, 1, 0, []), 28) := rfl
theorem T_154_28 : hTab 154 28 = some ((26, 10, 0, []), 29) := rfl
theorem T_154_29 : hTab 154 29 = some ((33, 4, 0, []), 30) := rfl
theorem T_154_30 : hTab 154 30 = some ((5, 1, 1, []), 33) := rfl
theorem T_154_33 : hTab 154 33 = some ((22, 0, Int.ofNat 2, []), 36) := rfl
theorem T_155_0 : hTab 155 0 = some ((3, 1, 0, []), 1) := rfl
theorem T_155_1 : hTab 155 1 = some ((18, 2, Int.ofNat 17, []), 4) := rfl
theorem T_155_4 : hTab 155 4 = some ((3, 1, 0, []), 5) := rfl
theorem T_155_5 : hTab 155 5 = some ((0, 0, 8, []), 7) := rfl
theorem T_155_7 : hTab 155 7 = some ((19, 3, Int.ofNat 17, []), 10) := rfl
theorem T_155_10 : hTab 155 10 = some ((3, 0, 2, []), 11) := rfl
theorem T_155_11 : hTab 155 11 = some ((24, 6, Int.ofNat 4, []), 14) := rfl
theorem T_155_14 : hTab 155 14 = some ((3, 1, 0, []), 15) := rfl
theorem T_155_15 : hTab 155 15 = some ((3, 2, 2, []), 16) := rfl
theorem T_155_16 : hTab 155 16 = some ((27, 10, 0, []), 17) := rfl
theorem T_155_17 : hTab 155 17 = some ((33, 0, 0, []), 18) := rfl
theorem T_166_0 : hTab 166 0 = some ((3, 1, 0, []), 1) := rfl
theorem T_166_1 : hTab 166 1 = some ((18, 2, Int.ofNat 10, []), 4) := rfl
theorem T_166_4 : hTab 166 4 = some ((3, 1, 0, []), 5) := rfl
theorem T_166_5 : hTab 166 5 = some ((0, 0, 8, []), 7) := rfl
theorem T_166_7 : hTab 166 7 = some ((19, 2, Int.ofNat 14, []), 10) := rfl
theorem T_166_10 : hTab 166 10 = some ((2, 0, 0, []), 11) := rfl
theorem T_166_11 : hTab 166 11 = some ((22, 0, Int.ofNat 20, []), 14) := rfl
theorem T_166_14 : hTab 166 14 = some ((3, 0, 2, []), 15) := rfl
theorem T_166_15 : hTab 166 15 = some ((24, 6, Int.ofNat 4, []), 18) := rfl
theorem T_166_18 : hTab 166 18 = some ((3, 1, 0, []), 19) := rfl
theorem T_166_19 : hTab 166 19 = some ((26, 10, 0, []), 20) := rfl
theorem T_166_20 : hTab 166 20 = some ((33, 4, 0, []), 21) := rfl
theorem T_186_0 : hTab 186 0 = some ((0, 0, 0, []), 1) := rfl
theorem T_186_1 : hTab 186 1 = some ((4, 1, 0, []), 2) := rfl
theorem T_186_2 : hTab 186 2 = some ((3, 1, 0, []), 3) := rfl
theorem T_186_3 : hTab 186 3 = some ((0, 0, 8, []), 5) := rfl
theorem T_186_5 : hTab 186 5 = some ((19, 3, Int.ofNat 33, []), 8) := rfl
theorem T_186_8 : hTab 186 8 = some ((3, 0, 2, []), 9) := rfl
theorem T_186_9 : hTab 186 9 = some ((24, 1, Int.ofNat 11, []), 12) := rfl
theorem T_186_12 : hTab 186 12 = some ((3, 1, 0, []), 13) := rfl
theorem T_186_13 : hTab 186 13 = some ((26, 10, 0, []), 14) := rfl
theorem T_186_14 : hTab 186 14 = some ((24, 6, Int.ofNat 5, []), 17) := rfl
theorem T_186_17 : hTab 186 17 = some ((18, 1, Int.ofNat 27, []), 20) := rfl
theorem T_186_20 : hTab 186 20 = some ((3, 0, 2, []), 21) := rfl
theorem T_186_21 : hTab 186 21 = some ((24, 1, Int.ofNat 11, []), 24) := rfl
theorem T_186_24 : hTab 186 24 = some ((3, 1, 0, []), 25) := rfl
theorem T_186_25 : hTab 186 25 = some ((26, 10, 0, []), 26) := rfl
theorem T_186_26 : hTab 186 26 = some ((33, 4, 0, []), 27) := rfl
theorem T_186_27 : hTab 186 27 = some ((5, 1, 1, []), 30) := rfl
theorem T_186_30 : hTab 186 30 = some ((22, 0, Int.ofNat 2, []), 33) := rfl
theorem T_186_33 : hTab 186 33 = some ((2, 0, 0, []), 34) := rfl
theorem T_186_34 : hTab 186 34 = some ((33, 4, 0, []), 35) := rfl
theorem T_187_0 : hTab 187 0 = some ((0, 0, 0, []), 1) := rfl
theorem T_187_1 : hTab 187 1 = some ((4, 1, 0, []), 2) := rfl
theorem T_187_2 : hTab 187 2 = some ((3, 1, 0, []), 3) := rfl
theorem T_187_3 : hTab 187 3 = some ((0, 0, 8, []), 5) := rfl
theorem T_187_5 : hTab 187 5 = some ((19, 3, Int.ofNat 43, []), 8) := rfl
theorem T_187_8 : hTab 187 8 = some ((3, 0, 2, []), 9) := rfl
theorem T_187_9 : hTab 187 9 = some ((24, 1, Int.ofNat 12, []), 12) := rfl
theorem T_187_12 : hTab 187 12 = some ((3, 1, 0, []), 13) := rfl
theorem T_187_13 : hTab 187 13 = some ((26, 10, 0, []), 14) := rfl
theorem T_187_14 : hTab 187 14 = some ((24, 3, Int.ofNat 2, []), 17) := rfl
theorem T_187_17 : hTab 187 17 = some ((18, 1, Int.ofNat 37, []), 20) := rfl
theorem T_187_20 : hTab 187 20 = some ((3, 0, 2, []), 21) := rfl
theorem T_187_21 : hTab 187 21 = some ((24, 1, Int.ofNat 12, []), 24) := rfl
theorem T_187_24 : hTab 187 24 = some ((3, 1, 0, []), 25) := rfl
theorem T_187_25 : hTab 187 25 = some ((26, 10, 0, []), 26) := rfl
theorem T_187_26 : hTab 187 26 = some ((0, 0, 0, []), 27) := rfl
theorem T_187_27 : hTab 187 27 = some ((25, 3, Int.ofNat 1, []), 30) := rfl
theorem T_187_30 : hTab 187 30 = some ((3, 0, 2, []), 31) := rfl
theorem T_187_31 : hTab 187 31 = some ((24, 1, Int.ofNat 12, []), 34) := rfl
theorem T_187_34 : hTab 187 34 = some ((3, 1, 0, []), 35) := rfl
theorem T_187_35 : hTab 187 35 = some ((26, 10, 0, []), 36) := rfl
theorem T_187_36 : hTab 187 36 = some ((33, 4, 0, []), 37) := rfl
theorem T_187_37 : hTab 187 37 = some ((5, 1, 1, []), 40) := rfl
theorem T_187_40 : hTab 187 40 = some ((22, 0, Int.ofNat 2, []), 43) := rfl
theorem T_189_0 : hTab 189 0 = some ((3, 1, 0, []), 1) := rfl
theorem T_189_1 : hTab 189 1 = some ((18, 2, Int.ofNat 18, []), 4) := rfl
theorem T_189_4 : hTab 189 4 = some ((3, 1, 0, []), 5) := rfl
theorem T_189_5 : hTab 189 5 = some ((3, 0, 2, []), 6) := rfl
theorem T_189_6 : hTab 189 6 = some ((24, 3, Int.ofNat 1, []), 9) := rfl
theorem T_189_9 : hTab 189 9 = some ((19, 3, Int.ofNat 18, []), 12) := rfl
theorem T_189_12 : hTab 189 12 = some ((3, 1, 0, []), 13) := rfl
theorem T_189_13 : hTab 189 13 = some ((0, 0, 8, []), 15) := rfl
theorem T_189_15 : hTab 189 15 = some ((19, 2, Int.ofNat 22, []), 18) := rfl
theorem T_189_18 : hTab 189 18 = some ((2, 0, 0, []), 19) := rfl
theorem T_189_19 : hTab 189 19 = some ((22, 0, Int.ofNat 28, []), 22) := rfl
theorem T_189_22 : hTab 189 22 = some ((3, 0, 2, []), 23) := rfl
theorem T_189_23 : hTab 189 23 = some ((24, 3, Int.ofNat 0, []), 26) := rfl
theorem T_189_26 : hTab 189 26 = some ((3, 1, 0, []), 27) := rfl
theorem T_189_27 : hTab 189 27 = some ((26, 10, 0, []), 28) := rfl
theorem T_189_28 : hTab 189 28 = some ((33, 4, 0, []), 29) := rfl
theorem F_1_12 : (hFd 1 12).2.2.1 = 4 := rfl
theorem F_1_13 : (hFd 1 13).2.2.1 = 4 := rfl
theorem F_3_0 : (hFd 3 0).2.2.1 = 4 := rfl
theorem F_3_2 : (hFd 3 2).2.2.1 = 0 := rfl
theorem F_4_0 : (hFd 4 0).2.2.1 = 4 := rfl
theorem F_4_3 : (hFd 4 3).2.2.1 = 0 := rfl
theorem F_5_0 : (hFd 5 0).2.2.1 = 0 := rfl
theorem F_5_1 : (hFd 5 1).2.2.1 = 0 := rfl
theorem F_5_2 : (hFd 5 2).2.2.1 = 0 := rfl
theorem F_5_3 : (hFd 5 3).2.2.1 = 2 := rfl
theorem F_5_4 : (hFd 5 4).2.2.1 = 4 := rfl
theorem F_5_5 : (hFd 5 5).2.2.1 = 2 := rfl
theorem F_5_6 : (hFd 5 6).2.2.1 = 0 := rfl
theorem F_5_7 : (hFd 5 7).2.2.1 = 0 := rfl
theorem F_6_3 : (hFd 6 3).2.2.1 = 4 := rfl
theorem mN_107 : hmN 107 = 2 := by decide +kernel
theorem mL_107 : hmL 107 = 2 := by decide +kernel
theorem mK_107 : hmK 107 = 1 := by decide +kernel
theorem mO_107 : hmO 107 = 6 := by decide +kernel
theorem mN_128 : hmN 128 = 5 := by decide +kernel
theorem mL_128 : hmL 128 = 5 := by decide +kernel
theorem mK_128 : hmK 128 = 1 := by decide +kernel
theorem mO_128 : hmO 128 = 5 := by decide +kernel
theorem mN_130 : hmN 130 = 2 := by decide +kernel
theorem mL_130 : hmL 130 = 2 := by decide +kernel
theorem mK_130 : hmK 130 = 1 := by decide +kernel
theorem mO_130 : hmO 130 = 4 := by decide +kernel
theorem mN_152 : hmN 152 = 1 := by decide +kernel
theorem mL_152 : hmL 152 = 2 := by decide +kernel
theorem mK_152 : hmK 152 = 1 := by decide +kernel
theorem mO_152 : hmO 152 = 6 := by decide +kernel
theorem mN_154 : hmN 154 = 1 := by decide +kernel
theorem mL_154 : hmL 154 = 2 := by decide +kernel
theorem mK_154 : hmK 154 = 1 := by decide +kernel
theorem mO_154 : hmO 154 = 1 := by decide +kernel
theorem mN_155 : hmN 155 = 3 := by decide +kernel
theorem mL_155 : hmL 155 = 3 := by decide +kernel
theorem mK_155 : hmK 155 = 1 := by decide +kernel
theorem mO_155 : hmO 155 = 6 := by decide +kernel
theorem mN_166 : hmN 166 = 2 := by decide +kernel
theorem mL_166 : hmL 166 = 2 := by decide +kernel
theorem mK_166 : hmK 166 = 1 := by decide +kernel
theorem mO_166 : hmO 166 = 6 := by decide +kernel
theorem mN_186 : hmN 186 = 1 := by decide +kernel
theorem mL_186 : hmL 186 = 2 := by decide +kernel
theorem mK_186 : hmK 186 = 1 := by decide +kernel
theorem mO_186 : hmO 186 = 1 := by decide +kernel
theorem mN_187 : hmN 187 = 1 := by decide +kernel
theorem mL_187 : hmL 187 = 2 := by decide +kernel
theorem mK_187 : hmK 187 = 1 := by decide +kernel
theorem mO_187 : hmO 187 = 1 := by decide +kernel
theorem mN_189 : hmN 189 = 2 := by decide +kernel
theorem mL_189 : hmL 189 = 2 := by decide +kernel
theorem mK_189 : hmK 189 = 1 := by decide +kernel
theorem mO_189 : hmO 189 = 3 := by decide +kernel
section XNSB
variable {fb : Bool} {d S a b c q n y : Nat} {σ0 σ : hM} {W W1 W2 P Q : qR} {R R1 R2 : rR} {i j k x z v s e w f g u p K T U t many : Int} {l lo : List Int} {r : Option Nat}
theorem prO_o (hp : 0 ≤ p ∧ p < 8) : tX (prO p) = some (Sum.inl 6) := tX_prc p.toNat (by omega)
theorem grO_o (hg : 0 ≤ g ∧ g < 8) : tX (grO g) = some (Sum.inl 3) := tX_grp g.toNat (by omega)
theorem prO_a (hp : 0 ≤ p ∧ p < 8) : isA (prO p + 6) 15 8 ∧ isA (prO p + 5) 12 26 := by
  have h8 : p = 0 ∨ p = 1 ∨ p = 2 ∨ p = 3 ∨ p = 4 ∨ p = 5 ∨ p = 6 ∨ p = 7 := by omega
  rcases h8 with rfl | rfl | rfl | rfl | rfl | rfl | rfl | rfl <;> exact ⟨⟨by decide, by decide⟩, ⟨by decide, by decide⟩⟩
theorem grO_a (hg : 0 ≤ g ∧ g < 8) : isA (grO g + 1) 14 8 := by
  have h8 : g = 0 ∨ g = 1 ∨ g = 2 ∨ g = 3 ∨ g = 4 ∨ g = 5 ∨ g = 6 ∨ g = 7 := by omega
  rcases h8 with rfl | rfl | rfl | rfl | rfl | rfl | rfl | rfl <;> exact ⟨by decide, by decide⟩
theorem ptO_o (hg : 0 ≤ g ∧ g < 8) {i : Nat} (hi : i < 8) : tX (grO g + 2 + 8 * i) = some (Sum.inl 4) := by
  have := tX_pt g.toNat (by omega) i hi
  unfold grO
  rw [show 229 + 125 * g.toNat + 2 + 8 * i = 231 + 125 * g.toNat + 8 * i by omega]
  exact this
theorem ptA_all : ∀ g < 8, ∀ i < 8, tX (232 + 125 * g + 8 * i) = some (Sum.inr (15, 6)) := by decide +kernel
theorem ptO_a (hg : 0 ≤ g ∧ g < 8) {i : Nat} (hi : i < 8) : isA (grO g + 3 + 8 * i) 15 6 := by
  have := ptA_all g.toNat (by omega) i hi
  unfold grO
  rw [show 229 + 125 * g.toNat + 3 + 8 * i = 232 + 125 * g.toNat + 8 * i by omega]
  exact ⟨this, by omega⟩
theorem mbO_o (hg : 0 ≤ g ∧ g < 8) {i y : Nat} (hi : i < 8) (hy : y < 6) : tX (grO g + 4 + 8 * i + y) = some (Sum.inl 5) := by
  have := tX_mem (g := g.toNat) (k := i) (j := y) (by omega) hi hy
  unfold grO
  rw [show 229 + 125 * g.toNat + 4 + 8 * i + y = 233 + 125 * g.toNat + 8 * i + y by omega]
  exact this
theorem rA_prc (hp : 0 ≤ p ∧ p < 8) : rAr 142 16 8 p.toNat = some (prO p) := by
  unfold rAr rA1 prO
  rw [if_pos (by omega), if_neg (by decide), if_neg (fun c => absurd c.1 (by decide)), if_neg (by decide), if_neg (by decide), if_pos rfl]
theorem rA_grp (hg : 0 ≤ g ∧ g < 8) : rAr 143 13 8 g.toNat = some (grO g) := by
  unfold rAr rA1 grO
  rw [if_pos (by omega), if_neg (by decide), if_neg (fun c => absurd c.1 (by decide)), if_neg (by decide), if_neg (by decide), if_neg (by decide), if_pos rfl]
theorem rA_opn (ho : 0 ≤ i ∧ i < 64) : rAr 144 15 64 i.toNat = some (1229 + i.toNat) := by
  unfold rAr rA1
  rw [if_pos (by omega), if_neg (by decide), if_neg (fun c => absurd c.1 (by decide)), if_neg (by decide), if_neg (by decide), if_neg (by decide), if_neg (by decide), if_pos rfl]
theorem rA_var (hp : 0 ≤ p ∧ p < 8) (hx : 0 ≤ x ∧ x < 26) : rAr (prO p + 5) 12 26 x.toNat = some (prO p + 7 + 2 * x.toNat) := by
  have hr := prO_rng hp
  unfold rAr
  rw [if_pos (by omega), if_neg (by decide), if_pos ⟨rfl, by omega⟩, show prO p + 5 + 2 + 2 * x.toNat = prO p + 7 + 2 * x.toNat by omega]
theorem x_living (hP : PX σ0 W R σ) (hX : XN W R P) : CL fb d 97 [vR (some 129), vI k] σ (rPR (if (0 ≤ k ∧ k < 8) ∧ ¬ P 2320 k = 0 then some (prO k) else none) σ) := by
  by_cases q0 : 0 ≤ k
  rotate_left
  · rw [if_neg (fun c => q0 c.1.1)]
    refine CL_in mL_97 rfl ?_
    show WP fb _ 97 0 [some (vR (some 129)), some (vI k), none] [] σ _
    refine x_li (z := k) T_97_0 rfl ?_
    refine x_if T_97_1 (fun _ => ?_) (fun h => absurd (show k < 0 by omega) h)
    refine x_ic T_97_26 ?_
    refine x_si (ls1 := [some (vR (some 129)), some (vI k), some (vI 0)]) T_97_27 rfl ?_
    refine x_li (z := 0) T_97_28 rfl ?_
    refine x_if T_97_29 (fun _ => ?_) (fun h => absurd (show (0 : Int) = 0 by decide) h)
    refine x_nu T_97_41 ?_
    refine x_rr T_97_42 ?_
    exact ⟨rfl, rfl⟩
  by_cases q1 : k < 8
  rotate_left
  · rw [if_neg (fun c => q1 c.1.2)]
    refine CL_in mL_97 rfl ?_
    show WP fb _ 97 0 [some (vR (some 129)), some (vI k), none] [] σ _
    refine x_li (z := k) T_97_0 rfl ?_
    refine x_if T_97_1 (fun h => absurd (show k < 0 from h) (by omega)) (fun _ => ?_)
    refine x_li (z := k) T_97_4 rfl ?_
    refine x_ic T_97_5 ?_
    refine x_ic2 T_97_7 (fun _ => ?_) (fun h => absurd (show 8 ≤ k by omega) h)
    refine x_ic T_97_26 ?_
    refine x_si (ls1 := [some (vR (some 129)), some (vI k), some (vI 0)]) T_97_27 rfl ?_
    refine x_li (z := 0) T_97_28 rfl ?_
    refine x_if T_97_29 (fun _ => ?_) (fun h => absurd (show (0 : Int) = 0 by decide) h)
    refine x_nu T_97_41 ?_
    refine x_rr T_97_42 ?_
    exact ⟨rfl, rfl⟩
  have hr := rA_prc (p := k) ⟨q0, q1⟩
  have ho := prO_o (p := k) ⟨q0, q1⟩
  have hl := (hX.1 k q0 q1).2.1
  obtain ⟨v, hv⟩ : ∃ v, P 2320 k = v := ⟨_, rfl⟩
  obtain ⟨a, ha⟩ : ∃ a, prO k = a := ⟨_, rfl⟩
  rw [hv] at hl
  rw [hv, ha]
  rw [ha] at hr ho hl
  by_cases q2 : v = 0
  · rw [if_neg (fun c => c.2 q2)]
    refine CL_in mL_97 rfl ?_
    show WP fb _ 97 0 [some (vR (some 129)), some (vI k), none] [] σ _
    refine x_li (z := k) T_97_0 rfl ?_
    refine x_if T_97_1 (fun h => absurd (show k < 0 from h) (by omega)) (fun _ => ?_)
    refine x_li (z := k) T_97_4 rfl ?_
    refine x_ic T_97_5 ?_
    refine x_ic2 T_97_7 (fun h => absurd (show 8 ≤ k from h) (by omega)) (fun _ => ?_)
    refine x_lr (z := some 129) T_97_10 rfl ?_
    refine x_gR (z := some 142) T_97_11 F_1_11 (hP.o xo_129) (hP.rc xo_129 rfl rfl) ?_
    refine x_li (z := k) T_97_14 rfl ?_
    refine x_alR (z := some a) T_97_15 (hP.ta xa_142) (by decide) (by omega) (by omega) (hP.arc xa_142 rfl hr) ?_
    refine x_gI (z := v) T_97_16 (Or.inr (Or.inl F_6_5)) (hP.o ho) (Eq.trans (hP.gi ho (key := 2197) rfl) hl) ?_
    refine x_if T_97_19 (fun _ => ?_) (fun h => absurd (show v = 0 by omega) h)
    refine x_ic T_97_26 ?_
    refine x_si (ls1 := [some (vR (some 129)), some (vI k), some (vI 0)]) T_97_27 rfl ?_
    refine x_li (z := 0) T_97_28 rfl ?_
    refine x_if T_97_29 (fun _ => ?_) (fun h => absurd (show (0 : Int) = 0 by decide) h)
    refine x_nu T_97_41 ?_
    refine x_rr T_97_42 ?_
    exact ⟨rfl, rfl⟩
  · rw [if_pos ⟨⟨q0, q1⟩, q2⟩]
    refine CL_in mL_97 rfl ?_
    show WP fb _ 97 0 [some (vR (some 129)), some (vI k), none] [] σ _
    refine x_li (z := k) T_97_0 rfl ?_
    refine x_if T_97_1 (fun h => absurd (show k < 0 from h) (by omega)) (fun _ => ?_)
    refine x_li (z := k) T_97_4 rfl ?_
    refine x_ic T_97_5 ?_
    refine x_ic2 T_97_7 (fun h => absurd (show 8 ≤ k from h) (by omega)) (fun _ => ?_)
    refine x_lr (z := some 129) T_97_10 rfl ?_
    refine x_gR (z := some 142) T_97_11 F_1_11 (hP.o xo_129) (hP.rc xo_129 rfl rfl) ?_
    refine x_li (z := k) T_97_14 rfl ?_
    refine x_alR (z := some a) T_97_15 (hP.ta xa_142) (by decide) (by omega) (by omega) (hP.arc xa_142 rfl hr) ?_
    refine x_gI (z := v) T_97_16 (Or.inr (Or.inl F_6_5)) (hP.o ho) (Eq.trans (hP.gi ho (key := 2197) rfl) hl) ?_
    refine x_if T_97_19 (fun h => absurd (show v = 0 from h) (by omega)) (fun _ => ?_)
    refine x_ic T_97_22 ?_
    refine x_goto T_97_23 ?_
    refine x_si (ls1 := [some (vR (some 129)), some (vI k), some (vI 1)]) T_97_27 rfl ?_
    refine x_li (z := 1) T_97_28 rfl ?_
    refine x_if T_97_29 (fun h => absurd (show (1 : Int) = 0 from h) (by decide)) (fun _ => ?_)
    refine x_lr (z := some 129) T_97_32 rfl ?_
    refine x_gR (z := some 142) T_97_33 F_1_11 (hP.o xo_129) (hP.rc xo_129 rfl rfl) ?_
    refine x_li (z := k) T_97_36 rfl ?_
    refine x_alR (z := some a) T_97_37 (hP.ta xa_142) (by decide) (by omega) (by omega) (hP.arc xa_142 rfl hr) ?_
    refine x_goto T_97_38 ?_
    refine x_rr T_97_42 ?_
    exact ⟨rfl, rfl⟩
theorem x_spp_loop (hP : PX σ0 W R σ) (hX : XN W R P) : ∀ (m : Nat) (k : Int), k + m = 8 → 0 ≤ k → WP fb d 186 2 [some (vR (some 129)), some (vI k)] [] σ (rPR (if fpR P m k < 0 then none else some (prO (fpR P m k))) σ) := by
  intro m
  induction m with
  | zero =>
    intro k h1 h2
    have h1 : k + ((0 : Nat) : Int) = 8 := h1
    rw [show fpR P 0 k = -1 from rfl, if_pos (by decide)]
    refine x_li (z := k) T_186_2 rfl ?_
    refine x_ic T_186_3 ?_
    refine x_ic2 T_186_5 (fun _ => ?_) (fun h => absurd (show 8 ≤ k by omega) h)
    refine x_nu T_186_33 ?_
    refine x_rr T_186_34 ?_
    exact ⟨rfl, rfl⟩
  | succ m ih =>
    intro k h1 h2
    have hr := rA_prc (p := k) ⟨h2, by omega⟩
    have ho := prO_o (p := k) ⟨h2, by omega⟩
    have hl := (hX.1 k h2 (by omega)).2.1
    have ef : fpR P (m + 1) k = if P 2320 k = 0 then k else fpR P m (k + 1) := rfl
    rw [ef]
    obtain ⟨v, hv⟩ : ∃ v, P 2320 k = v := ⟨_, rfl⟩
    obtain ⟨a, ha⟩ : ∃ a, prO k = a := ⟨_, rfl⟩
    rw [hv] at hl
    rw [hv]
    rw [ha] at hr ho hl
    by_cases q2 : v = 0
    · rw [if_pos q2, if_neg (by omega), ha]
      refine x_li (z := k) T_186_2 rfl ?_
      refine x_ic T_186_3 ?_
      refine x_ic2 T_186_5 (fun h => absurd (show 8 ≤ k from h) (by omega)) (fun _ => ?_)
      refine x_lr (z := some 129) T_186_8 rfl ?_
      refine x_gR (z := some 142) T_186_9 F_1_11 (hP.o xo_129) (hP.rc xo_129 rfl rfl) ?_
      refine x_li (z := k) T_186_12 rfl ?_
      refine x_alR (z := some a) T_186_13 (hP.ta xa_142) (by decide) (by omega) (by omega) (hP.arc xa_142 rfl hr) ?_
      refine x_gI (z := v) T_186_14 (Or.inr (Or.inl F_6_5)) (hP.o ho) (Eq.trans (hP.gi ho (key := 2197) rfl) hl) ?_
      refine x_if T_186_17 (fun h => absurd (show ¬ v = 0 from h) (by omega)) (fun _ => ?_)
      refine x_lr (z := some 129) T_186_20 rfl ?_
      refine x_gR (z := some 142) T_186_21 F_1_11 (hP.o xo_129) (hP.rc xo_129 rfl rfl) ?_
      refine x_li (z := k) T_186_24 rfl ?_
      refine x_alR (z := some a) T_186_25 (hP.ta xa_142) (by decide) (by omega) (by omega) (hP.arc xa_142 rfl hr) ?_
      refine x_rr T_186_26 ?_
      exact ⟨rfl, rfl⟩
    · rw [if_neg q2]
      have hgo := ih (k + 1) (by omega) (by omega)
      refine x_li (z := k) T_186_2 rfl ?_
      refine x_ic T_186_3 ?_
      refine x_ic2 T_186_5 (fun h => absurd (show 8 ≤ k from h) (by omega)) (fun _ => ?_)
      refine x_lr (z := some 129) T_186_8 rfl ?_
      refine x_gR (z := some 142) T_186_9 F_1_11 (hP.o xo_129) (hP.rc xo_129 rfl rfl) ?_
      refine x_li (z := k) T_186_12 rfl ?_
      refine x_alR (z := some a) T_186_13 (hP.ta xa_142) (by decide) (by omega) (by omega) (hP.arc xa_142 rfl hr) ?_
      refine x_gI (z := v) T_186_14 (Or.inr (Or.inl F_6_5)) (hP.o ho) (Eq.trans (hP.gi ho (key := 2197) rfl) hl) ?_
      refine x_if T_186_17 (fun _ => ?_) (fun h => absurd (show ¬ v = 0 by omega) h)
      refine x_inc (w := (k + 1)) (ls1 := [some (vR (some 129)), some (vI (k + 1))]) T_186_27 rfl (w32_id (by omega) (by omega)) rfl ?_
      refine x_goto T_186_30 ?_
      exact hgo
theorem x_spareProcess (hP : PX σ0 W R σ) (hX : XN W R P) : CL fb d 186 [vR (some 129)] σ (rPR (if qFp P < 0 then none else some (prO (qFp P))) σ) := by
  have h := x_spp_loop (fb := fb) (d := d) hP hX 8 0 (by decide) (by decide)
  have h : WP fb d 186 2 [some (vR (some 129)), some (vI 0)] [] σ (rPR (if qFp P < 0 then none else some (prO (qFp P))) σ) := h
  refine CL_in mL_186 rfl ?_
  show WP fb _ 186 0 [some (vR (some 129)), none] [] σ _
  refine x_ic T_186_0 ?_
  refine x_si (ls1 := [some (vR (some 129)), some (vI 0)]) T_186_1 rfl ?_
  exact h
theorem x_spg_loop (hP : PX σ0 W R σ) (hX : XN W R P) : ∀ (m : Nat) (k : Int), k + m = 8 → 0 ≤ k → fgR P m k < 8 → (∀ i, 0 ≤ qPn P i 8 0) → WP fb d 187 2 [some (vR (some 129)), some (vI k)] [] σ (fun r σ' => r = some (vR (some (grO (fgR P m k)))) ∧ PX σ0 (rU W (grO (fgR P m k)) 2097 0) R σ') := by
  intro m
  induction m with
  | zero =>
    intro k h1 h2 h3
    have h1 : k + ((0 : Nat) : Int) = 8 := h1
    have h3 : k < 8 := h3
    omega
  | succ m ih =>
    intro k h1 h2 h3 h4
    have hr := rA_grp (g := k) ⟨h2, by omega⟩
    have ho := grO_o (g := k) ⟨h2, by omega⟩
    have hl := (hX.2.1 k h2 (by omega)).2.1
    have h5 := h4 k
    have ef : fgR P (m + 1) k = if qPn P k 8 0 ≤ 0 then k else fgR P m (k + 1) := rfl
    rw [ef] at h3 ⊢
    obtain ⟨v, hv⟩ : ∃ v, qPn P k 8 0 = v := ⟨_, rfl⟩
    obtain ⟨a, ha⟩ : ∃ a, grO k = a := ⟨_, rfl⟩
    rw [hv] at hl h5 h3
    rw [hv]
    rw [ha] at hr ho hl
    by_cases q2 : v ≤ 0
    · rw [if_pos q2, ha]
      refine x_li (z := k) T_187_2 rfl ?_
      refine x_ic T_187_3 ?_
      refine x_ic2 T_187_5 (fun h => absurd (show 8 ≤ k from h) (by omega)) (fun _ => ?_)
      refine x_lr (z := some 129) T_187_8 rfl ?_
      refine x_gR (z := some 143) T_187_9 F_1_12 (hP.o xo_129) (hP.rc xo_129 rfl rfl) ?_
      refine x_li (z := k) T_187_12 rfl ?_
      refine x_alR (z := some a) T_187_13 (hP.ta xa_143) (by decide) (by omega) (by omega) (hP.arc xa_143 rfl hr) ?_
      refine x_gI (z := v) T_187_14 (Or.inl F_3_2) (hP.o ho) (Eq.trans (hP.gi ho (key := 2098) rfl) hl) ?_
      refine x_if T_187_17 (fun h => absurd (show ¬ v = 0 from h) (by omega)) (fun _ => ?_)
      refine x_lr (z := some 129) T_187_20 rfl ?_
      refine x_gR (z := some 143) T_187_21 F_1_12 (hP.o xo_129) (hP.rc xo_129 rfl rfl) ?_
      refine x_li (z := k) T_187_24 rfl ?_
      refine x_alR (z := some a) T_187_25 (hP.ta xa_143) (by decide) (by omega) (by omega) (hP.arc xa_143 rfl hr) ?_
      refine x_ic T_187_26 ?_
      refine z_pI hP T_187_27 F_3_1 ho (key := 2097) rfl (fun σ hP => ?_)
      refine x_lr (z := some 129) T_187_30 rfl ?_
      refine x_gR (z := some 143) T_187_31 F_1_12 (hP.o xo_129) (hP.rc xo_129 rfl rfl) ?_
      refine x_li (z := k) T_187_34 rfl ?_
      refine x_alR (z := some a) T_187_35 (hP.ta xa_143) (by decide) (by omega) (by omega) (hP.arc xa_143 rfl hr) ?_
      refine x_rr T_187_36 ?_
      exact ⟨rfl, hP⟩
    · rw [if_neg q2] at h3 ⊢
      have hgo := ih (k + 1) (by omega) (by omega) h3 h4
      refine x_li (z := k) T_187_2 rfl ?_
      refine x_ic T_187_3 ?_
      refine x_ic2 T_187_5 (fun h => absurd (show 8 ≤ k from h) (by omega)) (fun _ => ?_)
      refine x_lr (z := some 129) T_187_8 rfl ?_
      refine x_gR (z := some 143) T_187_9 F_1_12 (hP.o xo_129) (hP.rc xo_129 rfl rfl) ?_
      refine x_li (z := k) T_187_12 rfl ?_
      refine x_alR (z := some a) T_187_13 (hP.ta xa_143) (by decide) (by omega) (by omega) (hP.arc xa_143 rfl hr) ?_
      refine x_gI (z := v) T_187_14 (Or.inl F_3_2) (hP.o ho) (Eq.trans (hP.gi ho (key := 2098) rfl) hl) ?_
      refine x_if T_187_17 (fun _ => ?_) (fun h => absurd (show ¬ v = 0 by omega) h)
      refine x_inc (w := (k + 1)) (ls1 := [some (vR (some 129)), some (vI (k + 1))]) T_187_37 rfl (w32_id (by omega) (by omega)) rfl ?_
      refine x_goto T_187_40 ?_
      exact hgo
theorem qPn_pos : ∀ (m : Nat) (k : Int), 0 ≤ qPn P g m k
  | 0, _ => Int.le_refl _
  | m + 1, k => by
    show 0 ≤ (if ¬ P 2320 k = 0 ∧ P 2323 k = g then 1 else 0) + qPn P g m (k + 1)
    have := qPn_pos m (k + 1)
    split <;> omega
/-- a group without processes -/
theorem x_spareGroup (hP : PX σ0 W R σ) (hX : XN W R P) (hf : qFg P < 8) : CL fb d 187 [vR (some 129)] σ (fun r σ' => r = some (vR (some (grO (qFg P)))) ∧ PX σ0 (rU W (grO (qFg P)) 2097 0) R σ') := by
  have h := x_spg_loop (fb := fb) (d := d) hP hX 8 0 (by decide) (by decide) hf (fun i => qPn_pos 8 0)
  have h : WP fb d 187 2 [some (vR (some 129)), some (vI 0)] [] σ (fun r σ' => r = some (vR (some (grO (qFg P)))) ∧ PX σ0 (rU W (grO (qFg P)) 2097 0) R σ') := h
  refine CL_in mL_187 rfl ?_
  show WP fb _ 187 0 [some (vR (some 129)), none] [] σ _
  refine x_ic T_187_0 ?_
  refine x_si (ls1 := [some (vR (some 129)), some (vI 0)]) T_187_1 rfl ?_
  exact h
/-- descriptors that are an opening -/
theorem usR_ge : ∀ (m : Nat) (k n : Int), n ≤ usR P x m k n
  | 0, _, n => Int.le_refl n
  | m + 1, k, n => by
    have h1 := usR_ge m (k + 1) (if ¬ P 2320 (k / 8) = 0 ∧ P 2327 k = x then n + 1 else n)
    show n ≤ usR P x m (k + 1) (if ¬ P 2320 (k / 8) = 0 ∧ P 2327 k = x then n + 1 else n)
    split at h1 <;> rename_i c
    · rw [if_pos c]
      omega
    · rw [if_neg c]
      exact h1
theorem usR_some : ∀ (m : Nat) (k n : Int), usR P x m k n ≠ n ↔ ∃ i, k ≤ i ∧ i < k + m ∧ ¬ P 2320 (i / 8) = 0 ∧ P 2327 i = x
  | 0, k, n => ⟨fun c => absurd rfl c, fun ⟨i, i0, i1, _⟩ => by
    have i1 : i < k + ((0 : Nat) : Int) := i1
    omega⟩
  | m + 1, k, n => by
    have e : usR P x (m + 1) k n = usR P x m (k + 1) (if ¬ P 2320 (k / 8) = 0 ∧ P 2327 k = x then n + 1 else n) := rfl
    rw [e]
    by_cases c : ¬ P 2320 (k / 8) = 0 ∧ P 2327 k = x
    · rw [if_pos c]
      have := usR_ge (P := P) (x := x) m (k + 1) (n + 1)
      exact ⟨fun _ => ⟨k, Int.le_refl k, by omega, c.1, c.2⟩, fun _ => by omega⟩
    · rw [if_neg c]
      have ih := usR_some m (k + 1) n
      constructor
      · intro q
        obtain ⟨i, i0, i1, i2⟩ := ih.mp q
        exact ⟨i, by omega, by omega, i2⟩
      · rintro ⟨i, i0, i1, i2⟩
        refine ih.mpr ⟨i, ?_, by omega, i2⟩
        have : i ≠ k := fun q => c (by rw [← q]; exact i2)
        omega
theorem users_open (hG : GO P) (hx : 0 ≤ x ∧ x < 64) : 0 ≤ qUsers P x ∧ (qUsers P x = 0 ↔ P 2330 x = 0) := by
  have h1 := usR_ge (P := P) (x := x) 64 0 0
  have h2 := usR_some (P := P) (x := x) 64 0 0
  have e : qUsers P x = usR P x 64 0 0 := rfl
  rw [← e] at h1 h2
  refine ⟨h1, ?_⟩
  constructor
  · intro q
    apply Decidable.byContradiction
    intro c
    obtain ⟨i, i1, i2, i3⟩ := hG.2 x hx.1 hx.2 c
    exact h2.mpr ⟨(i : Int), by omega, by omega, i2, i3⟩ q
  · intro q
    apply Decidable.byContradiction
    intro c
    obtain ⟨i, i0, i1, i2, i3⟩ := h2.mp c
    have := hG.1 i i0 (by omega) i2 (by omega)
    rw [i3] at this
    omega
theorem x_spo_loop (hP : PX σ0 W R σ) (hX : XN W R P) (hG : GO P) : ∀ (m : Nat) (k : Int), k + m = 64 → 0 ≤ k → frR P m k < 64 → WP fb d 154 2 [some (vR (some 129)), some (vI k)] [] σ (rPR (some (1229 + (frR P m k).toNat)) σ) := by
  intro m
  induction m with
  | zero =>
    intro k h1 h2 h3
    have h1 : k + ((0 : Nat) : Int) = 64 := h1
    have h3 : k < 64 := h3
    omega
  | succ m ih =>
    intro k h1 h2 h3
    have hr := rA_opn (i := k) ⟨h2, by omega⟩
    have ho := tX_opn k.toNat (by omega)
    have hl := (hX.2.2 k h2 (by omega)).1
    obtain ⟨u1, u2⟩ := users_open (x := k) hG ⟨h2, by omega⟩
    have ef : frR P (m + 1) k = if P 2330 k = 0 then k else frR P m (k + 1) := rfl
    rw [ef] at h3 ⊢
    obtain ⟨v, hv⟩ : ∃ v, qUsers P k = v := ⟨_, rfl⟩
    obtain ⟨a, ha⟩ : ∃ a, 1229 + k.toNat = a := ⟨_, rfl⟩
    rw [hv] at hl u1 u2
    rw [ha] at hr ho hl
    by_cases q2 : v = 0
    · rw [if_pos (u2.mp q2), ha]
      refine x_li (z := k) T_154_2 rfl ?_
      refine x_lr (z := some 129) T_154_3 rfl ?_
      refine x_gR (z := some 144) T_154_4 F_1_13 (hP.o xo_129) (hP.rc xo_129 rfl rfl) ?_
      refine x_len T_154_7 (hP.ta xa_144) ?_
      refine x_ic2 T_154_8 (fun h => absurd (show 64 ≤ k from h) (by omega)) (fun _ => ?_)
      refine x_lr (z := some 129) T_154_11 rfl ?_
      refine x_gR (z := some 144) T_154_12 F_1_13 (hP.o xo_129) (hP.rc xo_129 rfl rfl) ?_
      refine x_li (z := k) T_154_15 rfl ?_
      refine x_alR (z := some a) T_154_16 (hP.ta xa_144) (by decide) (by omega) (by omega) (hP.arc xa_144 rfl hr) ?_
      refine x_gI (z := v) T_154_17 (Or.inl F_5_7) (hP.o ho) (Eq.trans (hP.gi ho (key := 2167) rfl) hl) ?_
      refine x_if T_154_20 (fun h => absurd (show ¬ v = 0 from h) (by omega)) (fun _ => ?_)
      refine x_lr (z := some 129) T_154_23 rfl ?_
      refine x_gR (z := some 144) T_154_24 F_1_13 (hP.o xo_129) (hP.rc xo_129 rfl rfl) ?_
      refine x_li (z := k) T_154_27 rfl ?_
      refine x_alR (z := some a) T_154_28 (hP.ta xa_144) (by decide) (by omega) (by omega) (hP.arc xa_144 rfl hr) ?_
      refine x_rr T_154_29 ?_
      exact ⟨rfl, rfl⟩
    · rw [if_neg (fun c => q2 (u2.mpr c))] at h3 ⊢
      have hgo := ih (k + 1) (by omega) (by omega) h3
      refine x_li (z := k) T_154_2 rfl ?_
      refine x_lr (z := some 129) T_154_3 rfl ?_
      refine x_gR (z := some 144) T_154_4 F_1_13 (hP.o xo_129) (hP.rc xo_129 rfl rfl) ?_
      refine x_len T_154_7 (hP.ta xa_144) ?_
      refine x_ic2 T_154_8 (fun h => absurd (show 64 ≤ k from h) (by omega)) (fun _ => ?_)
      refine x_lr (z := some 129) T_154_11 rfl ?_
      refine x_gR (z := some 144) T_154_12 F_1_13 (hP.o xo_129) (hP.rc xo_129 rfl rfl) ?_
      refine x_li (z := k) T_154_15 rfl ?_
      refine x_alR (z := some a) T_154_16 (hP.ta xa_144) (by decide) (by omega) (by omega) (hP.arc xa_144 rfl hr) ?_
      refine x_gI (z := v) T_154_17 (Or.inl F_5_7) (hP.o ho) (Eq.trans (hP.gi ho (key := 2167) rfl) hl) ?_
      refine x_if T_154_20 (fun _ => ?_) (fun h => absurd (show ¬ v = 0 by omega) h)
      refine x_inc (w := (k + 1)) (ls1 := [some (vR (some 129)), some (vI (k + 1))]) T_154_30 rfl (w32_id (by omega) (by omega)) rfl ?_
      refine x_goto T_154_33 ?_
      exact hgo
theorem x_spareOpening (hP : PX σ0 W R σ) (hX : XN W R P) (hG : GO P) (hf : qFo P < 64) : CL fb d 154 [vR (some 129)] σ (rPR (some (1229 + (qFo P).toNat)) σ) := by
  have h := x_spo_loop (fb := fb) (d := d) hP hX hG 64 0 (by decide) (by decide) hf
  have h : WP fb d 154 2 [some (vR (some 129)), some (vI 0)] [] σ (rPR (some (1229 + (qFo P).toNat)) σ) := h
  refine CL_in mL_154 rfl ?_
  show WP fb _ 154 0 [some (vR (some 129)), none] [] σ _
  refine x_ic T_154_0 ?_
  refine x_si (ls1 := [some (vR (some 129)), some (vI 0)]) T_154_1 rfl ?_
  exact h
/-- a variable's row, or none -/
theorem x_variableOf (hP : PX σ0 W R σ) (hp : 0 ≤ p ∧ p < 8) : CL fb d 107 [vR (some (prO p)), vI k] σ (rPR (if 0 ≤ k ∧ k < 26 then some (prO p + 7 + 2 * k.toNat) else none) σ) := by
  have ho := prO_o hp
  have hA := (prO_a hp).2
  have hr := fun h => rA_var (x := k) hp h
  obtain ⟨a, ha⟩ : ∃ a, prO p = a := ⟨_, rfl⟩
  rw [ha] at ho hA hr ⊢
  by_cases q : 0 ≤ k
  · by_cases q1 : k < 26
    · have hr := hr ⟨q, q1⟩
      rw [if_pos ⟨q, q1⟩]
      refine CL_in mL_107 rfl ?_
      show WP fb _ 107 0 [some (vR (some a)), some (vI k)] [] σ _
      refine x_li (z := k) T_107_0 rfl ?_
      refine x_if T_107_1 (fun h => absurd (show k < 0 from h) (by omega)) (fun _ => ?_)
      refine x_li (z := k) T_107_4 rfl ?_
      refine x_ic T_107_5 ?_
      refine x_ic2 T_107_7 (fun _ => ?_) (fun h => absurd (show k < 26 by omega) h)
      refine x_lr (z := some a) T_107_14 rfl ?_
      refine x_gR (z := some (a + 5)) T_107_15 F_6_3 (hP.o ho) (hP.rc ho rfl rfl) ?_
      refine x_li (z := k) T_107_18 rfl ?_
      refine x_alR (z := some (a + 7 + 2 * k.toNat)) T_107_19 (hP.ta hA) (by decide) (by omega) (by omega) (hP.arc hA rfl hr) ?_
      refine x_rr T_107_20 ?_
      exact ⟨rfl, rfl⟩
    · rw [if_neg (fun c => q1 c.2)]
      refine CL_in mL_107 rfl ?_
      show WP fb _ 107 0 [some (vR (some a)), some (vI k)] [] σ _
      refine x_li (z := k) T_107_0 rfl ?_
      refine x_if T_107_1 (fun h => absurd (show k < 0 from h) (by omega)) (fun _ => ?_)
      refine x_li (z := k) T_107_4 rfl ?_
      refine x_ic T_107_5 ?_
      refine x_ic2 T_107_7 (fun h => absurd (show k < 26 from h) (by omega)) (fun _ => ?_)
      refine x_nu T_107_10 ?_
      refine x_goto T_107_11 ?_
      refine x_rr T_107_20 ?_
      exact ⟨rfl, rfl⟩
  · rw [if_neg (fun c => q c.1)]
    refine CL_in mL_107 rfl ?_
    show WP fb _ 107 0 [some (vR (some a)), some (vI k)] [] σ _
    refine x_li (z := k) T_107_0 rfl ?_
    refine x_if T_107_1 (fun _ => ?_) (fun h => absurd (show k < 0 by omega) h)
    refine x_nu T_107_10 ?_
    refine x_goto T_107_11 ?_
    refine x_rr T_107_20 ?_
    exact ⟨rfl, rfl⟩
/-- a descriptor's opening, or none -/
theorem x_openingOf (hP : PX σ0 W R σ) (hp : 0 ≤ p ∧ p < 8) (hr : 0 ≤ k → k < 8 → R (prO p + 6) k = r) : CL fb d 166 [vR (some (prO p)), vI k] σ (rPR (if 0 ≤ k ∧ k < 8 then r else none) σ) := by
  have ho := prO_o hp
  have hA := (prO_a hp).1
  obtain ⟨a, ha⟩ : ∃ a, prO p = a := ⟨_, rfl⟩
  rw [ha] at ho hA hr ⊢
  by_cases q : 0 ≤ k
  · by_cases q1 : k < 8
    · have hr := hr q q1
      rw [if_pos ⟨q, q1⟩]
      refine CL_in mL_166 rfl ?_
      show WP fb _ 166 0 [some (vR (some a)), some (vI k)] [] σ _
      refine x_li (z := k) T_166_0 rfl ?_
      refine x_if T_166_1 (fun h => absurd (show k < 0 from h) (by omega)) (fun _ => ?_)
      refine x_li (z := k) T_166_4 rfl ?_
      refine x_ic T_166_5 ?_
      refine x_ic2 T_166_7 (fun _ => ?_) (fun h => absurd (show k < 8 by omega) h)
      refine x_lr (z := some a) T_166_14 rfl ?_
      refine x_gR (z := some (a + 6)) T_166_15 F_6_4 (hP.o ho) (hP.rc ho rfl rfl) ?_
      refine x_li (z := k) T_166_18 rfl ?_
      refine x_alR (z := r) T_166_19 (hP.ta hA) (by decide) (by omega) (by omega) (Eq.trans (hP.arm hA rfl (by omega)) hr) ?_
      refine x_rr T_166_20 ?_
      exact ⟨rfl, rfl⟩
    · rw [if_neg (fun c => q1 c.2)]
      refine CL_in mL_166 rfl ?_
      show WP fb _ 166 0 [some (vR (some a)), some (vI k)] [] σ _
      refine x_li (z := k) T_166_0 rfl ?_
      refine x_if T_166_1 (fun h => absurd (show k < 0 from h) (by omega)) (fun _ => ?_)
      refine x_li (z := k) T_166_4 rfl ?_
      refine x_ic T_166_5 ?_
      refine x_ic2 T_166_7 (fun h => absurd (show k < 8 from h) (by omega)) (fun _ => ?_)
      refine x_nu T_166_10 ?_
      refine x_goto T_166_11 ?_
      refine x_rr T_166_20 ?_
      exact ⟨rfl, rfl⟩
  · rw [if_neg (fun c => q c.1)]
    refine CL_in mL_166 rfl ?_
    show WP fb _ 166 0 [some (vR (some a)), some (vI k)] [] σ _
    refine x_li (z := k) T_166_0 rfl ?_
    refine x_if T_166_1 (fun _ => ?_) (fun h => absurd (show k < 0 by omega) h)
    refine x_nu T_166_10 ?_
    refine x_goto T_166_11 ?_
    refine x_rr T_166_20 ?_
    exact ⟨rfl, rfl⟩
theorem x_setOpening (hP : PX σ0 W R σ) (hp : 0 ≤ p ∧ p < 8) (hk : 0 ≤ k ∧ k < 8) (hr : ∀ b, r = some b → tX b = some (Sum.inl 5)) : CL fb d 155 [vR (some (prO p)), vI k, vR r] σ (fun o σ' => o = none ∧ PX σ0 W (oU R (prO p + 6) k r) σ') := by
  have ho := prO_o hp
  have hA := (prO_a hp).1
  obtain ⟨a, ha⟩ : ∃ a, prO p = a := ⟨_, rfl⟩
  rw [ha] at ho hA ⊢
  refine CL_in mL_155 rfl ?_
  show WP fb _ 155 0 [some (vR (some a)), some (vI k), some (vR r)] [] σ _
  refine x_li (z := k) T_155_0 rfl ?_
  refine x_if T_155_1 (fun h => absurd (show k < 0 from h) (by omega)) (fun _ => ?_)
  refine x_li (z := k) T_155_4 rfl ?_
  refine x_ic T_155_5 ?_
  refine x_ic2 T_155_7 (fun h => absurd (show 8 ≤ k from h) (by omega)) (fun _ => ?_)
  refine x_lr (z := some a) T_155_10 rfl ?_
  refine x_gR (z := some (a + 6)) T_155_11 F_6_4 (hP.o ho) (hP.rc ho rfl rfl) ?_
  refine x_li (z := k) T_155_14 rfl ?_
  refine x_lr (z := r) T_155_15 rfl ?_
  refine z_aR hP T_155_16 (by decide) hr rfl hA (by omega) (by omega) (fun σ hP => ?_)
  refine x_rv T_155_17 ?_
  exact ⟨rfl, hP⟩
theorem x_spd_loop (hP : PX σ0 W R σ) (hX : XN W R P) (hp : 0 ≤ p ∧ p < 8) (hl : ¬ P 2320 p = 0) (hI : IV false T U P) : ∀ (m : Nat) (k : Int), k + m = 8 → 0 ≤ k → WP fb d 152 2 [some (vR (some (prO p))), some (vI k)] [] σ (rP (fdR P p m k) σ) := by
  have ho := prO_o hp
  have hA := (prO_a hp).1
  have hrow := (hX.1 p hp.1 hp.2).2.2.1
  obtain ⟨a, ha⟩ : ∃ a, prO p = a := ⟨_, rfl⟩
  rw [ha] at ho hA hrow ⊢
  intro m
  induction m with
  | zero =>
    intro k h1 h2
    have h1 : k + ((0 : Nat) : Int) = 8 := h1
    rw [show fdR P p 0 k = -1 from rfl]
    refine x_li (z := k) T_152_2 rfl ?_
    refine x_ic T_152_3 ?_
    refine x_ic2 T_152_5 (fun _ => ?_) (fun h => absurd (show 8 ≤ k by omega) h)
    refine x_ic T_152_25 ?_
    refine x_ri T_152_26 ?_
    exact ⟨rfl, rfl⟩
  | succ m ih =>
    intro k h1 h2
    have hr := hrow k h2 (by omega)
    have ef : fdR P p (m + 1) k = if P 2327 (8 * p + k) < 0 then k else fdR P p m (k + 1) := rfl
    rw [ef]
    by_cases q : P 2327 (8 * p + k) < 0
    · rw [if_pos (Or.inr q)] at hr
      rw [if_pos q]
      refine x_li (z := k) T_152_2 rfl ?_
      refine x_ic T_152_3 ?_
      refine x_ic2 T_152_5 (fun h => absurd (show 8 ≤ k from h) (by omega)) (fun _ => ?_)
      refine x_lr (z := some a) T_152_8 rfl ?_
      refine x_gR (z := some (a + 6)) T_152_9 F_6_4 (hP.o ho) (hP.rc ho rfl rfl) ?_
      refine x_li (z := k) T_152_12 rfl ?_
      refine x_alR (z := none) T_152_13 (hP.ta hA) (by decide) (by omega) (by omega) (Eq.trans (hP.arm hA rfl (by omega)) hr) ?_
      refine x_nnul T_152_14 (fun a0 h0 => absurd h0 (by simp)) (fun _ => ?_)
      refine x_li (z := k) T_152_17 rfl ?_
      refine x_ri T_152_18 ?_
      exact ⟨rfl, rfl⟩
    · rw [if_neg (fun c => by rcases c with c | c; exact hl c; exact q c)] at hr
      rw [if_neg q]
      have hgo := ih (k + 1) (by omega) (by omega)
      obtain ⟨y, hy⟩ : ∃ y, 1229 + (P 2327 (8 * p + k)).toNat = y := ⟨_, rfl⟩
      rw [hy] at hr
      refine x_li (z := k) T_152_2 rfl ?_
      refine x_ic T_152_3 ?_
      refine x_ic2 T_152_5 (fun h => absurd (show 8 ≤ k from h) (by omega)) (fun _ => ?_)
      refine x_lr (z := some a) T_152_8 rfl ?_
      refine x_gR (z := some (a + 6)) T_152_9 F_6_4 (hP.o ho) (hP.rc ho rfl rfl) ?_
      refine x_li (z := k) T_152_12 rfl ?_
      refine x_alR (z := some y) T_152_13 (hP.ta hA) (by decide) (by omega) (by omega) (Eq.trans (hP.arm hA rfl (by omega)) hr) ?_
      refine x_nnul T_152_14 (fun _ _ => ?_) (fun h0 => absurd h0 (by simp))
      refine x_inc (w := (k + 1)) (ls1 := [some (vR (some a)), some (vI (k + 1))]) T_152_19 rfl (w32_id (by omega) (by omega)) rfl ?_
      refine x_goto T_152_22 ?_
      exact hgo
theorem x_spareDescriptor (hP : PX σ0 W R σ) (hX : XN W R P) (hp : 0 ≤ p ∧ p < 8) (hl : ¬ P 2320 p = 0) (hI : IV false T U P) : CL fb d 152 [vR (some (prO p))] σ (rP (qFd P p) σ) := by
  have h := x_spd_loop (fb := fb) (d := d) hP hX hp hl hI 8 0 (by decide) (by decide)
  have h : WP fb d 152 2 [some (vR (some (prO p))), some (vI 0)] [] σ (rP (qFd P p) σ) := h
  obtain ⟨a, ha⟩ : ∃ a, prO p = a := ⟨_, rfl⟩
  rw [ha] at h ⊢
  refine CL_in mL_152 rfl ?_
  show WP fb _ 152 0 [some (vR (some a)), none] [] σ _
  refine x_ic T_152_0 ?_
  refine x_si (ls1 := [some (vR (some a)), some (vI 0)]) T_152_1 rfl ?_
  exact h
/-- points of a group, by number -/
theorem x_pointOf (hP : PX σ0 W R σ) (hX : XGR W R P g) (hg : 0 ≤ g ∧ g < 8) (hI : IV false T U P) (hr : 0 ≤ k → k < P 2334 g → R (grO g + 1) k = r) : CL fb d 189 [vR (some (grO g)), vI k] σ (rPR (if 0 ≤ k ∧ k < P 2334 g then r else none) σ) := by
  have ho := grO_o hg
  have hA := grO_a hg
  have hc := hX.1
  have hpb : 0 ≤ P 2334 g ∧ P 2334 g ≤ 8 := IV.a hI 2334 0 8 rfl rfl rfl (by omega) (by omega)
  obtain ⟨a, ha⟩ : ∃ a, grO g = a := ⟨_, rfl⟩
  obtain ⟨v, hv⟩ : ∃ v, P 2334 g = v := ⟨_, rfl⟩
  rw [ha, hv] at hc
  rw [ha] at ho hA
  rw [ha, hv] at hr ⊢
  rw [hv] at hpb
  by_cases q : 0 ≤ k
  · by_cases q1 : k < v
    · have hr := hr q q1
      rw [if_pos ⟨q, q1⟩]
      refine CL_in mL_189 rfl ?_
      show WP fb _ 189 0 [some (vR (some a)), some (vI k)] [] σ _
      refine x_li (z := k) T_189_0 rfl ?_
      refine x_if T_189_1 (fun h => absurd (show k < 0 from h) (by omega)) (fun _ => ?_)
      refine x_li (z := k) T_189_4 rfl ?_
      refine x_lr (z := some a) T_189_5 rfl ?_
      refine x_gI (z := v) T_189_6 (Or.inl F_3_1) (hP.o ho) (Eq.trans (hP.gi ho (key := 2097) rfl) hc) ?_
      refine x_ic2 T_189_9 (fun h => absurd (show v ≤ k from h) (by omega)) (fun _ => ?_)
      refine x_li (z := k) T_189_12 rfl ?_
      refine x_ic T_189_13 ?_
      refine x_ic2 T_189_15 (fun _ => ?_) (fun h => absurd (show k < 8 by omega) h)
      refine x_lr (z := some a) T_189_22 rfl ?_
      refine x_gR (z := some (a + 1)) T_189_23 F_3_0 (hP.o ho) (hP.rc ho rfl rfl) ?_
      refine x_li (z := k) T_189_26 rfl ?_
      refine x_alR (z := r) T_189_27 (hP.ta hA) (by decide) (by omega) (by omega) (Eq.trans (hP.arm hA rfl (by omega)) hr) ?_
      refine x_rr T_189_28 ?_
      exact ⟨rfl, rfl⟩
    · rw [if_neg (fun c => q1 c.2)]
      refine CL_in mL_189 rfl ?_
      show WP fb _ 189 0 [some (vR (some a)), some (vI k)] [] σ _
      refine x_li (z := k) T_189_0 rfl ?_
      refine x_if T_189_1 (fun h => absurd (show k < 0 from h) (by omega)) (fun _ => ?_)
      refine x_li (z := k) T_189_4 rfl ?_
      refine x_lr (z := some a) T_189_5 rfl ?_
      refine x_gI (z := v) T_189_6 (Or.inl F_3_1) (hP.o ho) (Eq.trans (hP.gi ho (key := 2097) rfl) hc) ?_
      refine x_ic2 T_189_9 (fun _ => ?_) (fun h => absurd (show v ≤ k by omega) h)
      refine x_nu T_189_18 ?_
      refine x_goto T_189_19 ?_
      refine x_rr T_189_28 ?_
      exact ⟨rfl, rfl⟩
  · rw [if_neg (fun c => q c.1)]
    refine CL_in mL_189 rfl ?_
    show WP fb _ 189 0 [some (vR (some a)), some (vI k)] [] σ _
    refine x_li (z := k) T_189_0 rfl ?_
    refine x_if T_189_1 (fun _ => ?_) (fun h => absurd (show k < 0 by omega) h)
    refine x_nu T_189_18 ?_
    refine x_goto T_189_19 ?_
    refine x_rr T_189_28 ?_
    exact ⟨rfl, rfl⟩
theorem mut_pt {a : Nat} (h : a < 2180) : mutA a 15 6 = true := by
  unfold mutA
  have e : Nat.beq a 2180 = false := by
    cases e : Nat.beq a 2180
    · rfl
    · have := Nat.eq_of_beq_eq_true e
      omega
  rw [e]
  rfl
/-- members of a point, by number -/
theorem x_memberOf {a : Nat} (hP : PX σ0 W R σ) (ho : tX a = some (Sum.inl 4)) (hA : isA (a + 1) 15 6) (ha : a < 2000) (hc : W a 2131 = many) (hm : 0 ≤ many ∧ many ≤ 6) (hr : 0 ≤ k → k < many → R (a + 1) k = r) : CL fb d 130 [vR (some a), vI k] σ (rPR (if 0 ≤ k ∧ k < many then r else none) σ) := by
  by_cases q : 0 ≤ k
  · by_cases q1 : k < many
    · have hr := hr q q1
      rw [if_pos ⟨q, q1⟩]
      have hmu := mut_pt (a := a + 1) (by omega)
      refine CL_in mL_130 rfl ?_
      show WP fb _ 130 0 [some (vR (some a)), some (vI k)] [] σ _
      refine x_li (z := k) T_130_0 rfl ?_
      refine x_if T_130_1 (fun h => absurd (show k < 0 from h) (by omega)) (fun _ => ?_)
      refine x_li (z := k) T_130_4 rfl ?_
      refine x_lr (z := some a) T_130_5 rfl ?_
      refine x_gI (z := many) T_130_6 (Or.inl F_4_3) (hP.o ho) (Eq.trans (hP.gi ho (key := 2131) rfl) hc) ?_
      refine x_ic2 T_130_9 (fun h => absurd (show many ≤ k from h) (by omega)) (fun _ => ?_)
      refine x_li (z := k) T_130_12 rfl ?_
      refine x_ic T_130_13 ?_
      refine x_ic2 T_130_15 (fun _ => ?_) (fun h => absurd (show k < 6 by omega) h)
      refine x_lr (z := some a) T_130_22 rfl ?_
      refine x_gR (z := some (a + 1)) T_130_23 F_4_0 (hP.o ho) (hP.rc ho rfl rfl) ?_
      refine x_li (z := k) T_130_26 rfl ?_
      refine x_alR (z := r) T_130_27 (hP.ta hA) (by decide) (by omega) (by omega) (Eq.trans (hP.arm hA hmu (by omega)) hr) ?_
      refine x_rr T_130_28 ?_
      exact ⟨rfl, rfl⟩
    · rw [if_neg (fun c => q1 c.2)]
      refine CL_in mL_130 rfl ?_
      show WP fb _ 130 0 [some (vR (some a)), some (vI k)] [] σ _
      refine x_li (z := k) T_130_0 rfl ?_
      refine x_if T_130_1 (fun h => absurd (show k < 0 from h) (by omega)) (fun _ => ?_)
      refine x_li (z := k) T_130_4 rfl ?_
      refine x_lr (z := some a) T_130_5 rfl ?_
      refine x_gI (z := many) T_130_6 (Or.inl F_4_3) (hP.o ho) (Eq.trans (hP.gi ho (key := 2131) rfl) hc) ?_
      refine x_ic2 T_130_9 (fun _ => ?_) (fun h => absurd (show many ≤ k by omega) h)
      refine x_nu T_130_18 ?_
      refine x_goto T_130_19 ?_
      refine x_rr T_130_28 ?_
      exact ⟨rfl, rfl⟩
  · rw [if_neg (fun c => q c.1)]
    refine CL_in mL_130 rfl ?_
    show WP fb _ 130 0 [some (vR (some a)), some (vI k)] [] σ _
    refine x_li (z := k) T_130_0 rfl ?_
    refine x_if T_130_1 (fun _ => ?_) (fun h => absurd (show k < 0 by omega) h)
    refine x_nu T_130_18 ?_
    refine x_goto T_130_19 ?_
    refine x_rr T_130_28 ?_
    exact ⟨rfl, rfl⟩
/-- what a channel becomes -/
def chW (W : qR) (c : Nat) (s f p e : Int) : qR := rU (rU (rU (rU (rU (rU (rU W c 2160 s) c 2161 f) c 2162 p) c 2163 e) c 2165 0) c 2166 0) c 2167 0
theorem x_become {f2 : Int} (hP : PX σ0 W R σ) (ho : tX c = some (Sum.inl 5)) (he : e = 0 ∨ e = 1) : CL fb d 128 [vR (some c), vI s, vI f2, vI p, vI e] σ (fun r σ' => r = none ∧ PX σ0 (chW W c s f2 p e) (oU R c 2164 none) σ') := by
  unfold chW
  refine CL_in mL_128 rfl ?_
  show WP fb _ 128 0 [some (vR (some c)), some (vI s), some (vI f2), some (vI p), some (vI e)] [] σ _
  refine x_lr (z := some c) T_128_0 rfl ?_
  refine x_li (z := s) T_128_1 rfl ?_
  refine z_pI hP T_128_2 F_5_0 ho (key := 2160) rfl (fun σ hP => ?_)
  refine x_lr (z := some c) T_128_5 rfl ?_
  refine x_li (z := f2) T_128_6 rfl ?_
  refine z_pI hP T_128_7 F_5_1 ho (key := 2161) rfl (fun σ hP => ?_)
  refine x_lr (z := some c) T_128_10 rfl ?_
  refine x_li (z := p) T_128_11 rfl ?_
  refine z_pI hP T_128_12 F_5_2 ho (key := 2162) rfl (fun σ hP => ?_)
  refine x_lr (z := some c) T_128_15 rfl ?_
  refine x_li (z := e) T_128_16 rfl ?_
  refine z_pZ hP T_128_18 F_5_3 (h01_of (by omega)) ho (key := 2163) rfl (fun σ hP => ?_)
  refine x_lr (z := some c) T_128_21 rfl ?_
  refine x_nu T_128_22 ?_
  refine z_pR hP T_128_23 F_5_4 rfl ho (key := 2164) rfl (fun σ hP => ?_)
  refine x_lr (z := some c) T_128_26 rfl ?_
  refine x_ic T_128_27 ?_
  refine z_pZ hP T_128_28 F_5_5 rfl ho (key := 2165) rfl (fun σ hP => ?_)
  refine x_lr (z := some c) T_128_31 rfl ?_
  refine x_ic T_128_32 ?_
  refine z_pI hP T_128_33 F_5_6 ho (key := 2166) rfl (fun σ hP => ?_)
  refine x_lr (z := some c) T_128_36 rfl ?_
  refine x_ic T_128_37 ?_
  refine z_pI hP T_128_38 F_5_7 ho (key := 2167) rfl (fun σ hP => ?_)
  refine x_rv T_128_41 ?_
  exact ⟨rfl, hP⟩
end XNSB
