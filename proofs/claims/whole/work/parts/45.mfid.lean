/-! The reference's rights, removals, names and fids. -/
theorem T_245_0 : hTab 245 0 = some ((3, 1, 0, []), 1) := rfl
theorem T_245_1 : hTab 245 1 = some ((0, 0, 2, []), 2) := rfl
theorem T_245_2 : hTab 245 2 = some ((19, 0, Int.ofNat 25, []), 5) := rfl
theorem T_245_5 : hTab 245 5 = some ((3, 2, 0, []), 6) := rfl
theorem T_245_6 : hTab 245 6 = some ((18, 0, Int.ofNat 25, []), 9) := rfl
theorem T_245_9 : hTab 245 9 = some ((3, 0, 2, []), 10) := rfl
theorem T_245_10 : hTab 245 10 = some ((3, 1, 0, []), 11) := rfl
theorem T_245_11 : hTab 245 11 = some ((3, 0, 2, []), 12) := rfl
theorem T_245_12 : hTab 245 12 = some ((3, 1, 0, []), 13) := rfl
theorem T_245_13 : hTab 245 13 = some ((3, 2, 0, []), 14) := rfl
theorem T_245_14 : hTab 245 14 = some ((31, 246, 0, []), 17) := rfl
theorem T_245_17 : hTab 245 17 = some ((3, 3, 0, []), 18) := rfl
theorem T_245_18 : hTab 245 18 = some ((0, 0, 2, []), 19) := rfl
theorem T_245_19 : hTab 245 19 = some ((31, 248, 0, []), 22) := rfl
theorem T_245_22 : hTab 245 22 = some ((18, 1, Int.ofNat 27, []), 25) := rfl
theorem T_245_25 : hTab 245 25 = some ((0, 0, 3, []), 26) := rfl
theorem T_245_26 : hTab 245 26 = some ((33, 1, 0, []), 27) := rfl
theorem T_245_27 : hTab 245 27 = some ((3, 0, 2, []), 28) := rfl
theorem T_245_28 : hTab 245 28 = some ((3, 1, 0, []), 29) := rfl
theorem T_245_29 : hTab 245 29 = some ((3, 2, 0, []), 30) := rfl
theorem T_245_30 : hTab 245 30 = some ((31, 252, 0, []), 33) := rfl
theorem T_245_33 : hTab 245 33 = some ((18, 0, Int.ofNat 51, []), 36) := rfl
theorem T_245_36 : hTab 245 36 = some ((3, 0, 2, []), 37) := rfl
theorem T_245_37 : hTab 245 37 = some ((3, 1, 0, []), 38) := rfl
theorem T_245_38 : hTab 245 38 = some ((3, 2, 0, []), 39) := rfl
theorem T_245_39 : hTab 245 39 = some ((0, 0, 0, []), 40) := rfl
theorem T_245_40 : hTab 245 40 = some ((31, 253, 0, []), 43) := rfl
theorem T_245_43 : hTab 245 43 = some ((18, 2, Int.ofNat 51, []), 46) := rfl
theorem T_245_46 : hTab 245 46 = some ((0, 0, 11, []), 48) := rfl
theorem T_245_48 : hTab 245 48 = some ((22, 0, Int.ofNat 52, []), 51) := rfl
theorem T_245_51 : hTab 245 51 = some ((0, 0, 0, []), 52) := rfl
theorem T_245_52 : hTab 245 52 = some ((33, 1, 0, []), 53) := rfl
theorem T_248_0 : hTab 248 0 = some ((3, 0, 2, []), 1) := rfl
theorem T_248_1 : hTab 248 1 = some ((3, 1, 0, []), 2) := rfl
theorem T_248_2 : hTab 248 2 = some ((3, 2, 0, []), 3) := rfl
theorem T_248_3 : hTab 248 3 = some ((31, 249, 0, []), 6) := rfl
theorem T_248_6 : hTab 248 6 = some ((4, 5, 0, []), 8) := rfl
theorem T_248_8 : hTab 248 8 = some ((3, 3, 0, []), 9) := rfl
theorem T_248_9 : hTab 248 9 = some ((3, 0, 2, []), 10) := rfl
theorem T_248_10 : hTab 248 10 = some ((3, 1, 0, []), 11) := rfl
theorem T_248_11 : hTab 248 11 = some ((3, 2, 0, []), 12) := rfl
theorem T_248_12 : hTab 248 12 = some ((31, 250, 0, []), 15) := rfl
theorem T_248_15 : hTab 248 15 = some ((19, 1, Int.ofNat 26, []), 18) := rfl
theorem T_248_18 : hTab 248 18 = some ((3, 5, 0, []), 20) := rfl
theorem T_248_20 : hTab 248 20 = some ((0, 0, 6, []), 22) := rfl
theorem T_248_22 : hTab 248 22 = some ((10, 9, 0, []), 23) := rfl
theorem T_248_23 : hTab 248 23 = some ((22, 0, Int.ofNat 45, []), 26) := rfl
theorem T_248_26 : hTab 248 26 = some ((3, 3, 0, []), 27) := rfl
theorem T_248_27 : hTab 248 27 = some ((3, 0, 2, []), 28) := rfl
theorem T_248_28 : hTab 248 28 = some ((3, 1, 0, []), 29) := rfl
theorem T_248_29 : hTab 248 29 = some ((3, 2, 0, []), 30) := rfl
theorem T_248_30 : hTab 248 30 = some ((31, 251, 0, []), 33) := rfl
theorem T_248_33 : hTab 248 33 = some ((19, 1, Int.ofNat 43, []), 36) := rfl
theorem T_248_36 : hTab 248 36 = some ((3, 5, 0, []), 38) := rfl
theorem T_248_38 : hTab 248 38 = some ((0, 0, 3, []), 39) := rfl
theorem T_248_39 : hTab 248 39 = some ((10, 9, 0, []), 40) := rfl
theorem T_248_40 : hTab 248 40 = some ((22, 0, Int.ofNat 45, []), 43) := rfl
theorem T_248_43 : hTab 248 43 = some ((3, 5, 0, []), 45) := rfl
theorem T_248_45 : hTab 248 45 = some ((4, 6, 0, []), 47) := rfl
theorem T_248_47 : hTab 248 47 = some ((3, 6, 0, []), 49) := rfl
theorem T_248_49 : hTab 248 49 = some ((3, 4, 0, []), 51) := rfl
theorem T_248_51 : hTab 248 51 = some ((10, 5, 0, []), 52) := rfl
theorem T_248_52 : hTab 248 52 = some ((18, 0, Int.ofNat 59, []), 55) := rfl
theorem T_248_55 : hTab 248 55 = some ((0, 0, 1, []), 56) := rfl
theorem T_248_56 : hTab 248 56 = some ((22, 0, Int.ofNat 60, []), 59) := rfl
theorem T_248_59 : hTab 248 59 = some ((0, 0, 0, []), 60) := rfl
theorem T_248_60 : hTab 248 60 = some ((33, 2, 0, []), 61) := rfl
theorem T_254_0 : hTab 254 0 = some ((3, 1, 0, []), 1) := rfl
theorem T_254_1 : hTab 254 1 = some ((3, 2, 0, []), 2) := rfl
theorem T_254_2 : hTab 254 2 = some ((31, 247, 0, []), 5) := rfl
theorem T_254_5 : hTab 254 5 = some ((4, 4, 0, []), 7) := rfl
theorem T_254_7 : hTab 254 7 = some ((3, 0, 2, []), 8) := rfl
theorem T_254_8 : hTab 254 8 = some ((24, 17, Int.ofNat 13, []), 11) := rfl
theorem T_254_11 : hTab 254 11 = some ((3, 4, 0, []), 13) := rfl
theorem T_254_13 : hTab 254 13 = some ((0, 0, 0, []), 14) := rfl
theorem T_254_14 : hTab 254 14 = some ((27, 2, 0, []), 15) := rfl
theorem T_254_15 : hTab 254 15 = some ((3, 0, 2, []), 16) := rfl
theorem T_254_16 : hTab 254 16 = some ((24, 17, Int.ofNat 26, []), 19) := rfl
theorem T_254_19 : hTab 254 19 = some ((3, 1, 0, []), 20) := rfl
theorem T_254_20 : hTab 254 20 = some ((8, 0, 0, []), 21) := rfl
theorem T_254_21 : hTab 254 21 = some ((26, 0, 0, []), 22) := rfl
theorem T_254_22 : hTab 254 22 = some ((0, 0, 1, []), 23) := rfl
theorem T_254_23 : hTab 254 23 = some ((10, 1, 0, []), 24) := rfl
theorem T_254_24 : hTab 254 24 = some ((27, 0, 0, []), 25) := rfl
theorem T_254_25 : hTab 254 25 = some ((3, 0, 2, []), 26) := rfl
theorem T_254_26 : hTab 254 26 = some ((24, 17, Int.ofNat 25, []), 29) := rfl
theorem T_254_29 : hTab 254 29 = some ((3, 1, 0, []), 30) := rfl
theorem T_254_30 : hTab 254 30 = some ((8, 0, 0, []), 31) := rfl
theorem T_254_31 : hTab 254 31 = some ((26, 0, 0, []), 32) := rfl
theorem T_254_32 : hTab 254 32 = some ((3, 0, 2, []), 33) := rfl
theorem T_254_33 : hTab 254 33 = some ((24, 17, Int.ofNat 21, []), 36) := rfl
theorem T_254_36 : hTab 254 36 = some ((3, 4, 0, []), 38) := rfl
theorem T_254_38 : hTab 254 38 = some ((26, 0, 0, []), 39) := rfl
theorem T_254_39 : hTab 254 39 = some ((10, 1, 0, []), 40) := rfl
theorem T_254_40 : hTab 254 40 = some ((27, 0, 0, []), 41) := rfl
theorem T_254_41 : hTab 254 41 = some ((3, 0, 2, []), 42) := rfl
theorem T_254_42 : hTab 254 42 = some ((24, 17, Int.ofNat 21, []), 45) := rfl
theorem T_254_45 : hTab 254 45 = some ((3, 4, 0, []), 47) := rfl
theorem T_254_47 : hTab 254 47 = some ((0, 0, 0, []), 48) := rfl
theorem T_254_48 : hTab 254 48 = some ((27, 0, 0, []), 49) := rfl
theorem T_254_49 : hTab 254 49 = some ((3, 0, 2, []), 50) := rfl
theorem T_254_50 : hTab 254 50 = some ((3, 1, 0, []), 51) := rfl
theorem T_254_51 : hTab 254 51 = some ((3, 0, 2, []), 52) := rfl
theorem T_254_52 : hTab 254 52 = some ((24, 17, Int.ofNat 14, []), 55) := rfl
theorem T_254_55 : hTab 254 55 = some ((3, 4, 0, []), 57) := rfl
theorem T_254_57 : hTab 254 57 = some ((26, 0, 0, []), 58) := rfl
theorem T_254_58 : hTab 254 58 = some ((3, 3, 0, []), 59) := rfl
theorem T_254_59 : hTab 254 59 = some ((31, 255, 0, []), 62) := rfl
theorem T_254_62 : hTab 254 62 = some ((0, 0, 96, []), 64) := rfl
theorem T_254_64 : hTab 254 64 = some ((3, 1, 0, []), 65) := rfl
theorem T_254_65 : hTab 254 65 = some ((10, 2, 0, []), 66) := rfl
theorem T_254_66 : hTab 254 66 = some ((4, 5, 0, []), 68) := rfl
theorem T_254_68 : hTab 254 68 = some ((3, 5, 0, []), 70) := rfl
theorem T_254_70 : hTab 254 70 = some ((0, 0, 96, []), 72) := rfl
theorem T_254_72 : hTab 254 72 = some ((3, 1, 0, []), 73) := rfl
theorem T_254_73 : hTab 254 73 = some ((0, 0, 1, []), 74) := rfl
theorem T_254_74 : hTab 254 74 = some ((10, 0, 0, []), 75) := rfl
theorem T_254_75 : hTab 254 75 = some ((10, 2, 0, []), 76) := rfl
theorem T_254_76 : hTab 254 76 = some ((19, 3, Int.ofNat 128, []), 79) := rfl
theorem T_254_79 : hTab 254 79 = some ((3, 0, 2, []), 80) := rfl
theorem T_254_80 : hTab 254 80 = some ((24, 17, Int.ofNat 34, []), 83) := rfl
theorem T_254_83 : hTab 254 83 = some ((3, 5, 0, []), 85) := rfl
theorem T_254_85 : hTab 254 85 = some ((3, 0, 2, []), 86) := rfl
theorem T_254_86 : hTab 254 86 = some ((24, 17, Int.ofNat 34, []), 89) := rfl
theorem T_254_89 : hTab 254 89 = some ((3, 5, 0, []), 91) := rfl
theorem T_254_91 : hTab 254 91 = some ((26, 2, 0, []), 92) := rfl
theorem T_254_92 : hTab 254 92 = some ((18, 1, Int.ofNat 116, []), 95) := rfl
theorem T_254_95 : hTab 254 95 = some ((3, 0, 2, []), 96) := rfl
theorem T_254_96 : hTab 254 96 = some ((24, 17, Int.ofNat 28, []), 99) := rfl
theorem T_254_99 : hTab 254 99 = some ((3, 5, 0, []), 101) := rfl
theorem T_254_101 : hTab 254 101 = some ((26, 2, 0, []), 102) := rfl
theorem T_254_102 : hTab 254 102 = some ((18, 0, Int.ofNat 120, []), 105) := rfl
theorem T_254_105 : hTab 254 105 = some ((3, 0, 2, []), 106) := rfl
theorem T_254_106 : hTab 254 106 = some ((24, 17, Int.ofNat 30, []), 109) := rfl
theorem T_254_109 : hTab 254 109 = some ((3, 5, 0, []), 111) := rfl
theorem T_254_111 : hTab 254 111 = some ((26, 0, 0, []), 112) := rfl
theorem T_254_112 : hTab 254 112 = some ((3, 2, 0, []), 113) := rfl
theorem T_254_113 : hTab 254 113 = some ((19, 1, Int.ofNat 120, []), 116) := rfl
theorem T_254_116 : hTab 254 116 = some ((0, 0, 1, []), 117) := rfl
theorem T_254_117 : hTab 254 117 = some ((22, 0, Int.ofNat 121, []), 120) := rfl
theorem T_254_120 : hTab 254 120 = some ((0, 0, 0, []), 121) := rfl
theorem T_254_121 : hTab 254 121 = some ((27, 2, 0, []), 122) := rfl
theorem T_254_122 : hTab 254 122 = some ((5, 5, 1, []), 125) := rfl
theorem T_254_125 : hTab 254 125 = some ((22, 0, Int.ofNat 68, []), 128) := rfl
theorem T_254_128 : hTab 254 128 = some ((33, 0, 0, []), 129) := rfl
theorem T_255_0 : hTab 255 0 = some ((3, 0, 2, []), 1) := rfl
theorem T_255_1 : hTab 255 1 = some ((24, 17, Int.ofNat 16, []), 4) := rfl
theorem T_255_4 : hTab 255 4 = some ((3, 1, 0, []), 5) := rfl
theorem T_255_5 : hTab 255 5 = some ((3, 2, 0, []), 6) := rfl
theorem T_255_6 : hTab 255 6 = some ((31, 247, 0, []), 9) := rfl
theorem T_255_9 : hTab 255 9 = some ((8, 0, 0, []), 10) := rfl
theorem T_255_10 : hTab 255 10 = some ((26, 0, 0, []), 11) := rfl
theorem T_255_11 : hTab 255 11 = some ((0, 0, 1, []), 12) := rfl
theorem T_255_12 : hTab 255 12 = some ((10, 0, 0, []), 13) := rfl
theorem T_255_13 : hTab 255 13 = some ((27, 0, 0, []), 14) := rfl
theorem T_255_14 : hTab 255 14 = some ((3, 0, 2, []), 15) := rfl
theorem T_255_15 : hTab 255 15 = some ((24, 17, Int.ofNat 20, []), 18) := rfl
theorem T_255_18 : hTab 255 18 = some ((3, 1, 0, []), 19) := rfl
theorem T_255_19 : hTab 255 19 = some ((3, 2, 0, []), 20) := rfl
theorem T_255_20 : hTab 255 20 = some ((31, 247, 0, []), 23) := rfl
theorem T_255_23 : hTab 255 23 = some ((3, 3, 0, []), 24) := rfl
theorem T_255_24 : hTab 255 24 = some ((27, 0, 0, []), 25) := rfl
theorem T_255_25 : hTab 255 25 = some ((33, 0, 0, []), 26) := rfl
theorem T_276_0 : hTab 276 0 = some ((3, 1, 0, []), 1) := rfl
theorem T_276_1 : hTab 276 1 = some ((3, 2, 0, []), 2) := rfl
theorem T_276_2 : hTab 276 2 = some ((31, 247, 0, []), 5) := rfl
theorem T_276_5 : hTab 276 5 = some ((4, 4, 0, []), 7) := rfl
theorem T_276_7 : hTab 276 7 = some ((3, 0, 2, []), 8) := rfl
theorem T_276_8 : hTab 276 8 = some ((24, 17, Int.ofNat 21, []), 11) := rfl
theorem T_276_11 : hTab 276 11 = some ((3, 4, 0, []), 13) := rfl
theorem T_276_13 : hTab 276 13 = some ((26, 0, 0, []), 14) := rfl
theorem T_276_14 : hTab 276 14 = some ((4, 5, 0, []), 16) := rfl
theorem T_276_16 : hTab 276 16 = some ((3, 5, 0, []), 18) := rfl
theorem T_276_18 : hTab 276 18 = some ((3, 3, 0, []), 19) := rfl
theorem T_276_19 : hTab 276 19 = some ((19, 3, Int.ofNat 43, []), 22) := rfl
theorem T_276_22 : hTab 276 22 = some ((3, 0, 2, []), 23) := rfl
theorem T_276_23 : hTab 276 23 = some ((24, 17, Int.ofNat 24, []), 26) := rfl
theorem T_276_26 : hTab 276 26 = some ((0, 0, 600, []), 29) := rfl
theorem T_276_29 : hTab 276 29 = some ((3, 4, 0, []), 31) := rfl
theorem T_276_31 : hTab 276 31 = some ((10, 2, 0, []), 32) := rfl
theorem T_276_32 : hTab 276 32 = some ((3, 5, 0, []), 34) := rfl
theorem T_276_34 : hTab 276 34 = some ((10, 0, 0, []), 35) := rfl
theorem T_276_35 : hTab 276 35 = some ((0, 0, 0, []), 36) := rfl
theorem T_276_36 : hTab 276 36 = some ((27, 0, 0, []), 37) := rfl
theorem T_276_37 : hTab 276 37 = some ((5, 5, 1, []), 40) := rfl
theorem T_276_40 : hTab 276 40 = some ((22, 0, Int.ofNat 16, []), 43) := rfl
theorem T_276_43 : hTab 276 43 = some ((3, 0, 2, []), 44) := rfl
theorem T_276_44 : hTab 276 44 = some ((24, 17, Int.ofNat 25, []), 47) := rfl
theorem T_276_47 : hTab 276 47 = some ((3, 1, 0, []), 48) := rfl
theorem T_276_48 : hTab 276 48 = some ((8, 0, 0, []), 49) := rfl
theorem T_276_49 : hTab 276 49 = some ((26, 0, 0, []), 50) := rfl
theorem T_276_50 : hTab 276 50 = some ((3, 3, 0, []), 51) := rfl
theorem T_276_51 : hTab 276 51 = some ((3, 0, 2, []), 52) := rfl
theorem T_276_52 : hTab 276 52 = some ((24, 17, Int.ofNat 21, []), 55) := rfl
theorem T_276_55 : hTab 276 55 = some ((3, 4, 0, []), 57) := rfl
theorem T_276_57 : hTab 276 57 = some ((26, 0, 0, []), 58) := rfl
theorem T_276_58 : hTab 276 58 = some ((10, 1, 0, []), 59) := rfl
theorem T_276_59 : hTab 276 59 = some ((10, 0, 0, []), 60) := rfl
theorem T_276_60 : hTab 276 60 = some ((27, 0, 0, []), 61) := rfl
theorem T_276_61 : hTab 276 61 = some ((3, 0, 2, []), 62) := rfl
theorem T_276_62 : hTab 276 62 = some ((24, 17, Int.ofNat 21, []), 65) := rfl
theorem T_276_65 : hTab 276 65 = some ((3, 4, 0, []), 67) := rfl
theorem T_276_67 : hTab 276 67 = some ((3, 3, 0, []), 68) := rfl
theorem T_276_68 : hTab 276 68 = some ((27, 0, 0, []), 69) := rfl
theorem T_276_69 : hTab 276 69 = some ((33, 0, 0, []), 70) := rfl
theorem F_17_24 : (hFd 17 24).2.2.1 = 4 := rfl
theorem F_17_25 : (hFd 17 25).2.2.1 = 4 := rfl
theorem F_17_26 : (hFd 17 26).2.2.1 = 4 := rfl
theorem F_17_30 : (hFd 17 30).2.2.1 = 4 := rfl
theorem F_17_34 : (hFd 17 34).2.2.1 = 4 := rfl
theorem mN_245 : hmN 245 = 4 := by decide +kernel
theorem mL_245 : hmL 245 = 4 := by decide +kernel
theorem mK_245 : hmK 245 = 1 := by decide +kernel
theorem mO_245 : hmO 245 = 17 := by decide +kernel
theorem mN_248 : hmN 248 = 5 := by decide +kernel
theorem mL_248 : hmL 248 = 7 := by decide +kernel
theorem mK_248 : hmK 248 = 1 := by decide +kernel
theorem mO_248 : hmO 248 = 17 := by decide +kernel
theorem mN_254 : hmN 254 = 4 := by decide +kernel
theorem mL_254 : hmL 254 = 6 := by decide +kernel
theorem mK_254 : hmK 254 = 1 := by decide +kernel
theorem mO_254 : hmO 254 = 17 := by decide +kernel
theorem mN_255 : hmN 255 = 4 := by decide +kernel
theorem mL_255 : hmL 255 = 4 := by decide +kernel
theorem mK_255 : hmK 255 = 1 := by decide +kernel
theorem mO_255 : hmO 255 = 17 := by decide +kernel
theorem mN_276 : hmN 276 = 4 := by decide +kernel
theorem mL_276 : hmL 276 = 6 := by decide +kernel
theorem mK_276 : hmK 276 = 1 := by decide +kernel
theorem mO_276 : hmO 276 = 17 := by decide +kernel
def gGrow (P : qR) (s n u : Int) : qR := rU (rU P 2292 (64 * s + n) (P 2292 (64 * s + n) + 1)) 2296 (64 * s + n) u
/-- the bits of a right that a user has; no right is 0 -/
def qMv (P : qR) (s n u w : Int) : Int := and32 (if u = qUid P s n then shr32 (qMode P s n) 6 else if u = qGid P s n then shr32 (qMode P s n) 3 else qMode P s n) w
def qRem (P : qR) (s n u : Int) : Int := if s = 2 ∨ n = 0 ∨ qMv P s (qUp P s n) u 2 = 0 then 3 else if qMode P s n < 0 ∧ 0 ≤ qEnt P s n 0 then 11 else 0
/-- fids of a file that is gone -/
def gGone (P : qR) (lo hi n : Int) : qR := fun g k => if g = 2310 ∧ lo ≤ k ∧ k < hi then (if ¬ P 2310 k = 0 ∨ (¬ P 2304 k = 0 ∧ P 2306 k = n) then 1 else 0) else P g k
def gRem0 (P : qR) (s n u : Int) : qR := gGrow (rU (rU (rU (rU P 2289 (64 * s + n) 0) 2302 s (P 2302 s - 1)) 2301 s (P 2301 s - P 2297 (64 * s + n))) 2297 (64 * s + n) 0) s (P 2290 (64 * s + n)) u
def gRem (P : qR) (s n u : Int) : qR := gGone (gRem0 P s n u) (96 * s) (96 * s + 96) n
/-- nothing but 0 in a stretch -/
def gZer (P : qR) (f : Nat) (lo hi : Int) : qR := fun g k => if g = f ∧ lo ≤ k ∧ k < hi then 0 else P g k
def gSize (P : qR) (s n z : Int) : qR := rU (rU (gZer P 2300 (600 * (64 * s + n) + P 2297 (64 * s + n)) (600 * (64 * s + n) + z)) 2301 s (P 2301 s + (z - P 2297 (64 * s + n)))) 2297 (64 * s + n) z
def nmSign (b : Int) : Bool := decide (33 ≤ b) && (decide (b ≤ 126) && decide (¬ b = 47))
def nmOk (l : List Int) : Bool := decide (1 ≤ l.length) && (decide (l.length ≤ 12) && (l.all nmSign && (decide (¬ l = [46]) && decide (¬ l = [46, 46]))))
def gName (P : qR) (s n : Int) (l : List Int) : qR := rU (rW P 2298 (12 * (64 * s + n)) l) 2299 (64 * s + n) l.length
def fiFid (P : qR) (v : Int) : Nat → Int → Int
  | 0, _ => -1
  | m + 1, k => if ¬ P 2304 k = 0 ∧ P 2305 k = v then k else fiFid P v m (k + 1)
def frFid (P : qR) : Nat → Int → Int
  | 0, _ => -1
  | m + 1, k => if P 2304 k = 0 then k else frFid P m (k + 1)
def coFid (P : qR) : Nat → Int → Int → Int
  | 0, _, c => c
  | m + 1, k, c => coFid P m (k + 1) (if P 2304 k = 0 then c else c + 1)
/-- a connection's fid of a number; its first free one; how many it has -/
def qFid (P : qR) (s c v : Int) : Int := fiFid P v 48 (48 * (2 * s + c))
def qFree (P : qR) (s c : Int) : Int := frFid P 48 (48 * (2 * s + c))
def qFids (P : qR) (s c : Int) : Int := coFid P 48 (48 * (2 * s + c)) 0
def gMake (P : qR) (k v n u : Int) : qR := rU (rU (rU (rU (rU (rU (rU (rU (rU P 2307 k (qPath P (k / 96) n)) 2304 k 1) 2305 k v) 2306 k n) 2308 k u) 2309 k (-1)) 2310 k 0) 2311 k 0) 2312 k 0
/-- whether the end of a fid takes its file along -/
def qTake (P : qR) (s k : Int) : Prop := ((0 ≤ P 2309 k ∧ ¬ and32 (P 2309 k) 64 = 0) ∧ P 2310 k = 0) ∧ qRem P s (P 2306 k) (P 2308 k) = 0
def gClunk (P : qR) (s k : Int) : qR := rU (if ((0 ≤ P 2309 k ∧ ¬ and32 (P 2309 k) 64 = 0) ∧ P 2310 k = 0) ∧ qRem P s (P 2306 k) (P 2308 k) = 0 then gRem P s (P 2306 k) (P 2308 k) else P) 2304 k 0
def qKind (P : qR) (s n : Int) : Int := if qMode P s n < 0 then 128 else if and32 (qMode P s n) 1073741824 = 0 then 0 else 64
def qidL (P : qR) (s n : Int) : List Int := leb 1 (qKind P s n) ++ leb 4 (qVer P s n) ++ leb 8 (qPath P s n)
theorem qidL_len (P : qR) (s n : Int) : ((qidL P s n).length : Int) = 13 := rfl
def usrL (u : Int) : List Int := leb 2 3 ++ leb 1 (ubyte (3 * u + 0)) ++ leb 1 (ubyte (3 * u + 1)) ++ leb 1 (ubyte (3 * u + 2))
theorem usrL_len (u : Int) : ((usrL u).length : Int) = 5 := rfl
def nmL (P : qR) (s n : Int) : Nat → List Int
  | 0 => []
  | m + 1 => nmL P s n m ++ leb 1 (qNb P s n m)
theorem nmL_len (P : qR) (s n : Int) : ∀ m, (nmL P s n m).length = m
  | 0 => rfl
  | m + 1 => by show (nmL P s n m ++ leb 1 _).length = m + 1; rw [List.length_append, nmL_len P s n m]; rfl
def statL (P : qR) (s n : Int) : List Int := leb 2 (58 + qNs P s n - 2) ++ leb 2 0 ++ leb 4 0 ++ qidL P s n ++ leb 4 (qMode P s n) ++ leb 4 0 ++ leb 4 0 ++ leb 8 (qLen P s n) ++ leb 2 (qNs P s n) ++ nmL P s n (qNs P s n).toNat ++ usrL (qUid P s n) ++ usrL (qGid P s n) ++ usrL (qMuid P s n)
theorem statL_len {P : qR} {s n : Int} (h : 0 ≤ qNs P s n) : ((statL P s n).length : Int) = 58 + qNs P s n := by
  unfold statL
  simp only [List.length_append, leb_len, nmL_len]
  have h1 := qidL_len P s n
  have h2 := usrL_len (qUid P s n)
  have h3 := usrL_len (qGid P s n)
  have h4 := usrL_len (qMuid P s n)
  omega
section MFID
variable {fb : Bool} {d : Nat} {σ0 σ : hM} {P S : qR} {T U s n u : Int}
theorem qUid_i (hI : IV false T U P) (h : okN s n) : 0 ≤ qUid P s n ∧ qUid P s n ≤ 3 := by
  unfold qUid
  repeat' split
  · exact IV.a hI 2294 0 128 rfl rfl rfl (by omega) (by omega)
  · omega
  · exact IV.a hI 2322 0 8 rfl rfl rfl (by omega) (by omega)
theorem qGid_i (hI : IV false T U P) (h : okN s n) : 0 ≤ qGid P s n ∧ qGid P s n ≤ 3 := by
  unfold qGid
  split
  · exact IV.a hI 2295 0 128 rfl rfl rfl (by omega) (by omega)
  · exact qUid_i hI h
theorem qMuid_i (hI : IV false T U P) (h : okN s n) : 0 ≤ qMuid P s n ∧ qMuid P s n ≤ 3 := by
  unfold qMuid
  split
  · exact IV.a hI 2296 0 128 rfl rfl rfl (by omega) (by omega)
  · exact qUid_i hI h
theorem m_may {w : Int} (hP : PM σ0 P S σ) (h : okN s n) : CL fb (d + 3) 248 [vR (some 2281), vI s, vI n, vI u, vI w] σ (rP (if qMv P s n u w = 0 then 0 else 1) σ) := by
  refine CL_in mL_248 rfl ?_
  show WP fb _ 248 0 [some (vR (some 2281)), some (vI s), some (vI n), some (vI u), some (vI w), none, none] [] σ _
  refine x_lr (z := some 2281) T_248_0 rfl ?_
  refine x_li (z := s) T_248_1 rfl ?_
  refine x_li (z := n) T_248_2 rfl ?_
  refine x_cv3 T_248_3 mN_249 mL_249 (Nat.le_of_ble_eq_true rfl) mO_249 (PM.t hP) (Nat.le_of_ble_eq_true rfl) (m_modeOf hP (by omega)) ?_
  rintro _ σ ⟨rfl, rfl⟩
  refine cI ?_
  refine x_si (ls1 := [some (vR (some 2281)), some (vI s), some (vI n), some (vI u), some (vI w), some (vI (qMode P s n)), none]) T_248_6 rfl ?_
  refine x_li (z := u) T_248_8 rfl ?_
  refine x_lr (z := some 2281) T_248_9 rfl ?_
  refine x_li (z := s) T_248_10 rfl ?_
  refine x_li (z := n) T_248_11 rfl ?_
  refine x_cv3 T_248_12 mN_250 mL_250 (Nat.le_of_ble_eq_true rfl) mO_250 (PM.t hP) (Nat.le_of_ble_eq_true rfl) (m_uidOf hP (by omega)) ?_
  rintro _ σ ⟨rfl, rfl⟩
  refine cI ?_
  refine x_ic2 T_248_15 (fun h15 => ?_) (fun h15 => ?_)
  · replace h15 : ¬ u = qUid P s n := h15
    refine x_li (z := u) T_248_26 rfl ?_
    refine x_lr (z := some 2281) T_248_27 rfl ?_
    refine x_li (z := s) T_248_28 rfl ?_
    refine x_li (z := n) T_248_29 rfl ?_
    refine x_cv3 T_248_30 mN_251 mL_251 (Nat.le_of_ble_eq_true rfl) mO_251 (PM.t hP) (Nat.le_of_ble_eq_true rfl) (m_gidOf hP (by omega)) ?_
    rintro _ σ ⟨rfl, rfl⟩
    refine cI ?_
    refine x_ic2 T_248_33 (fun h33 => ?_) (fun h33 => ?_)
    · replace h33 : ¬ u = qGid P s n := h33
      refine x_li (z := qMode P s n) T_248_43 rfl ?_
      refine x_si (ls1 := [some (vR (some 2281)), some (vI s), some (vI n), some (vI u), some (vI w), some (vI (qMode P s n)), some (vI (qMode P s n))]) T_248_45 rfl ?_
      refine x_li (z := qMode P s n) T_248_47 rfl ?_
      refine x_li (z := w) T_248_49 rfl ?_
      refine x_ib (w := (and32 (qMode P s n) w)) T_248_51 (fun h => absurd h.1 (by decide)) rfl ?_
      refine x_if T_248_52 (fun h52 => ?_) (fun h52 => ?_)
      · replace h52 : (and32 (qMode P s n) w) = 0 := h52
        refine x_ic T_248_59 ?_
        refine x_rz T_248_60 rfl ?_
        refine ⟨?_, rfl⟩
        first
          | (rw [show qMv P s n u w = and32 (shr32 (qMode P s n) 6) w by unfold qMv; rw [if_pos (show u = qUid P s n by omega)]]; (first | rw [if_pos h52] | rw [if_neg h52]))
          | (rw [show qMv P s n u w = and32 (shr32 (qMode P s n) 3) w by unfold qMv; rw [if_neg (show ¬ u = qUid P s n by omega), if_pos (show u = qGid P s n by omega)]]; (first | rw [if_pos h52] | rw [if_neg h52]))
          | (rw [show qMv P s n u w = and32 (qMode P s n) w by unfold qMv; rw [if_neg (show ¬ u = qUid P s n by omega), if_neg (show ¬ u = qGid P s n by omega)]]; (first | rw [if_pos h52] | rw [if_neg h52]))
      · replace h52 : ¬ ((and32 (qMode P s n) w) = 0) := h52
        refine x_ic T_248_55 ?_
        refine x_goto T_248_56 ?_
        refine x_rz T_248_60 rfl ?_
        refine ⟨?_, rfl⟩
        first
          | (rw [show qMv P s n u w = and32 (shr32 (qMode P s n) 6) w by unfold qMv; rw [if_pos (show u = qUid P s n by omega)]]; (first | rw [if_pos h52] | rw [if_neg h52]))
          | (rw [show qMv P s n u w = and32 (shr32 (qMode P s n) 3) w by unfold qMv; rw [if_neg (show ¬ u = qUid P s n by omega), if_pos (show u = qGid P s n by omega)]]; (first | rw [if_pos h52] | rw [if_neg h52]))
          | (rw [show qMv P s n u w = and32 (qMode P s n) w by unfold qMv; rw [if_neg (show ¬ u = qUid P s n by omega), if_neg (show ¬ u = qGid P s n by omega)]]; (first | rw [if_pos h52] | rw [if_neg h52]))
    · replace h33 : ¬ (¬ u = qGid P s n) := h33
      refine x_li (z := qMode P s n) T_248_36 rfl ?_
      refine x_ic T_248_38 ?_
      refine x_ib (w := (shr32 (qMode P s n) 3)) T_248_39 (fun h => absurd h.1 (by decide)) rfl ?_
      refine x_goto T_248_40 ?_
      refine x_si (ls1 := [some (vR (some 2281)), some (vI s), some (vI n), some (vI u), some (vI w), some (vI (qMode P s n)), some (vI (shr32 (qMode P s n) 3))]) T_248_45 rfl ?_
      refine x_li (z := (shr32 (qMode P s n) 3)) T_248_47 rfl ?_
      refine x_li (z := w) T_248_49 rfl ?_
      refine x_ib (w := (and32 (shr32 (qMode P s n) 3) w)) T_248_51 (fun h => absurd h.1 (by decide)) rfl ?_
      refine x_if T_248_52 (fun h52 => ?_) (fun h52 => ?_)
      · replace h52 : (and32 (shr32 (qMode P s n) 3) w) = 0 := h52
        refine x_ic T_248_59 ?_
        refine x_rz T_248_60 rfl ?_
        refine ⟨?_, rfl⟩
        first
          | (rw [show qMv P s n u w = and32 (shr32 (qMode P s n) 6) w by unfold qMv; rw [if_pos (show u = qUid P s n by omega)]]; (first | rw [if_pos h52] | rw [if_neg h52]))
          | (rw [show qMv P s n u w = and32 (shr32 (qMode P s n) 3) w by unfold qMv; rw [if_neg (show ¬ u = qUid P s n by omega), if_pos (show u = qGid P s n by omega)]]; (first | rw [if_pos h52] | rw [if_neg h52]))
          | (rw [show qMv P s n u w = and32 (qMode P s n) w by unfold qMv; rw [if_neg (show ¬ u = qUid P s n by omega), if_neg (show ¬ u = qGid P s n by omega)]]; (first | rw [if_pos h52] | rw [if_neg h52]))
      · replace h52 : ¬ ((and32 (shr32 (qMode P s n) 3) w) = 0) := h52
        refine x_ic T_248_55 ?_
        refine x_goto T_248_56 ?_
        refine x_rz T_248_60 rfl ?_
        refine ⟨?_, rfl⟩
        first
          | (rw [show qMv P s n u w = and32 (shr32 (qMode P s n) 6) w by unfold qMv; rw [if_pos (show u = qUid P s n by omega)]]; (first | rw [if_pos h52] | rw [if_neg h52]))
          | (rw [show qMv P s n u w = and32 (shr32 (qMode P s n) 3) w by unfold qMv; rw [if_neg (show ¬ u = qUid P s n by omega), if_pos (show u = qGid P s n by omega)]]; (first | rw [if_pos h52] | rw [if_neg h52]))
          | (rw [show qMv P s n u w = and32 (qMode P s n) w by unfold qMv; rw [if_neg (show ¬ u = qUid P s n by omega), if_neg (show ¬ u = qGid P s n by omega)]]; (first | rw [if_pos h52] | rw [if_neg h52]))
  · replace h15 : ¬ (¬ u = qUid P s n) := h15
    refine x_li (z := qMode P s n) T_248_18 rfl ?_
    refine x_ic T_248_20 ?_
    refine x_ib (w := (shr32 (qMode P s n) 6)) T_248_22 (fun h => absurd h.1 (by decide)) rfl ?_
    refine x_goto T_248_23 ?_
    refine x_si (ls1 := [some (vR (some 2281)), some (vI s), some (vI n), some (vI u), some (vI w), some (vI (qMode P s n)), some (vI (shr32 (qMode P s n) 6))]) T_248_45 rfl ?_
    refine x_li (z := (shr32 (qMode P s n) 6)) T_248_47 rfl ?_
    refine x_li (z := w) T_248_49 rfl ?_
    refine x_ib (w := (and32 (shr32 (qMode P s n) 6) w)) T_248_51 (fun h => absurd h.1 (by decide)) rfl ?_
    refine x_if T_248_52 (fun h52 => ?_) (fun h52 => ?_)
    · replace h52 : (and32 (shr32 (qMode P s n) 6) w) = 0 := h52
      refine x_ic T_248_59 ?_
      refine x_rz T_248_60 rfl ?_
      refine ⟨?_, rfl⟩
      first
        | (rw [show qMv P s n u w = and32 (shr32 (qMode P s n) 6) w by unfold qMv; rw [if_pos (show u = qUid P s n by omega)]]; (first | rw [if_pos h52] | rw [if_neg h52]))
        | (rw [show qMv P s n u w = and32 (shr32 (qMode P s n) 3) w by unfold qMv; rw [if_neg (show ¬ u = qUid P s n by omega), if_pos (show u = qGid P s n by omega)]]; (first | rw [if_pos h52] | rw [if_neg h52]))
        | (rw [show qMv P s n u w = and32 (qMode P s n) w by unfold qMv; rw [if_neg (show ¬ u = qUid P s n by omega), if_neg (show ¬ u = qGid P s n by omega)]]; (first | rw [if_pos h52] | rw [if_neg h52]))
    · replace h52 : ¬ ((and32 (shr32 (qMode P s n) 6) w) = 0) := h52
      refine x_ic T_248_55 ?_
      refine x_goto T_248_56 ?_
      refine x_rz T_248_60 rfl ?_
      refine ⟨?_, rfl⟩
      first
        | (rw [show qMv P s n u w = and32 (shr32 (qMode P s n) 6) w by unfold qMv; rw [if_pos (show u = qUid P s n by omega)]]; (first | rw [if_pos h52] | rw [if_neg h52]))
        | (rw [show qMv P s n u w = and32 (shr32 (qMode P s n) 3) w by unfold qMv; rw [if_neg (show ¬ u = qUid P s n by omega), if_pos (show u = qGid P s n by omega)]]; (first | rw [if_pos h52] | rw [if_neg h52]))
        | (rw [show qMv P s n u w = and32 (qMode P s n) w by unfold qMv; rw [if_neg (show ¬ u = qUid P s n by omega), if_neg (show ¬ u = qGid P s n by omega)]]; (first | rw [if_pos h52] | rw [if_neg h52]))
theorem m_grow {v : Int} (hP : PM σ0 P S σ) (e : P 2292 (64 * s + n) = v) (hv : 0 ≤ v ∧ v ≤ 2147483000) (h : 0 ≤ s ∧ s < 2 ∧ 0 ≤ n ∧ n < 64) : CL fb (d + 1) 255 [vR (some 2281), vI s, vI n, vI u] σ (rV σ0 (gGrow P s n u) S) := by
  subst e
  refine CL_in mL_255 rfl ?_
  show WP fb _ 255 0 [some (vR (some 2281)), some (vI s), some (vI n), some (vI u)] [] σ _
  refine x_lr (z := some 2281) T_255_0 rfl ?_
  refine x_gR (z := some 2292) T_255_1 F_17_16 (PM.t hP) (PM.r hP 16 2292 rfl) ?_
  refine x_li (z := s) T_255_4 rfl ?_
  refine x_li (z := n) T_255_5 rfl ?_
  refine x_cs2 T_255_6 mN_247 mL_247 (Nat.le_of_ble_eq_true rfl) mK_247 (Nat.le_of_ble_eq_true rfl) (m_place (by omega)) ?_
  rintro _ σ ⟨rfl, rfl⟩
  refine cI ?_
  refine x_dup2 T_255_9 ?_
  refine x_alI (z := P 2292 (64 * s + n)) T_255_10 (by decide) (PM.ta hP 2292 0 128 rfl rfl) (by omega) (by omega) (PM.aP hP 2292 rfl rfl (by omega)) ?_
  refine x_ic T_255_11 ?_
  refine x_ib (w := (P 2292 (64 * s + n) + 1)) T_255_12 (fun h => absurd h.1 (by decide)) (w32_id (by omega) (by omega)) ?_
  refine y_aIP hP T_255_13 2292 128 rfl rfl rfl (by omega) (by omega) (fun σ hP => ?_)
  refine x_lr (z := some 2281) T_255_14 rfl ?_
  refine x_gR (z := some 2296) T_255_15 F_17_20 (PM.t hP) (PM.r hP 20 2296 rfl) ?_
  refine x_li (z := s) T_255_18 rfl ?_
  refine x_li (z := n) T_255_19 rfl ?_
  refine x_cs2 T_255_20 mN_247 mL_247 (Nat.le_of_ble_eq_true rfl) mK_247 (Nat.le_of_ble_eq_true rfl) (m_place (by omega)) ?_
  rintro _ σ ⟨rfl, rfl⟩
  refine cI ?_
  refine x_li (z := u) T_255_23 rfl ?_
  refine y_aIP hP T_255_24 2296 128 rfl rfl rfl (by omega) (by omega) (fun σ hP => ?_)
  refine x_rv T_255_25 ?_
  exact ⟨rfl, hP⟩
theorem qRem_0 (h : qRem P s n u = 0) : ¬ s = 2 ∧ ¬ n = 0 := by
  unfold qRem at h
  split at h
  · omega
  · omega
theorem m_removal (hP : PM σ0 P S σ) (hI : IV false T U P) (h : okN s n) : CL fb (d + 4) 245 [vR (some 2281), vI s, vI n, vI u] σ (rP (qRem P s n u) σ) := by
  have hu := qUp_ok hI h
  refine CL_in mL_245 rfl ?_
  show WP fb _ 245 0 [some (vR (some 2281)), some (vI s), some (vI n), some (vI u)] [] σ _
  refine x_li (z := s) T_245_0 rfl ?_
  refine x_ic T_245_1 ?_
  refine x_ic2 T_245_2 (fun h2 => ?_) (fun h2 => ?_)
  · replace h2 : s = 2 := h2
    refine x_ic T_245_25 ?_
    refine x_ri T_245_26 ?_
    refine ⟨?_, rfl⟩
    unfold qRem
    (repeat' split) <;> first | rfl | omega
  · replace h2 : ¬ (s = 2) := h2
    refine x_li (z := n) T_245_5 rfl ?_
    refine x_if T_245_6 (fun h6 => ?_) (fun h6 => ?_)
    · replace h6 : n = 0 := h6
      refine x_ic T_245_25 ?_
      refine x_ri T_245_26 ?_
      refine ⟨?_, rfl⟩
      unfold qRem
      (repeat' split) <;> first | rfl | omega
    · replace h6 : ¬ (n = 0) := h6
      refine x_lr (z := some 2281) T_245_9 rfl ?_
      refine x_li (z := s) T_245_10 rfl ?_
      refine x_lr (z := some 2281) T_245_11 rfl ?_
      refine x_li (z := s) T_245_12 rfl ?_
      refine x_li (z := n) T_245_13 rfl ?_
      refine x_cv3 T_245_14 mN_246 mL_246 (Nat.le_of_ble_eq_true rfl) mO_246 (PM.t hP) (Nat.le_of_ble_eq_true rfl) (m_aboveOf hP (by omega)) ?_
      rintro _ σ ⟨rfl, rfl⟩
      refine cI ?_
      refine x_li (z := u) T_245_17 rfl ?_
      refine x_ic T_245_18 ?_
      refine x_cv5 T_245_19 mN_248 mL_248 (Nat.le_of_ble_eq_true rfl) mO_248 (PM.t hP) (Nat.le_of_ble_eq_true rfl) (m_may hP (by omega)) ?_
      rintro _ σ ⟨rfl, rfl⟩
      refine cI ?_
      refine x_if T_245_22 (fun h22 => ?_) (fun h22 => ?_)
      · replace h22 : ¬ (if qMv P s (qUp P s n) u 2 = 0 then (0 : Int) else 1) = 0 := h22
        refine x_lr (z := some 2281) T_245_27 rfl ?_
        refine x_li (z := s) T_245_28 rfl ?_
        refine x_li (z := n) T_245_29 rfl ?_
        refine x_cv3 T_245_30 mN_252 mL_252 (Nat.le_of_ble_eq_true rfl) mO_252 (PM.t hP) (Nat.le_of_ble_eq_true rfl) (m_isDirectory hP (by omega)) ?_
        rintro _ σ ⟨rfl, rfl⟩
        refine cI ?_
        refine x_if T_245_33 (fun h33 => ?_) (fun h33 => ?_)
        · replace h33 : (if qMode P s n < 0 then (1 : Int) else 0) = 0 := h33
          refine x_ic T_245_51 ?_
          refine x_ri T_245_52 ?_
          refine ⟨?_, rfl⟩
          unfold qRem
          (repeat' split) <;> first | rfl | omega
        · replace h33 : ¬ ((if qMode P s n < 0 then (1 : Int) else 0) = 0) := h33
          refine x_lr (z := some 2281) T_245_36 rfl ?_
          refine x_li (z := s) T_245_37 rfl ?_
          refine x_li (z := n) T_245_38 rfl ?_
          refine x_ic T_245_39 ?_
          refine x_cv4 T_245_40 mN_253 mL_253 (Nat.le_of_ble_eq_true rfl) mO_253 (PM.t hP) (Nat.le_of_ble_eq_true rfl) (m_entry hP hI (by omega) (by omega)) ?_
          rintro _ σ ⟨rfl, rfl⟩
          refine cI ?_
          refine x_if T_245_43 (fun h43 => ?_) (fun h43 => ?_)
          · replace h43 : qEnt P s n 0 < 0 := h43
            refine x_ic T_245_51 ?_
            refine x_ri T_245_52 ?_
            refine ⟨?_, rfl⟩
            unfold qRem
            (repeat' split) <;> first | rfl | omega
          · replace h43 : ¬ (qEnt P s n 0 < 0) := h43
            refine x_ic T_245_46 ?_
            refine x_goto T_245_48 ?_
            refine x_ri T_245_52 ?_
            refine ⟨?_, rfl⟩
            unfold qRem
            (repeat' split) <;> first | rfl | omega
      · replace h22 : ¬ (¬ (if qMv P s (qUp P s n) u 2 = 0 then (0 : Int) else 1) = 0) := h22
        refine x_ic T_245_25 ?_
        refine x_ri T_245_26 ?_
        refine ⟨?_, rfl⟩
        unfold qRem
        (repeat' split) <;> first | rfl | omega
theorem gGone_f {lo hi : Int} {g : Nat} {k : Int} (h : g ≠ 2310) : gGone P lo hi n g k = P g k := if_neg (fun e => h e.1)
theorem gGone_o {lo hi : Int} {g : Nat} {k : Int} (h : k < lo ∨ hi ≤ k) : gGone P lo hi n g k = P g k := if_neg (fun e => by omega)
theorem gGone_z {lo : Int} : gGone P lo lo n = P := by
  funext g k
  exact if_neg (fun e => by omega)
theorem gGone_s {lo k z : Int} (h : lo ≤ k) (hz : z = if ¬ P 2310 k = 0 ∨ (¬ P 2304 k = 0 ∧ P 2306 k = n) then 1 else 0) : rU (gGone P lo k n) 2310 k z = gGone P lo (k + 1) n := by
  funext g j
  unfold rU gGone
  by_cases h1 : g = 2310 ∧ j = k
  · rw [if_pos h1, if_pos ⟨h1.1, by omega, by omega⟩, h1.2]
    exact hz
  · rw [if_neg h1]
    by_cases h2 : g = 2310 ∧ lo ≤ j ∧ j < k
    · rw [if_pos h2, if_pos (show g = 2310 ∧ lo ≤ j ∧ j < k + 1 from ⟨h2.1, h2.2.1, by omega⟩)]
    · rw [if_neg h2, if_neg (show ¬ (g = 2310 ∧ lo ≤ j ∧ j < k + 1) from fun e => by have e1 := e.1; have e2 := e.2; by_cases h3 : j = k; exact h1 ⟨e1, h3⟩; exact h2 ⟨e1, e2.1, by omega⟩)]
theorem gGrow_f {g : Nat} {k a : Int} (h1 : g ≠ 2292) (h2 : g ≠ 2296) : gGrow P s a u g k = P g k := by
  unfold gGrow
  rw [rU_f h2, rU_f h1]
theorem gGrow_v {k a : Int} : gGrow P s a u 2292 k = if k = 64 * s + a then P 2292 k + 1 else P 2292 k := by
  unfold gGrow
  rw [rU_f (by decide)]
  split
  · rename_i h; rw [h, rU_s]
  · rename_i h; rw [rU_k h]
theorem m_remove_loop (hs : 0 ≤ s ∧ s < 2) {f : Int} : ∀ (m : Nat) (k : Int) (σ : hM), k + m = 96 * s + 96 → 96 * s ≤ k → PM σ0 (gGone P (96 * s) k n) S σ → WP fb (d + 2) 254 68 [some (vR (some 2281)), some (vI s), some (vI n), some (vI u), some (vI f), some (vI k)] [] σ (rV σ0 (gGone P (96 * s) (96 * s + 96) n) S) := by
  intro m
  induction m with
  | zero =>
    intro k σ h1 h2 hP
    refine x_li (z := k) T_254_68 rfl ?_
    refine x_ic T_254_70 ?_
    refine x_li (z := s) T_254_72 rfl ?_
    refine x_ic T_254_73 ?_
    refine x_ib (w := (s + 1)) T_254_74 (fun h => absurd h.1 (by decide)) (w32_id (by omega) (by omega)) ?_
    refine x_ib (w := (96 * (s + 1))) T_254_75 (fun h => absurd h.1 (by decide)) (w32_id (by omega) (by omega)) ?_
    refine x_ic2 T_254_76 (fun _ => ?_) (fun h => absurd (show (96 * (s + 1)) ≤ k by omega) h)
    refine x_rv T_254_128 ?_
    exact ⟨rfl, by rw [show 96 * s + 96 = k by omega]; exact hP⟩
  | succ m ih =>
    intro k σ h1 h2 hP
    have ho : gGone P (96 * s) k n 2310 k = P 2310 k := gGone_o (Or.inr (Int.le_refl k))
    refine x_li (z := k) T_254_68 rfl ?_
    refine x_ic T_254_70 ?_
    refine x_li (z := s) T_254_72 rfl ?_
    refine x_ic T_254_73 ?_
    refine x_ib (w := (s + 1)) T_254_74 (fun h => absurd h.1 (by decide)) (w32_id (by omega) (by omega)) ?_
    refine x_ib (w := (96 * (s + 1))) T_254_75 (fun h => absurd h.1 (by decide)) (w32_id (by omega) (by omega)) ?_
    refine x_ic2 T_254_76 (fun h => absurd (show (96 * (s + 1)) ≤ k from h) (by omega)) (fun _ => ?_)
    refine x_lr (z := some 2281) T_254_79 rfl ?_
    refine x_gR (z := some 2310) T_254_80 F_17_34 (PM.t hP) (PM.r hP 34 2310 rfl) ?_
    refine x_li (z := k) T_254_83 rfl ?_
    refine x_cut (C := ¬ P 2310 k = 0 ∨ (¬ P 2304 k = 0 ∧ P 2306 k = n)) (J := 121) (ls1 := [some (vR (some 2281)), some (vI s), some (vI n), some (vI u), some (vI f), some (vI k)]) (sk := fun z => vI z :: [vI k, vR (some 2310)]) (fun z hz121 => ?_) (fun kJ121 => ?_)
    · refine y_aZP hP T_254_121 (by rw [hz121]; split <;> decide) 2310 288 rfl rfl rfl (by omega) (by omega) (fun σ hP => ?_)
      refine x_inc (w := (k + 1)) (ls1 := [some (vR (some 2281)), some (vI s), some (vI n), some (vI u), some (vI f), some (vI (k + 1))]) T_254_122 rfl (w32_id (by omega) (by omega)) rfl ?_
      refine x_goto T_254_125 ?_
      rw [gGone_s h2 hz121] at hP
      exact ih (k + 1) σ (by omega) (by omega) hP
    · refine x_lr (z := some 2281) T_254_85 rfl ?_
      refine x_gR (z := some 2310) T_254_86 F_17_34 (PM.t hP) (PM.r hP 34 2310 rfl) ?_
      refine x_li (z := k) T_254_89 rfl ?_
      refine x_alI (z := P 2310 k) T_254_91 (by decide) (PM.ta hP 2310 2 288 rfl rfl) (by omega) (by omega) (Eq.trans (PM.aP hP 2310 rfl rfl (by omega)) ho) ?_
      refine x_if T_254_92 (fun h92 => ?_) (fun h92 => ?_)
      · replace h92 : ¬ P 2310 k = 0 := h92
        refine x_ic T_254_116 ?_
        refine x_goto T_254_117 ?_
        exact kJ121 1 (if_pos (by omega)).symm
      · replace h92 : ¬ (¬ P 2310 k = 0) := h92
        refine x_lr (z := some 2281) T_254_95 rfl ?_
        refine x_gR (z := some 2304) T_254_96 F_17_28 (PM.t hP) (PM.r hP 28 2304 rfl) ?_
        refine x_li (z := k) T_254_99 rfl ?_
        refine x_alI (z := P 2304 k) T_254_101 (by decide) (PM.ta hP 2304 2 288 rfl rfl) (by omega) (by omega) (Eq.trans (PM.aP hP 2304 rfl rfl (by omega)) (gGone_f (Nat.ne_of_beq_eq_false rfl))) ?_
        refine x_if T_254_102 (fun h102 => ?_) (fun h102 => ?_)
        · replace h102 : P 2304 k = 0 := h102
          refine x_ic T_254_120 ?_
          exact kJ121 0 (if_neg (by omega)).symm
        · replace h102 : ¬ (P 2304 k = 0) := h102
          refine x_lr (z := some 2281) T_254_105 rfl ?_
          refine x_gR (z := some 2306) T_254_106 F_17_30 (PM.t hP) (PM.r hP 30 2306 rfl) ?_
          refine x_li (z := k) T_254_109 rfl ?_
          refine x_alI (z := P 2306 k) T_254_111 (by decide) (PM.ta hP 2306 0 288 rfl rfl) (by omega) (by omega) (Eq.trans (PM.aP hP 2306 rfl rfl (by omega)) (gGone_f (Nat.ne_of_beq_eq_false rfl))) ?_
          refine x_li (z := n) T_254_112 rfl ?_
          refine x_ic2 T_254_113 (fun h113 => ?_) (fun h113 => ?_)
          · replace h113 : ¬ P 2306 k = n := h113
            refine x_ic T_254_120 ?_
            exact kJ121 0 (if_neg (by omega)).symm
          · replace h113 : ¬ (¬ P 2306 k = n) := h113
            refine x_ic T_254_116 ?_
            refine x_goto T_254_117 ?_
            exact kJ121 1 (if_pos (by omega)).symm
theorem m_remove (hP : PM σ0 P S σ) (hI : IV false T U P) (hT : T ≤ 2147483000) (h : 0 ≤ s ∧ s < 2 ∧ 0 ≤ n ∧ n < 64) : CL fb (d + 2) 254 [vR (some 2281), vI s, vI n, vI u] σ (rV σ0 (gRem P s n u) S) := by
  refine CL_in mL_254 rfl ?_
  show WP fb _ 254 0 [some (vR (some 2281)), some (vI s), some (vI n), some (vI u), none, none] [] σ _
  refine x_li (z := s) T_254_0 rfl ?_
  refine x_li (z := n) T_254_1 rfl ?_
  refine x_cs2 T_254_2 mN_247 mL_247 (Nat.le_of_ble_eq_true rfl) mK_247 (Nat.le_of_ble_eq_true rfl) (m_place (by omega)) ?_
  rintro _ σ ⟨rfl, rfl⟩
  refine cI ?_
  refine x_si (ls1 := [some (vR (some 2281)), some (vI s), some (vI n), some (vI u), some (vI (64 * s + n)), none]) T_254_5 rfl ?_
  refine x_lr (z := some 2281) T_254_7 rfl ?_
  refine x_gR (z := some 2289) T_254_8 F_17_13 (PM.t hP) (PM.r hP 13 2289 rfl) ?_
  refine x_li (z := (64 * s + n)) T_254_11 rfl ?_
  refine x_ic T_254_13 ?_
  refine y_aZP hP T_254_14 rfl 2289 128 rfl rfl rfl (by omega) (by omega) (fun σ hP => ?_)
  refine x_lr (z := some 2281) T_254_15 rfl ?_
  refine x_gR (z := some 2302) T_254_16 F_17_26 (PM.t hP) (PM.r hP 26 2302 rfl) ?_
  refine x_li (z := s) T_254_19 rfl ?_
  refine x_dup2 T_254_20 ?_
  have b1 : 0 ≤ P 2302 s ∧ P 2302 s ≤ 64 := IV.a hI 2302 0 2 rfl rfl rfl (by omega) (by omega)
  refine x_alI (z := P 2302 s) T_254_21 (by decide) (PM.ta hP 2302 0 2 rfl rfl) (by omega) (by omega) (Eq.trans (PM.aP hP 2302 rfl rfl (by omega)) (rU_f (Nat.ne_of_beq_eq_false rfl))) ?_
  refine x_ic T_254_22 ?_
  refine x_ib (w := (P 2302 s - 1)) T_254_23 (fun h => absurd h.1 (by decide)) (w32_id (by omega) (by omega)) ?_
  refine y_aIP hP T_254_24 2302 2 rfl rfl rfl (by omega) (by omega) (fun σ hP => ?_)
  refine x_lr (z := some 2281) T_254_25 rfl ?_
  refine x_gR (z := some 2301) T_254_26 F_17_25 (PM.t hP) (PM.r hP 25 2301 rfl) ?_
  refine x_li (z := s) T_254_29 rfl ?_
  refine x_dup2 T_254_30 ?_
  have b2 : 0 ≤ P 2301 s ∧ P 2301 s ≤ 8192 := IV.a hI 2301 0 2 rfl rfl rfl (by omega) (by omega)
  refine x_alI (z := P 2301 s) T_254_31 (by decide) (PM.ta hP 2301 0 2 rfl rfl) (by omega) (by omega) (Eq.trans (PM.aP hP 2301 rfl rfl (by omega)) (Eq.trans (rU_f (Nat.ne_of_beq_eq_false rfl)) (rU_f (Nat.ne_of_beq_eq_false rfl)))) ?_
  refine x_lr (z := some 2281) T_254_32 rfl ?_
  refine x_gR (z := some 2297) T_254_33 F_17_21 (PM.t hP) (PM.r hP 21 2297 rfl) ?_
  refine x_li (z := (64 * s + n)) T_254_36 rfl ?_
  have b3 : 0 ≤ P 2297 (64 * s + n) ∧ P 2297 (64 * s + n) ≤ 600 := IV.a hI 2297 0 128 rfl rfl rfl (by omega) (by omega)
  refine x_alI (z := P 2297 (64 * s + n)) T_254_38 (by decide) (PM.ta hP 2297 0 128 rfl rfl) (by omega) (by omega) (Eq.trans (PM.aP hP 2297 rfl rfl (by omega)) (Eq.trans (rU_f (Nat.ne_of_beq_eq_false rfl)) (rU_f (Nat.ne_of_beq_eq_false rfl)))) ?_
  refine x_ib (w := (P 2301 s - P 2297 (64 * s + n))) T_254_39 (fun h => absurd h.1 (by decide)) (w32_id (by omega) (by omega)) ?_
  refine y_aIP hP T_254_40 2301 2 rfl rfl rfl (by omega) (by omega) (fun σ hP => ?_)
  refine x_lr (z := some 2281) T_254_41 rfl ?_
  refine x_gR (z := some 2297) T_254_42 F_17_21 (PM.t hP) (PM.r hP 21 2297 rfl) ?_
  refine x_li (z := (64 * s + n)) T_254_45 rfl ?_
  refine x_ic T_254_47 ?_
  refine y_aIP hP T_254_48 2297 128 rfl rfl rfl (by omega) (by omega) (fun σ hP => ?_)
  refine x_lr (z := some 2281) T_254_49 rfl ?_
  refine x_li (z := s) T_254_50 rfl ?_
  refine x_lr (z := some 2281) T_254_51 rfl ?_
  refine x_gR (z := some 2290) T_254_52 F_17_14 (PM.t hP) (PM.r hP 14 2290 rfl) ?_
  refine x_li (z := (64 * s + n)) T_254_55 rfl ?_
  have b4 : 0 ≤ P 2290 (64 * s + n) ∧ P 2290 (64 * s + n) ≤ 63 := IV.a hI 2290 0 128 rfl rfl rfl (by omega) (by omega)
  refine x_alI (z := P 2290 (64 * s + n)) T_254_57 (by decide) (PM.ta hP 2290 0 128 rfl rfl) (by omega) (by omega) (Eq.trans (PM.aP hP 2290 rfl rfl (by omega)) (Eq.trans (rU_f (Nat.ne_of_beq_eq_false rfl)) (Eq.trans (rU_f (Nat.ne_of_beq_eq_false rfl)) (Eq.trans (rU_f (Nat.ne_of_beq_eq_false rfl)) (rU_f (Nat.ne_of_beq_eq_false rfl)))))) ?_
  refine x_li (z := u) T_254_58 rfl ?_
  refine x_cv4 T_254_59 mN_255 mL_255 (Nat.le_of_ble_eq_true rfl) mO_255 (PM.t hP) (Nat.le_of_ble_eq_true rfl) (m_grow hP (Eq.trans (rU_f (Nat.ne_of_beq_eq_false rfl)) (Eq.trans (rU_f (Nat.ne_of_beq_eq_false rfl)) (Eq.trans (rU_f (Nat.ne_of_beq_eq_false rfl)) (rU_f (Nat.ne_of_beq_eq_false rfl))))) (by have b : 0 ≤ (P 2292 (64 * s + (P 2290 (64 * s + n)))) ∧ (P 2292 (64 * s + (P 2290 (64 * s + n)))) ≤ T := IV.a hI 2292 0 128 rfl rfl rfl (by omega) (by omega); omega) (by omega)) ?_
  rintro _ σ ⟨rfl, hP⟩
  refine cV ?_
  refine x_ic T_254_62 ?_
  refine x_li (z := s) T_254_64 rfl ?_
  refine x_ib (w := (96 * s)) T_254_65 (fun h => absurd h.1 (by decide)) (w32_id (by omega) (by omega)) ?_
  refine x_si (ls1 := [some (vR (some 2281)), some (vI s), some (vI n), some (vI u), some (vI (64 * s + n)), some (vI (96 * s))]) T_254_66 rfl ?_
  have e := m_remove_loop (fb := fb) (d := d) (s := s) (u := u) (f := 64 * s + n) (n := n) (P := gRem0 P s n u) (S := S) (σ0 := σ0) (by omega) 96 (96 * s) σ (by omega) (by omega) (by rw [gGone_z]; exact hP)
  exact e
theorem gZer_f {f g : Nat} {lo hi k : Int} (h : g ≠ f) : gZer P f lo hi g k = P g k := if_neg (fun e => h e.1)
theorem gSize_f {g : Nat} {k z : Int} (h1 : g ≠ 2300) (h2 : g ≠ 2301) (h3 : g ≠ 2297) : gSize P s n z g k = P g k := by
  unfold gSize
  rw [rU_f h3, rU_f h2, gZer_f h1]
theorem gZer_z {f : Nat} {lo hi : Int} (h : hi ≤ lo) : gZer P f lo hi = P := by
  funext g k
  exact if_neg (fun e => by omega)
theorem gZer_s {f : Nat} {lo k : Int} (h : lo ≤ k) : rU (gZer P f lo k) f k 0 = gZer P f lo (k + 1) := by
  funext g j
  unfold rU gZer
  by_cases h1 : g = f ∧ j = k
  · rw [if_pos h1, if_pos ⟨h1.1, by omega, by omega⟩]
  · rw [if_neg h1]
    by_cases h2 : g = f ∧ lo ≤ j ∧ j < k
    · rw [if_pos h2, if_pos ⟨h2.1, h2.2.1, by omega⟩]
    · rw [if_neg h2, if_neg (fun e => by have e1 := e.1; have e2 := e.2; by_cases h3 : j = k; exact h1 ⟨e1, h3⟩; exact h2 ⟨e1, e2.1, by omega⟩)]
theorem m_resize_loop {f o z : Int} (hf : 0 ≤ f ∧ f < 128) (ho : 0 ≤ o) (hz : z ≤ 600) {Q : Option AV → hM → Prop} (hQ : ∀ σ k, PM σ0 (gZer P 2300 (600 * f + o) (600 * f + z)) S σ → WP fb (d + 1) 276 43 [some (vR (some 2281)), some (vI s), some (vI n), some (vI z), some (vI f), some (vI k)] [] σ Q) : ∀ (m : Nat) (k : Int) (σ : hM), (k + m = z ∨ m = 0 ∧ z ≤ k ∧ k = o) → o ≤ k → PM σ0 (gZer P 2300 (600 * f + o) (600 * f + k)) S σ → WP fb (d + 1) 276 16 [some (vR (some 2281)), some (vI s), some (vI n), some (vI z), some (vI f), some (vI k)] [] σ Q := by
  intro m
  induction m with
  | zero =>
    intro k σ h1 h2 hP
    refine x_li (z := k) T_276_16 rfl ?_
    refine x_li (z := z) T_276_18 rfl ?_
    refine x_ic2 T_276_19 (fun _ => ?_) (fun h => absurd (show z ≤ k by omega) h)
    refine hQ σ k ?_
    rcases h1 with h1 | h1
    · rw [show z = k by omega]; exact hP
    · rw [gZer_z (by omega)]; rw [gZer_z (by omega)] at hP; exact hP
  | succ m ih =>
    intro k σ h1 h2 hP
    refine x_li (z := k) T_276_16 rfl ?_
    refine x_li (z := z) T_276_18 rfl ?_
    refine x_ic2 T_276_19 (fun h => absurd (show z ≤ k from h) (by omega)) (fun _ => ?_)
    refine x_lr (z := some 2281) T_276_22 rfl ?_
    refine x_gR (z := some 2300) T_276_23 F_17_24 (PM.t hP) (PM.r hP 24 2300 rfl) ?_
    refine x_ic T_276_26 ?_
    refine x_li (z := f) T_276_29 rfl ?_
    refine x_ib (w := (600 * f)) T_276_31 (fun h => absurd h.1 (by decide)) (w32_id (by omega) (by omega)) ?_
    refine x_li (z := k) T_276_32 rfl ?_
    refine x_ib (w := ((600 * f) + k)) T_276_34 (fun h => absurd h.1 (by decide)) (w32_id (by omega) (by omega)) ?_
    refine x_ic T_276_35 ?_
    refine y_aIP hP T_276_36 2300 76800 rfl rfl rfl (by omega) (by omega) (fun σ hP => ?_)
    refine x_inc (w := (k + 1)) (ls1 := [some (vR (some 2281)), some (vI s), some (vI n), some (vI z), some (vI f), some (vI (k + 1))]) T_276_37 rfl (w32_id (by omega) (by omega)) rfl ?_
    refine x_goto T_276_40 ?_
    rw [gZer_s (by omega)] at hP
    exact ih (k + 1) σ (by omega) (by omega) (by rw [← Int.add_assoc]; exact hP)
theorem m_resize {z : Int} (hP : PM σ0 P S σ) (hI : IV false T U P) (h : 0 ≤ s ∧ s < 2 ∧ 0 ≤ n ∧ n < 64) (hz : 0 ≤ z ∧ z ≤ 600) : CL fb (d + 1) 276 [vR (some 2281), vI s, vI n, vI z] σ (rV σ0 (gSize P s n z) S) := by
  refine CL_in mL_276 rfl ?_
  show WP fb _ 276 0 [some (vR (some 2281)), some (vI s), some (vI n), some (vI z), none, none] [] σ _
  refine x_li (z := s) T_276_0 rfl ?_
  refine x_li (z := n) T_276_1 rfl ?_
  refine x_cs2 T_276_2 mN_247 mL_247 (Nat.le_of_ble_eq_true rfl) mK_247 (Nat.le_of_ble_eq_true rfl) (m_place (by omega)) ?_
  rintro _ σ ⟨rfl, rfl⟩
  refine cI ?_
  refine x_si (ls1 := [some (vR (some 2281)), some (vI s), some (vI n), some (vI z), some (vI (64 * s + n)), none]) T_276_5 rfl ?_
  refine x_lr (z := some 2281) T_276_7 rfl ?_
  refine x_gR (z := some 2297) T_276_8 F_17_21 (PM.t hP) (PM.r hP 21 2297 rfl) ?_
  refine x_li (z := (64 * s + n)) T_276_11 rfl ?_
  have b1 : 0 ≤ P 2297 (64 * s + n) ∧ P 2297 (64 * s + n) ≤ 600 := IV.a hI 2297 0 128 rfl rfl rfl (by omega) (by omega)
  refine x_alI (z := P 2297 (64 * s + n)) T_276_13 (by decide) (PM.ta hP 2297 0 128 rfl rfl) (by omega) (by omega) (PM.aP hP 2297 rfl rfl (by omega)) ?_
  refine x_si (ls1 := [some (vR (some 2281)), some (vI s), some (vI n), some (vI z), some (vI (64 * s + n)), some (vI (P 2297 (64 * s + n)))]) T_276_14 rfl ?_
  refine m_resize_loop (P := P) (S := S) (f := 64 * s + n) (z := z) (o := P 2297 (64 * s + n)) (by omega) (by omega) (by omega) (fun σ k hP => ?_) (z - P 2297 (64 * s + n)).toNat _ σ (by omega) (by omega) (by rw [gZer_z (by omega)]; exact hP)
  refine x_lr (z := some 2281) T_276_43 rfl ?_
  refine x_gR (z := some 2301) T_276_44 F_17_25 (PM.t hP) (PM.r hP 25 2301 rfl) ?_
  refine x_li (z := s) T_276_47 rfl ?_
  refine x_dup2 T_276_48 ?_
  have b1 : 0 ≤ P 2301 s ∧ P 2301 s ≤ 8192 := IV.a hI 2301 0 2 rfl rfl rfl (by omega) (by omega)
  refine x_alI (z := P 2301 s) T_276_49 (by decide) (PM.ta hP 2301 0 2 rfl rfl) (by omega) (by omega) (Eq.trans (PM.aP hP 2301 rfl rfl (by omega)) (gZer_f (Nat.ne_of_beq_eq_false rfl))) ?_
  refine x_li (z := z) T_276_50 rfl ?_
  refine x_lr (z := some 2281) T_276_51 rfl ?_
  refine x_gR (z := some 2297) T_276_52 F_17_21 (PM.t hP) (PM.r hP 21 2297 rfl) ?_
  refine x_li (z := (64 * s + n)) T_276_55 rfl ?_
  have b2 : 0 ≤ P 2297 (64 * s + n) ∧ P 2297 (64 * s + n) ≤ 600 := IV.a hI 2297 0 128 rfl rfl rfl (by omega) (by omega)
  refine x_alI (z := P 2297 (64 * s + n)) T_276_57 (by decide) (PM.ta hP 2297 0 128 rfl rfl) (by omega) (by omega) (Eq.trans (PM.aP hP 2297 rfl rfl (by omega)) (gZer_f (Nat.ne_of_beq_eq_false rfl))) ?_
  refine x_ib (w := (z - P 2297 (64 * s + n))) T_276_58 (fun h => absurd h.1 (by decide)) (w32_id (by omega) (by omega)) ?_
  refine x_ib (w := (P 2301 s + (z - P 2297 (64 * s + n)))) T_276_59 (fun h => absurd h.1 (by decide)) (w32_id (by omega) (by omega)) ?_
  refine y_aIP hP T_276_60 2301 2 rfl rfl rfl (by omega) (by omega) (fun σ hP => ?_)
  refine x_lr (z := some 2281) T_276_61 rfl ?_
  refine x_gR (z := some 2297) T_276_62 F_17_21 (PM.t hP) (PM.r hP 21 2297 rfl) ?_
  refine x_li (z := (64 * s + n)) T_276_65 rfl ?_
  refine x_li (z := z) T_276_67 rfl ?_
  refine y_aIP hP T_276_68 2297 128 rfl rfl rfl (by omega) (by omega) (fun σ hP => ?_)
  refine x_rv T_276_69 ?_
  exact ⟨rfl, hP⟩
end MFID
