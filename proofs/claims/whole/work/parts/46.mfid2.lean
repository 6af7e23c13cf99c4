/-! The reference's names that are good, its fids, and what it tells of files. -/
theorem T_240_0 : hTab 240 0 = some ((3, 0, 2, []), 1) := rfl
theorem T_240_1 : hTab 240 1 = some ((0, 0, 2, []), 2) := rfl
theorem T_240_2 : hTab 240 2 = some ((31, 234, 0, []), 5) := rfl
theorem T_240_5 : hTab 240 5 = some ((15, 0, 0, []), 6) := rfl
theorem T_240_6 : hTab 240 6 = some ((4, 1, 0, []), 7) := rfl
theorem T_240_7 : hTab 240 7 = some ((3, 0, 2, []), 8) := rfl
theorem T_240_8 : hTab 240 8 = some ((24, 17, Int.ofNat 9, []), 11) := rfl
theorem T_240_11 : hTab 240 11 = some ((18, 1, Int.ofNat 27, []), 14) := rfl
theorem T_240_14 : hTab 240 14 = some ((3, 0, 2, []), 15) := rfl
theorem T_240_15 : hTab 240 15 = some ((24, 17, Int.ofNat 8, []), 18) := rfl
theorem T_240_18 : hTab 240 18 = some ((3, 1, 0, []), 19) := rfl
theorem T_240_19 : hTab 240 19 = some ((10, 0, 0, []), 20) := rfl
theorem T_240_20 : hTab 240 20 = some ((3, 0, 2, []), 21) := rfl
theorem T_240_21 : hTab 240 21 = some ((24, 17, Int.ofNat 4, []), 24) := rfl
theorem T_240_24 : hTab 240 24 = some ((19, 5, Int.ofNat 43, []), 27) := rfl
theorem T_240_27 : hTab 240 27 = some ((3, 0, 2, []), 28) := rfl
theorem T_240_28 : hTab 240 28 = some ((0, 0, 1, []), 29) := rfl
theorem T_240_29 : hTab 240 29 = some ((25, 17, Int.ofNat 9, []), 32) := rfl
theorem T_240_32 : hTab 240 32 = some ((3, 0, 2, []), 33) := rfl
theorem T_240_33 : hTab 240 33 = some ((3, 0, 2, []), 34) := rfl
theorem T_240_34 : hTab 240 34 = some ((24, 17, Int.ofNat 4, []), 37) := rfl
theorem T_240_37 : hTab 240 37 = some ((0, 0, 1, []), 38) := rfl
theorem T_240_38 : hTab 240 38 = some ((10, 0, 0, []), 39) := rfl
theorem T_240_39 : hTab 240 39 = some ((25, 17, Int.ofNat 8, []), 42) := rfl
theorem T_240_42 : hTab 240 42 = some ((33, 0, 0, []), 43) := rfl
theorem T_240_43 : hTab 240 43 = some ((3, 0, 2, []), 44) := rfl
theorem T_240_44 : hTab 240 44 = some ((24, 17, Int.ofNat 12, []), 47) := rfl
theorem T_240_47 : hTab 240 47 = some ((0, 0, 8, []), 49) := rfl
theorem T_240_49 : hTab 240 49 = some ((19, 3, Int.ofNat 75, []), 52) := rfl
theorem T_240_52 : hTab 240 52 = some ((3, 0, 2, []), 53) := rfl
theorem T_240_53 : hTab 240 53 = some ((24, 17, Int.ofNat 10, []), 56) := rfl
theorem T_240_56 : hTab 240 56 = some ((3, 0, 2, []), 57) := rfl
theorem T_240_57 : hTab 240 57 = some ((24, 17, Int.ofNat 12, []), 60) := rfl
theorem T_240_60 : hTab 240 60 = some ((3, 0, 2, []), 61) := rfl
theorem T_240_61 : hTab 240 61 = some ((24, 17, Int.ofNat 8, []), 64) := rfl
theorem T_240_64 : hTab 240 64 = some ((27, 0, 0, []), 65) := rfl
theorem T_240_65 : hTab 240 65 = some ((3, 0, 2, []), 66) := rfl
theorem T_240_66 : hTab 240 66 = some ((24, 17, Int.ofNat 11, []), 69) := rfl
theorem T_240_69 : hTab 240 69 = some ((3, 0, 2, []), 70) := rfl
theorem T_240_70 : hTab 240 70 = some ((24, 17, Int.ofNat 12, []), 73) := rfl
theorem T_240_73 : hTab 240 73 = some ((3, 1, 0, []), 74) := rfl
theorem T_240_74 : hTab 240 74 = some ((27, 0, 0, []), 75) := rfl
theorem T_240_75 : hTab 240 75 = some ((3, 0, 2, []), 76) := rfl
theorem T_240_76 : hTab 240 76 = some ((6, 0, 0, []), 77) := rfl
theorem T_240_77 : hTab 240 77 = some ((24, 17, Int.ofNat 12, []), 80) := rfl
theorem T_240_80 : hTab 240 80 = some ((0, 0, 1, []), 81) := rfl
theorem T_240_81 : hTab 240 81 = some ((10, 0, 0, []), 82) := rfl
theorem T_240_82 : hTab 240 82 = some ((25, 17, Int.ofNat 12, []), 85) := rfl
theorem T_240_85 : hTab 240 85 = some ((3, 0, 2, []), 86) := rfl
theorem T_240_86 : hTab 240 86 = some ((6, 0, 0, []), 87) := rfl
theorem T_240_87 : hTab 240 87 = some ((24, 17, Int.ofNat 8, []), 90) := rfl
theorem T_240_90 : hTab 240 90 = some ((3, 1, 0, []), 91) := rfl
theorem T_240_91 : hTab 240 91 = some ((10, 0, 0, []), 92) := rfl
theorem T_240_92 : hTab 240 92 = some ((25, 17, Int.ofNat 8, []), 95) := rfl
theorem T_240_95 : hTab 240 95 = some ((33, 0, 0, []), 96) := rfl
theorem T_241_0 : hTab 241 0 = some ((3, 0, 2, []), 1) := rfl
theorem T_241_1 : hTab 241 1 = some ((24, 17, Int.ofNat 9, []), 4) := rfl
theorem T_241_4 : hTab 241 4 = some ((18, 1, Int.ofNat 18, []), 7) := rfl
theorem T_241_7 : hTab 241 7 = some ((3, 0, 2, []), 8) := rfl
theorem T_241_8 : hTab 241 8 = some ((24, 17, Int.ofNat 8, []), 11) := rfl
theorem T_241_11 : hTab 241 11 = some ((3, 0, 2, []), 12) := rfl
theorem T_241_12 : hTab 241 12 = some ((24, 17, Int.ofNat 4, []), 15) := rfl
theorem T_241_15 : hTab 241 15 = some ((19, 0, Int.ofNat 26, []), 18) := rfl
theorem T_241_18 : hTab 241 18 = some ((3, 0, 2, []), 19) := rfl
theorem T_241_19 : hTab 241 19 = some ((0, 0, 14, []), 21) := rfl
theorem T_241_21 : hTab 241 21 = some ((31, 235, 0, []), 24) := rfl
theorem T_241_24 : hTab 241 24 = some ((0, 0, 0, []), 25) := rfl
theorem T_241_25 : hTab 241 25 = some ((33, 2, 0, []), 26) := rfl
theorem T_241_26 : hTab 241 26 = some ((0, 0, 1, []), 27) := rfl
theorem T_241_27 : hTab 241 27 = some ((33, 2, 0, []), 28) := rfl
theorem T_244_0 : hTab 244 0 = some ((3, 0, 2, []), 1) := rfl
theorem T_244_1 : hTab 244 1 = some ((24, 17, Int.ofNat 33, []), 4) := rfl
theorem T_244_4 : hTab 244 4 = some ((3, 2, 0, []), 5) := rfl
theorem T_244_5 : hTab 244 5 = some ((26, 0, 0, []), 6) := rfl
theorem T_244_6 : hTab 244 6 = some ((18, 2, Int.ofNat 34, []), 9) := rfl
theorem T_244_9 : hTab 244 9 = some ((3, 0, 2, []), 10) := rfl
theorem T_244_10 : hTab 244 10 = some ((24, 17, Int.ofNat 33, []), 13) := rfl
theorem T_244_13 : hTab 244 13 = some ((3, 2, 0, []), 14) := rfl
theorem T_244_14 : hTab 244 14 = some ((26, 0, 0, []), 15) := rfl
theorem T_244_15 : hTab 244 15 = some ((0, 0, 64, []), 17) := rfl
theorem T_244_17 : hTab 244 17 = some ((10, 5, 0, []), 18) := rfl
theorem T_244_18 : hTab 244 18 = some ((18, 0, Int.ofNat 34, []), 21) := rfl
theorem T_244_21 : hTab 244 21 = some ((3, 0, 2, []), 22) := rfl
theorem T_244_22 : hTab 244 22 = some ((24, 17, Int.ofNat 34, []), 25) := rfl
theorem T_244_25 : hTab 244 25 = some ((3, 2, 0, []), 26) := rfl
theorem T_244_26 : hTab 244 26 = some ((26, 2, 0, []), 27) := rfl
theorem T_244_27 : hTab 244 27 = some ((18, 1, Int.ofNat 34, []), 30) := rfl
theorem T_244_30 : hTab 244 30 = some ((0, 0, 1, []), 31) := rfl
theorem T_244_31 : hTab 244 31 = some ((22, 0, Int.ofNat 35, []), 34) := rfl
theorem T_244_34 : hTab 244 34 = some ((0, 0, 0, []), 35) := rfl
theorem T_244_35 : hTab 244 35 = some ((4, 3, 0, []), 36) := rfl
theorem T_244_36 : hTab 244 36 = some ((3, 3, 0, []), 37) := rfl
theorem T_244_37 : hTab 244 37 = some ((18, 0, Int.ofNat 77, []), 40) := rfl
theorem T_244_40 : hTab 244 40 = some ((3, 0, 2, []), 41) := rfl
theorem T_244_41 : hTab 244 41 = some ((3, 1, 0, []), 42) := rfl
theorem T_244_42 : hTab 244 42 = some ((3, 0, 2, []), 43) := rfl
theorem T_244_43 : hTab 244 43 = some ((24, 17, Int.ofNat 30, []), 46) := rfl
theorem T_244_46 : hTab 244 46 = some ((3, 2, 0, []), 47) := rfl
theorem T_244_47 : hTab 244 47 = some ((26, 0, 0, []), 48) := rfl
theorem T_244_48 : hTab 244 48 = some ((3, 0, 2, []), 49) := rfl
theorem T_244_49 : hTab 244 49 = some ((24, 17, Int.ofNat 32, []), 52) := rfl
theorem T_244_52 : hTab 244 52 = some ((3, 2, 0, []), 53) := rfl
theorem T_244_53 : hTab 244 53 = some ((26, 0, 0, []), 54) := rfl
theorem T_244_54 : hTab 244 54 = some ((31, 245, 0, []), 57) := rfl
theorem T_244_57 : hTab 244 57 = some ((18, 1, Int.ofNat 77, []), 60) := rfl
theorem T_244_60 : hTab 244 60 = some ((3, 0, 2, []), 61) := rfl
theorem T_244_61 : hTab 244 61 = some ((3, 1, 0, []), 62) := rfl
theorem T_244_62 : hTab 244 62 = some ((3, 0, 2, []), 63) := rfl
theorem T_244_63 : hTab 244 63 = some ((24, 17, Int.ofNat 30, []), 66) := rfl
theorem T_244_66 : hTab 244 66 = some ((3, 2, 0, []), 67) := rfl
theorem T_244_67 : hTab 244 67 = some ((26, 0, 0, []), 68) := rfl
theorem T_244_68 : hTab 244 68 = some ((3, 0, 2, []), 69) := rfl
theorem T_244_69 : hTab 244 69 = some ((24, 17, Int.ofNat 32, []), 72) := rfl
theorem T_244_72 : hTab 244 72 = some ((3, 2, 0, []), 73) := rfl
theorem T_244_73 : hTab 244 73 = some ((26, 0, 0, []), 74) := rfl
theorem T_244_74 : hTab 244 74 = some ((31, 254, 0, []), 77) := rfl
theorem T_244_77 : hTab 244 77 = some ((3, 0, 2, []), 78) := rfl
theorem T_244_78 : hTab 244 78 = some ((24, 17, Int.ofNat 28, []), 81) := rfl
theorem T_244_81 : hTab 244 81 = some ((3, 2, 0, []), 82) := rfl
theorem T_244_82 : hTab 244 82 = some ((0, 0, 0, []), 83) := rfl
theorem T_244_83 : hTab 244 83 = some ((27, 2, 0, []), 84) := rfl
theorem T_244_84 : hTab 244 84 = some ((33, 0, 0, []), 85) := rfl
theorem T_260_0 : hTab 260 0 = some ((3, 1, 0, []), 1) := rfl
theorem T_260_1 : hTab 260 1 = some ((3, 2, 0, []), 2) := rfl
theorem T_260_2 : hTab 260 2 = some ((31, 243, 0, []), 5) := rfl
theorem T_260_5 : hTab 260 5 = some ((4, 3, 0, []), 6) := rfl
theorem T_260_6 : hTab 260 6 = some ((3, 3, 0, []), 7) := rfl
theorem T_260_7 : hTab 260 7 = some ((3, 1, 0, []), 8) := rfl
theorem T_260_8 : hTab 260 8 = some ((3, 2, 0, []), 9) := rfl
theorem T_260_9 : hTab 260 9 = some ((31, 243, 0, []), 12) := rfl
theorem T_260_12 : hTab 260 12 = some ((0, 0, 48, []), 14) := rfl
theorem T_260_14 : hTab 260 14 = some ((10, 0, 0, []), 15) := rfl
theorem T_260_15 : hTab 260 15 = some ((19, 3, Int.ofNat 35, []), 18) := rfl
theorem T_260_18 : hTab 260 18 = some ((3, 0, 2, []), 19) := rfl
theorem T_260_19 : hTab 260 19 = some ((24, 17, Int.ofNat 28, []), 22) := rfl
theorem T_260_22 : hTab 260 22 = some ((3, 3, 0, []), 23) := rfl
theorem T_260_23 : hTab 260 23 = some ((26, 2, 0, []), 24) := rfl
theorem T_260_24 : hTab 260 24 = some ((18, 1, Int.ofNat 29, []), 27) := rfl
theorem T_260_27 : hTab 260 27 = some ((3, 3, 0, []), 28) := rfl
theorem T_260_28 : hTab 260 28 = some ((33, 1, 0, []), 29) := rfl
theorem T_260_29 : hTab 260 29 = some ((5, 3, 1, []), 32) := rfl
theorem T_260_32 : hTab 260 32 = some ((22, 0, Int.ofNat 6, []), 35) := rfl
theorem T_260_35 : hTab 260 35 = some ((0, 0, (-1), []), 36) := rfl
theorem T_260_36 : hTab 260 36 = some ((33, 1, 0, []), 37) := rfl
theorem T_261_30 : hTab 261 30 = some ((3, 0, 2, []), 31) := rfl
theorem T_261_31 : hTab 261 31 = some ((24, 17, Int.ofNat 29, []), 34) := rfl
theorem T_261_34 : hTab 261 34 = some ((3, 5, 0, []), 36) := rfl
theorem T_261_36 : hTab 261 36 = some ((26, 3, 0, []), 37) := rfl
theorem T_261_37 : hTab 261 37 = some ((3, 3, 1, []), 38) := rfl
theorem T_261_38 : hTab 261 38 = some ((17, 0, 0, []), 39) := rfl
theorem T_261_39 : hTab 261 39 = some ((18, 1, Int.ofNat 45, []), 42) := rfl
theorem T_261_42 : hTab 261 42 = some ((3, 5, 0, []), 44) := rfl
theorem T_261_44 : hTab 261 44 = some ((33, 1, 0, []), 45) := rfl
theorem T_262_0 : hTab 262 0 = some ((3, 0, 2, []), 1) := rfl
theorem T_262_1 : hTab 262 1 = some ((24, 17, Int.ofNat 31, []), 4) := rfl
theorem T_262_4 : hTab 262 4 = some ((3, 1, 0, []), 5) := rfl
theorem T_262_5 : hTab 262 5 = some ((3, 0, 2, []), 6) := rfl
theorem T_262_6 : hTab 262 6 = some ((3, 1, 0, []), 7) := rfl
theorem T_262_7 : hTab 262 7 = some ((0, 0, 96, []), 9) := rfl
theorem T_262_9 : hTab 262 9 = some ((10, 3, 0, []), 10) := rfl
theorem T_262_10 : hTab 262 10 = some ((3, 4, 0, []), 12) := rfl
theorem T_262_12 : hTab 262 12 = some ((31, 263, 0, []), 15) := rfl
theorem T_262_15 : hTab 262 15 = some ((27, 0, 0, []), 16) := rfl
theorem T_262_16 : hTab 262 16 = some ((3, 0, 2, []), 17) := rfl
theorem T_262_17 : hTab 262 17 = some ((24, 17, Int.ofNat 28, []), 20) := rfl
theorem T_262_20 : hTab 262 20 = some ((3, 1, 0, []), 21) := rfl
theorem T_262_21 : hTab 262 21 = some ((0, 0, 1, []), 22) := rfl
theorem T_262_22 : hTab 262 22 = some ((27, 2, 0, []), 23) := rfl
theorem T_262_23 : hTab 262 23 = some ((3, 0, 2, []), 24) := rfl
theorem T_262_24 : hTab 262 24 = some ((24, 17, Int.ofNat 29, []), 27) := rfl
theorem T_262_27 : hTab 262 27 = some ((3, 1, 0, []), 28) := rfl
theorem T_262_28 : hTab 262 28 = some ((3, 2, 1, []), 29) := rfl
theorem T_262_29 : hTab 262 29 = some ((27, 3, 0, []), 30) := rfl
theorem T_262_30 : hTab 262 30 = some ((3, 0, 2, []), 31) := rfl
theorem T_262_31 : hTab 262 31 = some ((24, 17, Int.ofNat 30, []), 34) := rfl
theorem T_262_34 : hTab 262 34 = some ((3, 1, 0, []), 35) := rfl
theorem T_262_35 : hTab 262 35 = some ((3, 4, 0, []), 37) := rfl
theorem T_262_37 : hTab 262 37 = some ((27, 0, 0, []), 38) := rfl
theorem T_262_38 : hTab 262 38 = some ((3, 0, 2, []), 39) := rfl
theorem T_262_39 : hTab 262 39 = some ((24, 17, Int.ofNat 32, []), 42) := rfl
theorem T_262_42 : hTab 262 42 = some ((3, 1, 0, []), 43) := rfl
theorem T_262_43 : hTab 262 43 = some ((3, 5, 0, []), 45) := rfl
theorem T_262_45 : hTab 262 45 = some ((27, 0, 0, []), 46) := rfl
theorem T_262_46 : hTab 262 46 = some ((3, 0, 2, []), 47) := rfl
theorem T_262_47 : hTab 262 47 = some ((24, 17, Int.ofNat 33, []), 50) := rfl
theorem T_262_50 : hTab 262 50 = some ((3, 1, 0, []), 51) := rfl
theorem T_262_51 : hTab 262 51 = some ((0, 0, (-1), []), 52) := rfl
theorem T_262_52 : hTab 262 52 = some ((27, 0, 0, []), 53) := rfl
theorem T_262_53 : hTab 262 53 = some ((3, 0, 2, []), 54) := rfl
theorem T_262_54 : hTab 262 54 = some ((24, 17, Int.ofNat 34, []), 57) := rfl
theorem T_262_57 : hTab 262 57 = some ((3, 1, 0, []), 58) := rfl
theorem T_262_58 : hTab 262 58 = some ((0, 0, 0, []), 59) := rfl
theorem T_262_59 : hTab 262 59 = some ((27, 2, 0, []), 60) := rfl
theorem T_262_60 : hTab 262 60 = some ((3, 0, 2, []), 61) := rfl
theorem T_262_61 : hTab 262 61 = some ((24, 17, Int.ofNat 35, []), 64) := rfl
theorem T_262_64 : hTab 262 64 = some ((3, 1, 0, []), 65) := rfl
theorem T_262_65 : hTab 262 65 = some ((1, 0, 0, []), 66) := rfl
theorem T_262_66 : hTab 262 66 = some ((27, 3, 0, []), 67) := rfl
theorem T_262_67 : hTab 262 67 = some ((3, 0, 2, []), 68) := rfl
theorem T_262_68 : hTab 262 68 = some ((24, 17, Int.ofNat 36, []), 71) := rfl
theorem T_262_71 : hTab 262 71 = some ((3, 1, 0, []), 72) := rfl
theorem T_262_72 : hTab 262 72 = some ((0, 0, 0, []), 73) := rfl
theorem T_262_73 : hTab 262 73 = some ((27, 0, 0, []), 74) := rfl
theorem T_262_74 : hTab 262 74 = some ((33, 0, 0, []), 75) := rfl
theorem T_264_0 : hTab 264 0 = some ((3, 0, 2, []), 1) := rfl
theorem T_264_1 : hTab 264 1 = some ((3, 1, 0, []), 2) := rfl
theorem T_264_2 : hTab 264 2 = some ((3, 2, 0, []), 3) := rfl
theorem T_264_3 : hTab 264 3 = some ((31, 249, 0, []), 6) := rfl
theorem T_264_6 : hTab 264 6 = some ((4, 3, 0, []), 7) := rfl
theorem T_264_7 : hTab 264 7 = some ((3, 0, 2, []), 8) := rfl
theorem T_264_8 : hTab 264 8 = some ((0, 0, 1, []), 9) := rfl
theorem T_264_9 : hTab 264 9 = some ((3, 3, 0, []), 10) := rfl
theorem T_264_10 : hTab 264 10 = some ((18, 3, Int.ofNat 19, []), 13) := rfl
theorem T_264_13 : hTab 264 13 = some ((1, 0, 128, []), 16) := rfl
theorem T_264_16 : hTab 264 16 = some ((22, 0, Int.ofNat 34, []), 19) := rfl
theorem T_264_19 : hTab 264 19 = some ((3, 3, 0, []), 20) := rfl
theorem T_264_20 : hTab 264 20 = some ((0, 0, 1073741824, []), 23) := rfl
theorem T_264_23 : hTab 264 23 = some ((10, 5, 0, []), 24) := rfl
theorem T_264_24 : hTab 264 24 = some ((18, 0, Int.ofNat 33, []), 27) := rfl
theorem T_264_27 : hTab 264 27 = some ((1, 0, 64, []), 30) := rfl
theorem T_264_30 : hTab 264 30 = some ((22, 0, Int.ofNat 34, []), 33) := rfl
theorem T_264_33 : hTab 264 33 = some ((1, 0, 0, []), 34) := rfl
theorem T_264_34 : hTab 264 34 = some ((31, 237, 0, []), 37) := rfl
theorem T_264_37 : hTab 264 37 = some ((3, 0, 2, []), 38) := rfl
theorem T_264_38 : hTab 264 38 = some ((0, 0, 4, []), 39) := rfl
theorem T_264_39 : hTab 264 39 = some ((3, 0, 2, []), 40) := rfl
theorem T_264_40 : hTab 264 40 = some ((3, 1, 0, []), 41) := rfl
theorem T_264_41 : hTab 264 41 = some ((3, 2, 0, []), 42) := rfl
theorem T_264_42 : hTab 264 42 = some ((31, 265, 0, []), 45) := rfl
theorem T_264_45 : hTab 264 45 = some ((14, 0, 0, []), 46) := rfl
theorem T_264_46 : hTab 264 46 = some ((31, 237, 0, []), 49) := rfl
theorem T_264_49 : hTab 264 49 = some ((3, 0, 2, []), 50) := rfl
theorem T_264_50 : hTab 264 50 = some ((0, 0, 8, []), 52) := rfl
theorem T_264_52 : hTab 264 52 = some ((3, 0, 2, []), 53) := rfl
theorem T_264_53 : hTab 264 53 = some ((3, 1, 0, []), 54) := rfl
theorem T_264_54 : hTab 264 54 = some ((3, 2, 0, []), 55) := rfl
theorem T_264_55 : hTab 264 55 = some ((31, 263, 0, []), 58) := rfl
theorem T_264_58 : hTab 264 58 = some ((14, 0, 0, []), 59) := rfl
theorem T_264_59 : hTab 264 59 = some ((31, 237, 0, []), 62) := rfl
theorem T_264_62 : hTab 264 62 = some ((33, 0, 0, []), 63) := rfl
theorem T_281_0 : hTab 281 0 = some ((3, 2, 0, []), 1) := rfl
theorem T_281_1 : hTab 281 1 = some ((14, 0, 0, []), 2) := rfl
theorem T_281_2 : hTab 281 2 = some ((1, 0, 1, []), 3) := rfl
theorem T_281_3 : hTab 281 3 = some ((1, 0, 12, []), 6) := rfl
theorem T_281_6 : hTab 281 6 = some ((31, 282, 0, []), 9) := rfl
theorem T_281_9 : hTab 281 9 = some ((4, 3, 0, []), 10) := rfl
theorem T_281_10 : hTab 281 10 = some ((0, 0, 0, []), 11) := rfl
theorem T_281_11 : hTab 281 11 = some ((4, 4, 0, []), 13) := rfl
theorem T_281_13 : hTab 281 13 = some ((3, 4, 0, []), 15) := rfl
theorem T_281_15 : hTab 281 15 = some ((3, 2, 0, []), 16) := rfl
theorem T_281_16 : hTab 281 16 = some ((19, 3, Int.ofNat 42, []), 19) := rfl
theorem T_281_19 : hTab 281 19 = some ((3, 3, 0, []), 20) := rfl
theorem T_281_20 : hTab 281 20 = some ((18, 0, Int.ofNat 42, []), 23) := rfl
theorem T_281_23 : hTab 281 23 = some ((3, 0, 2, []), 24) := rfl
theorem T_281_24 : hTab 281 24 = some ((24, 17, Int.ofNat 3, []), 27) := rfl
theorem T_281_27 : hTab 281 27 = some ((3, 1, 0, []), 28) := rfl
theorem T_281_28 : hTab 281 28 = some ((3, 4, 0, []), 30) := rfl
theorem T_281_30 : hTab 281 30 = some ((10, 0, 0, []), 31) := rfl
theorem T_281_31 : hTab 281 31 = some ((26, 0, 0, []), 32) := rfl
theorem T_281_32 : hTab 281 32 = some ((31, 283, 0, []), 35) := rfl
theorem T_281_35 : hTab 281 35 = some ((4, 3, 0, []), 36) := rfl
theorem T_281_36 : hTab 281 36 = some ((5, 4, 1, []), 39) := rfl
theorem T_281_39 : hTab 281 39 = some ((22, 0, Int.ofNat 13, []), 42) := rfl
theorem T_281_42 : hTab 281 42 = some ((3, 3, 0, []), 43) := rfl
theorem T_281_43 : hTab 281 43 = some ((18, 0, Int.ofNat 84, []), 46) := rfl
theorem T_281_46 : hTab 281 46 = some ((3, 0, 2, []), 47) := rfl
theorem T_281_47 : hTab 281 47 = some ((24, 17, Int.ofNat 3, []), 50) := rfl
theorem T_281_50 : hTab 281 50 = some ((3, 1, 0, []), 51) := rfl
theorem T_281_51 : hTab 281 51 = some ((26, 0, 0, []), 52) := rfl
theorem T_281_52 : hTab 281 52 = some ((0, 0, 46, []), 54) := rfl
theorem T_281_54 : hTab 281 54 = some ((19, 1, Int.ofNat 84, []), 57) := rfl
theorem T_281_57 : hTab 281 57 = some ((3, 2, 0, []), 58) := rfl
theorem T_281_58 : hTab 281 58 = some ((0, 0, 1, []), 59) := rfl
theorem T_281_59 : hTab 281 59 = some ((19, 0, Int.ofNat 80, []), 62) := rfl
theorem T_281_62 : hTab 281 62 = some ((3, 2, 0, []), 63) := rfl
theorem T_281_63 : hTab 281 63 = some ((0, 0, 2, []), 64) := rfl
theorem T_281_64 : hTab 281 64 = some ((19, 1, Int.ofNat 84, []), 67) := rfl
theorem T_281_67 : hTab 281 67 = some ((3, 0, 2, []), 68) := rfl
theorem T_281_68 : hTab 281 68 = some ((24, 17, Int.ofNat 3, []), 71) := rfl
theorem T_281_71 : hTab 281 71 = some ((3, 1, 0, []), 72) := rfl
theorem T_281_72 : hTab 281 72 = some ((0, 0, 1, []), 73) := rfl
theorem T_281_73 : hTab 281 73 = some ((10, 0, 0, []), 74) := rfl
theorem T_281_74 : hTab 281 74 = some ((26, 0, 0, []), 75) := rfl
theorem T_281_75 : hTab 281 75 = some ((0, 0, 46, []), 77) := rfl
theorem T_281_77 : hTab 281 77 = some ((19, 1, Int.ofNat 84, []), 80) := rfl
theorem T_281_80 : hTab 281 80 = some ((0, 0, 1, []), 81) := rfl
theorem T_281_81 : hTab 281 81 = some ((22, 0, Int.ofNat 85, []), 84) := rfl
theorem T_281_84 : hTab 281 84 = some ((0, 0, 0, []), 85) := rfl
theorem T_281_85 : hTab 281 85 = some ((4, 4, 0, []), 87) := rfl
theorem T_281_87 : hTab 281 87 = some ((3, 3, 0, []), 88) := rfl
theorem T_281_88 : hTab 281 88 = some ((18, 0, Int.ofNat 100, []), 91) := rfl
theorem T_281_91 : hTab 281 91 = some ((3, 4, 0, []), 93) := rfl
theorem T_281_93 : hTab 281 93 = some ((18, 1, Int.ofNat 100, []), 96) := rfl
theorem T_281_96 : hTab 281 96 = some ((0, 0, 1, []), 97) := rfl
theorem T_281_97 : hTab 281 97 = some ((22, 0, Int.ofNat 101, []), 100) := rfl
theorem T_281_100 : hTab 281 100 = some ((0, 0, 0, []), 101) := rfl
theorem T_281_101 : hTab 281 101 = some ((33, 2, 0, []), 102) := rfl
theorem T_283_0 : hTab 283 0 = some ((3, 0, 0, []), 1) := rfl
theorem T_283_1 : hTab 283 1 = some ((14, 0, 0, []), 2) := rfl
theorem T_283_2 : hTab 283 2 = some ((1, 0, 33, []), 5) := rfl
theorem T_283_5 : hTab 283 5 = some ((1, 0, 126, []), 8) := rfl
theorem T_283_8 : hTab 283 8 = some ((31, 282, 0, []), 11) := rfl
theorem T_283_11 : hTab 283 11 = some ((18, 0, Int.ofNat 24, []), 14) := rfl
theorem T_283_14 : hTab 283 14 = some ((3, 0, 0, []), 15) := rfl
theorem T_283_15 : hTab 283 15 = some ((0, 0, 47, []), 17) := rfl
theorem T_283_17 : hTab 283 17 = some ((19, 0, Int.ofNat 24, []), 20) := rfl
theorem T_283_20 : hTab 283 20 = some ((0, 0, 1, []), 21) := rfl
theorem T_283_21 : hTab 283 21 = some ((22, 0, Int.ofNat 25, []), 24) := rfl
theorem T_283_24 : hTab 283 24 = some ((0, 0, 0, []), 25) := rfl
theorem T_283_25 : hTab 283 25 = some ((33, 2, 0, []), 26) := rfl
theorem T_284_0 : hTab 284 0 = some ((3, 1, 0, []), 1) := rfl
theorem T_284_1 : hTab 284 1 = some ((3, 2, 0, []), 2) := rfl
theorem T_284_2 : hTab 284 2 = some ((31, 247, 0, []), 5) := rfl
theorem T_284_5 : hTab 284 5 = some ((4, 5, 0, []), 7) := rfl
theorem T_284_7 : hTab 284 7 = some ((0, 0, 0, []), 8) := rfl
theorem T_284_8 : hTab 284 8 = some ((4, 6, 0, []), 10) := rfl
theorem T_284_10 : hTab 284 10 = some ((3, 6, 0, []), 12) := rfl
theorem T_284_12 : hTab 284 12 = some ((3, 4, 0, []), 14) := rfl
theorem T_284_14 : hTab 284 14 = some ((19, 3, Int.ofNat 45, []), 17) := rfl
theorem T_284_17 : hTab 284 17 = some ((3, 0, 2, []), 18) := rfl
theorem T_284_18 : hTab 284 18 = some ((24, 17, Int.ofNat 22, []), 21) := rfl
theorem T_284_21 : hTab 284 21 = some ((0, 0, 12, []), 23) := rfl
theorem T_284_23 : hTab 284 23 = some ((3, 5, 0, []), 25) := rfl
theorem T_284_25 : hTab 284 25 = some ((10, 2, 0, []), 26) := rfl
theorem T_284_26 : hTab 284 26 = some ((3, 6, 0, []), 28) := rfl
theorem T_284_28 : hTab 284 28 = some ((10, 0, 0, []), 29) := rfl
theorem T_284_29 : hTab 284 29 = some ((3, 0, 2, []), 30) := rfl
theorem T_284_30 : hTab 284 30 = some ((24, 17, Int.ofNat 3, []), 33) := rfl
theorem T_284_33 : hTab 284 33 = some ((3, 3, 0, []), 34) := rfl
theorem T_284_34 : hTab 284 34 = some ((3, 6, 0, []), 36) := rfl
theorem T_284_36 : hTab 284 36 = some ((10, 0, 0, []), 37) := rfl
theorem T_284_37 : hTab 284 37 = some ((26, 0, 0, []), 38) := rfl
theorem T_284_38 : hTab 284 38 = some ((27, 0, 0, []), 39) := rfl
theorem T_284_39 : hTab 284 39 = some ((5, 6, 1, []), 42) := rfl
theorem T_284_42 : hTab 284 42 = some ((22, 0, Int.ofNat 10, []), 45) := rfl
theorem T_284_45 : hTab 284 45 = some ((3, 0, 2, []), 46) := rfl
theorem T_284_46 : hTab 284 46 = some ((24, 17, Int.ofNat 23, []), 49) := rfl
theorem T_284_49 : hTab 284 49 = some ((3, 5, 0, []), 51) := rfl
theorem T_284_51 : hTab 284 51 = some ((3, 4, 0, []), 53) := rfl
theorem T_284_53 : hTab 284 53 = some ((27, 0, 0, []), 54) := rfl
theorem T_284_54 : hTab 284 54 = some ((33, 0, 0, []), 55) := rfl
theorem T_287_0 : hTab 287 0 = some ((0, 0, 58, []), 2) := rfl
theorem T_287_2 : hTab 287 2 = some ((3, 0, 2, []), 3) := rfl
theorem T_287_3 : hTab 287 3 = some ((3, 1, 0, []), 4) := rfl
theorem T_287_4 : hTab 287 4 = some ((3, 2, 0, []), 5) := rfl
theorem T_287_5 : hTab 287 5 = some ((31, 270, 0, []), 8) := rfl
theorem T_287_8 : hTab 287 8 = some ((10, 0, 0, []), 9) := rfl
theorem T_287_9 : hTab 287 9 = some ((33, 1, 0, []), 10) := rfl
theorem T_288_0 : hTab 288 0 = some ((3, 0, 2, []), 1) := rfl
theorem T_288_1 : hTab 288 1 = some ((0, 0, 2, []), 2) := rfl
theorem T_288_2 : hTab 288 2 = some ((3, 0, 2, []), 3) := rfl
theorem T_288_3 : hTab 288 3 = some ((3, 1, 0, []), 4) := rfl
theorem T_288_4 : hTab 288 4 = some ((3, 2, 0, []), 5) := rfl
theorem T_288_5 : hTab 288 5 = some ((31, 287, 0, []), 8) := rfl
theorem T_288_8 : hTab 288 8 = some ((0, 0, 2, []), 9) := rfl
theorem T_288_9 : hTab 288 9 = some ((10, 1, 0, []), 10) := rfl
theorem T_288_10 : hTab 288 10 = some ((14, 0, 0, []), 11) := rfl
theorem T_288_11 : hTab 288 11 = some ((31, 237, 0, []), 14) := rfl
theorem T_288_14 : hTab 288 14 = some ((3, 0, 2, []), 15) := rfl
theorem T_288_15 : hTab 288 15 = some ((0, 0, 2, []), 16) := rfl
theorem T_288_16 : hTab 288 16 = some ((1, 0, 0, []), 17) := rfl
theorem T_288_17 : hTab 288 17 = some ((31, 237, 0, []), 20) := rfl
theorem T_288_20 : hTab 288 20 = some ((3, 0, 2, []), 21) := rfl
theorem T_288_21 : hTab 288 21 = some ((0, 0, 4, []), 22) := rfl
theorem T_288_22 : hTab 288 22 = some ((1, 0, 0, []), 23) := rfl
theorem T_288_23 : hTab 288 23 = some ((31, 237, 0, []), 26) := rfl
theorem T_288_26 : hTab 288 26 = some ((3, 0, 2, []), 27) := rfl
theorem T_288_27 : hTab 288 27 = some ((3, 1, 0, []), 28) := rfl
theorem T_288_28 : hTab 288 28 = some ((3, 2, 0, []), 29) := rfl
theorem T_288_29 : hTab 288 29 = some ((31, 264, 0, []), 32) := rfl
theorem T_288_32 : hTab 288 32 = some ((3, 0, 2, []), 33) := rfl
theorem T_288_33 : hTab 288 33 = some ((0, 0, 4, []), 34) := rfl
theorem T_288_34 : hTab 288 34 = some ((3, 0, 2, []), 35) := rfl
theorem T_288_35 : hTab 288 35 = some ((3, 1, 0, []), 36) := rfl
theorem T_288_36 : hTab 288 36 = some ((3, 2, 0, []), 37) := rfl
theorem T_288_37 : hTab 288 37 = some ((31, 249, 0, []), 40) := rfl
theorem T_288_40 : hTab 288 40 = some ((14, 0, 0, []), 41) := rfl
theorem T_288_41 : hTab 288 41 = some ((31, 237, 0, []), 44) := rfl
theorem T_288_44 : hTab 288 44 = some ((3, 0, 2, []), 45) := rfl
theorem T_288_45 : hTab 288 45 = some ((0, 0, 4, []), 46) := rfl
theorem T_288_46 : hTab 288 46 = some ((1, 0, 0, []), 47) := rfl
theorem T_288_47 : hTab 288 47 = some ((31, 237, 0, []), 50) := rfl
theorem T_288_50 : hTab 288 50 = some ((3, 0, 2, []), 51) := rfl
theorem T_288_51 : hTab 288 51 = some ((0, 0, 4, []), 52) := rfl
theorem T_288_52 : hTab 288 52 = some ((1, 0, 0, []), 53) := rfl
theorem T_288_53 : hTab 288 53 = some ((31, 237, 0, []), 56) := rfl
theorem T_288_56 : hTab 288 56 = some ((3, 0, 2, []), 57) := rfl
theorem T_288_57 : hTab 288 57 = some ((0, 0, 8, []), 59) := rfl
theorem T_288_59 : hTab 288 59 = some ((3, 0, 2, []), 60) := rfl
theorem T_288_60 : hTab 288 60 = some ((3, 1, 0, []), 61) := rfl
theorem T_288_61 : hTab 288 61 = some ((3, 2, 0, []), 62) := rfl
theorem T_288_62 : hTab 288 62 = some ((31, 289, 0, []), 65) := rfl
theorem T_288_65 : hTab 288 65 = some ((14, 0, 0, []), 66) := rfl
theorem T_288_66 : hTab 288 66 = some ((31, 237, 0, []), 69) := rfl
theorem T_288_69 : hTab 288 69 = some ((3, 0, 2, []), 70) := rfl
theorem T_288_70 : hTab 288 70 = some ((0, 0, 2, []), 71) := rfl
theorem T_288_71 : hTab 288 71 = some ((3, 0, 2, []), 72) := rfl
theorem T_288_72 : hTab 288 72 = some ((3, 1, 0, []), 73) := rfl
theorem T_288_73 : hTab 288 73 = some ((3, 2, 0, []), 74) := rfl
theorem T_288_74 : hTab 288 74 = some ((31, 270, 0, []), 77) := rfl
theorem T_288_77 : hTab 288 77 = some ((14, 0, 0, []), 78) := rfl
theorem T_288_78 : hTab 288 78 = some ((31, 237, 0, []), 81) := rfl
theorem T_288_81 : hTab 288 81 = some ((0, 0, 0, []), 82) := rfl
theorem T_288_82 : hTab 288 82 = some ((4, 3, 0, []), 83) := rfl
theorem T_288_83 : hTab 288 83 = some ((3, 3, 0, []), 84) := rfl
theorem T_288_84 : hTab 288 84 = some ((3, 0, 2, []), 85) := rfl
theorem T_288_85 : hTab 288 85 = some ((3, 1, 0, []), 86) := rfl
theorem T_288_86 : hTab 288 86 = some ((3, 2, 0, []), 87) := rfl
theorem T_288_87 : hTab 288 87 = some ((31, 270, 0, []), 90) := rfl
theorem T_288_90 : hTab 288 90 = some ((19, 3, Int.ofNat 112, []), 93) := rfl
theorem T_288_93 : hTab 288 93 = some ((3, 0, 2, []), 94) := rfl
theorem T_288_94 : hTab 288 94 = some ((0, 0, 1, []), 95) := rfl
theorem T_288_95 : hTab 288 95 = some ((3, 0, 2, []), 96) := rfl
theorem T_288_96 : hTab 288 96 = some ((3, 1, 0, []), 97) := rfl
theorem T_288_97 : hTab 288 97 = some ((3, 2, 0, []), 98) := rfl
theorem T_288_98 : hTab 288 98 = some ((3, 3, 0, []), 99) := rfl
theorem T_288_99 : hTab 288 99 = some ((31, 273, 0, []), 102) := rfl
theorem T_288_102 : hTab 288 102 = some ((14, 0, 0, []), 103) := rfl
theorem T_288_103 : hTab 288 103 = some ((31, 237, 0, []), 106) := rfl
theorem T_288_106 : hTab 288 106 = some ((5, 3, 1, []), 109) := rfl
theorem T_288_109 : hTab 288 109 = some ((22, 0, Int.ofNat 83, []), 112) := rfl
theorem T_288_112 : hTab 288 112 = some ((3, 0, 2, []), 113) := rfl
theorem T_288_113 : hTab 288 113 = some ((3, 0, 2, []), 114) := rfl
theorem T_288_114 : hTab 288 114 = some ((3, 1, 0, []), 115) := rfl
theorem T_288_115 : hTab 288 115 = some ((3, 2, 0, []), 116) := rfl
theorem T_288_116 : hTab 288 116 = some ((31, 250, 0, []), 119) := rfl
theorem T_288_119 : hTab 288 119 = some ((31, 290, 0, []), 122) := rfl
theorem T_288_122 : hTab 288 122 = some ((3, 0, 2, []), 123) := rfl
theorem T_288_123 : hTab 288 123 = some ((3, 0, 2, []), 124) := rfl
theorem T_288_124 : hTab 288 124 = some ((3, 1, 0, []), 125) := rfl
theorem T_288_125 : hTab 288 125 = some ((3, 2, 0, []), 126) := rfl
theorem T_288_126 : hTab 288 126 = some ((31, 251, 0, []), 129) := rfl
theorem T_288_129 : hTab 288 129 = some ((31, 290, 0, []), 132) := rfl
theorem T_288_132 : hTab 288 132 = some ((3, 0, 2, []), 133) := rfl
theorem T_288_133 : hTab 288 133 = some ((3, 0, 2, []), 134) := rfl
theorem T_288_134 : hTab 288 134 = some ((3, 1, 0, []), 135) := rfl
theorem T_288_135 : hTab 288 135 = some ((3, 2, 0, []), 136) := rfl
theorem T_288_136 : hTab 288 136 = some ((31, 291, 0, []), 139) := rfl
theorem T_288_139 : hTab 288 139 = some ((31, 290, 0, []), 142) := rfl
theorem T_288_142 : hTab 288 142 = some ((33, 0, 0, []), 143) := rfl
theorem T_290_0 : hTab 290 0 = some ((3, 0, 2, []), 1) := rfl
theorem T_290_1 : hTab 290 1 = some ((0, 0, 2, []), 2) := rfl
theorem T_290_2 : hTab 290 2 = some ((1, 0, 3, []), 5) := rfl
theorem T_290_5 : hTab 290 5 = some ((31, 237, 0, []), 8) := rfl
theorem T_290_8 : hTab 290 8 = some ((0, 0, 0, []), 9) := rfl
theorem T_290_9 : hTab 290 9 = some ((4, 2, 0, []), 10) := rfl
theorem T_290_10 : hTab 290 10 = some ((3, 2, 0, []), 11) := rfl
theorem T_290_11 : hTab 290 11 = some ((0, 0, 3, []), 12) := rfl
theorem T_290_12 : hTab 290 12 = some ((19, 3, Int.ofNat 37, []), 15) := rfl
theorem T_290_15 : hTab 290 15 = some ((3, 0, 2, []), 16) := rfl
theorem T_290_16 : hTab 290 16 = some ((0, 0, 1, []), 17) := rfl
theorem T_290_17 : hTab 290 17 = some ((3, 0, 2, []), 18) := rfl
theorem T_290_18 : hTab 290 18 = some ((24, 17, Int.ofNat 2, []), 21) := rfl
theorem T_290_21 : hTab 290 21 = some ((0, 0, 3, []), 22) := rfl
theorem T_290_22 : hTab 290 22 = some ((3, 1, 0, []), 23) := rfl
theorem T_290_23 : hTab 290 23 = some ((10, 2, 0, []), 24) := rfl
theorem T_290_24 : hTab 290 24 = some ((3, 2, 0, []), 25) := rfl
theorem T_290_25 : hTab 290 25 = some ((10, 0, 0, []), 26) := rfl
theorem T_290_26 : hTab 290 26 = some ((26, 0, 0, []), 27) := rfl
theorem T_290_27 : hTab 290 27 = some ((14, 0, 0, []), 28) := rfl
theorem T_290_28 : hTab 290 28 = some ((31, 237, 0, []), 31) := rfl
theorem T_290_31 : hTab 290 31 = some ((5, 2, 1, []), 34) := rfl
theorem T_290_34 : hTab 290 34 = some ((22, 0, Int.ofNat 10, []), 37) := rfl
theorem T_290_37 : hTab 290 37 = some ((33, 0, 0, []), 38) := rfl
theorem T_421_0 : hTab 421 0 = some ((0, 0, 0, []), 1) := rfl
theorem T_421_1 : hTab 421 1 = some ((4, 3, 0, []), 2) := rfl
theorem T_421_2 : hTab 421 2 = some ((3, 1, 0, []), 3) := rfl
theorem T_421_3 : hTab 421 3 = some ((3, 2, 0, []), 4) := rfl
theorem T_421_4 : hTab 421 4 = some ((31, 243, 0, []), 7) := rfl
theorem T_421_7 : hTab 421 7 = some ((4, 4, 0, []), 9) := rfl
theorem T_421_9 : hTab 421 9 = some ((3, 4, 0, []), 11) := rfl
theorem T_421_11 : hTab 421 11 = some ((3, 1, 0, []), 12) := rfl
theorem T_421_12 : hTab 421 12 = some ((3, 2, 0, []), 13) := rfl
theorem T_421_13 : hTab 421 13 = some ((31, 243, 0, []), 16) := rfl
theorem T_421_16 : hTab 421 16 = some ((0, 0, 48, []), 18) := rfl
theorem T_421_18 : hTab 421 18 = some ((10, 0, 0, []), 19) := rfl
theorem T_421_19 : hTab 421 19 = some ((19, 3, Int.ofNat 46, []), 22) := rfl
theorem T_421_22 : hTab 421 22 = some ((3, 0, 2, []), 23) := rfl
theorem T_421_23 : hTab 421 23 = some ((24, 17, Int.ofNat 28, []), 26) := rfl
theorem T_421_26 : hTab 421 26 = some ((3, 4, 0, []), 28) := rfl
theorem T_421_28 : hTab 421 28 = some ((26, 2, 0, []), 29) := rfl
theorem T_421_29 : hTab 421 29 = some ((18, 0, Int.ofNat 38, []), 32) := rfl
theorem T_421_32 : hTab 421 32 = some ((3, 3, 0, []), 33) := rfl
theorem T_421_33 : hTab 421 33 = some ((0, 0, 1, []), 34) := rfl
theorem T_421_34 : hTab 421 34 = some ((10, 0, 0, []), 35) := rfl
theorem T_421_35 : hTab 421 35 = some ((22, 0, Int.ofNat 39, []), 38) := rfl
theorem T_421_38 : hTab 421 38 = some ((3, 3, 0, []), 39) := rfl
theorem T_421_39 : hTab 421 39 = some ((4, 3, 0, []), 40) := rfl
theorem T_421_40 : hTab 421 40 = some ((5, 4, 1, []), 43) := rfl
theorem T_421_43 : hTab 421 43 = some ((22, 0, Int.ofNat 9, []), 46) := rfl
theorem T_421_46 : hTab 421 46 = some ((3, 3, 0, []), 47) := rfl
theorem T_421_47 : hTab 421 47 = some ((33, 1, 0, []), 48) := rfl
theorem F_17_2 : (hFd 17 2).2.2.1 = 4 := rfl
theorem F_17_10 : (hFd 17 10).2.2.1 = 4 := rfl
theorem F_17_11 : (hFd 17 11).2.2.1 = 4 := rfl
theorem F_17_12 : (hFd 17 12).2.2.1 = 0 := rfl
theorem F_17_29 : (hFd 17 29).2.2.1 = 4 := rfl
theorem F_17_31 : (hFd 17 31).2.2.1 = 4 := rfl
theorem F_17_32 : (hFd 17 32).2.2.1 = 4 := rfl
theorem F_17_33 : (hFd 17 33).2.2.1 = 4 := rfl
theorem F_17_35 : (hFd 17 35).2.2.1 = 4 := rfl
theorem F_17_36 : (hFd 17 36).2.2.1 = 4 := rfl
theorem mN_240 : hmN 240 = 1 := by decide +kernel
theorem mL_240 : hmL 240 = 2 := by decide +kernel
theorem mK_240 : hmK 240 = 1 := by decide +kernel
theorem mO_240 : hmO 240 = 17 := by decide +kernel
theorem mN_241 : hmN 241 = 1 := by decide +kernel
theorem mL_241 : hmL 241 = 1 := by decide +kernel
theorem mK_241 : hmK 241 = 1 := by decide +kernel
theorem mO_241 : hmO 241 = 17 := by decide +kernel
theorem mN_244 : hmN 244 = 3 := by decide +kernel
theorem mL_244 : hmL 244 = 4 := by decide +kernel
theorem mK_244 : hmK 244 = 1 := by decide +kernel
theorem mO_244 : hmO 244 = 17 := by decide +kernel
theorem mN_260 : hmN 260 = 3 := by decide +kernel
theorem mL_260 : hmL 260 = 4 := by decide +kernel
theorem mK_260 : hmK 260 = 1 := by decide +kernel
theorem mO_260 : hmO 260 = 17 := by decide +kernel
theorem mN_262 : hmN 262 = 5 := by decide +kernel
theorem mL_262 : hmL 262 = 6 := by decide +kernel
theorem mK_262 : hmK 262 = 1 := by decide +kernel
theorem mO_262 : hmO 262 = 17 := by decide +kernel
theorem mN_264 : hmN 264 = 3 := by decide +kernel
theorem mL_264 : hmL 264 = 4 := by decide +kernel
theorem mK_264 : hmK 264 = 1 := by decide +kernel
theorem mO_264 : hmO 264 = 17 := by decide +kernel
theorem mN_281 : hmN 281 = 3 := by decide +kernel
theorem mL_281 : hmL 281 = 5 := by decide +kernel
theorem mK_281 : hmK 281 = 1 := by decide +kernel
theorem mO_281 : hmO 281 = 17 := by decide +kernel
theorem mN_283 : hmN 283 = 1 := by decide +kernel
theorem mL_283 : hmL 283 = 1 := by decide +kernel
theorem mK_283 : hmK 283 = 0 := by decide +kernel
theorem mO_283 : hmO 283 = 17 := by decide +kernel
theorem mN_284 : hmN 284 = 5 := by decide +kernel
theorem mL_284 : hmL 284 = 7 := by decide +kernel
theorem mK_284 : hmK 284 = 1 := by decide +kernel
theorem mO_284 : hmO 284 = 17 := by decide +kernel
theorem mN_287 : hmN 287 = 3 := by decide +kernel
theorem mL_287 : hmL 287 = 3 := by decide +kernel
theorem mK_287 : hmK 287 = 1 := by decide +kernel
theorem mO_287 : hmO 287 = 17 := by decide +kernel
theorem mN_288 : hmN 288 = 3 := by decide +kernel
theorem mL_288 : hmL 288 = 4 := by decide +kernel
theorem mK_288 : hmK 288 = 1 := by decide +kernel
theorem mO_288 : hmO 288 = 17 := by decide +kernel
theorem mN_290 : hmN 290 = 2 := by decide +kernel
theorem mL_290 : hmL 290 = 3 := by decide +kernel
theorem mK_290 : hmK 290 = 1 := by decide +kernel
theorem mO_290 : hmO 290 = 17 := by decide +kernel
theorem mN_421 : hmN 421 = 3 := by decide +kernel
theorem mL_421 : hmL 421 = 5 := by decide +kernel
theorem mK_421 : hmK 421 = 1 := by decide +kernel
theorem mO_421 : hmO 421 = 17 := by decide +kernel
theorem leb_z (n : Nat) (v : Int) {z : Int} (h : (n : Int) = z) : ((leb n v).length : Int) = z := by
  rw [leb_len]
  exact h
theorem nmOk_seg {a : Int → Int} {o : Int} {z : Nat} : nmOk (seg a o z) = true ↔ (1 ≤ z ∧ z ≤ 12) ∧ (∀ i : Int, 0 ≤ i → i < z → nmSign (a (o + i)) = true) ∧ ¬ (z = 1 ∧ a o = 46) ∧ ¬ (z = 2 ∧ a o = 46 ∧ a (o + 1) = 46) := by
  unfold nmOk
  simp only [Bool.and_eq_true, decide_eq_true_eq, seg_len]
  have hall : (seg a o z).all nmSign = true ↔ ∀ i : Int, 0 ≤ i → i < z → nmSign (a (o + i)) = true := by
    induction z generalizing o with
    | zero => exact ⟨fun _ i h0 h1 => by omega, fun _ => rfl⟩
    | succ n ih =>
      show (nmSign (a o) && (seg a (o + 1) n).all nmSign) = true ↔ _
      rw [Bool.and_eq_true, ih]
      constructor
      · rintro ⟨h1, h2⟩ i h3 h4
        by_cases e : i = 0
        · rw [e, Int.add_zero]; exact h1
        · have := h2 (i - 1) (by omega) (by omega)
          rw [show o + 1 + (i - 1) = o + i by omega] at this
          exact this
      · intro h
        refine ⟨?_, fun i h3 h4 => ?_⟩
        · have := h 0 (by omega) (by omega)
          rw [Int.add_zero] at this
          exact this
        · have := h (i + 1) (by omega) (by omega)
          rw [show o + (i + 1) = o + 1 + i by omega] at this
          exact this
  have h1 : seg a o z = [46] ↔ z = 1 ∧ a o = 46 := by
    rw [seg_eq]
    constructor
    · rintro ⟨q1, q2⟩
      have q1 : 1 = z := q1
      have q3 := q2 0 (by omega) (by omega)
      rw [Int.add_zero] at q3
      exact ⟨q1.symm, q3⟩
    · rintro ⟨q1, q2⟩
      refine ⟨q1.symm, fun i q3 q4 => ?_⟩
      rw [show i = 0 by omega, Int.add_zero]
      exact q2
  have h2 : seg a o z = [46, 46] ↔ z = 2 ∧ a o = 46 ∧ a (o + 1) = 46 := by
    rw [seg_eq]
    constructor
    · rintro ⟨q1, q2⟩
      have q1 : 2 = z := q1
      have q3 := q2 0 (by omega) (by omega)
      have q4 := q2 1 (by omega) (by omega)
      rw [Int.add_zero] at q3
      exact ⟨q1.symm, q3, q4⟩
    · rintro ⟨q1, q2, q5⟩
      refine ⟨q1.symm, fun i q3 q4 => ?_⟩
      have : i = 0 ∨ i = 1 := by omega
      rcases this with rfl | rfl
      · rw [Int.add_zero]
        exact q2
      · exact q5
  rw [hall, h1, h2, and_assoc]
section MFID2
variable {fb : Bool} {d : Nat} {σ0 σ : hM} {P S : qR} {T U s n u : Int}
theorem m_isNameSign {b : Int} : CL fb (d + 1) 283 [vI b] σ (rP (if nmSign b = true then 1 else 0) σ) := by
  have e : nmSign b = true ↔ 33 ≤ b ∧ b ≤ 126 ∧ ¬ b = 47 := by
    unfold nmSign
    simp only [Bool.and_eq_true, decide_eq_true_eq]
  refine CL_in mL_283 rfl ?_
  show WP fb _ 283 0 [some (vI b)] [] σ _
  refine x_li (z := b) T_283_0 rfl ?_
  refine x_i2l T_283_1 ?_
  refine x_lc T_283_2 ?_
  refine x_lc T_283_5 ?_
  refine x_cs3 T_283_8 mN_282 mL_282 (Nat.le_of_ble_eq_true rfl) mK_282 (Nat.le_of_ble_eq_true rfl) (m_in) ?_
  rintro _ σ ⟨rfl, rfl⟩
  refine cI ?_
  refine x_if T_283_11 (fun h11 => ?_) (fun h11 => ?_)
  · replace h11 : (if 33 ≤ b ∧ b ≤ 126 then (1 : Int) else 0) = 0 := h11
    refine x_ic T_283_24 ?_
    refine x_rz T_283_25 rfl ?_
    refine ⟨?_, rfl⟩
    first | rw [if_pos (e.mpr (by omega))] | rw [if_neg (fun q => by have := e.mp q; omega)]
  · replace h11 : ¬ ((if 33 ≤ b ∧ b ≤ 126 then (1 : Int) else 0) = 0) := h11
    refine x_li (z := b) T_283_14 rfl ?_
    refine x_ic T_283_15 ?_
    refine x_ic2 T_283_17 (fun h17 => ?_) (fun h17 => ?_)
    · replace h17 : b = 47 := h17
      refine x_ic T_283_24 ?_
      refine x_rz T_283_25 rfl ?_
      refine ⟨?_, rfl⟩
      first | rw [if_pos (e.mpr (by omega))] | rw [if_neg (fun q => by have := e.mp q; omega)]
    · replace h17 : ¬ (b = 47) := h17
      refine x_ic T_283_20 ?_
      refine x_goto T_283_21 ?_
      refine x_rz T_283_25 rfl ?_
      refine ⟨?_, rfl⟩
      first | rw [if_pos (e.mpr (by omega))] | rw [if_neg (fun q => by have := e.mp q; omega)]
theorem m_isName_loop {o z : Int} (hP : PM σ0 P S σ) (hJ : IV true T U S) (ho : 0 ≤ o) (hz : 1 ≤ z ∧ z ≤ 12) (h1 : o + z ≤ 512) : ∀ (m : Nat) (k : Int), k + m = z → 0 ≤ k → (∀ i : Int, 0 ≤ i → i < k → nmSign (S 2285 (o + i)) = true) → WP fb (d + 2) 281 13 [some (vR (some 2281)), some (vI o), some (vI z), some (vI 1), some (vI k)] [] σ (rP (if nmOk (seg (S 2285) o z.toNat) = true then 1 else 0) σ) := by
  have hc := nmOk_seg (a := S 2285) (o := o) (z := z.toNat)
  intro m
  induction m with
  | zero =>
    intro k hk hk0 he
    have hall : ∀ i : Int, 0 ≤ i → i < (z.toNat : Nat) → nmSign (S 2285 (o + i)) = true := fun i h2 h3 => he i h2 (by omega)
    refine x_li (z := k) T_281_13 rfl ?_
    refine x_li (z := z) T_281_15 rfl ?_
    refine x_ic2 T_281_16 (fun _ => ?_) (fun h => absurd (show z ≤ k by omega) h)
    refine x_li (z := 1) T_281_42 rfl ?_
    refine x_if T_281_43 (fun h => absurd (show (1 : Int) = 0 from h) (by decide)) (fun _ => ?_)
    refine x_lr (z := some 2281) T_281_46 rfl ?_
    refine x_gR (z := some 2285) T_281_47 F_17_3 (PM.t hP) (PM.r hP 3 2285 rfl) ?_
    refine x_li (z := o) T_281_50 rfl ?_
    have b1 : 0 ≤ S 2285 o ∧ S 2285 o ≤ 255 := IV.a hJ 2285 0 512 rfl rfl rfl (by omega) (by omega)
    refine x_alI (z := S 2285 o) T_281_51 (by decide) (PM.ta hP 2285 0 512 rfl rfl) (by omega) (by omega) (PM.aS hP 2285 rfl rfl (by omega)) ?_
    refine x_ic T_281_52 ?_
    refine x_ic2 T_281_54 (fun h54 => ?_) (fun h54 => ?_)
    · replace h54 : ¬ S 2285 o = 46 := h54
      refine x_ic T_281_84 ?_
      refine x_si (ls1 := [some (vR (some 2281)), some (vI o), some (vI z), some (vI 1), some (vI 0)]) T_281_85 rfl ?_
      refine x_li (z := 1) T_281_87 rfl ?_
      refine x_if T_281_88 (fun h => absurd (show (1 : Int) = 0 from h) (by decide)) (fun _ => ?_)
      refine x_li (z := 0) T_281_91 rfl ?_
      refine x_if T_281_93 (fun h => absurd (show ¬ (0 : Int) = 0 from h) (by decide)) (fun _ => ?_)
      refine x_ic T_281_96 ?_
      refine x_goto T_281_97 ?_
      refine x_rz T_281_101 rfl ?_
      refine ⟨?_, rfl⟩
      first
        | (rw [if_pos (hc.mpr ⟨by omega, hall, fun q => by omega, fun q => by omega⟩)])
        | (rw [if_neg (fun q => by have q1 := (hc.mp q).2.2.1; have q2 := (hc.mp q).2.2.2; omega)])
    · replace h54 : ¬ (¬ S 2285 o = 46) := h54
      refine x_li (z := z) T_281_57 rfl ?_
      refine x_ic T_281_58 ?_
      refine x_ic2 T_281_59 (fun h59 => ?_) (fun h59 => ?_)
      · replace h59 : z = 1 := h59
        refine x_ic T_281_80 ?_
        refine x_goto T_281_81 ?_
        refine x_si (ls1 := [some (vR (some 2281)), some (vI o), some (vI z), some (vI 1), some (vI 1)]) T_281_85 rfl ?_
        refine x_li (z := 1) T_281_87 rfl ?_
        refine x_if T_281_88 (fun h => absurd (show (1 : Int) = 0 from h) (by decide)) (fun _ => ?_)
        refine x_li (z := 1) T_281_91 rfl ?_
        refine x_if T_281_93 (fun _ => ?_) (fun h => absurd (show ¬ (1 : Int) = 0 by decide) h)
        refine x_ic T_281_100 ?_
        refine x_rz T_281_101 rfl ?_
        refine ⟨?_, rfl⟩
        first
          | (rw [if_pos (hc.mpr ⟨by omega, hall, fun q => by omega, fun q => by omega⟩)])
          | (rw [if_neg (fun q => by have q1 := (hc.mp q).2.2.1; have q2 := (hc.mp q).2.2.2; omega)])
      · replace h59 : ¬ (z = 1) := h59
        refine x_li (z := z) T_281_62 rfl ?_
        refine x_ic T_281_63 ?_
        refine x_ic2 T_281_64 (fun h64 => ?_) (fun h64 => ?_)
        · replace h64 : ¬ z = 2 := h64
          refine x_ic T_281_84 ?_
          refine x_si (ls1 := [some (vR (some 2281)), some (vI o), some (vI z), some (vI 1), some (vI 0)]) T_281_85 rfl ?_
          refine x_li (z := 1) T_281_87 rfl ?_
          refine x_if T_281_88 (fun h => absurd (show (1 : Int) = 0 from h) (by decide)) (fun _ => ?_)
          refine x_li (z := 0) T_281_91 rfl ?_
          refine x_if T_281_93 (fun h => absurd (show ¬ (0 : Int) = 0 from h) (by decide)) (fun _ => ?_)
          refine x_ic T_281_96 ?_
          refine x_goto T_281_97 ?_
          refine x_rz T_281_101 rfl ?_
          refine ⟨?_, rfl⟩
          first
            | (rw [if_pos (hc.mpr ⟨by omega, hall, fun q => by omega, fun q => by omega⟩)])
            | (rw [if_neg (fun q => by have q1 := (hc.mp q).2.2.1; have q2 := (hc.mp q).2.2.2; omega)])
        · replace h64 : ¬ (¬ z = 2) := h64
          refine x_lr (z := some 2281) T_281_67 rfl ?_
          refine x_gR (z := some 2285) T_281_68 F_17_3 (PM.t hP) (PM.r hP 3 2285 rfl) ?_
          refine x_li (z := o) T_281_71 rfl ?_
          refine x_ic T_281_72 ?_
          refine x_ib (w := (o + 1)) T_281_73 (fun h => absurd h.1 (by decide)) (w32_id (by omega) (by omega)) ?_
          have b2 : 0 ≤ S 2285 (o + 1) ∧ S 2285 (o + 1) ≤ 255 := IV.a hJ 2285 0 512 rfl rfl rfl (by omega) (by omega)
          refine x_alI (z := S 2285 (o + 1)) T_281_74 (by decide) (PM.ta hP 2285 0 512 rfl rfl) (by omega) (by omega) (PM.aS hP 2285 rfl rfl (by omega)) ?_
          refine x_ic T_281_75 ?_
          refine x_ic2 T_281_77 (fun h77 => ?_) (fun h77 => ?_)
          · replace h77 : ¬ S 2285 (o + 1) = 46 := h77
            refine x_ic T_281_84 ?_
            refine x_si (ls1 := [some (vR (some 2281)), some (vI o), some (vI z), some (vI 1), some (vI 0)]) T_281_85 rfl ?_
            refine x_li (z := 1) T_281_87 rfl ?_
            refine x_if T_281_88 (fun h => absurd (show (1 : Int) = 0 from h) (by decide)) (fun _ => ?_)
            refine x_li (z := 0) T_281_91 rfl ?_
            refine x_if T_281_93 (fun h => absurd (show ¬ (0 : Int) = 0 from h) (by decide)) (fun _ => ?_)
            refine x_ic T_281_96 ?_
            refine x_goto T_281_97 ?_
            refine x_rz T_281_101 rfl ?_
            refine ⟨?_, rfl⟩
            first
              | (rw [if_pos (hc.mpr ⟨by omega, hall, fun q => by omega, fun q => by omega⟩)])
              | (rw [if_neg (fun q => by have q1 := (hc.mp q).2.2.1; have q2 := (hc.mp q).2.2.2; omega)])
          · replace h77 : ¬ (¬ S 2285 (o + 1) = 46) := h77
            refine x_ic T_281_80 ?_
            refine x_goto T_281_81 ?_
            refine x_si (ls1 := [some (vR (some 2281)), some (vI o), some (vI z), some (vI 1), some (vI 1)]) T_281_85 rfl ?_
            refine x_li (z := 1) T_281_87 rfl ?_
            refine x_if T_281_88 (fun h => absurd (show (1 : Int) = 0 from h) (by decide)) (fun _ => ?_)
            refine x_li (z := 1) T_281_91 rfl ?_
            refine x_if T_281_93 (fun _ => ?_) (fun h => absurd (show ¬ (1 : Int) = 0 by decide) h)
            refine x_ic T_281_100 ?_
            refine x_rz T_281_101 rfl ?_
            refine ⟨?_, rfl⟩
            first
              | (rw [if_pos (hc.mpr ⟨by omega, hall, fun q => by omega, fun q => by omega⟩)])
              | (rw [if_neg (fun q => by have q1 := (hc.mp q).2.2.1; have q2 := (hc.mp q).2.2.2; omega)])
  | succ m ih =>
    intro k hk hk0 he
    refine x_li (z := k) T_281_13 rfl ?_
    refine x_li (z := z) T_281_15 rfl ?_
    refine x_ic2 T_281_16 (fun h => absurd (show z ≤ k from h) (by omega)) (fun _ => ?_)
    refine x_li (z := 1) T_281_19 rfl ?_
    refine x_if T_281_20 (fun h => absurd (show (1 : Int) = 0 from h) (by decide)) (fun _ => ?_)
    refine x_lr (z := some 2281) T_281_23 rfl ?_
    refine x_gR (z := some 2285) T_281_24 F_17_3 (PM.t hP) (PM.r hP 3 2285 rfl) ?_
    refine x_li (z := o) T_281_27 rfl ?_
    refine x_li (z := k) T_281_28 rfl ?_
    refine x_ib (w := (o + k)) T_281_30 (fun h => absurd h.1 (by decide)) (w32_id (by omega) (by omega)) ?_
    have b1 : 0 ≤ S 2285 (o + k) ∧ S 2285 (o + k) ≤ 255 := IV.a hJ 2285 0 512 rfl rfl rfl (by omega) (by omega)
    refine x_alI (z := S 2285 (o + k)) T_281_31 (by decide) (PM.ta hP 2285 0 512 rfl rfl) (by omega) (by omega) (PM.aS hP 2285 rfl rfl (by omega)) ?_
    refine x_cs1 T_281_32 mN_283 mL_283 (Nat.le_of_ble_eq_true rfl) mK_283 (Nat.le_of_ble_eq_true rfl) (m_isNameSign) ?_
    rintro _ σ ⟨rfl, rfl⟩
    refine cI ?_
    refine x_si (ls1 := [some (vR (some 2281)), some (vI o), some (vI z), some (vI (if nmSign (S 2285 (o + k)) = true then (1 : Int) else 0)), some (vI k)]) T_281_35 rfl ?_
    refine x_inc (w := (k + 1)) (ls1 := [some (vR (some 2281)), some (vI o), some (vI z), some (vI (if nmSign (S 2285 (o + k)) = true then (1 : Int) else 0)), some (vI (k + 1))]) T_281_36 rfl (w32_id (by omega) (by omega)) rfl ?_
    refine x_goto T_281_39 ?_
    by_cases hk1 : nmSign (S 2285 (o + k)) = true
    · rw [if_pos hk1]
      refine ih (k + 1) (by omega) (by omega) (fun i h2 h3 => ?_)
      by_cases e : i = k
      · rw [e]; exact hk1
      · exact he i h2 (by omega)
    rw [if_neg hk1]
    have hno : ¬ nmOk (seg (S 2285) o z.toNat) = true := fun q => hk1 ((hc.mp q).2.1 k hk0 (by omega))
    rw [if_neg hno]
    refine x_li (z := (k + 1)) T_281_13 rfl ?_
    refine x_li (z := z) T_281_15 rfl ?_
    refine x_ic2 T_281_16 (fun h16 => ?_) (fun h16 => ?_)
    · replace h16 : z ≤ (k + 1) := h16
      refine x_li (z := 0) T_281_42 rfl ?_
      refine x_if T_281_43 (fun _ => ?_) (fun h => absurd (show (0 : Int) = 0 by decide) h)
      refine x_ic T_281_84 ?_
      refine x_si (ls1 := [some (vR (some 2281)), some (vI o), some (vI z), some (vI 0), some (vI 0)]) T_281_85 rfl ?_
      refine x_li (z := 0) T_281_87 rfl ?_
      refine x_if T_281_88 (fun _ => ?_) (fun h => absurd (show (0 : Int) = 0 by decide) h)
      refine x_ic T_281_100 ?_
      refine x_rz T_281_101 rfl ?_
      exact ⟨rfl, rfl⟩
    · replace h16 : ¬ (z ≤ (k + 1)) := h16
      refine x_li (z := 0) T_281_19 rfl ?_
      refine x_if T_281_20 (fun _ => ?_) (fun h => absurd (show (0 : Int) = 0 by decide) h)
      refine x_li (z := 0) T_281_42 rfl ?_
      refine x_if T_281_43 (fun _ => ?_) (fun h => absurd (show (0 : Int) = 0 by decide) h)
      refine x_ic T_281_84 ?_
      refine x_si (ls1 := [some (vR (some 2281)), some (vI o), some (vI z), some (vI 0), some (vI 0)]) T_281_85 rfl ?_
      refine x_li (z := 0) T_281_87 rfl ?_
      refine x_if T_281_88 (fun _ => ?_) (fun h => absurd (show (0 : Int) = 0 by decide) h)
      refine x_ic T_281_100 ?_
      refine x_rz T_281_101 rfl ?_
      exact ⟨rfl, rfl⟩
theorem m_isName {o z : Int} (hP : PM σ0 P S σ) (hJ : IV true T U S) (ho : 0 ≤ o) (hz : 0 ≤ z) (h1 : o + z ≤ 512) : CL fb (d + 2) 281 [vR (some 2281), vI o, vI z] σ (rP (if nmOk (seg (S 2285) o z.toNat) = true then 1 else 0) σ) := by
  by_cases hr : 1 ≤ z ∧ z ≤ 12
  · skip
    refine CL_in mL_281 rfl ?_
    show WP fb _ 281 0 [some (vR (some 2281)), some (vI o), some (vI z), none, none] [] σ _
    refine x_li (z := z) T_281_0 rfl ?_
    refine x_i2l T_281_1 ?_
    refine x_lc T_281_2 ?_
    refine x_lc T_281_3 ?_
    refine x_cs3 T_281_6 mN_282 mL_282 (Nat.le_of_ble_eq_true rfl) mK_282 (Nat.le_of_ble_eq_true rfl) (m_in) ?_
    rintro _ σ ⟨rfl, rfl⟩
    refine cI ?_
    refine x_si (ls1 := [some (vR (some 2281)), some (vI o), some (vI z), some (vI (if 1 ≤ z ∧ z ≤ 12 then (1 : Int) else 0)), none]) T_281_9 rfl ?_
    refine x_ic T_281_10 ?_
    refine x_si (ls1 := [some (vR (some 2281)), some (vI o), some (vI z), some (vI (if 1 ≤ z ∧ z ≤ 12 then (1 : Int) else 0)), some (vI 0)]) T_281_11 rfl ?_
    rw [if_pos hr]
    exact m_isName_loop hP hJ ho hr h1 z.toNat 0 (by omega) (by omega) (fun i h2 h3 => by omega)
  · rw [if_neg (fun q => by have := (nmOk_seg.mp q).1; omega)]
    refine CL_in mL_281 rfl ?_
    show WP fb _ 281 0 [some (vR (some 2281)), some (vI o), some (vI z), none, none] [] σ _
    refine x_li (z := z) T_281_0 rfl ?_
    refine x_i2l T_281_1 ?_
    refine x_lc T_281_2 ?_
    refine x_lc T_281_3 ?_
    refine x_cs3 T_281_6 mN_282 mL_282 (Nat.le_of_ble_eq_true rfl) mK_282 (Nat.le_of_ble_eq_true rfl) (m_in) ?_
    rintro _ σ ⟨rfl, rfl⟩
    refine cI ?_
    refine x_si (ls1 := [some (vR (some 2281)), some (vI o), some (vI z), some (vI (if 1 ≤ z ∧ z ≤ 12 then (1 : Int) else 0)), none]) T_281_9 rfl ?_
    refine x_ic T_281_10 ?_
    refine x_si (ls1 := [some (vR (some 2281)), some (vI o), some (vI z), some (vI (if 1 ≤ z ∧ z ≤ 12 then (1 : Int) else 0)), some (vI 0)]) T_281_11 rfl ?_
    rw [if_neg hr]
    refine x_li (z := 0) T_281_13 rfl ?_
    refine x_li (z := z) T_281_15 rfl ?_
    refine x_ic2 T_281_16 (fun h16 => ?_) (fun h16 => ?_)
    · replace h16 : z ≤ 0 := h16
      refine x_li (z := 0) T_281_42 rfl ?_
      refine x_if T_281_43 (fun _ => ?_) (fun h => absurd (show (0 : Int) = 0 by decide) h)
      refine x_ic T_281_84 ?_
      refine x_si (ls1 := [some (vR (some 2281)), some (vI o), some (vI z), some (vI 0), some (vI 0)]) T_281_85 rfl ?_
      refine x_li (z := 0) T_281_87 rfl ?_
      refine x_if T_281_88 (fun _ => ?_) (fun h => absurd (show (0 : Int) = 0 by decide) h)
      refine x_ic T_281_100 ?_
      refine x_rz T_281_101 rfl ?_
      exact ⟨rfl, rfl⟩
    · replace h16 : ¬ (z ≤ 0) := h16
      refine x_li (z := 0) T_281_19 rfl ?_
      refine x_if T_281_20 (fun _ => ?_) (fun h => absurd (show (0 : Int) = 0 by decide) h)
      refine x_li (z := 0) T_281_42 rfl ?_
      refine x_if T_281_43 (fun _ => ?_) (fun h => absurd (show (0 : Int) = 0 by decide) h)
      refine x_ic T_281_84 ?_
      refine x_si (ls1 := [some (vR (some 2281)), some (vI o), some (vI z), some (vI 0), some (vI 0)]) T_281_85 rfl ?_
      refine x_li (z := 0) T_281_87 rfl ?_
      refine x_if T_281_88 (fun _ => ?_) (fun h => absurd (show (0 : Int) = 0 by decide) h)
      refine x_ic T_281_100 ?_
      refine x_rz T_281_101 rfl ?_
      exact ⟨rfl, rfl⟩
theorem seg_snoc (f : Int → Int) (o : Int) (k : Nat) : seg f o (k + 1) = seg f o k ++ [f (o + k)] := by
  rw [seg_eq, List.length_append, seg_len]
  refine ⟨rfl, fun i h2 h3 => ?_⟩
  rw [lg_app h2, seg_len]
  split
  · rw [lg_seg _ _ _ _ h2 (by omega)]
  · rw [show i = k by omega, Int.sub_self]
    rfl
theorem m_setName_loop {o z : Int} (hJ : IV true T U S) (h : 0 ≤ s ∧ s < 2 ∧ 0 ≤ n ∧ n < 64) (ho : 0 ≤ o) (hz : 0 ≤ z ∧ z ≤ 12) (h1 : o + z ≤ 512) : ∀ (m : Nat) (k : Int) (σ : hM), k + m = z → 0 ≤ k → PM σ0 (rW P 2298 (12 * (64 * s + n)) (seg (S 2285) o k.toNat)) S σ → WP fb (d + 1) 284 10 [some (vR (some 2281)), some (vI s), some (vI n), some (vI o), some (vI z), some (vI (64 * s + n)), some (vI k)] [] σ (rV σ0 (gName P s n (seg (S 2285) o z.toNat)) S) := by
  intro m
  induction m with
  | zero =>
    intro k σ hk hk0 hP
    refine x_li (z := k) T_284_10 rfl ?_
    refine x_li (z := z) T_284_12 rfl ?_
    refine x_ic2 T_284_14 (fun _ => ?_) (fun h => absurd (show z ≤ k by omega) h)
    refine x_lr (z := some 2281) T_284_45 rfl ?_
    refine x_gR (z := some 2299) T_284_46 F_17_23 (PM.t hP) (PM.r hP 23 2299 rfl) ?_
    refine x_li (z := (64 * s + n)) T_284_49 rfl ?_
    refine x_li (z := z) T_284_51 rfl ?_
    refine y_aIP hP T_284_53 2299 128 rfl rfl rfl (by omega) (by omega) (fun σ hP => ?_)
    refine x_rv T_284_54 ?_
    refine ⟨rfl, ?_⟩
    unfold gName
    rw [seg_len, show z = k by omega, Int.toNat_of_nonneg hk0]
    rw [show z = k by omega] at hP
    exact hP
  | succ m ih =>
    intro k σ hk hk0 hP
    refine x_li (z := k) T_284_10 rfl ?_
    refine x_li (z := z) T_284_12 rfl ?_
    refine x_ic2 T_284_14 (fun h => absurd (show z ≤ k from h) (by omega)) (fun _ => ?_)
    refine x_lr (z := some 2281) T_284_17 rfl ?_
    refine x_gR (z := some 2298) T_284_18 F_17_22 (PM.t hP) (PM.r hP 22 2298 rfl) ?_
    refine x_ic T_284_21 ?_
    refine x_li (z := (64 * s + n)) T_284_23 rfl ?_
    refine x_ib (w := (12 * (64 * s + n))) T_284_25 (fun h => absurd h.1 (by decide)) (w32_id (by omega) (by omega)) ?_
    refine x_li (z := k) T_284_26 rfl ?_
    refine x_ib (w := ((12 * (64 * s + n)) + k)) T_284_28 (fun h => absurd h.1 (by decide)) (w32_id (by omega) (by omega)) ?_
    refine x_lr (z := some 2281) T_284_29 rfl ?_
    refine x_gR (z := some 2285) T_284_30 F_17_3 (PM.t hP) (PM.r hP 3 2285 rfl) ?_
    refine x_li (z := o) T_284_33 rfl ?_
    refine x_li (z := k) T_284_34 rfl ?_
    refine x_ib (w := (o + k)) T_284_36 (fun h => absurd h.1 (by decide)) (w32_id (by omega) (by omega)) ?_
    have b1 : 0 ≤ S 2285 (o + k) ∧ S 2285 (o + k) ≤ 255 := IV.a hJ 2285 0 512 rfl rfl rfl (by omega) (by omega)
    refine x_alI (z := S 2285 (o + k)) T_284_37 (by decide) (PM.ta hP 2285 0 512 rfl rfl) (by omega) (by omega) (PM.aS hP 2285 rfl rfl (by omega)) ?_
    refine y_aIP hP T_284_38 2298 1536 rfl rfl rfl (by omega) (by omega) (fun σ hP => ?_)
    refine x_inc (w := (k + 1)) (ls1 := [some (vR (some 2281)), some (vI s), some (vI n), some (vI o), some (vI z), some (vI (64 * s + n)), some (vI (k + 1))]) T_284_39 rfl (w32_id (by omega) (by omega)) rfl ?_
    refine x_goto T_284_42 ?_
    skip
    have e := rW_app (W := P) (f := 2298) (o := 12 * (64 * s + n)) (l1 := seg (S 2285) o k.toNat) (l2 := [S 2285 (o + k)])
    have e2 := seg_snoc (S 2285) o k.toNat
    rw [Int.toNat_of_nonneg hk0] at e2
    rw [seg_len, rW_one, ← e2, Int.toNat_of_nonneg hk0] at e
    refine ih (k + 1) σ (by omega) (by omega) ?_
    rw [show (k + 1).toNat = k.toNat + 1 by omega, ← e]
    exact hP
theorem m_setName {o z : Int} (hP : PM σ0 P S σ) (hJ : IV true T U S) (h : 0 ≤ s ∧ s < 2 ∧ 0 ≤ n ∧ n < 64) (ho : 0 ≤ o) (hz : 0 ≤ z ∧ z ≤ 12) (h1 : o + z ≤ 512) : CL fb (d + 1) 284 [vR (some 2281), vI s, vI n, vI o, vI z] σ (rV σ0 (gName P s n (seg (S 2285) o z.toNat)) S) := by
  refine CL_in mL_284 rfl ?_
  show WP fb _ 284 0 [some (vR (some 2281)), some (vI s), some (vI n), some (vI o), some (vI z), none, none] [] σ _
  refine x_li (z := s) T_284_0 rfl ?_
  refine x_li (z := n) T_284_1 rfl ?_
  refine x_cs2 T_284_2 mN_247 mL_247 (Nat.le_of_ble_eq_true rfl) mK_247 (Nat.le_of_ble_eq_true rfl) (m_place (by omega)) ?_
  rintro _ σ ⟨rfl, rfl⟩
  refine cI ?_
  refine x_si (ls1 := [some (vR (some 2281)), some (vI s), some (vI n), some (vI o), some (vI z), some (vI (64 * s + n)), none]) T_284_5 rfl ?_
  refine x_ic T_284_7 ?_
  refine x_si (ls1 := [some (vR (some 2281)), some (vI s), some (vI n), some (vI o), some (vI z), some (vI (64 * s + n)), some (vI 0)]) T_284_8 rfl ?_
  exact m_setName_loop hJ h ho hz h1 z.toNat 0 σ (by omega) (by decide) (by rw [show seg (S 2285) o (0 : Int).toNat = [] from rfl, rW_nil]; exact hP)
theorem m_findFid_loop {c v : Int} (hP : PM σ0 P S σ) (hs : 0 ≤ s ∧ s < 3) (hc : 0 ≤ c ∧ c < 2) : ∀ (m : Nat) (k : Int), k + m = 48 * (2 * s + c) + 48 → 48 * (2 * s + c) ≤ k → WP fb (d + 1) 261 7 [some (vR (some 2281)), some (vI s), some (vI c), some (vL v), none, some (vI k)] [] σ (rP (fiFid P v m k) σ) := by
  intro m
  induction m with
  | zero =>
    intro k h1 h2
    refine x_li (z := k) T_261_7 rfl ?_
    refine x_li (z := s) T_261_9 rfl ?_
    refine x_li (z := c) T_261_10 rfl ?_
    refine x_cs2 T_261_11 mN_243 mL_243 (Nat.le_of_ble_eq_true rfl) mK_243 (Nat.le_of_ble_eq_true rfl) (m_base (by omega) (by omega)) ?_
    rintro _ σ ⟨rfl, rfl⟩
    refine cI ?_
    refine x_ic T_261_14 ?_
    refine x_ib (w := ((48 * (2 * s + c)) + 48)) T_261_16 (fun h => absurd h.1 (by decide)) (w32_id (by omega) (by omega)) ?_
    refine x_ic2 T_261_17 (fun _ => ?_) (fun h => absurd (show ((48 * (2 * s + c)) + 48) ≤ k by omega) h)
    refine x_ic T_261_51 ?_
    refine x_ri T_261_52 ?_
    exact ⟨rfl, rfl⟩
  | succ m ih =>
    intro k h1 h2
    have key : ¬ (¬ P 2304 k = 0 ∧ P 2305 k = v) → WP fb (d + 1) 261 7 [some (vR (some 2281)), some (vI s), some (vI c), some (vL v), none, some (vI (k + 1))] [] σ (rP (fiFid P v (m + 1) k) σ) := by
      intro q
      rw [show fiFid P v (m + 1) k = fiFid P v m (k + 1) from if_neg q]
      exact ih (k + 1) (by omega) (by omega)
    refine x_li (z := k) T_261_7 rfl ?_
    refine x_li (z := s) T_261_9 rfl ?_
    refine x_li (z := c) T_261_10 rfl ?_
    refine x_cs2 T_261_11 mN_243 mL_243 (Nat.le_of_ble_eq_true rfl) mK_243 (Nat.le_of_ble_eq_true rfl) (m_base (by omega) (by omega)) ?_
    rintro _ σ ⟨rfl, rfl⟩
    refine cI ?_
    refine x_ic T_261_14 ?_
    refine x_ib (w := ((48 * (2 * s + c)) + 48)) T_261_16 (fun h => absurd h.1 (by decide)) (w32_id (by omega) (by omega)) ?_
    refine x_ic2 T_261_17 (fun h => absurd (show ((48 * (2 * s + c)) + 48) ≤ k from h) (by omega)) (fun _ => ?_)
    refine x_lr (z := some 2281) T_261_20 rfl ?_
    refine x_gR (z := some 2304) T_261_21 F_17_28 (PM.t hP) (PM.r hP 28 2304 rfl) ?_
    refine x_li (z := k) T_261_24 rfl ?_
    refine x_alI (z := P 2304 k) T_261_26 (by decide) (PM.ta hP 2304 2 288 rfl rfl) (by omega) (by omega) (PM.aP hP 2304 rfl rfl (by omega)) ?_
    refine x_if T_261_27 (fun h27 => ?_) (fun h27 => ?_)
    · replace h27 : P 2304 k = 0 := h27
      refine x_inc (w := (k + 1)) (ls1 := [some (vR (some 2281)), some (vI s), some (vI c), some (vL v), none, some (vI (k + 1))]) T_261_45 rfl (w32_id (by omega) (by omega)) rfl ?_
      refine x_goto T_261_48 ?_
      exact key (fun q => by omega)
    · replace h27 : ¬ (P 2304 k = 0) := h27
      refine x_lr (z := some 2281) T_261_30 rfl ?_
      refine x_gR (z := some 2305) T_261_31 F_17_29 (PM.t hP) (PM.r hP 29 2305 rfl) ?_
      refine x_li (z := k) T_261_34 rfl ?_
      refine x_alL (z := P 2305 k) T_261_36 (PM.ta hP 2305 3 288 rfl rfl) (by omega) (by omega) (PM.aP hP 2305 rfl rfl (by omega)) ?_
      refine x_ll (z := v) T_261_37 rfl ?_
      refine x_lif T_261_38 T_261_39 (fun h39 => ?_) (fun h39 => ?_)
      · replace h39 : ¬ P 2305 k = v := h39
        refine x_inc (w := (k + 1)) (ls1 := [some (vR (some 2281)), some (vI s), some (vI c), some (vL v), none, some (vI (k + 1))]) T_261_45 rfl (w32_id (by omega) (by omega)) rfl ?_
        refine x_goto T_261_48 ?_
        exact key (fun q => by omega)
      · replace h39 : ¬ (¬ P 2305 k = v) := h39
        refine x_li (z := k) T_261_42 rfl ?_
        refine x_ri T_261_44 ?_
        exact ⟨by rw [show fiFid P v (m + 1) k = k from if_pos (by omega)], rfl⟩
theorem m_findFid {c v : Int} (hP : PM σ0 P S σ) (hs : 0 ≤ s ∧ s < 3) (hc : 0 ≤ c ∧ c < 2) : CL fb (d + 1) 261 [vR (some 2281), vI s, vI c, vL v] σ (rP (qFid P s c v) σ) := by
  refine CL_in mL_261 rfl ?_
  show WP fb _ 261 0 [some (vR (some 2281)), some (vI s), some (vI c), some (vL v), none, none] [] σ _
  refine x_li (z := s) T_261_0 rfl ?_
  refine x_li (z := c) T_261_1 rfl ?_
  refine x_cs2 T_261_2 mN_243 mL_243 (Nat.le_of_ble_eq_true rfl) mK_243 (Nat.le_of_ble_eq_true rfl) (m_base (by omega) (by omega)) ?_
  rintro _ σ ⟨rfl, rfl⟩
  refine cI ?_
  refine x_si (ls1 := [some (vR (some 2281)), some (vI s), some (vI c), some (vL v), none, some (vI (48 * (2 * s + c)))]) T_261_5 rfl ?_
  exact m_findFid_loop hP hs hc 48 _ (by omega) (by omega)
theorem fiFid_rng {v : Int} : ∀ (m : Nat) (k : Int), 0 ≤ k → fiFid P v m k = -1 ∨ (k ≤ fiFid P v m k ∧ fiFid P v m k < k + m ∧ ¬ P 2304 (fiFid P v m k) = 0 ∧ P 2305 (fiFid P v m k) = v)
  | 0, k, _ => Or.inl rfl
  | m + 1, k, h => by
    by_cases q : ¬ P 2304 k = 0 ∧ P 2305 k = v
    · rw [show fiFid P v (m + 1) k = k from if_pos q]
      exact Or.inr ⟨Int.le_refl _, by omega, q⟩
    · rw [show fiFid P v (m + 1) k = fiFid P v m (k + 1) from if_neg q]
      rcases fiFid_rng (v := v) m (k + 1) (by omega) with h1 | h1
      · exact Or.inl h1
      · exact Or.inr ⟨by omega, by omega, h1.2.2⟩
theorem m_freeFid_loop {c : Int} (hP : PM σ0 P S σ) (hs : 0 ≤ s ∧ s < 3) (hc : 0 ≤ c ∧ c < 2) : ∀ (m : Nat) (k : Int), k + m = 48 * (2 * s + c) + 48 → 48 * (2 * s + c) ≤ k → WP fb (d + 1) 260 6 [some (vR (some 2281)), some (vI s), some (vI c), some (vI k)] [] σ (rP (frFid P m k) σ) := by
  intro m
  induction m with
  | zero =>
    intro k h1 h2
    refine x_li (z := k) T_260_6 rfl ?_
    refine x_li (z := s) T_260_7 rfl ?_
    refine x_li (z := c) T_260_8 rfl ?_
    refine x_cs2 T_260_9 mN_243 mL_243 (Nat.le_of_ble_eq_true rfl) mK_243 (Nat.le_of_ble_eq_true rfl) (m_base (by omega) (by omega)) ?_
    rintro _ σ ⟨rfl, rfl⟩
    refine cI ?_
    refine x_ic T_260_12 ?_
    refine x_ib (w := ((48 * (2 * s + c)) + 48)) T_260_14 (fun h => absurd h.1 (by decide)) (w32_id (by omega) (by omega)) ?_
    refine x_ic2 T_260_15 (fun _ => ?_) (fun h => absurd (show ((48 * (2 * s + c)) + 48) ≤ k by omega) h)
    refine x_ic T_260_35 ?_
    refine x_ri T_260_36 ?_
    exact ⟨rfl, rfl⟩
  | succ m ih =>
    intro k h1 h2
    refine x_li (z := k) T_260_6 rfl ?_
    refine x_li (z := s) T_260_7 rfl ?_
    refine x_li (z := c) T_260_8 rfl ?_
    refine x_cs2 T_260_9 mN_243 mL_243 (Nat.le_of_ble_eq_true rfl) mK_243 (Nat.le_of_ble_eq_true rfl) (m_base (by omega) (by omega)) ?_
    rintro _ σ ⟨rfl, rfl⟩
    refine cI ?_
    refine x_ic T_260_12 ?_
    refine x_ib (w := ((48 * (2 * s + c)) + 48)) T_260_14 (fun h => absurd h.1 (by decide)) (w32_id (by omega) (by omega)) ?_
    refine x_ic2 T_260_15 (fun h => absurd (show ((48 * (2 * s + c)) + 48) ≤ k from h) (by omega)) (fun _ => ?_)
    refine x_lr (z := some 2281) T_260_18 rfl ?_
    refine x_gR (z := some 2304) T_260_19 F_17_28 (PM.t hP) (PM.r hP 28 2304 rfl) ?_
    refine x_li (z := k) T_260_22 rfl ?_
    refine x_alI (z := P 2304 k) T_260_23 (by decide) (PM.ta hP 2304 2 288 rfl rfl) (by omega) (by omega) (PM.aP hP 2304 rfl rfl (by omega)) ?_
    refine x_if T_260_24 (fun h24 => ?_) (fun h24 => ?_)
    · replace h24 : ¬ P 2304 k = 0 := h24
      refine x_inc (w := (k + 1)) (ls1 := [some (vR (some 2281)), some (vI s), some (vI c), some (vI (k + 1))]) T_260_29 rfl (w32_id (by omega) (by omega)) rfl ?_
      refine x_goto T_260_32 ?_
      rw [show frFid P (m + 1) k = frFid P m (k + 1) from if_neg h24]
      exact ih (k + 1) (by omega) (by omega)
    · replace h24 : ¬ (¬ P 2304 k = 0) := h24
      refine x_li (z := k) T_260_27 rfl ?_
      refine x_ri T_260_28 ?_
      exact ⟨by rw [show frFid P (m + 1) k = k from if_pos (by omega)], rfl⟩
theorem m_freeFid {c : Int} (hP : PM σ0 P S σ) (hs : 0 ≤ s ∧ s < 3) (hc : 0 ≤ c ∧ c < 2) : CL fb (d + 1) 260 [vR (some 2281), vI s, vI c] σ (rP (qFree P s c) σ) := by
  refine CL_in mL_260 rfl ?_
  show WP fb _ 260 0 [some (vR (some 2281)), some (vI s), some (vI c), none] [] σ _
  refine x_li (z := s) T_260_0 rfl ?_
  refine x_li (z := c) T_260_1 rfl ?_
  refine x_cs2 T_260_2 mN_243 mL_243 (Nat.le_of_ble_eq_true rfl) mK_243 (Nat.le_of_ble_eq_true rfl) (m_base (by omega) (by omega)) ?_
  rintro _ σ ⟨rfl, rfl⟩
  refine cI ?_
  refine x_si (ls1 := [some (vR (some 2281)), some (vI s), some (vI c), some (vI (48 * (2 * s + c)))]) T_260_5 rfl ?_
  exact m_freeFid_loop hP hs hc 48 _ (by omega) (by omega)
theorem frFid_rng : ∀ (m : Nat) (k : Int), 0 ≤ k → frFid P m k = -1 ∨ (k ≤ frFid P m k ∧ frFid P m k < k + m ∧ P 2304 (frFid P m k) = 0)
  | 0, k, _ => Or.inl rfl
  | m + 1, k, h => by
    by_cases q : P 2304 k = 0
    · rw [show frFid P (m + 1) k = k from if_pos q]
      exact Or.inr ⟨Int.le_refl _, by omega, q⟩
    · rw [show frFid P (m + 1) k = frFid P m (k + 1) from if_neg q]
      rcases frFid_rng m (k + 1) (by omega) with h1 | h1
      · exact Or.inl h1
      · exact Or.inr ⟨by omega, by omega, h1.2.2⟩
theorem m_makeFid {k v : Int} (hP : PM σ0 P S σ) (hk : 0 ≤ k ∧ k < 288) (h : okN (k / 96) n) : CL fb (d + 2) 262 [vR (some 2281), vI k, vL v, vI n, vI u] σ (rV σ0 (gMake P k v n u) S) := by
  refine CL_in mL_262 rfl ?_
  show WP fb _ 262 0 [some (vR (some 2281)), some (vI k), some (vL v), none, some (vI n), some (vI u)] [] σ _
  refine x_lr (z := some 2281) T_262_0 rfl ?_
  refine x_gR (z := some 2307) T_262_1 F_17_31 (PM.t hP) (PM.r hP 31 2307 rfl) ?_
  refine x_li (z := k) T_262_4 rfl ?_
  refine x_lr (z := some 2281) T_262_5 rfl ?_
  refine x_li (z := k) T_262_6 rfl ?_
  refine x_ic T_262_7 ?_
  refine x_ib (w := (k / 96)) T_262_9 (fun h => absurd h.2 (by decide)) (div32_n (by omega) (by omega) (by decide)) ?_
  refine x_li (z := n) T_262_10 rfl ?_
  refine x_cv3 T_262_12 mN_263 mL_263 (Nat.le_of_ble_eq_true rfl) mO_263 (PM.t hP) (Nat.le_of_ble_eq_true rfl) (m_pathNumber hP (by omega)) ?_
  rintro _ σ ⟨rfl, rfl⟩
  refine cI ?_
  refine y_aIP hP T_262_15 2307 288 rfl rfl rfl (by omega) (by omega) (fun σ hP => ?_)
  refine x_lr (z := some 2281) T_262_16 rfl ?_
  refine x_gR (z := some 2304) T_262_17 F_17_28 (PM.t hP) (PM.r hP 28 2304 rfl) ?_
  refine x_li (z := k) T_262_20 rfl ?_
  refine x_ic T_262_21 ?_
  refine y_aZP hP T_262_22 rfl 2304 288 rfl rfl rfl (by omega) (by omega) (fun σ hP => ?_)
  refine x_lr (z := some 2281) T_262_23 rfl ?_
  refine x_gR (z := some 2305) T_262_24 F_17_29 (PM.t hP) (PM.r hP 29 2305 rfl) ?_
  refine x_li (z := k) T_262_27 rfl ?_
  refine x_ll (z := v) T_262_28 rfl ?_
  refine y_aLP hP T_262_29 2305 288 rfl rfl rfl (by omega) (by omega) (fun σ hP => ?_)
  refine x_lr (z := some 2281) T_262_30 rfl ?_
  refine x_gR (z := some 2306) T_262_31 F_17_30 (PM.t hP) (PM.r hP 30 2306 rfl) ?_
  refine x_li (z := k) T_262_34 rfl ?_
  refine x_li (z := n) T_262_35 rfl ?_
  refine y_aIP hP T_262_37 2306 288 rfl rfl rfl (by omega) (by omega) (fun σ hP => ?_)
  refine x_lr (z := some 2281) T_262_38 rfl ?_
  refine x_gR (z := some 2308) T_262_39 F_17_32 (PM.t hP) (PM.r hP 32 2308 rfl) ?_
  refine x_li (z := k) T_262_42 rfl ?_
  refine x_li (z := u) T_262_43 rfl ?_
  refine y_aIP hP T_262_45 2308 288 rfl rfl rfl (by omega) (by omega) (fun σ hP => ?_)
  refine x_lr (z := some 2281) T_262_46 rfl ?_
  refine x_gR (z := some 2309) T_262_47 F_17_33 (PM.t hP) (PM.r hP 33 2309 rfl) ?_
  refine x_li (z := k) T_262_50 rfl ?_
  refine x_ic T_262_51 ?_
  refine y_aIP hP T_262_52 2309 288 rfl rfl rfl (by omega) (by omega) (fun σ hP => ?_)
  refine x_lr (z := some 2281) T_262_53 rfl ?_
  refine x_gR (z := some 2310) T_262_54 F_17_34 (PM.t hP) (PM.r hP 34 2310 rfl) ?_
  refine x_li (z := k) T_262_57 rfl ?_
  refine x_ic T_262_58 ?_
  refine y_aZP hP T_262_59 rfl 2310 288 rfl rfl rfl (by omega) (by omega) (fun σ hP => ?_)
  refine x_lr (z := some 2281) T_262_60 rfl ?_
  refine x_gR (z := some 2311) T_262_61 F_17_35 (PM.t hP) (PM.r hP 35 2311 rfl) ?_
  refine x_li (z := k) T_262_64 rfl ?_
  refine x_lc T_262_65 ?_
  refine y_aLP hP T_262_66 2311 288 rfl rfl rfl (by omega) (by omega) (fun σ hP => ?_)
  refine x_lr (z := some 2281) T_262_67 rfl ?_
  refine x_gR (z := some 2312) T_262_68 F_17_36 (PM.t hP) (PM.r hP 36 2312 rfl) ?_
  refine x_li (z := k) T_262_71 rfl ?_
  refine x_ic T_262_72 ?_
  refine y_aIP hP T_262_73 2312 288 rfl rfl rfl (by omega) (by omega) (fun σ hP => ?_)
  refine x_rv T_262_74 ?_
  exact ⟨rfl, hP⟩
theorem m_fidsOf_loop {c : Int} (hP : PM σ0 P S σ) (hs : 0 ≤ s ∧ s < 3) (hc : 0 ≤ c ∧ c < 2) : ∀ (m : Nat) (k w : Int), k + m = 48 * (2 * s + c) + 48 → 48 * (2 * s + c) ≤ k → 0 ≤ w → w ≤ k → WP fb (d + 1) 421 9 [some (vR (some 2281)), some (vI s), some (vI c), some (vI w), some (vI k)] [] σ (rP (coFid P m k w) σ) := by
  intro m
  induction m with
  | zero =>
    intro k w h1 h2 h3 h4
    refine x_li (z := k) T_421_9 rfl ?_
    refine x_li (z := s) T_421_11 rfl ?_
    refine x_li (z := c) T_421_12 rfl ?_
    refine x_cs2 T_421_13 mN_243 mL_243 (Nat.le_of_ble_eq_true rfl) mK_243 (Nat.le_of_ble_eq_true rfl) (m_base (by omega) (by omega)) ?_
    rintro _ σ ⟨rfl, rfl⟩
    refine cI ?_
    refine x_ic T_421_16 ?_
    refine x_ib (w := ((48 * (2 * s + c)) + 48)) T_421_18 (fun h => absurd h.1 (by decide)) (w32_id (by omega) (by omega)) ?_
    refine x_ic2 T_421_19 (fun _ => ?_) (fun h => absurd (show ((48 * (2 * s + c)) + 48) ≤ k by omega) h)
    refine x_li (z := w) T_421_46 rfl ?_
    refine x_ri T_421_47 ?_
    exact ⟨rfl, rfl⟩
  | succ m ih =>
    intro k w h1 h2 h3 h4
    refine x_li (z := k) T_421_9 rfl ?_
    refine x_li (z := s) T_421_11 rfl ?_
    refine x_li (z := c) T_421_12 rfl ?_
    refine x_cs2 T_421_13 mN_243 mL_243 (Nat.le_of_ble_eq_true rfl) mK_243 (Nat.le_of_ble_eq_true rfl) (m_base (by omega) (by omega)) ?_
    rintro _ σ ⟨rfl, rfl⟩
    refine cI ?_
    refine x_ic T_421_16 ?_
    refine x_ib (w := ((48 * (2 * s + c)) + 48)) T_421_18 (fun h => absurd h.1 (by decide)) (w32_id (by omega) (by omega)) ?_
    refine x_ic2 T_421_19 (fun h => absurd (show ((48 * (2 * s + c)) + 48) ≤ k from h) (by omega)) (fun _ => ?_)
    refine x_lr (z := some 2281) T_421_22 rfl ?_
    refine x_gR (z := some 2304) T_421_23 F_17_28 (PM.t hP) (PM.r hP 28 2304 rfl) ?_
    refine x_li (z := k) T_421_26 rfl ?_
    refine x_alI (z := P 2304 k) T_421_28 (by decide) (PM.ta hP 2304 2 288 rfl rfl) (by omega) (by omega) (PM.aP hP 2304 rfl rfl (by omega)) ?_
    refine x_if T_421_29 (fun h29 => ?_) (fun h29 => ?_)
    · replace h29 : P 2304 k = 0 := h29
      refine x_li (z := w) T_421_38 rfl ?_
      refine x_si (ls1 := [some (vR (some 2281)), some (vI s), some (vI c), some (vI w), some (vI k)]) T_421_39 rfl ?_
      refine x_inc (w := (k + 1)) (ls1 := [some (vR (some 2281)), some (vI s), some (vI c), some (vI w), some (vI (k + 1))]) T_421_40 rfl (w32_id (by omega) (by omega)) rfl ?_
      refine x_goto T_421_43 ?_
      first
        | (rw [show coFid P (m + 1) k w = coFid P m (k + 1) (w + 1) by show coFid P m (k + 1) (if _ then w else w + 1) = _; rw [if_neg h29]]; exact ih (k + 1) (w + 1) (by omega) (by omega) (by omega) (by omega))
        | (rw [show coFid P (m + 1) k w = coFid P m (k + 1) w by show coFid P m (k + 1) (if _ then w else w + 1) = _; rw [if_pos h29]]; exact ih (k + 1) w (by omega) (by omega) (by omega) (by omega))
    · replace h29 : ¬ (P 2304 k = 0) := h29
      refine x_li (z := w) T_421_32 rfl ?_
      refine x_ic T_421_33 ?_
      refine x_ib (w := (w + 1)) T_421_34 (fun h => absurd h.1 (by decide)) (w32_id (by omega) (by omega)) ?_
      refine x_goto T_421_35 ?_
      refine x_si (ls1 := [some (vR (some 2281)), some (vI s), some (vI c), some (vI (w + 1)), some (vI k)]) T_421_39 rfl ?_
      refine x_inc (w := (k + 1)) (ls1 := [some (vR (some 2281)), some (vI s), some (vI c), some (vI (w + 1)), some (vI (k + 1))]) T_421_40 rfl (w32_id (by omega) (by omega)) rfl ?_
      refine x_goto T_421_43 ?_
      first
        | (rw [show coFid P (m + 1) k w = coFid P m (k + 1) (w + 1) by show coFid P m (k + 1) (if _ then w else w + 1) = _; rw [if_neg h29]]; exact ih (k + 1) (w + 1) (by omega) (by omega) (by omega) (by omega))
        | (rw [show coFid P (m + 1) k w = coFid P m (k + 1) w by show coFid P m (k + 1) (if _ then w else w + 1) = _; rw [if_pos h29]]; exact ih (k + 1) w (by omega) (by omega) (by omega) (by omega))
theorem m_fidsOf {c : Int} (hP : PM σ0 P S σ) (hs : 0 ≤ s ∧ s < 3) (hc : 0 ≤ c ∧ c < 2) : CL fb (d + 1) 421 [vR (some 2281), vI s, vI c] σ (rP (qFids P s c) σ) := by
  refine CL_in mL_421 rfl ?_
  show WP fb _ 421 0 [some (vR (some 2281)), some (vI s), some (vI c), none, none] [] σ _
  refine x_ic T_421_0 ?_
  refine x_si (ls1 := [some (vR (some 2281)), some (vI s), some (vI c), some (vI 0), none]) T_421_1 rfl ?_
  refine x_li (z := s) T_421_2 rfl ?_
  refine x_li (z := c) T_421_3 rfl ?_
  refine x_cs2 T_421_4 mN_243 mL_243 (Nat.le_of_ble_eq_true rfl) mK_243 (Nat.le_of_ble_eq_true rfl) (m_base (by omega) (by omega)) ?_
  rintro _ σ ⟨rfl, rfl⟩
  refine cI ?_
  refine x_si (ls1 := [some (vR (some 2281)), some (vI s), some (vI c), some (vI 0), some (vI (48 * (2 * s + c)))]) T_421_7 rfl ?_
  exact m_fidsOf_loop hP hs hc 48 _ 0 (by omega) (by omega) (by omega) (by omega)
theorem m_clunk {k : Int} (hP : PM σ0 P S σ) (hI : IV false T U P) (hT : T ≤ 2147483000) (hk : 0 ≤ k ∧ k < 288) (hs : s = k / 96) : CL fb (d + 5) 244 [vR (some 2281), vI s, vI k] σ (rV σ0 (gClunk P s k) S) := by
  have c1 : 0 ≤ P 2306 k ∧ P 2306 k ≤ (if k < 192 then 63 else 143) := IV.a hI 2306 0 288 rfl rfl rfl (by omega) (by omega)
  refine CL_in mL_244 rfl ?_
  show WP fb _ 244 0 [some (vR (some 2281)), some (vI s), some (vI k), none] [] σ _
  refine x_cut (C := (0 ≤ P 2309 k ∧ ¬ and32 (P 2309 k) 64 = 0) ∧ P 2310 k = 0) (J := 35) (ls1 := [some (vR (some 2281)), some (vI s), some (vI k), none]) (sk := fun z => vI z :: []) (fun z hz35 => ?_) (fun kJ35 => ?_)
  · refine x_si (ls1 := [some (vR (some 2281)), some (vI s), some (vI k), some (vI z)]) T_244_35 rfl ?_
    refine x_li (z := z) T_244_36 rfl ?_
    refine x_if T_244_37 (fun h37 => ?_) (fun h37 => ?_)
    · replace h37 : z = 0 := h37
      refine x_lr (z := some 2281) T_244_77 rfl ?_
      refine x_gR (z := some 2304) T_244_78 F_17_28 (PM.t hP) (PM.r hP 28 2304 rfl) ?_
      refine x_li (z := k) T_244_81 rfl ?_
      refine x_ic T_244_82 ?_
      refine y_aZP hP T_244_83 rfl 2304 288 rfl rfl rfl (by omega) (by omega) (fun σ hP => ?_)
      refine x_rv T_244_84 ?_
      refine ⟨rfl, ?_⟩
      unfold gClunk
      first
        | (rw [if_pos ⟨by by_cases q : (0 ≤ P 2309 k ∧ ¬ and32 (P 2309 k) 64 = 0) ∧ P 2310 k = 0; exact q; rw [if_neg q] at hz35; exact absurd hz35 h37, Classical.not_not.mp h57⟩]; exact hP)
        | (rw [if_neg (fun q => h57 q.2)]; exact hP)
        | (rw [if_neg (fun q => by rw [if_pos q.1] at hz35; omega)]; exact hP)
    · replace h37 : ¬ (z = 0) := h37
      refine x_lr (z := some 2281) T_244_40 rfl ?_
      refine x_li (z := s) T_244_41 rfl ?_
      refine x_lr (z := some 2281) T_244_42 rfl ?_
      refine x_gR (z := some 2306) T_244_43 F_17_30 (PM.t hP) (PM.r hP 30 2306 rfl) ?_
      refine x_li (z := k) T_244_46 rfl ?_
      have b1 : 0 ≤ P 2306 k ∧ P 2306 k ≤ (if k < 192 then 63 else 143) := IV.a hI 2306 0 288 rfl rfl rfl (by omega) (by omega)
      refine x_alI (z := P 2306 k) T_244_47 (by decide) (PM.ta hP 2306 0 288 rfl rfl) (by omega) (by omega) (PM.aP hP 2306 rfl rfl (by omega)) ?_
      refine x_lr (z := some 2281) T_244_48 rfl ?_
      refine x_gR (z := some 2308) T_244_49 F_17_32 (PM.t hP) (PM.r hP 32 2308 rfl) ?_
      refine x_li (z := k) T_244_52 rfl ?_
      have b2 : 0 ≤ P 2308 k ∧ P 2308 k ≤ 3 := IV.a hI 2308 0 288 rfl rfl rfl (by omega) (by omega)
      refine x_alI (z := P 2308 k) T_244_53 (by decide) (PM.ta hP 2308 0 288 rfl rfl) (by omega) (by omega) (PM.aP hP 2308 rfl rfl (by omega)) ?_
      refine x_cv4 T_244_54 mN_245 mL_245 (Nat.le_of_ble_eq_true rfl) mO_245 (PM.t hP) (Nat.le_of_ble_eq_true rfl) (m_removal hP hI (by omega)) ?_
      rintro _ σ ⟨rfl, rfl⟩
      refine cI ?_
      refine x_if T_244_57 (fun h57 => ?_) (fun h57 => ?_)
      · replace h57 : ¬ qRem P s (P 2306 k) (P 2308 k) = 0 := h57
        refine x_lr (z := some 2281) T_244_77 rfl ?_
        refine x_gR (z := some 2304) T_244_78 F_17_28 (PM.t hP) (PM.r hP 28 2304 rfl) ?_
        refine x_li (z := k) T_244_81 rfl ?_
        refine x_ic T_244_82 ?_
        refine y_aZP hP T_244_83 rfl 2304 288 rfl rfl rfl (by omega) (by omega) (fun σ hP => ?_)
        refine x_rv T_244_84 ?_
        refine ⟨rfl, ?_⟩
        unfold gClunk
        first
          | (rw [if_pos ⟨by by_cases q : (0 ≤ P 2309 k ∧ ¬ and32 (P 2309 k) 64 = 0) ∧ P 2310 k = 0; exact q; rw [if_neg q] at hz35; exact absurd hz35 h37, Classical.not_not.mp h57⟩]; exact hP)
          | (rw [if_neg (fun q => h57 q.2)]; exact hP)
          | (rw [if_neg (fun q => by rw [if_pos q.1] at hz35; omega)]; exact hP)
      · replace h57 : ¬ (¬ qRem P s (P 2306 k) (P 2308 k) = 0) := h57
        have hr := qRem_0 (Classical.not_not.mp h57)
        refine x_lr (z := some 2281) T_244_60 rfl ?_
        refine x_li (z := s) T_244_61 rfl ?_
        refine x_lr (z := some 2281) T_244_62 rfl ?_
        refine x_gR (z := some 2306) T_244_63 F_17_30 (PM.t hP) (PM.r hP 30 2306 rfl) ?_
        refine x_li (z := k) T_244_66 rfl ?_
        refine x_alI (z := P 2306 k) T_244_67 (by decide) (PM.ta hP 2306 0 288 rfl rfl) (by omega) (by omega) (PM.aP hP 2306 rfl rfl (by omega)) ?_
        refine x_lr (z := some 2281) T_244_68 rfl ?_
        refine x_gR (z := some 2308) T_244_69 F_17_32 (PM.t hP) (PM.r hP 32 2308 rfl) ?_
        refine x_li (z := k) T_244_72 rfl ?_
        refine x_alI (z := P 2308 k) T_244_73 (by decide) (PM.ta hP 2308 0 288 rfl rfl) (by omega) (by omega) (PM.aP hP 2308 rfl rfl (by omega)) ?_
        refine x_cv4 T_244_74 mN_254 mL_254 (Nat.le_of_ble_eq_true rfl) mO_254 (PM.t hP) (Nat.le_of_ble_eq_true rfl) (m_remove hP hI hT (by omega)) ?_
        rintro _ σ ⟨rfl, hP⟩
        refine cV ?_
        refine x_lr (z := some 2281) T_244_77 rfl ?_
        refine x_gR (z := some 2304) T_244_78 F_17_28 (PM.t hP) (PM.r hP 28 2304 rfl) ?_
        refine x_li (z := k) T_244_81 rfl ?_
        refine x_ic T_244_82 ?_
        refine y_aZP hP T_244_83 rfl 2304 288 rfl rfl rfl (by omega) (by omega) (fun σ hP => ?_)
        refine x_rv T_244_84 ?_
        refine ⟨rfl, ?_⟩
        unfold gClunk
        first
          | (rw [if_pos ⟨by by_cases q : (0 ≤ P 2309 k ∧ ¬ and32 (P 2309 k) 64 = 0) ∧ P 2310 k = 0; exact q; rw [if_neg q] at hz35; exact absurd hz35 h37, Classical.not_not.mp h57⟩]; exact hP)
          | (rw [if_neg (fun q => h57 q.2)]; exact hP)
          | (rw [if_neg (fun q => by rw [if_pos q.1] at hz35; omega)]; exact hP)
  · refine x_lr (z := some 2281) T_244_0 rfl ?_
    refine x_gR (z := some 2309) T_244_1 F_17_33 (PM.t hP) (PM.r hP 33 2309 rfl) ?_
    refine x_li (z := k) T_244_4 rfl ?_
    have b3 : -1 ≤ P 2309 k ∧ P 2309 k ≤ 255 := IV.a hI 2309 0 288 rfl rfl rfl (by omega) (by omega)
    refine x_alI (z := P 2309 k) T_244_5 (by decide) (PM.ta hP 2309 0 288 rfl rfl) (by omega) (by omega) (PM.aP hP 2309 rfl rfl (by omega)) ?_
    refine x_if T_244_6 (fun h6 => ?_) (fun h6 => ?_)
    · replace h6 : P 2309 k < 0 := h6
      refine x_ic T_244_34 ?_
      exact kJ35 0 (if_neg (by first | exact ⟨⟨by omega, by omega⟩, by omega⟩ | omega)).symm
    · replace h6 : ¬ (P 2309 k < 0) := h6
      refine x_lr (z := some 2281) T_244_9 rfl ?_
      refine x_gR (z := some 2309) T_244_10 F_17_33 (PM.t hP) (PM.r hP 33 2309 rfl) ?_
      refine x_li (z := k) T_244_13 rfl ?_
      refine x_alI (z := P 2309 k) T_244_14 (by decide) (PM.ta hP 2309 0 288 rfl rfl) (by omega) (by omega) (PM.aP hP 2309 rfl rfl (by omega)) ?_
      refine x_ic T_244_15 ?_
      refine x_ib (w := (and32 (P 2309 k) 64)) T_244_17 (fun h => absurd h.1 (by decide)) rfl ?_
      refine x_if T_244_18 (fun h18 => ?_) (fun h18 => ?_)
      · replace h18 : (and32 (P 2309 k) 64) = 0 := h18
        refine x_ic T_244_34 ?_
        exact kJ35 0 (if_neg (by first | exact ⟨⟨by omega, by omega⟩, by omega⟩ | omega)).symm
      · replace h18 : ¬ ((and32 (P 2309 k) 64) = 0) := h18
        refine x_lr (z := some 2281) T_244_21 rfl ?_
        refine x_gR (z := some 2310) T_244_22 F_17_34 (PM.t hP) (PM.r hP 34 2310 rfl) ?_
        refine x_li (z := k) T_244_25 rfl ?_
        have b4 : 0 ≤ P 2310 k ∧ P 2310 k ≤ 1 := IV.a hI 2310 2 288 rfl rfl rfl (by omega) (by omega)
        refine x_alI (z := P 2310 k) T_244_26 (by decide) (PM.ta hP 2310 2 288 rfl rfl) (by omega) (by omega) (PM.aP hP 2310 rfl rfl (by omega)) ?_
        refine x_if T_244_27 (fun h27 => ?_) (fun h27 => ?_)
        · replace h27 : ¬ P 2310 k = 0 := h27
          refine x_ic T_244_34 ?_
          exact kJ35 0 (if_neg (by first | exact ⟨⟨by omega, by omega⟩, by omega⟩ | omega)).symm
        · replace h27 : ¬ (¬ P 2310 k = 0) := h27
          refine x_ic T_244_30 ?_
          refine x_goto T_244_31 ?_
          exact kJ35 1 (if_pos (by first | exact ⟨⟨by omega, by omega⟩, by omega⟩ | omega)).symm
theorem m_putQid {w : Int} (hP : PM σ0 P S σ) (h : okN s n) (e : S 2281 6 = w) (h0 : 0 ≤ w ∧ w ≤ 499) : CL fb (d + 2) 264 [vR (some 2281), vI s, vI n] σ (rV σ0 P (rA S (qidL P s n))) := by
  subst e
  refine CL_in mL_264 rfl ?_
  show WP fb _ 264 0 [some (vR (some 2281)), some (vI s), some (vI n), none] [] σ _
  refine x_lr (z := some 2281) T_264_0 rfl ?_
  refine x_li (z := s) T_264_1 rfl ?_
  refine x_li (z := n) T_264_2 rfl ?_
  refine x_cv3 T_264_3 mN_249 mL_249 (Nat.le_of_ble_eq_true rfl) mO_249 (PM.t hP) (Nat.le_of_ble_eq_true rfl) (m_modeOf hP (by omega)) ?_
  rintro _ σ ⟨rfl, rfl⟩
  refine cI ?_
  refine x_si (ls1 := [some (vR (some 2281)), some (vI s), some (vI n), some (vI (qMode P s n))]) T_264_6 rfl ?_
  refine x_lr (z := some 2281) T_264_7 rfl ?_
  refine x_ic T_264_8 ?_
  refine x_li (z := qMode P s n) T_264_9 rfl ?_
  refine x_if T_264_10 (fun h10 => ?_) (fun h10 => ?_)
  · replace h10 : 0 ≤ qMode P s n := h10
    refine x_li (z := qMode P s n) T_264_19 rfl ?_
    refine x_ic T_264_20 ?_
    refine x_ib (w := (and32 (qMode P s n) 1073741824)) T_264_23 (fun h => absurd h.1 (by decide)) rfl ?_
    refine x_if T_264_24 (fun h24 => ?_) (fun h24 => ?_)
    · replace h24 : (and32 (qMode P s n) 1073741824) = 0 := h24
      refine x_lc T_264_33 ?_
      refine x_cv3 T_264_34 mN_237 mL_237 (Nat.le_of_ble_eq_true rfl) mO_237 (PM.t hP) (Nat.le_of_ble_eq_true rfl) (m_put 1 rfl hP (by decide) rfl (by omega) (by omega)) ?_
      rintro _ σ ⟨rfl, hP⟩
      refine cV ?_
      refine x_lr (z := some 2281) T_264_37 rfl ?_
      refine x_ic T_264_38 ?_
      refine x_lr (z := some 2281) T_264_39 rfl ?_
      refine x_li (z := s) T_264_40 rfl ?_
      refine x_li (z := n) T_264_41 rfl ?_
      refine x_cv3 T_264_42 mN_265 mL_265 (Nat.le_of_ble_eq_true rfl) mO_265 (PM.t hP) (Nat.le_of_ble_eq_true rfl) (m_versionOf hP (by omega)) ?_
      rintro _ σ ⟨rfl, rfl⟩
      refine cI ?_
      refine x_i2l T_264_45 ?_
      refine x_cv3 T_264_46 mN_237 mL_237 (Nat.le_of_ble_eq_true rfl) mO_237 (PM.t hP) (Nat.le_of_ble_eq_true rfl) (m_put 4 rfl hP (by decide) (rA_zn (leb_z 1 _ rfl) rfl) (by omega) (by omega)) ?_
      rintro _ σ ⟨rfl, hP⟩
      refine cV ?_
      refine x_lr (z := some 2281) T_264_49 rfl ?_
      refine x_ic T_264_50 ?_
      refine x_lr (z := some 2281) T_264_52 rfl ?_
      refine x_li (z := s) T_264_53 rfl ?_
      refine x_li (z := n) T_264_54 rfl ?_
      refine x_cv3 T_264_55 mN_263 mL_263 (Nat.le_of_ble_eq_true rfl) mO_263 (PM.t hP) (Nat.le_of_ble_eq_true rfl) (m_pathNumber hP (by omega)) ?_
      rintro _ σ ⟨rfl, rfl⟩
      refine cI ?_
      refine x_i2l T_264_58 ?_
      refine x_cv3 T_264_59 mN_237 mL_237 (Nat.le_of_ble_eq_true rfl) mO_237 (PM.t hP) (Nat.le_of_ble_eq_true rfl) (m_put 8 rfl hP (by decide) (rA_zn (leb_z 4 _ rfl) (rA_zn (leb_z 1 _ rfl) rfl)) (by omega) (by omega)) ?_
      rintro _ σ ⟨rfl, hP⟩
      refine cV ?_
      refine x_rv T_264_62 ?_
      refine ⟨rfl, ?_⟩
      unfold qidL
      rw [← rA_rA, ← rA_rA]
      unfold qKind
      first
        | (rw [if_pos (show qMode P s n < 0 by omega)]; exact hP)
        | (rw [if_neg (show ¬ qMode P s n < 0 by omega), if_pos h24]; exact hP)
        | (rw [if_neg (show ¬ qMode P s n < 0 by omega), if_neg h24]; exact hP)
    · replace h24 : ¬ ((and32 (qMode P s n) 1073741824) = 0) := h24
      refine x_lc T_264_27 ?_
      refine x_goto T_264_30 ?_
      refine x_cv3 T_264_34 mN_237 mL_237 (Nat.le_of_ble_eq_true rfl) mO_237 (PM.t hP) (Nat.le_of_ble_eq_true rfl) (m_put 1 rfl hP (by decide) rfl (by omega) (by omega)) ?_
      rintro _ σ ⟨rfl, hP⟩
      refine cV ?_
      refine x_lr (z := some 2281) T_264_37 rfl ?_
      refine x_ic T_264_38 ?_
      refine x_lr (z := some 2281) T_264_39 rfl ?_
      refine x_li (z := s) T_264_40 rfl ?_
      refine x_li (z := n) T_264_41 rfl ?_
      refine x_cv3 T_264_42 mN_265 mL_265 (Nat.le_of_ble_eq_true rfl) mO_265 (PM.t hP) (Nat.le_of_ble_eq_true rfl) (m_versionOf hP (by omega)) ?_
      rintro _ σ ⟨rfl, rfl⟩
      refine cI ?_
      refine x_i2l T_264_45 ?_
      refine x_cv3 T_264_46 mN_237 mL_237 (Nat.le_of_ble_eq_true rfl) mO_237 (PM.t hP) (Nat.le_of_ble_eq_true rfl) (m_put 4 rfl hP (by decide) (rA_zn (leb_z 1 _ rfl) rfl) (by omega) (by omega)) ?_
      rintro _ σ ⟨rfl, hP⟩
      refine cV ?_
      refine x_lr (z := some 2281) T_264_49 rfl ?_
      refine x_ic T_264_50 ?_
      refine x_lr (z := some 2281) T_264_52 rfl ?_
      refine x_li (z := s) T_264_53 rfl ?_
      refine x_li (z := n) T_264_54 rfl ?_
      refine x_cv3 T_264_55 mN_263 mL_263 (Nat.le_of_ble_eq_true rfl) mO_263 (PM.t hP) (Nat.le_of_ble_eq_true rfl) (m_pathNumber hP (by omega)) ?_
      rintro _ σ ⟨rfl, rfl⟩
      refine cI ?_
      refine x_i2l T_264_58 ?_
      refine x_cv3 T_264_59 mN_237 mL_237 (Nat.le_of_ble_eq_true rfl) mO_237 (PM.t hP) (Nat.le_of_ble_eq_true rfl) (m_put 8 rfl hP (by decide) (rA_zn (leb_z 4 _ rfl) (rA_zn (leb_z 1 _ rfl) rfl)) (by omega) (by omega)) ?_
      rintro _ σ ⟨rfl, hP⟩
      refine cV ?_
      refine x_rv T_264_62 ?_
      refine ⟨rfl, ?_⟩
      unfold qidL
      rw [← rA_rA, ← rA_rA]
      unfold qKind
      first
        | (rw [if_pos (show qMode P s n < 0 by omega)]; exact hP)
        | (rw [if_neg (show ¬ qMode P s n < 0 by omega), if_pos h24]; exact hP)
        | (rw [if_neg (show ¬ qMode P s n < 0 by omega), if_neg h24]; exact hP)
  · replace h10 : ¬ (0 ≤ qMode P s n) := h10
    refine x_lc T_264_13 ?_
    refine x_goto T_264_16 ?_
    refine x_cv3 T_264_34 mN_237 mL_237 (Nat.le_of_ble_eq_true rfl) mO_237 (PM.t hP) (Nat.le_of_ble_eq_true rfl) (m_put 1 rfl hP (by decide) rfl (by omega) (by omega)) ?_
    rintro _ σ ⟨rfl, hP⟩
    refine cV ?_
    refine x_lr (z := some 2281) T_264_37 rfl ?_
    refine x_ic T_264_38 ?_
    refine x_lr (z := some 2281) T_264_39 rfl ?_
    refine x_li (z := s) T_264_40 rfl ?_
    refine x_li (z := n) T_264_41 rfl ?_
    refine x_cv3 T_264_42 mN_265 mL_265 (Nat.le_of_ble_eq_true rfl) mO_265 (PM.t hP) (Nat.le_of_ble_eq_true rfl) (m_versionOf hP (by omega)) ?_
    rintro _ σ ⟨rfl, rfl⟩
    refine cI ?_
    refine x_i2l T_264_45 ?_
    refine x_cv3 T_264_46 mN_237 mL_237 (Nat.le_of_ble_eq_true rfl) mO_237 (PM.t hP) (Nat.le_of_ble_eq_true rfl) (m_put 4 rfl hP (by decide) (rA_zn (leb_z 1 _ rfl) rfl) (by omega) (by omega)) ?_
    rintro _ σ ⟨rfl, hP⟩
    refine cV ?_
    refine x_lr (z := some 2281) T_264_49 rfl ?_
    refine x_ic T_264_50 ?_
    refine x_lr (z := some 2281) T_264_52 rfl ?_
    refine x_li (z := s) T_264_53 rfl ?_
    refine x_li (z := n) T_264_54 rfl ?_
    refine x_cv3 T_264_55 mN_263 mL_263 (Nat.le_of_ble_eq_true rfl) mO_263 (PM.t hP) (Nat.le_of_ble_eq_true rfl) (m_pathNumber hP (by omega)) ?_
    rintro _ σ ⟨rfl, rfl⟩
    refine cI ?_
    refine x_i2l T_264_58 ?_
    refine x_cv3 T_264_59 mN_237 mL_237 (Nat.le_of_ble_eq_true rfl) mO_237 (PM.t hP) (Nat.le_of_ble_eq_true rfl) (m_put 8 rfl hP (by decide) (rA_zn (leb_z 4 _ rfl) (rA_zn (leb_z 1 _ rfl) rfl)) (by omega) (by omega)) ?_
    rintro _ σ ⟨rfl, hP⟩
    refine cV ?_
    refine x_rv T_264_62 ?_
    refine ⟨rfl, ?_⟩
    unfold qidL
    rw [← rA_rA, ← rA_rA]
    unfold qKind
    first
      | (rw [if_pos (show qMode P s n < 0 by omega)]; exact hP)
      | (rw [if_neg (show ¬ qMode P s n < 0 by omega), if_pos h24]; exact hP)
      | (rw [if_neg (show ¬ qMode P s n < 0 by omega), if_neg h24]; exact hP)
theorem m_putUser {w : Int} (hP : PM σ0 P S σ) (hu : 0 ≤ u ∧ u ≤ 3) (e : S 2281 6 = w) (h0 : 0 ≤ w ∧ w ≤ 507) : CL fb (d + 1) 290 [vR (some 2281), vI u] σ (rV σ0 P (rA S (usrL u))) := by
  subst e
  refine CL_in mL_290 rfl ?_
  show WP fb _ 290 0 [some (vR (some 2281)), some (vI u), none] [] σ _
  refine x_lr (z := some 2281) T_290_0 rfl ?_
  refine x_ic T_290_1 ?_
  refine x_lc T_290_2 ?_
  refine x_cv3 T_290_5 mN_237 mL_237 (Nat.le_of_ble_eq_true rfl) mO_237 (PM.t hP) (Nat.le_of_ble_eq_true rfl) (m_put 2 rfl hP (by decide) rfl (by omega) (by omega)) ?_
  rintro _ σ ⟨rfl, hP⟩
  refine cV ?_
  refine x_ic T_290_8 ?_
  refine x_si (ls1 := [some (vR (some 2281)), some (vI u), some (vI 0)]) T_290_9 rfl ?_
  refine x_li (z := 0) T_290_10 rfl ?_
  refine x_ic T_290_11 ?_
  refine x_ic2 T_290_12 (fun h => absurd (show 3 ≤ (0 : Int) from h) (by decide)) (fun _ => ?_)
  refine x_lr (z := some 2281) T_290_15 rfl ?_
  refine x_ic T_290_16 ?_
  refine x_lr (z := some 2281) T_290_17 rfl ?_
  refine x_gR (z := some 2284) T_290_18 F_17_2 (PM.t hP) (PM.r hP 2 2284 rfl) ?_
  refine x_ic T_290_21 ?_
  refine x_li (z := u) T_290_22 rfl ?_
  refine x_ib (w := (3 * u)) T_290_23 (fun h => absurd h.1 (by decide)) (w32_id (by omega) (by omega)) ?_
  refine x_li (z := 0) T_290_24 rfl ?_
  refine x_ib (w := ((3 * u) + 0)) T_290_25 (fun h => absurd h.1 (by decide)) (w32_id (by omega) (by omega)) ?_
  refine x_alI (z := ubyte ((3 * u) + 0)) T_290_26 (by decide) (PM.ta hP 2284 0 12 rfl rfl) (by omega) (by omega) (PM.c2284 hP (by omega) (by omega)) ?_
  refine x_i2l T_290_27 ?_
  refine x_cv3 T_290_28 mN_237 mL_237 (Nat.le_of_ble_eq_true rfl) mO_237 (PM.t hP) (Nat.le_of_ble_eq_true rfl) (m_put 1 rfl hP (by decide) (rA_zn (leb_z 2 _ rfl) rfl) (by omega) (by omega)) ?_
  rintro _ σ ⟨rfl, hP⟩
  refine cV ?_
  refine x_inc (w := 1) (ls1 := [some (vR (some 2281)), some (vI u), some (vI 1)]) T_290_31 rfl (w32_id (by omega) (by omega)) rfl ?_
  refine x_goto T_290_34 ?_
  refine x_li (z := 1) T_290_10 rfl ?_
  refine x_ic T_290_11 ?_
  refine x_ic2 T_290_12 (fun h => absurd (show 3 ≤ (1 : Int) from h) (by decide)) (fun _ => ?_)
  refine x_lr (z := some 2281) T_290_15 rfl ?_
  refine x_ic T_290_16 ?_
  refine x_lr (z := some 2281) T_290_17 rfl ?_
  refine x_gR (z := some 2284) T_290_18 F_17_2 (PM.t hP) (PM.r hP 2 2284 rfl) ?_
  refine x_ic T_290_21 ?_
  refine x_li (z := u) T_290_22 rfl ?_
  refine x_ib (w := (3 * u)) T_290_23 (fun h => absurd h.1 (by decide)) (w32_id (by omega) (by omega)) ?_
  refine x_li (z := 1) T_290_24 rfl ?_
  refine x_ib (w := ((3 * u) + 1)) T_290_25 (fun h => absurd h.1 (by decide)) (w32_id (by omega) (by omega)) ?_
  refine x_alI (z := ubyte ((3 * u) + 1)) T_290_26 (by decide) (PM.ta hP 2284 0 12 rfl rfl) (by omega) (by omega) (PM.c2284 hP (by omega) (by omega)) ?_
  refine x_i2l T_290_27 ?_
  refine x_cv3 T_290_28 mN_237 mL_237 (Nat.le_of_ble_eq_true rfl) mO_237 (PM.t hP) (Nat.le_of_ble_eq_true rfl) (m_put 1 rfl hP (by decide) (rA_zn (leb_z 1 _ rfl) (rA_zn (leb_z 2 _ rfl) rfl)) (by omega) (by omega)) ?_
  rintro _ σ ⟨rfl, hP⟩
  refine cV ?_
  refine x_inc (w := 2) (ls1 := [some (vR (some 2281)), some (vI u), some (vI 2)]) T_290_31 rfl (w32_id (by omega) (by omega)) rfl ?_
  refine x_goto T_290_34 ?_
  refine x_li (z := 2) T_290_10 rfl ?_
  refine x_ic T_290_11 ?_
  refine x_ic2 T_290_12 (fun h => absurd (show 3 ≤ (2 : Int) from h) (by decide)) (fun _ => ?_)
  refine x_lr (z := some 2281) T_290_15 rfl ?_
  refine x_ic T_290_16 ?_
  refine x_lr (z := some 2281) T_290_17 rfl ?_
  refine x_gR (z := some 2284) T_290_18 F_17_2 (PM.t hP) (PM.r hP 2 2284 rfl) ?_
  refine x_ic T_290_21 ?_
  refine x_li (z := u) T_290_22 rfl ?_
  refine x_ib (w := (3 * u)) T_290_23 (fun h => absurd h.1 (by decide)) (w32_id (by omega) (by omega)) ?_
  refine x_li (z := 2) T_290_24 rfl ?_
  refine x_ib (w := ((3 * u) + 2)) T_290_25 (fun h => absurd h.1 (by decide)) (w32_id (by omega) (by omega)) ?_
  refine x_alI (z := ubyte ((3 * u) + 2)) T_290_26 (by decide) (PM.ta hP 2284 0 12 rfl rfl) (by omega) (by omega) (PM.c2284 hP (by omega) (by omega)) ?_
  refine x_i2l T_290_27 ?_
  refine x_cv3 T_290_28 mN_237 mL_237 (Nat.le_of_ble_eq_true rfl) mO_237 (PM.t hP) (Nat.le_of_ble_eq_true rfl) (m_put 1 rfl hP (by decide) (rA_zn (leb_z 1 _ rfl) (rA_zn (leb_z 1 _ rfl) (rA_zn (leb_z 2 _ rfl) rfl))) (by omega) (by omega)) ?_
  rintro _ σ ⟨rfl, hP⟩
  refine cV ?_
  refine x_inc (w := 3) (ls1 := [some (vR (some 2281)), some (vI u), some (vI 3)]) T_290_31 rfl (w32_id (by omega) (by omega)) rfl ?_
  refine x_goto T_290_34 ?_
  refine x_li (z := 3) T_290_10 rfl ?_
  refine x_ic T_290_11 ?_
  refine x_ic2 T_290_12 (fun _ => ?_) (fun h => absurd (show 3 ≤ (3 : Int) by decide) h)
  refine x_rv T_290_37 ?_
  refine ⟨rfl, ?_⟩
  unfold usrL
  rw [← rA_rA, ← rA_rA, ← rA_rA]
  exact hP
theorem m_statSize (hP : PM σ0 P S σ) (hI : IV false T U P) (h : okN s n) : CL fb (d + 2) 287 [vR (some 2281), vI s, vI n] σ (rP (58 + qNs P s n) σ) := by
  have hn := qNs_i hI h
  refine CL_in mL_287 rfl ?_
  show WP fb _ 287 0 [some (vR (some 2281)), some (vI s), some (vI n)] [] σ _
  refine x_ic T_287_0 ?_
  refine x_lr (z := some 2281) T_287_2 rfl ?_
  refine x_li (z := s) T_287_3 rfl ?_
  refine x_li (z := n) T_287_4 rfl ?_
  refine x_cv3 T_287_5 mN_270 mL_270 (Nat.le_of_ble_eq_true rfl) mO_270 (PM.t hP) (Nat.le_of_ble_eq_true rfl) (m_nameSize hP (by omega)) ?_
  rintro _ σ ⟨rfl, rfl⟩
  refine cI ?_
  refine x_ib (w := (58 + qNs P s n)) T_287_8 (fun h => absurd h.1 (by decide)) (w32_id (by omega) (by omega)) ?_
  refine x_ri T_287_9 ?_
  exact ⟨rfl, rfl⟩
theorem m_putStat_loop {S0 : qR} {w : Int} (hI : IV false T U P) (h : okN s n) (e : S0 2281 6 = w) (h0 : 0 ≤ w ∧ w ≤ 480) {Q : Option AV → hM → Prop} (hQ : ∀ σ k, PM σ0 P (rA S0 (nmL P s n (qNs P s n).toNat)) σ → WP fb (d + 3) 288 112 [some (vR (some 2281)), some (vI s), some (vI n), some (vI k)] [] σ Q) : ∀ (m : Nat) (k : Int) (σ : hM), k + m = qNs P s n → 0 ≤ k → PM σ0 P (rA S0 (nmL P s n k.toNat)) σ → WP fb (d + 3) 288 83 [some (vR (some 2281)), some (vI s), some (vI n), some (vI k)] [] σ Q := by
  have hn := qNs_i hI h
  intro m
  induction m with
  | zero =>
    intro k σ hk hk0 hP
    refine x_li (z := k) T_288_83 rfl ?_
    refine x_lr (z := some 2281) T_288_84 rfl ?_
    refine x_li (z := s) T_288_85 rfl ?_
    refine x_li (z := n) T_288_86 rfl ?_
    refine x_cv3 T_288_87 mN_270 mL_270 (Nat.le_of_ble_eq_true rfl) mO_270 (PM.t hP) (Nat.le_of_ble_eq_true rfl) (m_nameSize hP (by omega)) ?_
    rintro _ σ ⟨rfl, rfl⟩
    refine cI ?_
    refine x_ic2 T_288_90 (fun _ => ?_) (fun h => absurd (show qNs P s n ≤ k by omega) h)
    exact hQ σ _ (by rw [show qNs P s n = k by omega]; exact hP)
  | succ m ih =>
    intro k σ hk hk0 hP
    have e2 : rA S0 (nmL P s n k.toNat) 2281 6 = w + k := rA_zn (by rw [nmL_len]; omega) e
    refine x_li (z := k) T_288_83 rfl ?_
    refine x_lr (z := some 2281) T_288_84 rfl ?_
    refine x_li (z := s) T_288_85 rfl ?_
    refine x_li (z := n) T_288_86 rfl ?_
    refine x_cv3 T_288_87 mN_270 mL_270 (Nat.le_of_ble_eq_true rfl) mO_270 (PM.t hP) (Nat.le_of_ble_eq_true rfl) (m_nameSize hP (by omega)) ?_
    rintro _ σ ⟨rfl, rfl⟩
    refine cI ?_
    refine x_ic2 T_288_90 (fun h => absurd (show qNs P s n ≤ k from h) (by omega)) (fun _ => ?_)
    refine x_lr (z := some 2281) T_288_93 rfl ?_
    refine x_ic T_288_94 ?_
    refine x_lr (z := some 2281) T_288_95 rfl ?_
    refine x_li (z := s) T_288_96 rfl ?_
    refine x_li (z := n) T_288_97 rfl ?_
    refine x_li (z := k) T_288_98 rfl ?_
    refine x_cv4 T_288_99 mN_273 mL_273 (Nat.le_of_ble_eq_true rfl) mO_273 (PM.t hP) (Nat.le_of_ble_eq_true rfl) (m_nameByte hP hI (by omega) (by omega)) ?_
    rintro _ σ ⟨rfl, rfl⟩
    refine cI ?_
    refine x_i2l T_288_102 ?_
    refine x_cv3 T_288_103 mN_237 mL_237 (Nat.le_of_ble_eq_true rfl) mO_237 (PM.t hP) (Nat.le_of_ble_eq_true rfl) (m_put 1 rfl hP (by decide) e2 (by omega) (by omega)) ?_
    rintro _ σ ⟨rfl, hP⟩
    refine cV ?_
    refine x_inc (w := (k + 1)) (ls1 := [some (vR (some 2281)), some (vI s), some (vI n), some (vI (k + 1))]) T_288_106 rfl (w32_id (by omega) (by omega)) rfl ?_
    refine x_goto T_288_109 ?_
    skip
    rw [rA_rA] at hP
    refine ih (k + 1) σ (by omega) (by omega) ?_
    rw [show (k + 1).toNat = k.toNat + 1 by omega]
    show PM σ0 P (rA S0 (nmL P s n k.toNat ++ leb 1 (qNb P s n (k.toNat : Nat)))) σ
    rw [Int.toNat_of_nonneg hk0]
    exact hP
theorem m_putStat {w : Int} (hP : PM σ0 P S σ) (hI : IV false T U P) (h : okN s n) (e : S 2281 6 = w) (h0 : 0 ≤ w ∧ w ≤ 400) : CL fb (d + 4) 288 [vR (some 2281), vI s, vI n] σ (rV σ0 P (rA S (statL P s n))) := by
  have hn := qNs_i hI h
  have hu := qUid_i hI h
  have hg := qGid_i hI h
  have hm := qMuid_i hI h
  subst e
  refine CL_in mL_288 rfl ?_
  show WP fb _ 288 0 [some (vR (some 2281)), some (vI s), some (vI n), none] [] σ _
  refine x_lr (z := some 2281) T_288_0 rfl ?_
  refine x_ic T_288_1 ?_
  refine x_lr (z := some 2281) T_288_2 rfl ?_
  refine x_li (z := s) T_288_3 rfl ?_
  refine x_li (z := n) T_288_4 rfl ?_
  refine x_cv3 T_288_5 mN_287 mL_287 (Nat.le_of_ble_eq_true rfl) mO_287 (PM.t hP) (Nat.le_of_ble_eq_true rfl) (m_statSize hP hI (by omega)) ?_
  rintro _ σ ⟨rfl, rfl⟩
  refine cI ?_
  refine x_ic T_288_8 ?_
  refine x_ib (w := ((58 + qNs P s n) - 2)) T_288_9 (fun h => absurd h.1 (by decide)) (w32_id (by omega) (by omega)) ?_
  refine x_i2l T_288_10 ?_
  refine x_cv3 T_288_11 mN_237 mL_237 (Nat.le_of_ble_eq_true rfl) mO_237 (PM.t hP) (Nat.le_of_ble_eq_true rfl) (m_put 2 rfl hP (by decide) rfl (by omega) (by omega)) ?_
  rintro _ σ ⟨rfl, hP⟩
  refine cV ?_
  refine x_lr (z := some 2281) T_288_14 rfl ?_
  refine x_ic T_288_15 ?_
  refine x_lc T_288_16 ?_
  refine x_cv3 T_288_17 mN_237 mL_237 (Nat.le_of_ble_eq_true rfl) mO_237 (PM.t hP) (Nat.le_of_ble_eq_true rfl) (m_put 2 rfl hP (by decide) (rA_zn (leb_z 2 _ rfl) rfl) (by omega) (by omega)) ?_
  rintro _ σ ⟨rfl, hP⟩
  refine cV ?_
  refine x_lr (z := some 2281) T_288_20 rfl ?_
  refine x_ic T_288_21 ?_
  refine x_lc T_288_22 ?_
  refine x_cv3 T_288_23 mN_237 mL_237 (Nat.le_of_ble_eq_true rfl) mO_237 (PM.t hP) (Nat.le_of_ble_eq_true rfl) (m_put 4 rfl hP (by decide) (rA_zn (leb_z 2 _ rfl) (rA_zn (leb_z 2 _ rfl) rfl)) (by omega) (by omega)) ?_
  rintro _ σ ⟨rfl, hP⟩
  refine cV ?_
  refine x_lr (z := some 2281) T_288_26 rfl ?_
  refine x_li (z := s) T_288_27 rfl ?_
  refine x_li (z := n) T_288_28 rfl ?_
  refine x_cv3 T_288_29 mN_264 mL_264 (Nat.le_of_ble_eq_true rfl) mO_264 (PM.t hP) (Nat.le_of_ble_eq_true rfl) (m_putQid hP (by omega) (rA_zn (leb_z 4 _ rfl) (rA_zn (leb_z 2 _ rfl) (rA_zn (leb_z 2 _ rfl) rfl))) (by omega)) ?_
  rintro _ σ ⟨rfl, hP⟩
  refine cV ?_
  refine x_lr (z := some 2281) T_288_32 rfl ?_
  refine x_ic T_288_33 ?_
  refine x_lr (z := some 2281) T_288_34 rfl ?_
  refine x_li (z := s) T_288_35 rfl ?_
  refine x_li (z := n) T_288_36 rfl ?_
  refine x_cv3 T_288_37 mN_249 mL_249 (Nat.le_of_ble_eq_true rfl) mO_249 (PM.t hP) (Nat.le_of_ble_eq_true rfl) (m_modeOf hP (by omega)) ?_
  rintro _ σ ⟨rfl, rfl⟩
  refine cI ?_
  refine x_i2l T_288_40 ?_
  refine x_cv3 T_288_41 mN_237 mL_237 (Nat.le_of_ble_eq_true rfl) mO_237 (PM.t hP) (Nat.le_of_ble_eq_true rfl) (m_put 4 rfl hP (by decide) (rA_zn (qidL_len _ _ _) (rA_zn (leb_z 4 _ rfl) (rA_zn (leb_z 2 _ rfl) (rA_zn (leb_z 2 _ rfl) rfl)))) (by omega) (by omega)) ?_
  rintro _ σ ⟨rfl, hP⟩
  refine cV ?_
  refine x_lr (z := some 2281) T_288_44 rfl ?_
  refine x_ic T_288_45 ?_
  refine x_lc T_288_46 ?_
  refine x_cv3 T_288_47 mN_237 mL_237 (Nat.le_of_ble_eq_true rfl) mO_237 (PM.t hP) (Nat.le_of_ble_eq_true rfl) (m_put 4 rfl hP (by decide) (rA_zn (leb_z 4 _ rfl) (rA_zn (qidL_len _ _ _) (rA_zn (leb_z 4 _ rfl) (rA_zn (leb_z 2 _ rfl) (rA_zn (leb_z 2 _ rfl) rfl))))) (by omega) (by omega)) ?_
  rintro _ σ ⟨rfl, hP⟩
  refine cV ?_
  refine x_lr (z := some 2281) T_288_50 rfl ?_
  refine x_ic T_288_51 ?_
  refine x_lc T_288_52 ?_
  refine x_cv3 T_288_53 mN_237 mL_237 (Nat.le_of_ble_eq_true rfl) mO_237 (PM.t hP) (Nat.le_of_ble_eq_true rfl) (m_put 4 rfl hP (by decide) (rA_zn (leb_z 4 _ rfl) (rA_zn (leb_z 4 _ rfl) (rA_zn (qidL_len _ _ _) (rA_zn (leb_z 4 _ rfl) (rA_zn (leb_z 2 _ rfl) (rA_zn (leb_z 2 _ rfl) rfl)))))) (by omega) (by omega)) ?_
  rintro _ σ ⟨rfl, hP⟩
  refine cV ?_
  refine x_lr (z := some 2281) T_288_56 rfl ?_
  refine x_ic T_288_57 ?_
  refine x_lr (z := some 2281) T_288_59 rfl ?_
  refine x_li (z := s) T_288_60 rfl ?_
  refine x_li (z := n) T_288_61 rfl ?_
  refine x_cv3 T_288_62 mN_289 mL_289 (Nat.le_of_ble_eq_true rfl) mO_289 (PM.t hP) (Nat.le_of_ble_eq_true rfl) (m_lengthOf hP (by omega)) ?_
  rintro _ σ ⟨rfl, rfl⟩
  refine cI ?_
  refine x_i2l T_288_65 ?_
  refine x_cv3 T_288_66 mN_237 mL_237 (Nat.le_of_ble_eq_true rfl) mO_237 (PM.t hP) (Nat.le_of_ble_eq_true rfl) (m_put 8 rfl hP (by decide) (rA_zn (leb_z 4 _ rfl) (rA_zn (leb_z 4 _ rfl) (rA_zn (leb_z 4 _ rfl) (rA_zn (qidL_len _ _ _) (rA_zn (leb_z 4 _ rfl) (rA_zn (leb_z 2 _ rfl) (rA_zn (leb_z 2 _ rfl) rfl))))))) (by omega) (by omega)) ?_
  rintro _ σ ⟨rfl, hP⟩
  refine cV ?_
  refine x_lr (z := some 2281) T_288_69 rfl ?_
  refine x_ic T_288_70 ?_
  refine x_lr (z := some 2281) T_288_71 rfl ?_
  refine x_li (z := s) T_288_72 rfl ?_
  refine x_li (z := n) T_288_73 rfl ?_
  refine x_cv3 T_288_74 mN_270 mL_270 (Nat.le_of_ble_eq_true rfl) mO_270 (PM.t hP) (Nat.le_of_ble_eq_true rfl) (m_nameSize hP (by omega)) ?_
  rintro _ σ ⟨rfl, rfl⟩
  refine cI ?_
  refine x_i2l T_288_77 ?_
  refine x_cv3 T_288_78 mN_237 mL_237 (Nat.le_of_ble_eq_true rfl) mO_237 (PM.t hP) (Nat.le_of_ble_eq_true rfl) (m_put 2 rfl hP (by decide) (rA_zn (leb_z 8 _ rfl) (rA_zn (leb_z 4 _ rfl) (rA_zn (leb_z 4 _ rfl) (rA_zn (leb_z 4 _ rfl) (rA_zn (qidL_len _ _ _) (rA_zn (leb_z 4 _ rfl) (rA_zn (leb_z 2 _ rfl) (rA_zn (leb_z 2 _ rfl) rfl)))))))) (by omega) (by omega)) ?_
  rintro _ σ ⟨rfl, hP⟩
  refine cV ?_
  refine x_ic T_288_81 ?_
  refine x_si (ls1 := [some (vR (some 2281)), some (vI s), some (vI n), some (vI 0)]) T_288_82 rfl ?_
  refine m_putStat_loop (d := d + 1) (S0 := (rA (rA (rA (rA (rA (rA (rA (rA (rA S (leb 2 ((58 + qNs P s n) - 2))) (leb 2 0)) (leb 4 0)) (qidL P s n)) (leb 4 (qMode P s n))) (leb 4 0)) (leb 4 0)) (leb 8 (qLen P s n))) (leb 2 (qNs P s n)))) hI h (rA_zn (leb_z 2 _ rfl) (rA_zn (leb_z 8 _ rfl) (rA_zn (leb_z 4 _ rfl) (rA_zn (leb_z 4 _ rfl) (rA_zn (leb_z 4 _ rfl) (rA_zn (qidL_len _ _ _) (rA_zn (leb_z 4 _ rfl) (rA_zn (leb_z 2 _ rfl) (rA_zn (leb_z 2 _ rfl) rfl))))))))) (by omega) (fun σ k hP => ?_) (qNs P s n).toNat 0 σ (by omega) (by decide) (by rw [show nmL P s n (0 : Int).toNat = [] from rfl, rA_nil]; exact hP)
  have hz : (rA (rA (rA (rA (rA (rA (rA (rA (rA (rA S (leb 2 ((58 + qNs P s n) - 2))) (leb 2 0)) (leb 4 0)) (qidL P s n)) (leb 4 (qMode P s n))) (leb 4 0)) (leb 4 0)) (leb 8 (qLen P s n))) (leb 2 (qNs P s n))) (nmL P s n (qNs P s n).toNat)) 2281 6 = (((((((((S 2281 6 + 2) + 2) + 4) + 13) + 4) + 4) + 4) + 8) + 2) + qNs P s n := rA_zn (by rw [nmL_len]; omega) (rA_zn (leb_z 2 _ rfl) (rA_zn (leb_z 8 _ rfl) (rA_zn (leb_z 4 _ rfl) (rA_zn (leb_z 4 _ rfl) (rA_zn (leb_z 4 _ rfl) (rA_zn (qidL_len _ _ _) (rA_zn (leb_z 4 _ rfl) (rA_zn (leb_z 2 _ rfl) (rA_zn (leb_z 2 _ rfl) rfl)))))))))
  obtain ⟨S1, hS⟩ : ∃ S1, S1 = rA (rA (rA (rA (rA (rA (rA (rA (rA (rA S (leb 2 ((58 + qNs P s n) - 2))) (leb 2 0)) (leb 4 0)) (qidL P s n)) (leb 4 (qMode P s n))) (leb 4 0)) (leb 4 0)) (leb 8 (qLen P s n))) (leb 2 (qNs P s n))) (nmL P s n (qNs P s n).toNat) := ⟨_, rfl⟩
  rw [← hS] at hP hz
  refine x_lr (z := some 2281) T_288_112 rfl ?_
  refine x_lr (z := some 2281) T_288_113 rfl ?_
  refine x_li (z := s) T_288_114 rfl ?_
  refine x_li (z := n) T_288_115 rfl ?_
  refine x_cv3 T_288_116 mN_250 mL_250 (Nat.le_of_ble_eq_true rfl) mO_250 (PM.t hP) (Nat.le_of_ble_eq_true rfl) (m_uidOf hP (by omega)) ?_
  rintro _ σ ⟨rfl, rfl⟩
  refine cI ?_
  refine x_cv2 T_288_119 mN_290 mL_290 (Nat.le_of_ble_eq_true rfl) mO_290 (PM.t hP) (Nat.le_of_ble_eq_true rfl) (m_putUser hP (by omega) rfl (by omega)) ?_
  rintro _ σ ⟨rfl, hP⟩
  refine cV ?_
  refine x_lr (z := some 2281) T_288_122 rfl ?_
  refine x_lr (z := some 2281) T_288_123 rfl ?_
  refine x_li (z := s) T_288_124 rfl ?_
  refine x_li (z := n) T_288_125 rfl ?_
  refine x_cv3 T_288_126 mN_251 mL_251 (Nat.le_of_ble_eq_true rfl) mO_251 (PM.t hP) (Nat.le_of_ble_eq_true rfl) (m_gidOf hP (by omega)) ?_
  rintro _ σ ⟨rfl, rfl⟩
  refine cI ?_
  refine x_cv2 T_288_129 mN_290 mL_290 (Nat.le_of_ble_eq_true rfl) mO_290 (PM.t hP) (Nat.le_of_ble_eq_true rfl) (m_putUser hP (by omega) (rA_zn (usrL_len _) rfl) (by omega)) ?_
  rintro _ σ ⟨rfl, hP⟩
  refine cV ?_
  refine x_lr (z := some 2281) T_288_132 rfl ?_
  refine x_lr (z := some 2281) T_288_133 rfl ?_
  refine x_li (z := s) T_288_134 rfl ?_
  refine x_li (z := n) T_288_135 rfl ?_
  refine x_cv3 T_288_136 mN_291 mL_291 (Nat.le_of_ble_eq_true rfl) mO_291 (PM.t hP) (Nat.le_of_ble_eq_true rfl) (m_muidOf hP (by omega)) ?_
  rintro _ σ ⟨rfl, rfl⟩
  refine cI ?_
  refine x_cv2 T_288_139 mN_290 mL_290 (Nat.le_of_ble_eq_true rfl) mO_290 (PM.t hP) (Nat.le_of_ble_eq_true rfl) (m_putUser hP (by omega) (rA_zn (usrL_len _) (rA_zn (usrL_len _) rfl)) (by omega)) ?_
  rintro _ σ ⟨rfl, hP⟩
  refine cV ?_
  refine x_rv T_288_142 ?_
  refine ⟨rfl, ?_⟩
  unfold statL
  rw [hS] at hP
  simp only [rA_rA, List.append_assoc] at hP ⊢
  exact hP
theorem m_isWhole {p : Int} (hP : PM σ0 P (pS S p) σ) (hp : p ≤ S 2281 4) : CL fb (d + 3) 241 [vR (some 2281)] σ (rI (if p = S 2281 4 ∧ 0 ≤ p then 1 else 0) σ0 P (if p = S 2281 4 ∧ 0 ≤ p then pS S p else rfs (pS S p) 14)) := by
  have ha : pS S p 2281 8 = if p < 0 then S 2281 4 + 1 else p := pS_at
  have hb : pS S p 2281 9 = if p < 0 then 1 else 0 := pS_bad
  by_cases h : p = S 2281 4 ∧ 0 ≤ p
  · rw [if_pos h, if_pos h]
    rw [if_neg (by omega)] at ha hb
    refine CL_in mL_241 rfl ?_
    show WP fb _ 241 0 [some (vR (some 2281))] [] σ _
    refine x_lr (z := some 2281) T_241_0 rfl ?_
    refine x_gI (z := 0) T_241_1 (Or.inr (Or.inl F_17_9)) (PM.t hP) (Eq.trans (PM.nS hP 2281 9 9 rfl rfl rfl) hb) ?_
    refine x_if T_241_4 (fun h => absurd (show ¬ (0 : Int) = 0 from h) (by decide)) (fun _ => ?_)
    refine x_lr (z := some 2281) T_241_7 rfl ?_
    refine x_gI (z := p) T_241_8 (Or.inl F_17_8) (PM.t hP) (Eq.trans (PM.nS hP 2281 8 8 rfl rfl rfl) ha) ?_
    refine x_lr (z := some 2281) T_241_11 rfl ?_
    refine x_gI (z := S 2281 4) T_241_12 (Or.inl F_17_4) (PM.t hP) (Eq.trans (PM.nS hP 2281 4 4 rfl rfl rfl) (pS_k (by decide))) ?_
    refine x_ic2 T_241_15 (fun _ => ?_) (fun h => absurd (show p = S 2281 4 by omega) h)
    refine x_ic T_241_26 ?_
    refine x_rz T_241_27 rfl ?_
    exact ⟨rfl, hP⟩
  · rw [if_neg h, if_neg h]
    by_cases h2 : p < 0
    · rw [if_pos h2] at ha hb
      refine CL_in mL_241 rfl ?_
      show WP fb _ 241 0 [some (vR (some 2281))] [] σ _
      refine x_lr (z := some 2281) T_241_0 rfl ?_
      refine x_gI (z := 1) T_241_1 (Or.inr (Or.inl F_17_9)) (PM.t hP) (Eq.trans (PM.nS hP 2281 9 9 rfl rfl rfl) hb) ?_
      refine x_if T_241_4 (fun _ => ?_) (fun h => absurd (show ¬ (1 : Int) = 0 by decide) h)
      refine x_lr (z := some 2281) T_241_18 rfl ?_
      refine x_ic T_241_19 ?_
      refine x_cv2 T_241_21 mN_235 mL_235 (Nat.le_of_ble_eq_true rfl) mO_235 (PM.t hP) (Nat.le_of_ble_eq_true rfl) (m_refuse hP (by omega)) ?_
      rintro _ σ ⟨rfl, hP⟩
      refine cV ?_
      refine x_ic T_241_24 ?_
      refine x_rz T_241_25 rfl ?_
      exact ⟨rfl, hP⟩
    · rw [if_neg h2] at ha hb
      refine CL_in mL_241 rfl ?_
      show WP fb _ 241 0 [some (vR (some 2281))] [] σ _
      refine x_lr (z := some 2281) T_241_0 rfl ?_
      refine x_gI (z := 0) T_241_1 (Or.inr (Or.inl F_17_9)) (PM.t hP) (Eq.trans (PM.nS hP 2281 9 9 rfl rfl rfl) hb) ?_
      refine x_if T_241_4 (fun h => absurd (show ¬ (0 : Int) = 0 from h) (by decide)) (fun _ => ?_)
      refine x_lr (z := some 2281) T_241_7 rfl ?_
      refine x_gI (z := p) T_241_8 (Or.inl F_17_8) (PM.t hP) (Eq.trans (PM.nS hP 2281 8 8 rfl rfl rfl) ha) ?_
      refine x_lr (z := some 2281) T_241_11 rfl ?_
      refine x_gI (z := S 2281 4) T_241_12 (Or.inl F_17_4) (PM.t hP) (Eq.trans (PM.nS hP 2281 4 4 rfl rfl rfl) (pS_k (by decide))) ?_
      refine x_ic2 T_241_15 (fun h => absurd (show p = S 2281 4 from h) (by omega)) (fun _ => ?_)
      refine x_lr (z := some 2281) T_241_18 rfl ?_
      refine x_ic T_241_19 ?_
      refine x_cv2 T_241_21 mN_235 mL_235 (Nat.le_of_ble_eq_true rfl) mO_235 (PM.t hP) (Nat.le_of_ble_eq_true rfl) (m_refuse hP (by omega)) ?_
      rintro _ σ ⟨rfl, hP⟩
      refine cV ?_
      refine x_ic T_241_24 ?_
      refine x_rz T_241_25 rfl ?_
      exact ⟨rfl, hP⟩
/-- the next string is kept: the i-th, z bytes from a on -/
def sK (S : qR) (i a z : Int) : qR := rU (if i < 8 then rU (rU S 2287 i a) 2288 i z else S) 2281 12 (i + 1)
theorem m_string {p i : Int} (hP : PM σ0 P (pS S p) σ) (hJ : IV true T U S) (hi : S 2281 12 = i) (h0 : 0 ≤ i ∧ i ≤ 500) (hp : p ≤ S 2281 4) : CL fb (d + 1) 240 [vR (some 2281)] σ (rV σ0 P (if sE (S 2285) (S 2281 4) p < 0 then pS S (-1) else pS (sK S i (p + 2) (nu (S 2285) p 2)) (sE (S 2285) (S 2281 4) p))) := by
  have hz : 0 ≤ S 2281 4 ∧ S 2281 4 ≤ 512 := IV.n hJ 4 4 rfl rfl (by decide)
  have hb : ∀ j, 0 ≤ j → j < S 2281 4 → 0 ≤ S 2285 j ∧ S 2285 j ≤ 255 := fun j h1 h2 => IV.a hJ 2285 0 512 rfl rfl rfl h1 (by omega)
  by_cases h1 : p < 0 ∨ S 2281 4 < p + 2
  · have hs : sE (S 2285) (S 2281 4) p = -1 := if_pos h1
    rw [hs, if_pos (by decide)]
    have hv : nv (S 2285) (S 2281 4) p 2 = 0 := if_pos h1
    have ha : av (S 2281 4) p 2 = -1 := if_pos h1
    have hnum : CL fb d 234 [vR (some 2281), vI 2] σ (rL (nv (S 2285) (S 2281 4) p 2) σ0 P (pS S (av (S 2281 4) p 2))) := m_number (fb := fb) (d := d) 2 rfl hP (by decide) hz hp hb
    rw [hv, ha] at hnum
    refine CL_in mL_240 rfl ?_
    show WP fb _ 240 0 [some (vR (some 2281)), none] [] σ _
    refine x_lr (z := some 2281) T_240_0 rfl ?_
    refine x_ic T_240_1 ?_
    refine x_cv2 T_240_2 mN_234 mL_234 (Nat.le_of_ble_eq_true rfl) mO_234 (PM.t hP) (Nat.le_of_ble_eq_true rfl) (hnum) ?_
    rintro _ σ ⟨rfl, hP⟩
    refine cL ?_
    refine x_l2i (w := 0) T_240_5 (w32_id (by omega) (by omega)) ?_
    refine x_si (ls1 := [some (vR (some 2281)), some (vI 0)]) T_240_6 rfl ?_
    refine x_lr (z := some 2281) T_240_7 rfl ?_
    refine x_gI (z := 1) T_240_8 (Or.inr (Or.inl F_17_9)) (PM.t hP) (Eq.trans (PM.nS hP 2281 9 9 rfl rfl rfl) pS_bad) ?_
    refine x_if T_240_11 (fun _ => ?_) (fun h => absurd (show ¬ (1 : Int) = 0 by decide) h)
    refine x_lr (z := some 2281) T_240_27 rfl ?_
    refine x_ic T_240_28 ?_
    refine y_pZS hP T_240_29 F_17_9 rfl 9 rfl rfl (fun σ hP => ?_)
    refine x_lr (z := some 2281) T_240_32 rfl ?_
    refine x_lr (z := some 2281) T_240_33 rfl ?_
    have b1 : 0 ≤ S 2281 4 ∧ S 2281 4 ≤ 512 := IV.n hJ 4 4 rfl rfl (by decide)
    refine x_gI (z := S 2281 4) T_240_34 (Or.inl F_17_4) (PM.t hP) (Eq.trans (PM.nS hP 2281 4 4 rfl rfl rfl) (Eq.trans (rU_k (by decide)) (pS_k (by decide)))) ?_
    refine x_ic T_240_37 ?_
    refine x_ib (w := (S 2281 4 + 1)) T_240_38 (fun h => absurd h.1 (by decide)) (w32_id (by omega) (by omega)) ?_
    refine y_pIS hP T_240_39 F_17_8 8 rfl rfl (fun σ hP => ?_)
    refine x_rv T_240_42 ?_
    exact ⟨rfl, by rw [pS_set, pS_neg (p := -1) (by decide)] at hP; exact hP⟩
  · have hv : nv (S 2285) (S 2281 4) p 2 = nu (S 2285) p 2 := by
      unfold nv
      rw [if_neg (show ¬ (p < 0 ∨ S 2281 4 < p + ((2 : Nat) : Int)) by omega)]
      have := nu_rng (f := S 2285) (i := p) 2 (fun k hk => hb _ (by omega) (by omega))
      exact w64_id (by omega) (by have h2 := this.2; rw [show (256 : Int) ^ 2 = 65536 from rfl] at h2; omega)
    have ha : av (S 2281 4) p 2 = p + 2 := if_neg h1
    have hr := nu_rng (f := S 2285) (i := p) 2 (fun k hk => hb _ (by omega) (by omega))
    rw [show (256 : Int) ^ 2 = 65536 from rfl] at hr
    have hnum : CL fb d 234 [vR (some 2281), vI 2] σ (rL (nv (S 2285) (S 2281 4) p 2) σ0 P (pS S (av (S 2281 4) p 2))) := m_number (fb := fb) (d := d) 2 rfl hP (by decide) hz hp hb
    rw [hv, ha] at hnum
    have hat : pS S (p + 2) 2281 8 = p + 2 := pS_at.trans (if_neg (by omega))
    have hbad : pS S (p + 2) 2281 9 = 0 := pS_bad.trans (if_neg (by omega))
    by_cases h2 : S 2281 4 < p + 2 + nu (S 2285) p 2
    · have hs : sE (S 2285) (S 2281 4) p = -1 := by
        unfold sE
        rw [if_neg h1, if_pos h2]
      rw [hs, if_pos (by decide)]
      refine CL_in mL_240 rfl ?_
      show WP fb _ 240 0 [some (vR (some 2281)), none] [] σ _
      refine x_lr (z := some 2281) T_240_0 rfl ?_
      refine x_ic T_240_1 ?_
      refine x_cv2 T_240_2 mN_234 mL_234 (Nat.le_of_ble_eq_true rfl) mO_234 (PM.t hP) (Nat.le_of_ble_eq_true rfl) (hnum) ?_
      rintro _ σ ⟨rfl, hP⟩
      refine cL ?_
      refine x_l2i (w := nu (S 2285) p 2) T_240_5 (w32_id (by omega) (by omega)) ?_
      refine x_si (ls1 := [some (vR (some 2281)), some (vI (nu (S 2285) p 2))]) T_240_6 rfl ?_
      refine x_lr (z := some 2281) T_240_7 rfl ?_
      refine x_gI (z := 0) T_240_8 (Or.inr (Or.inl F_17_9)) (PM.t hP) (Eq.trans (PM.nS hP 2281 9 9 rfl rfl rfl) hbad) ?_
      refine x_if T_240_11 (fun h => absurd (show ¬ (0 : Int) = 0 from h) (by decide)) (fun _ => ?_)
      refine x_lr (z := some 2281) T_240_14 rfl ?_
      refine x_gI (z := (p + 2)) T_240_15 (Or.inl F_17_8) (PM.t hP) (Eq.trans (PM.nS hP 2281 8 8 rfl rfl rfl) hat) ?_
      refine x_li (z := nu (S 2285) p 2) T_240_18 rfl ?_
      refine x_ib (w := ((p + 2) + nu (S 2285) p 2)) T_240_19 (fun h => absurd h.1 (by decide)) (w32_id (by omega) (by omega)) ?_
      refine x_lr (z := some 2281) T_240_20 rfl ?_
      have b1 : 0 ≤ S 2281 4 ∧ S 2281 4 ≤ 512 := IV.n hJ 4 4 rfl rfl (by decide)
      refine x_gI (z := S 2281 4) T_240_21 (Or.inl F_17_4) (PM.t hP) (Eq.trans (PM.nS hP 2281 4 4 rfl rfl rfl) (pS_k (by decide))) ?_
      refine x_ic2 T_240_24 (fun h => absurd (show ((p + 2) + nu (S 2285) p 2) ≤ S 2281 4 from h) (by omega)) (fun _ => ?_)
      refine x_lr (z := some 2281) T_240_27 rfl ?_
      refine x_ic T_240_28 ?_
      refine y_pZS hP T_240_29 F_17_9 rfl 9 rfl rfl (fun σ hP => ?_)
      refine x_lr (z := some 2281) T_240_32 rfl ?_
      refine x_lr (z := some 2281) T_240_33 rfl ?_
      refine x_gI (z := S 2281 4) T_240_34 (Or.inl F_17_4) (PM.t hP) (Eq.trans (PM.nS hP 2281 4 4 rfl rfl rfl) (Eq.trans (rU_k (by decide)) (pS_k (by decide)))) ?_
      refine x_ic T_240_37 ?_
      refine x_ib (w := (S 2281 4 + 1)) T_240_38 (fun h => absurd h.1 (by decide)) (w32_id (by omega) (by omega)) ?_
      refine y_pIS hP T_240_39 F_17_8 8 rfl rfl (fun σ hP => ?_)
      refine x_rv T_240_42 ?_
      exact ⟨rfl, by rw [pS_set, pS_neg (p := -1) (by decide)] at hP; exact hP⟩
    · have hs : sE (S 2285) (S 2281 4) p = p + 2 + nu (S 2285) p 2 := by
        unfold sE
        rw [if_neg h1, if_neg h2]
      rw [hs, if_neg (by omega)]
      refine CL_in mL_240 rfl ?_
      show WP fb _ 240 0 [some (vR (some 2281)), none] [] σ _
      refine x_lr (z := some 2281) T_240_0 rfl ?_
      refine x_ic T_240_1 ?_
      refine x_cv2 T_240_2 mN_234 mL_234 (Nat.le_of_ble_eq_true rfl) mO_234 (PM.t hP) (Nat.le_of_ble_eq_true rfl) (hnum) ?_
      rintro _ σ ⟨rfl, hP⟩
      refine cL ?_
      refine x_l2i (w := nu (S 2285) p 2) T_240_5 (w32_id (by omega) (by omega)) ?_
      refine x_si (ls1 := [some (vR (some 2281)), some (vI (nu (S 2285) p 2))]) T_240_6 rfl ?_
      refine x_lr (z := some 2281) T_240_7 rfl ?_
      refine x_gI (z := 0) T_240_8 (Or.inr (Or.inl F_17_9)) (PM.t hP) (Eq.trans (PM.nS hP 2281 9 9 rfl rfl rfl) hbad) ?_
      refine x_if T_240_11 (fun h => absurd (show ¬ (0 : Int) = 0 from h) (by decide)) (fun _ => ?_)
      refine x_lr (z := some 2281) T_240_14 rfl ?_
      refine x_gI (z := (p + 2)) T_240_15 (Or.inl F_17_8) (PM.t hP) (Eq.trans (PM.nS hP 2281 8 8 rfl rfl rfl) hat) ?_
      refine x_li (z := nu (S 2285) p 2) T_240_18 rfl ?_
      refine x_ib (w := ((p + 2) + nu (S 2285) p 2)) T_240_19 (fun h => absurd h.1 (by decide)) (w32_id (by omega) (by omega)) ?_
      refine x_lr (z := some 2281) T_240_20 rfl ?_
      have b1 : 0 ≤ S 2281 4 ∧ S 2281 4 ≤ 512 := IV.n hJ 4 4 rfl rfl (by decide)
      refine x_gI (z := S 2281 4) T_240_21 (Or.inl F_17_4) (PM.t hP) (Eq.trans (PM.nS hP 2281 4 4 rfl rfl rfl) (pS_k (by decide))) ?_
      refine x_ic2 T_240_24 (fun _ => ?_) (fun h => absurd (show ((p + 2) + nu (S 2285) p 2) ≤ S 2281 4 by omega) h)
      refine x_lr (z := some 2281) T_240_43 rfl ?_
      refine x_gI (z := i) T_240_44 (Or.inl F_17_12) (PM.t hP) (Eq.trans (Eq.trans (PM.nS hP 2281 12 12 rfl rfl rfl) (pS_k (by decide))) hi) ?_
      refine x_ic T_240_47 ?_
      refine x_ic2 T_240_49 (fun h49 => ?_) (fun h49 => ?_)
      · replace h49 : 8 ≤ i := h49
        refine x_lr (z := some 2281) T_240_75 rfl ?_
        refine x_dupR T_240_76 ?_
        refine x_gI (z := i) T_240_77 (Or.inl F_17_12) (PM.t hP) (Eq.trans (Eq.trans (PM.nS hP 2281 12 12 rfl rfl rfl) (pS_k (by decide))) hi) ?_
        refine x_ic T_240_80 ?_
        refine x_ib (w := (i + 1)) T_240_81 (fun h => absurd h.1 (by decide)) (w32_id (by omega) (by omega)) ?_
        refine y_pIS hP T_240_82 F_17_12 12 rfl rfl (fun σ hP => ?_)
        refine x_lr (z := some 2281) T_240_85 rfl ?_
        refine x_dupR T_240_86 ?_
        refine x_gI (z := (p + 2)) T_240_87 (Or.inl F_17_8) (PM.t hP) (Eq.trans (Eq.trans (PM.nS hP 2281 8 8 rfl rfl rfl) (rU_k (by decide))) hat) ?_
        refine x_li (z := nu (S 2285) p 2) T_240_90 rfl ?_
        refine x_ib (w := ((p + 2) + nu (S 2285) p 2)) T_240_91 (fun h => absurd h.1 (by decide)) (w32_id (by omega) (by omega)) ?_
        refine y_pIS hP T_240_92 F_17_8 8 rfl rfl (fun σ hP => ?_)
        refine x_rv T_240_95 ?_
        refine ⟨rfl, ?_⟩
        unfold sK
        first
          | (rw [if_pos (show i < 8 by omega)]; rw [pS_rU (fun e => absurd e.1 (by decide)), pS_rU (fun e => absurd e.1 (by decide)), pS_rU (by decide), pS_adv (by omega) (by omega)] at hP; exact hP)
          | (rw [if_neg (show ¬ i < 8 by omega)]; rw [pS_rU (by decide), pS_adv (by omega) (by omega)] at hP; exact hP)
      · replace h49 : ¬ (8 ≤ i) := h49
        refine x_lr (z := some 2281) T_240_52 rfl ?_
        refine x_gR (z := some 2287) T_240_53 F_17_10 (PM.t hP) (PM.r hP 10 2287 rfl) ?_
        refine x_lr (z := some 2281) T_240_56 rfl ?_
        refine x_gI (z := i) T_240_57 (Or.inl F_17_12) (PM.t hP) (Eq.trans (Eq.trans (PM.nS hP 2281 12 12 rfl rfl rfl) (pS_k (by decide))) hi) ?_
        refine x_lr (z := some 2281) T_240_60 rfl ?_
        refine x_gI (z := (p + 2)) T_240_61 (Or.inl F_17_8) (PM.t hP) (Eq.trans (PM.nS hP 2281 8 8 rfl rfl rfl) hat) ?_
        refine y_aIS hP T_240_64 2287 8 rfl rfl rfl (by omega) (by omega) (fun σ hP => ?_)
        refine x_lr (z := some 2281) T_240_65 rfl ?_
        refine x_gR (z := some 2288) T_240_66 F_17_11 (PM.t hP) (PM.r hP 11 2288 rfl) ?_
        refine x_lr (z := some 2281) T_240_69 rfl ?_
        refine x_gI (z := i) T_240_70 (Or.inl F_17_12) (PM.t hP) (Eq.trans (Eq.trans (PM.nS hP 2281 12 12 rfl rfl rfl) (Eq.trans (rU_f (Nat.ne_of_beq_eq_false rfl)) (pS_k (by decide)))) hi) ?_
        refine x_li (z := nu (S 2285) p 2) T_240_73 rfl ?_
        refine y_aIS hP T_240_74 2288 8 rfl rfl rfl (by omega) (by omega) (fun σ hP => ?_)
        refine x_lr (z := some 2281) T_240_75 rfl ?_
        refine x_dupR T_240_76 ?_
        refine x_gI (z := i) T_240_77 (Or.inl F_17_12) (PM.t hP) (Eq.trans (Eq.trans (PM.nS hP 2281 12 12 rfl rfl rfl) (Eq.trans (rU_f (Nat.ne_of_beq_eq_false rfl)) (Eq.trans (rU_f (Nat.ne_of_beq_eq_false rfl)) (pS_k (by decide))))) hi) ?_
        refine x_ic T_240_80 ?_
        refine x_ib (w := (i + 1)) T_240_81 (fun h => absurd h.1 (by decide)) (w32_id (by omega) (by omega)) ?_
        refine y_pIS hP T_240_82 F_17_12 12 rfl rfl (fun σ hP => ?_)
        refine x_lr (z := some 2281) T_240_85 rfl ?_
        refine x_dupR T_240_86 ?_
        refine x_gI (z := (p + 2)) T_240_87 (Or.inl F_17_8) (PM.t hP) (Eq.trans (Eq.trans (PM.nS hP 2281 8 8 rfl rfl rfl) (Eq.trans (rU_k (by decide)) (Eq.trans (rU_f (Nat.ne_of_beq_eq_false rfl)) (rU_f (Nat.ne_of_beq_eq_false rfl))))) hat) ?_
        refine x_li (z := nu (S 2285) p 2) T_240_90 rfl ?_
        refine x_ib (w := ((p + 2) + nu (S 2285) p 2)) T_240_91 (fun h => absurd h.1 (by decide)) (w32_id (by omega) (by omega)) ?_
        refine y_pIS hP T_240_92 F_17_8 8 rfl rfl (fun σ hP => ?_)
        refine x_rv T_240_95 ?_
        refine ⟨rfl, ?_⟩
        unfold sK
        first
          | (rw [if_pos (show i < 8 by omega)]; rw [pS_rU (fun e => absurd e.1 (by decide)), pS_rU (fun e => absurd e.1 (by decide)), pS_rU (by decide), pS_adv (by omega) (by omega)] at hP; exact hP)
          | (rw [if_neg (show ¬ i < 8 by omega)]; rw [pS_rU (by decide), pS_adv (by omega) (by omega)] at hP; exact hP)
end MFID2
