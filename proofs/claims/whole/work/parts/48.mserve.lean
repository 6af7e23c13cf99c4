/-! Parts of the reference's answers. -/
theorem T_242_0 : hTab 242 0 = some ((0, 0, (-1), []), 1) := rfl
theorem T_242_1 : hTab 242 1 = some ((4, 3, 0, []), 2) := rfl
theorem T_242_2 : hTab 242 2 = some ((3, 1, 0, []), 3) := rfl
theorem T_242_3 : hTab 242 3 = some ((3, 2, 0, []), 4) := rfl
theorem T_242_4 : hTab 242 4 = some ((31, 243, 0, []), 7) := rfl
theorem T_242_7 : hTab 242 7 = some ((4, 4, 0, []), 9) := rfl
theorem T_242_9 : hTab 242 9 = some ((3, 4, 0, []), 11) := rfl
theorem T_242_11 : hTab 242 11 = some ((3, 1, 0, []), 12) := rfl
theorem T_242_12 : hTab 242 12 = some ((3, 2, 0, []), 13) := rfl
theorem T_242_13 : hTab 242 13 = some ((31, 243, 0, []), 16) := rfl
theorem T_242_16 : hTab 242 16 = some ((0, 0, 48, []), 18) := rfl
theorem T_242_18 : hTab 242 18 = some ((10, 0, 0, []), 19) := rfl
theorem T_242_19 : hTab 242 19 = some ((19, 3, Int.ofNat 66, []), 22) := rfl
theorem T_242_22 : hTab 242 22 = some ((3, 0, 2, []), 23) := rfl
theorem T_242_23 : hTab 242 23 = some ((24, 17, Int.ofNat 28, []), 26) := rfl
theorem T_242_26 : hTab 242 26 = some ((3, 4, 0, []), 28) := rfl
theorem T_242_28 : hTab 242 28 = some ((26, 2, 0, []), 29) := rfl
theorem T_242_29 : hTab 242 29 = some ((18, 0, Int.ofNat 58, []), 32) := rfl
theorem T_242_32 : hTab 242 32 = some ((3, 3, 0, []), 33) := rfl
theorem T_242_33 : hTab 242 33 = some ((18, 2, Int.ofNat 53, []), 36) := rfl
theorem T_242_36 : hTab 242 36 = some ((3, 0, 2, []), 37) := rfl
theorem T_242_37 : hTab 242 37 = some ((24, 17, Int.ofNat 29, []), 40) := rfl
theorem T_242_40 : hTab 242 40 = some ((3, 4, 0, []), 42) := rfl
theorem T_242_42 : hTab 242 42 = some ((26, 3, 0, []), 43) := rfl
theorem T_242_43 : hTab 242 43 = some ((3, 0, 2, []), 44) := rfl
theorem T_242_44 : hTab 242 44 = some ((24, 17, Int.ofNat 29, []), 47) := rfl
theorem T_242_47 : hTab 242 47 = some ((3, 3, 0, []), 48) := rfl
theorem T_242_48 : hTab 242 48 = some ((26, 3, 0, []), 49) := rfl
theorem T_242_49 : hTab 242 49 = some ((17, 0, 0, []), 50) := rfl
theorem T_242_50 : hTab 242 50 = some ((18, 3, Int.ofNat 58, []), 53) := rfl
theorem T_242_53 : hTab 242 53 = some ((3, 4, 0, []), 55) := rfl
theorem T_242_55 : hTab 242 55 = some ((22, 0, Int.ofNat 59, []), 58) := rfl
theorem T_242_58 : hTab 242 58 = some ((3, 3, 0, []), 59) := rfl
theorem T_242_59 : hTab 242 59 = some ((4, 3, 0, []), 60) := rfl
theorem T_242_60 : hTab 242 60 = some ((5, 4, 1, []), 63) := rfl
theorem T_242_63 : hTab 242 63 = some ((22, 0, Int.ofNat 9, []), 66) := rfl
theorem T_242_66 : hTab 242 66 = some ((3, 3, 0, []), 67) := rfl
theorem T_242_67 : hTab 242 67 = some ((33, 1, 0, []), 68) := rfl
theorem T_256_0 : hTab 256 0 = some ((0, 0, 1, []), 1) := rfl
theorem T_256_1 : hTab 256 1 = some ((4, 5, 0, []), 3) := rfl
theorem T_256_3 : hTab 256 3 = some ((0, 0, 0, []), 4) := rfl
theorem T_256_4 : hTab 256 4 = some ((4, 6, 0, []), 6) := rfl
theorem T_256_6 : hTab 256 6 = some ((3, 6, 0, []), 8) := rfl
theorem T_256_8 : hTab 256 8 = some ((3, 4, 0, []), 10) := rfl
theorem T_256_10 : hTab 256 10 = some ((19, 3, Int.ofNat 61, []), 13) := rfl
theorem T_256_13 : hTab 256 13 = some ((3, 5, 0, []), 15) := rfl
theorem T_256_15 : hTab 256 15 = some ((18, 0, Int.ofNat 52, []), 18) := rfl
theorem T_256_18 : hTab 256 18 = some ((3, 0, 2, []), 19) := rfl
theorem T_256_19 : hTab 256 19 = some ((24, 17, Int.ofNat 3, []), 22) := rfl
theorem T_256_22 : hTab 256 22 = some ((3, 1, 0, []), 23) := rfl
theorem T_256_23 : hTab 256 23 = some ((3, 6, 0, []), 25) := rfl
theorem T_256_25 : hTab 256 25 = some ((10, 0, 0, []), 26) := rfl
theorem T_256_26 : hTab 256 26 = some ((26, 0, 0, []), 27) := rfl
theorem T_256_27 : hTab 256 27 = some ((14, 0, 0, []), 28) := rfl
theorem T_256_28 : hTab 256 28 = some ((3, 2, 1, []), 29) := rfl
theorem T_256_29 : hTab 256 29 = some ((0, 0, 8, []), 31) := rfl
theorem T_256_31 : hTab 256 31 = some ((3, 4, 0, []), 33) := rfl
theorem T_256_33 : hTab 256 33 = some ((0, 0, 1, []), 34) := rfl
theorem T_256_34 : hTab 256 34 = some ((10, 1, 0, []), 35) := rfl
theorem T_256_35 : hTab 256 35 = some ((3, 6, 0, []), 37) := rfl
theorem T_256_37 : hTab 256 37 = some ((10, 1, 0, []), 38) := rfl
theorem T_256_38 : hTab 256 38 = some ((10, 2, 0, []), 39) := rfl
theorem T_256_39 : hTab 256 39 = some ((12, 1, 0, []), 40) := rfl
theorem T_256_40 : hTab 256 40 = some ((1, 0, 255, []), 43) := rfl
theorem T_256_43 : hTab 256 43 = some ((11, 5, 0, []), 44) := rfl
theorem T_256_44 : hTab 256 44 = some ((17, 0, 0, []), 45) := rfl
theorem T_256_45 : hTab 256 45 = some ((18, 1, Int.ofNat 52, []), 48) := rfl
theorem T_256_48 : hTab 256 48 = some ((0, 0, 1, []), 49) := rfl
theorem T_256_49 : hTab 256 49 = some ((22, 0, Int.ofNat 53, []), 52) := rfl
theorem T_256_52 : hTab 256 52 = some ((0, 0, 0, []), 53) := rfl
theorem T_256_53 : hTab 256 53 = some ((4, 5, 0, []), 55) := rfl
theorem T_256_55 : hTab 256 55 = some ((5, 6, 1, []), 58) := rfl
theorem T_256_58 : hTab 256 58 = some ((22, 0, Int.ofNat 6, []), 61) := rfl
theorem T_256_61 : hTab 256 61 = some ((3, 5, 0, []), 63) := rfl
theorem T_256_63 : hTab 256 63 = some ((33, 2, 0, []), 64) := rfl
theorem T_257_0 : hTab 257 0 = some ((3, 0, 2, []), 1) := rfl
theorem T_257_1 : hTab 257 1 = some ((0, 0, 2, []), 2) := rfl
theorem T_257_2 : hTab 257 2 = some ((3, 3, 0, []), 3) := rfl
theorem T_257_3 : hTab 257 3 = some ((14, 0, 0, []), 4) := rfl
theorem T_257_4 : hTab 257 4 = some ((31, 237, 0, []), 7) := rfl
theorem T_257_7 : hTab 257 7 = some ((0, 0, 0, []), 8) := rfl
theorem T_257_8 : hTab 257 8 = some ((4, 4, 0, []), 10) := rfl
theorem T_257_10 : hTab 257 10 = some ((3, 4, 0, []), 12) := rfl
theorem T_257_12 : hTab 257 12 = some ((3, 3, 0, []), 13) := rfl
theorem T_257_13 : hTab 257 13 = some ((19, 3, Int.ofNat 42, []), 16) := rfl
theorem T_257_16 : hTab 257 16 = some ((3, 0, 2, []), 17) := rfl
theorem T_257_17 : hTab 257 17 = some ((0, 0, 1, []), 18) := rfl
theorem T_257_18 : hTab 257 18 = some ((3, 1, 1, []), 19) := rfl
theorem T_257_19 : hTab 257 19 = some ((0, 0, 8, []), 21) := rfl
theorem T_257_21 : hTab 257 21 = some ((3, 3, 0, []), 22) := rfl
theorem T_257_22 : hTab 257 22 = some ((0, 0, 1, []), 23) := rfl
theorem T_257_23 : hTab 257 23 = some ((10, 1, 0, []), 24) := rfl
theorem T_257_24 : hTab 257 24 = some ((3, 4, 0, []), 26) := rfl
theorem T_257_26 : hTab 257 26 = some ((10, 1, 0, []), 27) := rfl
theorem T_257_27 : hTab 257 27 = some ((10, 2, 0, []), 28) := rfl
theorem T_257_28 : hTab 257 28 = some ((12, 1, 0, []), 29) := rfl
theorem T_257_29 : hTab 257 29 = some ((1, 0, 255, []), 32) := rfl
theorem T_257_32 : hTab 257 32 = some ((11, 5, 0, []), 33) := rfl
theorem T_257_33 : hTab 257 33 = some ((31, 237, 0, []), 36) := rfl
theorem T_257_36 : hTab 257 36 = some ((5, 4, 1, []), 39) := rfl
theorem T_257_39 : hTab 257 39 = some ((22, 0, Int.ofNat 10, []), 42) := rfl
theorem T_257_42 : hTab 257 42 = some ((33, 0, 0, []), 43) := rfl
theorem T_259_0 : hTab 259 0 = some ((0, 0, 0, []), 1) := rfl
theorem T_259_1 : hTab 259 1 = some ((4, 3, 0, []), 2) := rfl
theorem T_259_2 : hTab 259 2 = some ((3, 3, 0, []), 3) := rfl
theorem T_259_3 : hTab 259 3 = some ((0, 0, 4, []), 4) := rfl
theorem T_259_4 : hTab 259 4 = some ((19, 3, Int.ofNat 78, []), 7) := rfl
theorem T_259_7 : hTab 259 7 = some ((3, 2, 0, []), 8) := rfl
theorem T_259_8 : hTab 259 8 = some ((0, 0, 3, []), 9) := rfl
theorem T_259_9 : hTab 259 9 = some ((19, 1, Int.ofNat 78, []), 12) := rfl
theorem T_259_12 : hTab 259 12 = some ((0, 0, 1, []), 13) := rfl
theorem T_259_13 : hTab 259 13 = some ((4, 4, 0, []), 15) := rfl
theorem T_259_15 : hTab 259 15 = some ((0, 0, 0, []), 16) := rfl
theorem T_259_16 : hTab 259 16 = some ((4, 5, 0, []), 18) := rfl
theorem T_259_18 : hTab 259 18 = some ((3, 5, 0, []), 20) := rfl
theorem T_259_20 : hTab 259 20 = some ((0, 0, 3, []), 21) := rfl
theorem T_259_21 : hTab 259 21 = some ((19, 3, Int.ofNat 65, []), 24) := rfl
theorem T_259_24 : hTab 259 24 = some ((3, 4, 0, []), 26) := rfl
theorem T_259_26 : hTab 259 26 = some ((18, 0, Int.ofNat 56, []), 29) := rfl
theorem T_259_29 : hTab 259 29 = some ((3, 0, 2, []), 30) := rfl
theorem T_259_30 : hTab 259 30 = some ((24, 17, Int.ofNat 3, []), 33) := rfl
theorem T_259_33 : hTab 259 33 = some ((3, 1, 0, []), 34) := rfl
theorem T_259_34 : hTab 259 34 = some ((3, 5, 0, []), 36) := rfl
theorem T_259_36 : hTab 259 36 = some ((10, 0, 0, []), 37) := rfl
theorem T_259_37 : hTab 259 37 = some ((26, 0, 0, []), 38) := rfl
theorem T_259_38 : hTab 259 38 = some ((3, 0, 2, []), 39) := rfl
theorem T_259_39 : hTab 259 39 = some ((24, 17, Int.ofNat 2, []), 42) := rfl
theorem T_259_42 : hTab 259 42 = some ((0, 0, 3, []), 43) := rfl
theorem T_259_43 : hTab 259 43 = some ((3, 3, 0, []), 44) := rfl
theorem T_259_44 : hTab 259 44 = some ((10, 2, 0, []), 45) := rfl
theorem T_259_45 : hTab 259 45 = some ((3, 5, 0, []), 47) := rfl
theorem T_259_47 : hTab 259 47 = some ((10, 0, 0, []), 48) := rfl
theorem T_259_48 : hTab 259 48 = some ((26, 0, 0, []), 49) := rfl
theorem T_259_49 : hTab 259 49 = some ((19, 1, Int.ofNat 56, []), 52) := rfl
theorem T_259_52 : hTab 259 52 = some ((0, 0, 1, []), 53) := rfl
theorem T_259_53 : hTab 259 53 = some ((22, 0, Int.ofNat 57, []), 56) := rfl
theorem T_259_56 : hTab 259 56 = some ((0, 0, 0, []), 57) := rfl
theorem T_259_57 : hTab 259 57 = some ((4, 4, 0, []), 59) := rfl
theorem T_259_59 : hTab 259 59 = some ((5, 5, 1, []), 62) := rfl
theorem T_259_62 : hTab 259 62 = some ((22, 0, Int.ofNat 18, []), 65) := rfl
theorem T_259_65 : hTab 259 65 = some ((3, 4, 0, []), 67) := rfl
theorem T_259_67 : hTab 259 67 = some ((18, 0, Int.ofNat 72, []), 70) := rfl
theorem T_259_70 : hTab 259 70 = some ((3, 3, 0, []), 71) := rfl
theorem T_259_71 : hTab 259 71 = some ((33, 1, 0, []), 72) := rfl
theorem T_259_72 : hTab 259 72 = some ((5, 3, 1, []), 75) := rfl
theorem T_259_75 : hTab 259 75 = some ((22, 0, Int.ofNat 2, []), 78) := rfl
theorem T_259_78 : hTab 259 78 = some ((0, 0, (-1), []), 79) := rfl
theorem T_259_79 : hTab 259 79 = some ((33, 1, 0, []), 80) := rfl
theorem T_267_0 : hTab 267 0 = some ((3, 0, 2, []), 1) := rfl
theorem T_267_1 : hTab 267 1 = some ((3, 1, 0, []), 2) := rfl
theorem T_267_2 : hTab 267 2 = some ((3, 2, 0, []), 3) := rfl
theorem T_267_3 : hTab 267 3 = some ((31, 252, 0, []), 6) := rfl
theorem T_267_6 : hTab 267 6 = some ((18, 1, Int.ofNat 11, []), 9) := rfl
theorem T_267_9 : hTab 267 9 = some ((0, 0, 2, []), 10) := rfl
theorem T_267_10 : hTab 267 10 = some ((33, 1, 0, []), 11) := rfl
theorem T_267_11 : hTab 267 11 = some ((3, 0, 2, []), 12) := rfl
theorem T_267_12 : hTab 267 12 = some ((3, 1, 0, []), 13) := rfl
theorem T_267_13 : hTab 267 13 = some ((3, 2, 0, []), 14) := rfl
theorem T_267_14 : hTab 267 14 = some ((3, 3, 0, []), 15) := rfl
theorem T_267_15 : hTab 267 15 = some ((0, 0, 1, []), 16) := rfl
theorem T_267_16 : hTab 267 16 = some ((31, 248, 0, []), 19) := rfl
theorem T_267_19 : hTab 267 19 = some ((18, 1, Int.ofNat 24, []), 22) := rfl
theorem T_267_22 : hTab 267 22 = some ((0, 0, 3, []), 23) := rfl
theorem T_267_23 : hTab 267 23 = some ((33, 1, 0, []), 24) := rfl
theorem T_267_24 : hTab 267 24 = some ((3, 0, 2, []), 25) := rfl
theorem T_267_25 : hTab 267 25 = some ((24, 17, Int.ofNat 11, []), 28) := rfl
theorem T_267_28 : hTab 267 28 = some ((3, 4, 0, []), 30) := rfl
theorem T_267_30 : hTab 267 30 = some ((26, 0, 0, []), 31) := rfl
theorem T_267_31 : hTab 267 31 = some ((0, 0, 2, []), 32) := rfl
theorem T_267_32 : hTab 267 32 = some ((19, 1, Int.ofNat 75, []), 35) := rfl
theorem T_267_35 : hTab 267 35 = some ((3, 0, 2, []), 36) := rfl
theorem T_267_36 : hTab 267 36 = some ((24, 17, Int.ofNat 3, []), 39) := rfl
theorem T_267_39 : hTab 267 39 = some ((3, 0, 2, []), 40) := rfl
theorem T_267_40 : hTab 267 40 = some ((24, 17, Int.ofNat 10, []), 43) := rfl
theorem T_267_43 : hTab 267 43 = some ((3, 4, 0, []), 45) := rfl
theorem T_267_45 : hTab 267 45 = some ((26, 0, 0, []), 46) := rfl
theorem T_267_46 : hTab 267 46 = some ((26, 0, 0, []), 47) := rfl
theorem T_267_47 : hTab 267 47 = some ((0, 0, 46, []), 49) := rfl
theorem T_267_49 : hTab 267 49 = some ((19, 1, Int.ofNat 75, []), 52) := rfl
theorem T_267_52 : hTab 267 52 = some ((3, 0, 2, []), 53) := rfl
theorem T_267_53 : hTab 267 53 = some ((24, 17, Int.ofNat 3, []), 56) := rfl
theorem T_267_56 : hTab 267 56 = some ((3, 0, 2, []), 57) := rfl
theorem T_267_57 : hTab 267 57 = some ((24, 17, Int.ofNat 10, []), 60) := rfl
theorem T_267_60 : hTab 267 60 = some ((3, 4, 0, []), 62) := rfl
theorem T_267_62 : hTab 267 62 = some ((26, 0, 0, []), 63) := rfl
theorem T_267_63 : hTab 267 63 = some ((0, 0, 1, []), 64) := rfl
theorem T_267_64 : hTab 267 64 = some ((10, 0, 0, []), 65) := rfl
theorem T_267_65 : hTab 267 65 = some ((26, 0, 0, []), 66) := rfl
theorem T_267_66 : hTab 267 66 = some ((0, 0, 46, []), 68) := rfl
theorem T_267_68 : hTab 267 68 = some ((19, 1, Int.ofNat 75, []), 71) := rfl
theorem T_267_71 : hTab 267 71 = some ((0, 0, 1, []), 72) := rfl
theorem T_267_72 : hTab 267 72 = some ((22, 0, Int.ofNat 76, []), 75) := rfl
theorem T_267_75 : hTab 267 75 = some ((0, 0, 0, []), 76) := rfl
theorem T_267_76 : hTab 267 76 = some ((4, 5, 0, []), 78) := rfl
theorem T_267_78 : hTab 267 78 = some ((3, 0, 2, []), 79) := rfl
theorem T_267_79 : hTab 267 79 = some ((3, 5, 0, []), 81) := rfl
theorem T_267_81 : hTab 267 81 = some ((18, 0, Int.ofNat 93, []), 84) := rfl
theorem T_267_84 : hTab 267 84 = some ((3, 0, 2, []), 85) := rfl
theorem T_267_85 : hTab 267 85 = some ((3, 1, 0, []), 86) := rfl
theorem T_267_86 : hTab 267 86 = some ((3, 2, 0, []), 87) := rfl
theorem T_267_87 : hTab 267 87 = some ((31, 246, 0, []), 90) := rfl
theorem T_267_90 : hTab 267 90 = some ((22, 0, Int.ofNat 113, []), 93) := rfl
theorem T_267_93 : hTab 267 93 = some ((3, 0, 2, []), 94) := rfl
theorem T_267_94 : hTab 267 94 = some ((3, 1, 0, []), 95) := rfl
theorem T_267_95 : hTab 267 95 = some ((3, 2, 0, []), 96) := rfl
theorem T_267_96 : hTab 267 96 = some ((3, 0, 2, []), 97) := rfl
theorem T_267_97 : hTab 267 97 = some ((24, 17, Int.ofNat 10, []), 100) := rfl
theorem T_267_100 : hTab 267 100 = some ((3, 4, 0, []), 102) := rfl
theorem T_267_102 : hTab 267 102 = some ((26, 0, 0, []), 103) := rfl
theorem T_267_103 : hTab 267 103 = some ((3, 0, 2, []), 104) := rfl
theorem T_267_104 : hTab 267 104 = some ((24, 17, Int.ofNat 11, []), 107) := rfl
theorem T_267_107 : hTab 267 107 = some ((3, 4, 0, []), 109) := rfl
theorem T_267_109 : hTab 267 109 = some ((26, 0, 0, []), 110) := rfl
theorem T_267_110 : hTab 267 110 = some ((31, 268, 0, []), 113) := rfl
theorem T_267_113 : hTab 267 113 = some ((25, 17, Int.ofNat 92, []), 116) := rfl
theorem T_267_116 : hTab 267 116 = some ((3, 0, 2, []), 117) := rfl
theorem T_267_117 : hTab 267 117 = some ((24, 17, Int.ofNat 92, []), 120) := rfl
theorem T_267_120 : hTab 267 120 = some ((18, 3, Int.ofNat 127, []), 123) := rfl
theorem T_267_123 : hTab 267 123 = some ((0, 0, 1, []), 124) := rfl
theorem T_267_124 : hTab 267 124 = some ((22, 0, Int.ofNat 128, []), 127) := rfl
theorem T_267_127 : hTab 267 127 = some ((0, 0, 0, []), 128) := rfl
theorem T_267_128 : hTab 267 128 = some ((33, 1, 0, []), 129) := rfl
theorem T_275_0 : hTab 275 0 = some ((3, 4, 0, []), 2) := rfl
theorem T_275_2 : hTab 275 2 = some ((0, 0, (-81), []), 4) := rfl
theorem T_275_4 : hTab 275 4 = some ((10, 5, 0, []), 5) := rfl
theorem T_275_5 : hTab 275 5 = some ((4, 5, 0, []), 7) := rfl
theorem T_275_7 : hTab 275 7 = some ((3, 4, 0, []), 9) := rfl
theorem T_275_9 : hTab 275 9 = some ((0, 0, 16, []), 11) := rfl
theorem T_275_11 : hTab 275 11 = some ((10, 5, 0, []), 12) := rfl
theorem T_275_12 : hTab 275 12 = some ((18, 0, Int.ofNat 19, []), 15) := rfl
theorem T_275_15 : hTab 275 15 = some ((0, 0, 1, []), 16) := rfl
theorem T_275_16 : hTab 275 16 = some ((22, 0, Int.ofNat 20, []), 19) := rfl
theorem T_275_19 : hTab 275 19 = some ((0, 0, 0, []), 20) := rfl
theorem T_275_20 : hTab 275 20 = some ((4, 6, 0, []), 22) := rfl
theorem T_275_22 : hTab 275 22 = some ((3, 5, 0, []), 24) := rfl
theorem T_275_24 : hTab 275 24 = some ((0, 0, 3, []), 25) := rfl
theorem T_275_25 : hTab 275 25 = some ((19, 5, Int.ofNat 31, []), 28) := rfl
theorem T_275_28 : hTab 275 28 = some ((0, 0, 16, []), 30) := rfl
theorem T_275_30 : hTab 275 30 = some ((33, 1, 0, []), 31) := rfl
theorem T_275_31 : hTab 275 31 = some ((3, 0, 2, []), 32) := rfl
theorem T_275_32 : hTab 275 32 = some ((3, 1, 0, []), 33) := rfl
theorem T_275_33 : hTab 275 33 = some ((3, 2, 0, []), 34) := rfl
theorem T_275_34 : hTab 275 34 = some ((31, 252, 0, []), 37) := rfl
theorem T_275_37 : hTab 275 37 = some ((18, 0, Int.ofNat 53, []), 40) := rfl
theorem T_275_40 : hTab 275 40 = some ((3, 5, 0, []), 42) := rfl
theorem T_275_42 : hTab 275 42 = some ((18, 4, Int.ofNat 50, []), 45) := rfl
theorem T_275_45 : hTab 275 45 = some ((3, 6, 0, []), 47) := rfl
theorem T_275_47 : hTab 275 47 = some ((18, 0, Int.ofNat 53, []), 50) := rfl
theorem T_275_50 : hTab 275 50 = some ((0, 0, 10, []), 52) := rfl
theorem T_275_52 : hTab 275 52 = some ((33, 1, 0, []), 53) := rfl
theorem T_275_53 : hTab 275 53 = some ((3, 5, 0, []), 55) := rfl
theorem T_275_55 : hTab 275 55 = some ((18, 0, Int.ofNat 64, []), 58) := rfl
theorem T_275_58 : hTab 275 58 = some ((3, 5, 0, []), 60) := rfl
theorem T_275_60 : hTab 275 60 = some ((0, 0, 2, []), 61) := rfl
theorem T_275_61 : hTab 275 61 = some ((19, 1, Int.ofNat 68, []), 64) := rfl
theorem T_275_64 : hTab 275 64 = some ((0, 0, 1, []), 65) := rfl
theorem T_275_65 : hTab 275 65 = some ((22, 0, Int.ofNat 69, []), 68) := rfl
theorem T_275_68 : hTab 275 68 = some ((0, 0, 0, []), 69) := rfl
theorem T_275_69 : hTab 275 69 = some ((4, 7, 0, []), 71) := rfl
theorem T_275_71 : hTab 275 71 = some ((3, 5, 0, []), 73) := rfl
theorem T_275_73 : hTab 275 73 = some ((0, 0, 1, []), 74) := rfl
theorem T_275_74 : hTab 275 74 = some ((19, 0, Int.ofNat 88, []), 77) := rfl
theorem T_275_77 : hTab 275 77 = some ((3, 5, 0, []), 79) := rfl
theorem T_275_79 : hTab 275 79 = some ((0, 0, 2, []), 80) := rfl
theorem T_275_80 : hTab 275 80 = some ((19, 0, Int.ofNat 88, []), 83) := rfl
theorem T_275_83 : hTab 275 83 = some ((3, 6, 0, []), 85) := rfl
theorem T_275_85 : hTab 275 85 = some ((18, 0, Int.ofNat 92, []), 88) := rfl
theorem T_275_88 : hTab 275 88 = some ((0, 0, 1, []), 89) := rfl
theorem T_275_89 : hTab 275 89 = some ((22, 0, Int.ofNat 93, []), 92) := rfl
theorem T_275_92 : hTab 275 92 = some ((0, 0, 0, []), 93) := rfl
theorem T_275_93 : hTab 275 93 = some ((4, 8, 0, []), 95) := rfl
theorem T_275_95 : hTab 275 95 = some ((3, 7, 0, []), 97) := rfl
theorem T_275_97 : hTab 275 97 = some ((18, 0, Int.ofNat 111, []), 100) := rfl
theorem T_275_100 : hTab 275 100 = some ((3, 0, 2, []), 101) := rfl
theorem T_275_101 : hTab 275 101 = some ((3, 1, 0, []), 102) := rfl
theorem T_275_102 : hTab 275 102 = some ((3, 2, 0, []), 103) := rfl
theorem T_275_103 : hTab 275 103 = some ((3, 3, 0, []), 104) := rfl
theorem T_275_104 : hTab 275 104 = some ((0, 0, 4, []), 105) := rfl
theorem T_275_105 : hTab 275 105 = some ((31, 248, 0, []), 108) := rfl
theorem T_275_108 : hTab 275 108 = some ((18, 0, Int.ofNat 144, []), 111) := rfl
theorem T_275_111 : hTab 275 111 = some ((3, 8, 0, []), 113) := rfl
theorem T_275_113 : hTab 275 113 = some ((18, 0, Int.ofNat 127, []), 116) := rfl
theorem T_275_116 : hTab 275 116 = some ((3, 0, 2, []), 117) := rfl
theorem T_275_117 : hTab 275 117 = some ((3, 1, 0, []), 118) := rfl
theorem T_275_118 : hTab 275 118 = some ((3, 2, 0, []), 119) := rfl
theorem T_275_119 : hTab 275 119 = some ((3, 3, 0, []), 120) := rfl
theorem T_275_120 : hTab 275 120 = some ((0, 0, 2, []), 121) := rfl
theorem T_275_121 : hTab 275 121 = some ((31, 248, 0, []), 124) := rfl
theorem T_275_124 : hTab 275 124 = some ((18, 0, Int.ofNat 144, []), 127) := rfl
theorem T_275_127 : hTab 275 127 = some ((3, 5, 0, []), 129) := rfl
theorem T_275_129 : hTab 275 129 = some ((0, 0, 3, []), 130) := rfl
theorem T_275_130 : hTab 275 130 = some ((19, 1, Int.ofNat 146, []), 133) := rfl
theorem T_275_133 : hTab 275 133 = some ((3, 0, 2, []), 134) := rfl
theorem T_275_134 : hTab 275 134 = some ((3, 1, 0, []), 135) := rfl
theorem T_275_135 : hTab 275 135 = some ((3, 2, 0, []), 136) := rfl
theorem T_275_136 : hTab 275 136 = some ((3, 3, 0, []), 137) := rfl
theorem T_275_137 : hTab 275 137 = some ((0, 0, 1, []), 138) := rfl
theorem T_275_138 : hTab 275 138 = some ((31, 248, 0, []), 141) := rfl
theorem T_275_141 : hTab 275 141 = some ((18, 1, Int.ofNat 146, []), 144) := rfl
theorem T_275_144 : hTab 275 144 = some ((0, 0, 3, []), 145) := rfl
theorem T_275_145 : hTab 275 145 = some ((33, 1, 0, []), 146) := rfl
theorem T_275_146 : hTab 275 146 = some ((3, 4, 0, []), 148) := rfl
theorem T_275_148 : hTab 275 148 = some ((0, 0, 64, []), 150) := rfl
theorem T_275_150 : hTab 275 150 = some ((10, 5, 0, []), 151) := rfl
theorem T_275_151 : hTab 275 151 = some ((18, 0, Int.ofNat 158, []), 154) := rfl
theorem T_275_154 : hTab 275 154 = some ((0, 0, 1, []), 155) := rfl
theorem T_275_155 : hTab 275 155 = some ((22, 0, Int.ofNat 159, []), 158) := rfl
theorem T_275_158 : hTab 275 158 = some ((0, 0, 0, []), 159) := rfl
theorem T_275_159 : hTab 275 159 = some ((4, 9, 0, []), 161) := rfl
theorem T_275_161 : hTab 275 161 = some ((3, 9, 0, []), 163) := rfl
theorem T_275_163 : hTab 275 163 = some ((18, 0, Int.ofNat 195, []), 166) := rfl
theorem T_275_166 : hTab 275 166 = some ((3, 1, 0, []), 167) := rfl
theorem T_275_167 : hTab 275 167 = some ((0, 0, 2, []), 168) := rfl
theorem T_275_168 : hTab 275 168 = some ((19, 0, Int.ofNat 191, []), 171) := rfl
theorem T_275_171 : hTab 275 171 = some ((3, 2, 0, []), 172) := rfl
theorem T_275_172 : hTab 275 172 = some ((18, 0, Int.ofNat 191, []), 175) := rfl
theorem T_275_175 : hTab 275 175 = some ((3, 0, 2, []), 176) := rfl
theorem T_275_176 : hTab 275 176 = some ((3, 1, 0, []), 177) := rfl
theorem T_275_177 : hTab 275 177 = some ((3, 0, 2, []), 178) := rfl
theorem T_275_178 : hTab 275 178 = some ((3, 1, 0, []), 179) := rfl
theorem T_275_179 : hTab 275 179 = some ((3, 2, 0, []), 180) := rfl
theorem T_275_180 : hTab 275 180 = some ((31, 246, 0, []), 183) := rfl
theorem T_275_183 : hTab 275 183 = some ((3, 3, 0, []), 184) := rfl
theorem T_275_184 : hTab 275 184 = some ((0, 0, 2, []), 185) := rfl
theorem T_275_185 : hTab 275 185 = some ((31, 248, 0, []), 188) := rfl
theorem T_275_188 : hTab 275 188 = some ((18, 1, Int.ofNat 195, []), 191) := rfl
theorem T_275_191 : hTab 275 191 = some ((0, 0, 3, []), 192) := rfl
theorem T_275_192 : hTab 275 192 = some ((22, 0, Int.ofNat 196, []), 195) := rfl
theorem T_275_195 : hTab 275 195 = some ((0, 0, 0, []), 196) := rfl
theorem T_275_196 : hTab 275 196 = some ((33, 1, 0, []), 197) := rfl
theorem T_277_0 : hTab 277 0 = some ((3, 0, 2, []), 1) := rfl
theorem T_277_1 : hTab 277 1 = some ((24, 17, Int.ofNat 33, []), 4) := rfl
theorem T_277_4 : hTab 277 4 = some ((3, 1, 0, []), 5) := rfl
theorem T_277_5 : hTab 277 5 = some ((3, 2, 0, []), 6) := rfl
theorem T_277_6 : hTab 277 6 = some ((27, 0, 0, []), 7) := rfl
theorem T_277_7 : hTab 277 7 = some ((3, 0, 2, []), 8) := rfl
theorem T_277_8 : hTab 277 8 = some ((24, 17, Int.ofNat 35, []), 11) := rfl
theorem T_277_11 : hTab 277 11 = some ((3, 1, 0, []), 12) := rfl
theorem T_277_12 : hTab 277 12 = some ((1, 0, 0, []), 13) := rfl
theorem T_277_13 : hTab 277 13 = some ((27, 3, 0, []), 14) := rfl
theorem T_277_14 : hTab 277 14 = some ((3, 0, 2, []), 15) := rfl
theorem T_277_15 : hTab 277 15 = some ((24, 17, Int.ofNat 36, []), 18) := rfl
theorem T_277_18 : hTab 277 18 = some ((3, 1, 0, []), 19) := rfl
theorem T_277_19 : hTab 277 19 = some ((0, 0, 0, []), 20) := rfl
theorem T_277_20 : hTab 277 20 = some ((27, 0, 0, []), 21) := rfl
theorem T_277_21 : hTab 277 21 = some ((33, 0, 0, []), 22) := rfl
theorem F_17_92 : (hFd 17 92).2.2.1 = 0 := rfl
theorem mN_242 : hmN 242 = 3 := by decide +kernel
theorem mL_242 : hmL 242 = 5 := by decide +kernel
theorem mK_242 : hmK 242 = 1 := by decide +kernel
theorem mO_242 : hmO 242 = 17 := by decide +kernel
theorem mN_256 : hmN 256 = 4 := by decide +kernel
theorem mL_256 : hmL 256 = 7 := by decide +kernel
theorem mK_256 : hmK 256 = 1 := by decide +kernel
theorem mO_256 : hmO 256 = 17 := by decide +kernel
theorem mN_257 : hmN 257 = 3 := by decide +kernel
theorem mL_257 : hmL 257 = 5 := by decide +kernel
theorem mK_257 : hmK 257 = 1 := by decide +kernel
theorem mO_257 : hmO 257 = 17 := by decide +kernel
theorem mN_259 : hmN 259 = 3 := by decide +kernel
theorem mL_259 : hmL 259 = 6 := by decide +kernel
theorem mK_259 : hmK 259 = 1 := by decide +kernel
theorem mO_259 : hmO 259 = 17 := by decide +kernel
theorem mN_267 : hmN 267 = 5 := by decide +kernel
theorem mL_267 : hmL 267 = 6 := by decide +kernel
theorem mK_267 : hmK 267 = 1 := by decide +kernel
theorem mO_267 : hmO 267 = 17 := by decide +kernel
theorem mN_275 : hmN 275 = 5 := by decide +kernel
theorem mL_275 : hmL 275 = 10 := by decide +kernel
theorem mK_275 : hmK 275 = 1 := by decide +kernel
theorem mO_275 : hmO 275 = 17 := by decide +kernel
theorem mN_277 : hmN 277 = 3 := by decide +kernel
theorem mL_277 : hmL 277 = 3 := by decide +kernel
theorem mK_277 : hmK 277 = 1 := by decide +kernel
theorem mO_277 : hmO 277 = 17 := by decide +kernel
theorem ite1_z {C : Prop} [Decidable C] (h : (if C then (1 : Int) else 0) = 0) : ¬ C := fun c => by
  rw [if_pos c] at h
  exact absurd h (by decide)
theorem ite1_n {C : Prop} [Decidable C] (h : ¬ (if C then (1 : Int) else 0) = 0) : C := Classical.byContradiction (fun c => h (if_neg c))
theorem ite0_z {C : Prop} [Decidable C] (h : (if C then (0 : Int) else 1) = 0) : C := Classical.byContradiction (fun c => by
  rw [if_neg c] at h
  exact absurd h (by decide))
theorem ite0_n {C : Prop} [Decidable C] (h : ¬ (if C then (0 : Int) else 1) = 0) : ¬ C := fun c => h (if_pos c)
def lsF (P : qR) : Nat → Int → Int → Int
  | 0, _, f => f
  | m + 1, k, f => lsF P m (k + 1) (if ¬ P 2304 k = 0 ∧ (f < 0 ∨ P 2305 k < P 2305 f) then k else f)
def qLeast (P : qR) (s c : Int) : Int := lsF P 48 (48 * (2 * s + c)) (-1)
def pkB (v n i : Int) : Int := v / 256 ^ (n - 1 - i).toNat % 256
def pkP (v n : Int) : Nat → List Int
  | 0 => []
  | m + 1 => pkP v n m ++ leb 1 (pkB v n m)
theorem pkP_len (v n : Int) : ∀ m, (pkP v n m).length = m
  | 0 => rfl
  | m + 1 => by show (pkP v n m ++ leb 1 _).length = m + 1; rw [List.length_append, pkP_len v n m]; rfl
theorem byt_pkP (v n : Int) : ∀ m, byt (pkP v n m)
  | 0 => byt_nil
  | m + 1 => byt_app (byt_pkP v n m) (byt_leb 1 _)
def usF (a : Int → Int) (o : Int) : Nat → Int → Int
  | 0, _ => -1
  | m + 1, u => if a o = ubyte (3 * u) ∧ a (o + 1) = ubyte (3 * u + 1) ∧ a (o + 2) = ubyte (3 * u + 2) then u else usF a o m (u + 1)
/-- the user of a name, or -1 -/
def qUser (a : Int → Int) (o z : Int) : Int := if z = 3 then usF a o 4 0 else -1
/-- one name of a walk: where it leads, or below 0; and why not -/
def qTo (P : qR) (s n : Int) (nm : List Int) : Int := if nm = [46, 46] then qUp P s n else qFind P s n nm
def qSt (P : qR) (s n u : Int) (nm : List Int) : Int := if ¬ qMode P s n < 0 then 2 else if qMv P s n u 1 = 0 then 3 else if qTo P s n nm < 0 then 1 else 0
/-- why a file can't be opened so -/
def qOpn (P : qR) (s n u m : Int) : Int := if 3 < and32 m (-81) then 16 else if qMode P s n < 0 ∧ (0 < and32 m (-81) ∨ ¬ and32 m 16 = 0) then 10 else if ((and32 m (-81) = 0 ∨ and32 m (-81) = 2) ∧ qMv P s n u 4 = 0) ∨ ((and32 m (-81) = 1 ∨ and32 m (-81) = 2 ∨ ¬ and32 m 16 = 0) ∧ qMv P s n u 2 = 0) ∨ (and32 m (-81) = 3 ∧ qMv P s n u 1 = 0) then 3 else if ¬ and32 m 64 = 0 ∧ (s = 2 ∨ n = 0 ∨ qMv P s (qUp P s n) u 2 = 0) then 3 else 0
def gOpen (P : qR) (k m : Int) : qR := rU (rU (rU P 2309 k m) 2311 k 0) 2312 k 0
section MSERVE
variable {fb : Bool} {d : Nat} {σ0 σ : hM} {P S : qR} {T U s n u c : Int}
theorem lsF_rng {lo : Int} : ∀ (m : Nat) (k f : Int), 0 ≤ lo → lo ≤ k → (f = -1 ∨ (lo ≤ f ∧ f < k + m ∧ ¬ P 2304 f = 0)) → lsF P m k f = -1 ∨ (lo ≤ lsF P m k f ∧ lsF P m k f < k + m ∧ ¬ P 2304 (lsF P m k f) = 0)
  | 0, k, f, _, _, h => h
  | m + 1, k, f, h0, h1, h => by
    have h2 := lsF_rng (lo := lo) m (k + 1) (if ¬ P 2304 k = 0 ∧ (f < 0 ∨ P 2305 k < P 2305 f) then k else f) h0 (by omega) (by
      split <;> rename_i q
      · exact Or.inr ⟨h1, by omega, q.1⟩
      · rcases h with h | h
        · exact Or.inl h
        · exact Or.inr ⟨h.1, by omega, h.2.2⟩)
    rcases h2 with h2 | h2
    · exact Or.inl h2
    · exact Or.inr ⟨h2.1, by have := h2.2.1; show lsF P m (k + 1) _ < k + (m + 1 : Nat); omega, h2.2.2⟩
theorem m_leastFid_loop (hP : PM σ0 P S σ) (hs : 0 ≤ s ∧ s < 3) (hc : 0 ≤ c ∧ c < 2) : ∀ (m : Nat) (k f : Int), k + m = 48 * (2 * s + c) + 48 → 48 * (2 * s + c) ≤ k → -1 ≤ f → f < 288 → WP fb (d + 1) 242 9 [some (vR (some 2281)), some (vI s), some (vI c), some (vI f), some (vI k)] [] σ (rP (lsF P m k f) σ) := by
  intro m
  induction m with
  | zero =>
    intro k f h1 h2 h3 h4
    refine x_li (z := k) T_242_9 rfl ?_
    refine x_li (z := s) T_242_11 rfl ?_
    refine x_li (z := c) T_242_12 rfl ?_
    refine x_cs2 T_242_13 mN_243 mL_243 (Nat.le_of_ble_eq_true rfl) mK_243 (Nat.le_of_ble_eq_true rfl) (m_base (by omega) (by omega)) ?_
    rintro _ σ ⟨rfl, rfl⟩
    refine cI ?_
    refine x_ic T_242_16 ?_
    refine x_ib (w := ((48 * (2 * s + c)) + 48)) T_242_18 (fun h => absurd h.1 (by decide)) (w32_id (by omega) (by omega)) ?_
    refine x_ic2 T_242_19 (fun _ => ?_) (fun h => absurd (show ((48 * (2 * s + c)) + 48) ≤ k by omega) h)
    refine x_li (z := f) T_242_66 rfl ?_
    refine x_ri T_242_67 ?_
    exact ⟨rfl, rfl⟩
  | succ m ih =>
    intro k f h1 h2 h3 h4
    have key : ∀ f', f' = (if ¬ P 2304 k = 0 ∧ (f < 0 ∨ P 2305 k < P 2305 f) then k else f) → WP fb (d + 1) 242 9 [some (vR (some 2281)), some (vI s), some (vI c), some (vI f'), some (vI (k + 1))] [] σ (rP (lsF P (m + 1) k f) σ) := by
      intro f' e
      rw [show lsF P (m + 1) k f = lsF P m (k + 1) f' by rw [e]; rfl]
      exact ih (k + 1) f' (by omega) (by omega) (by rw [e]; split <;> omega) (by rw [e]; split <;> omega)
    refine x_li (z := k) T_242_9 rfl ?_
    refine x_li (z := s) T_242_11 rfl ?_
    refine x_li (z := c) T_242_12 rfl ?_
    refine x_cs2 T_242_13 mN_243 mL_243 (Nat.le_of_ble_eq_true rfl) mK_243 (Nat.le_of_ble_eq_true rfl) (m_base (by omega) (by omega)) ?_
    rintro _ σ ⟨rfl, rfl⟩
    refine cI ?_
    refine x_ic T_242_16 ?_
    refine x_ib (w := ((48 * (2 * s + c)) + 48)) T_242_18 (fun h => absurd h.1 (by decide)) (w32_id (by omega) (by omega)) ?_
    refine x_ic2 T_242_19 (fun h => absurd (show ((48 * (2 * s + c)) + 48) ≤ k from h) (by omega)) (fun _ => ?_)
    refine x_lr (z := some 2281) T_242_22 rfl ?_
    refine x_gR (z := some 2304) T_242_23 F_17_28 (PM.t hP) (PM.r hP 28 2304 rfl) ?_
    refine x_li (z := k) T_242_26 rfl ?_
    refine x_alI (z := P 2304 k) T_242_28 (by decide) (PM.ta hP 2304 2 288 rfl rfl) (by omega) (by omega) (PM.aP hP 2304 rfl rfl (by omega)) ?_
    refine x_if T_242_29 (fun h29 => ?_) (fun h29 => ?_)
    · replace h29 : P 2304 k = 0 := h29
      refine x_li (z := f) T_242_58 rfl ?_
      refine x_si (ls1 := [some (vR (some 2281)), some (vI s), some (vI c), some (vI f), some (vI k)]) T_242_59 rfl ?_
      refine x_inc (w := (k + 1)) (ls1 := [some (vR (some 2281)), some (vI s), some (vI c), some (vI f), some (vI (k + 1))]) T_242_60 rfl (w32_id (by omega) (by omega)) rfl ?_
      refine x_goto T_242_63 ?_
      exact key _ (by split <;> first | rfl | omega)
    · replace h29 : ¬ (P 2304 k = 0) := h29
      refine x_li (z := f) T_242_32 rfl ?_
      refine x_if T_242_33 (fun h33 => ?_) (fun h33 => ?_)
      · replace h33 : f < 0 := h33
        refine x_li (z := k) T_242_53 rfl ?_
        refine x_goto T_242_55 ?_
        refine x_si (ls1 := [some (vR (some 2281)), some (vI s), some (vI c), some (vI k), some (vI k)]) T_242_59 rfl ?_
        refine x_inc (w := (k + 1)) (ls1 := [some (vR (some 2281)), some (vI s), some (vI c), some (vI k), some (vI (k + 1))]) T_242_60 rfl (w32_id (by omega) (by omega)) rfl ?_
        refine x_goto T_242_63 ?_
        exact key _ (by split <;> first | rfl | omega)
      · replace h33 : ¬ (f < 0) := h33
        refine x_lr (z := some 2281) T_242_36 rfl ?_
        refine x_gR (z := some 2305) T_242_37 F_17_29 (PM.t hP) (PM.r hP 29 2305 rfl) ?_
        refine x_li (z := k) T_242_40 rfl ?_
        refine x_alL (z := P 2305 k) T_242_42 (PM.ta hP 2305 3 288 rfl rfl) (by omega) (by omega) (PM.aP hP 2305 rfl rfl (by omega)) ?_
        refine x_lr (z := some 2281) T_242_43 rfl ?_
        refine x_gR (z := some 2305) T_242_44 F_17_29 (PM.t hP) (PM.r hP 29 2305 rfl) ?_
        refine x_li (z := f) T_242_47 rfl ?_
        refine x_alL (z := P 2305 f) T_242_48 (PM.ta hP 2305 3 288 rfl rfl) (by omega) (by omega) (PM.aP hP 2305 rfl rfl (by omega)) ?_
        refine x_lif T_242_49 T_242_50 (fun h50 => ?_) (fun h50 => ?_)
        · replace h50 : P 2305 f ≤ P 2305 k := h50
          refine x_li (z := f) T_242_58 rfl ?_
          refine x_si (ls1 := [some (vR (some 2281)), some (vI s), some (vI c), some (vI f), some (vI k)]) T_242_59 rfl ?_
          refine x_inc (w := (k + 1)) (ls1 := [some (vR (some 2281)), some (vI s), some (vI c), some (vI f), some (vI (k + 1))]) T_242_60 rfl (w32_id (by omega) (by omega)) rfl ?_
          refine x_goto T_242_63 ?_
          exact key _ (by split <;> first | rfl | omega)
        · replace h50 : ¬ (P 2305 f ≤ P 2305 k) := h50
          refine x_li (z := k) T_242_53 rfl ?_
          refine x_goto T_242_55 ?_
          refine x_si (ls1 := [some (vR (some 2281)), some (vI s), some (vI c), some (vI k), some (vI k)]) T_242_59 rfl ?_
          refine x_inc (w := (k + 1)) (ls1 := [some (vR (some 2281)), some (vI s), some (vI c), some (vI k), some (vI (k + 1))]) T_242_60 rfl (w32_id (by omega) (by omega)) rfl ?_
          refine x_goto T_242_63 ?_
          exact key _ (by split <;> first | rfl | omega)
theorem m_leastFid (hP : PM σ0 P S σ) (hs : 0 ≤ s ∧ s < 3) (hc : 0 ≤ c ∧ c < 2) : CL fb (d + 1) 242 [vR (some 2281), vI s, vI c] σ (rP (qLeast P s c) σ) := by
  refine CL_in mL_242 rfl ?_
  show WP fb _ 242 0 [some (vR (some 2281)), some (vI s), some (vI c), none, none] [] σ _
  refine x_ic T_242_0 ?_
  refine x_si (ls1 := [some (vR (some 2281)), some (vI s), some (vI c), some (vI (-1)), none]) T_242_1 rfl ?_
  refine x_li (z := s) T_242_2 rfl ?_
  refine x_li (z := c) T_242_3 rfl ?_
  refine x_cs2 T_242_4 mN_243 mL_243 (Nat.le_of_ble_eq_true rfl) mK_243 (Nat.le_of_ble_eq_true rfl) (m_base (by omega) (by omega)) ?_
  rintro _ σ ⟨rfl, rfl⟩
  refine cI ?_
  refine x_si (ls1 := [some (vR (some 2281)), some (vI s), some (vI c), some (vI (-1)), some (vI (48 * (2 * s + c)))]) T_242_7 rfl ?_
  exact m_leastFid_loop hP hs hc 48 _ (-1) (by omega) (by omega) (by omega) (by omega)
theorem m_isPacked_loop {o v z : Int} (hP : PM σ0 P S σ) (hJ : IV true T U S) (ho : 0 ≤ o) (hz : 0 ≤ z ∧ z ≤ 8) (h1 : o + z ≤ 512) : ∀ (m : Nat) (k w : Int), k + m = z → 0 ≤ k → ((w = 1 ∧ ∀ i : Int, 0 ≤ i → i < k → S 2285 (o + i) = pkB v z i) ∨ (w = 0 ∧ ∃ i : Int, 0 ≤ i ∧ i < z ∧ ¬ S 2285 (o + i) = pkB v z i)) → WP fb d 256 6 [some (vR (some 2281)), some (vI o), some (vL v), none, some (vI z), some (vI w), some (vI k)] [] σ (rP (if seg (S 2285) o z.toNat = seg (pkB v z) 0 z.toNat then 1 else 0) σ) := by
  have hc : seg (S 2285) o z.toNat = seg (pkB v z) 0 z.toNat ↔ ∀ i : Int, 0 ≤ i → i < z → S 2285 (o + i) = pkB v z i := by
    rw [seg_seg]
    exact ⟨fun q i h2 h3 => by have := q i h2 (by omega); rw [Int.zero_add] at this; exact this, fun q i h2 h3 => by rw [Int.zero_add]; exact q i h2 (by omega)⟩
  intro m
  induction m with
  | zero =>
    intro k w hk hk0 hw
    rcases hw with ⟨rfl, hw⟩ | ⟨rfl, i, hw1, hw2, hw3⟩
    · rw [if_pos (hc.mpr (fun i h2 h3 => hw i h2 (by omega)))]
      refine x_li (z := k) T_256_6 rfl ?_
      refine x_li (z := z) T_256_8 rfl ?_
      refine x_ic2 T_256_10 (fun _ => ?_) (fun h => absurd (show z ≤ k by omega) h)
      refine x_li (z := 1) T_256_61 rfl ?_
      refine x_rz T_256_63 rfl ?_
      exact ⟨rfl, rfl⟩
    · rw [if_neg (fun q => hw3 (hc.mp q i hw1 hw2))]
      refine x_li (z := k) T_256_6 rfl ?_
      refine x_li (z := z) T_256_8 rfl ?_
      refine x_ic2 T_256_10 (fun _ => ?_) (fun h => absurd (show z ≤ k by omega) h)
      refine x_li (z := 0) T_256_61 rfl ?_
      refine x_rz T_256_63 rfl ?_
      exact ⟨rfl, rfl⟩
  | succ m ih =>
    intro k w hk hk0 hw
    rcases hw with ⟨rfl, hw⟩ | ⟨rfl, hw⟩
    · skip
      refine x_li (z := k) T_256_6 rfl ?_
      refine x_li (z := z) T_256_8 rfl ?_
      refine x_ic2 T_256_10 (fun h => absurd (show z ≤ k from h) (by omega)) (fun _ => ?_)
      refine x_li (z := 1) T_256_13 rfl ?_
      refine x_if T_256_15 (fun h => absurd (show (1 : Int) = 0 from h) (by decide)) (fun _ => ?_)
      refine x_lr (z := some 2281) T_256_18 rfl ?_
      refine x_gR (z := some 2285) T_256_19 F_17_3 (PM.t hP) (PM.r hP 3 2285 rfl) ?_
      refine x_li (z := o) T_256_22 rfl ?_
      refine x_li (z := k) T_256_23 rfl ?_
      refine x_ib (w := (o + k)) T_256_25 (fun h => absurd h.1 (by decide)) (w32_id (by omega) (by omega)) ?_
      have b1 : 0 ≤ S 2285 (o + k) ∧ S 2285 (o + k) ≤ 255 := IV.a hJ 2285 0 512 rfl rfl rfl (by omega) (by omega)
      refine x_alI (z := S 2285 (o + k)) T_256_26 (by decide) (PM.ta hP 2285 0 512 rfl rfl) (by omega) (by omega) (PM.aS hP 2285 rfl rfl (by omega)) ?_
      refine x_i2l T_256_27 ?_
      refine x_ll (z := v) T_256_28 rfl ?_
      refine x_ic T_256_29 ?_
      refine x_li (z := z) T_256_31 rfl ?_
      refine x_ic T_256_33 ?_
      refine x_ib (w := (z - 1)) T_256_34 (fun h => absurd h.1 (by decide)) (w32_id (by omega) (by omega)) ?_
      refine x_li (z := k) T_256_35 rfl ?_
      refine x_ib (w := ((z - 1) - k)) T_256_37 (fun h => absurd h.1 (by decide)) (w32_id (by omega) (by omega)) ?_
      refine x_ib (w := (8 * ((z - 1) - k))) T_256_38 (fun h => absurd h.1 (by decide)) (w32_id (by omega) (by omega)) ?_
      refine x_lh (w := (shr64 v (8 * ((z - 1) - k)))) T_256_39 rfl ?_
      refine x_lc T_256_40 ?_
      refine x_lb (w := pkB v z k) T_256_43 (fun h => absurd h.1 (by decide)) (byte64 v (by omega) (by omega)) ?_
      refine x_lif T_256_44 T_256_45 (fun h45 => ?_) (fun h45 => ?_)
      · replace h45 : ¬ S 2285 (o + k) = pkB v z k := h45
        refine x_ic T_256_52 ?_
        refine x_si (ls1 := [some (vR (some 2281)), some (vI o), some (vL v), none, some (vI z), some (vI 0), some (vI k)]) T_256_53 rfl ?_
        refine x_inc (w := (k + 1)) (ls1 := [some (vR (some 2281)), some (vI o), some (vL v), none, some (vI z), some (vI 0), some (vI (k + 1))]) T_256_55 rfl (w32_id (by omega) (by omega)) rfl ?_
        refine x_goto T_256_58 ?_
        first
          | exact ih (k + 1) 0 (by omega) (by omega) (Or.inr ⟨rfl, k, hk0, by omega, h45⟩)
          | exact ih (k + 1) 1 (by omega) (by omega) (Or.inl ⟨rfl, fun i h2 h3 => by by_cases e : i = k; rw [e]; exact Classical.not_not.mp h45; exact hw i h2 (by omega)⟩)
      · replace h45 : ¬ (¬ S 2285 (o + k) = pkB v z k) := h45
        refine x_ic T_256_48 ?_
        refine x_goto T_256_49 ?_
        refine x_si (ls1 := [some (vR (some 2281)), some (vI o), some (vL v), none, some (vI z), some (vI 1), some (vI k)]) T_256_53 rfl ?_
        refine x_inc (w := (k + 1)) (ls1 := [some (vR (some 2281)), some (vI o), some (vL v), none, some (vI z), some (vI 1), some (vI (k + 1))]) T_256_55 rfl (w32_id (by omega) (by omega)) rfl ?_
        refine x_goto T_256_58 ?_
        first
          | exact ih (k + 1) 0 (by omega) (by omega) (Or.inr ⟨rfl, k, hk0, by omega, h45⟩)
          | exact ih (k + 1) 1 (by omega) (by omega) (Or.inl ⟨rfl, fun i h2 h3 => by by_cases e : i = k; rw [e]; exact Classical.not_not.mp h45; exact hw i h2 (by omega)⟩)
    · skip
      refine x_li (z := k) T_256_6 rfl ?_
      refine x_li (z := z) T_256_8 rfl ?_
      refine x_ic2 T_256_10 (fun h => absurd (show z ≤ k from h) (by omega)) (fun _ => ?_)
      refine x_li (z := 0) T_256_13 rfl ?_
      refine x_if T_256_15 (fun _ => ?_) (fun h => absurd (show (0 : Int) = 0 by decide) h)
      refine x_ic T_256_52 ?_
      refine x_si (ls1 := [some (vR (some 2281)), some (vI o), some (vL v), none, some (vI z), some (vI 0), some (vI k)]) T_256_53 rfl ?_
      refine x_inc (w := (k + 1)) (ls1 := [some (vR (some 2281)), some (vI o), some (vL v), none, some (vI z), some (vI 0), some (vI (k + 1))]) T_256_55 rfl (w32_id (by omega) (by omega)) rfl ?_
      refine x_goto T_256_58 ?_
      exact ih (k + 1) 0 (by omega) (by omega) (Or.inr ⟨rfl, hw⟩)
theorem m_isPacked {o v z : Int} (hP : PM σ0 P S σ) (hJ : IV true T U S) (ho : 0 ≤ o) (hz : 0 ≤ z ∧ z ≤ 8) (h1 : o + z ≤ 512) : CL fb d 256 [vR (some 2281), vI o, vL v, vI z] σ (rP (if seg (S 2285) o z.toNat = seg (pkB v z) 0 z.toNat then 1 else 0) σ) := by
  refine CL_in mL_256 rfl ?_
  show WP fb _ 256 0 [some (vR (some 2281)), some (vI o), some (vL v), none, some (vI z), none, none] [] σ _
  refine x_ic T_256_0 ?_
  refine x_si (ls1 := [some (vR (some 2281)), some (vI o), some (vL v), none, some (vI z), some (vI 1), none]) T_256_1 rfl ?_
  refine x_ic T_256_3 ?_
  refine x_si (ls1 := [some (vR (some 2281)), some (vI o), some (vL v), none, some (vI z), some (vI 1), some (vI 0)]) T_256_4 rfl ?_
  exact m_isPacked_loop hP hJ ho hz h1 z.toNat 0 1 (by omega) (by decide) (Or.inl ⟨rfl, fun i h2 h3 => by omega⟩)
theorem m_putPacked_loop {v z : Int} (hz : 0 ≤ z ∧ z ≤ 8) (h0 : 0 ≤ S 2281 6 ∧ S 2281 6 ≤ 500) : ∀ (m : Nat) (k : Int) (σ : hM), k + m = z → 0 ≤ k → PM σ0 P (rA S (pkP v z k.toNat)) σ → WP fb (d + 1) 257 10 [some (vR (some 2281)), some (vL v), none, some (vI z), some (vI k)] [] σ (rV σ0 P (rA S (pkP v z z.toNat))) := by
  intro m
  induction m with
  | zero =>
    intro k σ hk hk0 hP
    refine x_li (z := k) T_257_10 rfl ?_
    refine x_li (z := z) T_257_12 rfl ?_
    refine x_ic2 T_257_13 (fun _ => ?_) (fun h => absurd (show z ≤ k by omega) h)
    refine x_rv T_257_42 ?_
    exact ⟨rfl, by rw [show z = k by omega]; rw [show z = k by omega] at hP; exact hP⟩
  | succ m ih =>
    intro k σ hk hk0 hP
    have e2 : rA S (pkP v z k.toNat) 2281 6 = S 2281 6 + k := rA_zn (by rw [pkP_len]; omega) rfl
    refine x_li (z := k) T_257_10 rfl ?_
    refine x_li (z := z) T_257_12 rfl ?_
    refine x_ic2 T_257_13 (fun h => absurd (show z ≤ k from h) (by omega)) (fun _ => ?_)
    refine x_lr (z := some 2281) T_257_16 rfl ?_
    refine x_ic T_257_17 ?_
    refine x_ll (z := v) T_257_18 rfl ?_
    refine x_ic T_257_19 ?_
    refine x_li (z := z) T_257_21 rfl ?_
    refine x_ic T_257_22 ?_
    refine x_ib (w := (z - 1)) T_257_23 (fun h => absurd h.1 (by decide)) (w32_id (by omega) (by omega)) ?_
    refine x_li (z := k) T_257_24 rfl ?_
    refine x_ib (w := ((z - 1) - k)) T_257_26 (fun h => absurd h.1 (by decide)) (w32_id (by omega) (by omega)) ?_
    refine x_ib (w := (8 * ((z - 1) - k))) T_257_27 (fun h => absurd h.1 (by decide)) (w32_id (by omega) (by omega)) ?_
    refine x_lh (w := (shr64 v (8 * ((z - 1) - k)))) T_257_28 rfl ?_
    refine x_lc T_257_29 ?_
    refine x_lb (w := pkB v z k) T_257_32 (fun h => absurd h.1 (by decide)) (byte64 v (by omega) (by omega)) ?_
    refine x_cv3 T_257_33 mN_237 mL_237 (Nat.le_of_ble_eq_true rfl) mO_237 (PM.t hP) (Nat.le_of_ble_eq_true rfl) (m_put 1 rfl hP (by decide) e2 (by omega) (by omega)) ?_
    rintro _ σ ⟨rfl, hP⟩
    refine cV ?_
    refine x_inc (w := (k + 1)) (ls1 := [some (vR (some 2281)), some (vL v), none, some (vI z), some (vI (k + 1))]) T_257_36 rfl (w32_id (by omega) (by omega)) rfl ?_
    refine x_goto T_257_39 ?_
    skip
    rw [rA_rA] at hP
    refine ih (k + 1) σ (by omega) (by omega) ?_
    rw [show (k + 1).toNat = k.toNat + 1 by omega]
    show PM σ0 P (rA S (pkP v z k.toNat ++ leb 1 (pkB v z (k.toNat : Nat)))) σ
    rw [Int.toNat_of_nonneg hk0]
    exact hP
theorem m_putPacked {v z w : Int} (hP : PM σ0 P S σ) (hz : 0 ≤ z ∧ z ≤ 8) (e : S 2281 6 = w) (h0 : 0 ≤ w ∧ w ≤ 490) : CL fb (d + 1) 257 [vR (some 2281), vL v, vI z] σ (rV σ0 P (rA S (leb 2 z ++ pkP v z z.toNat))) := by
  subst e
  rw [← rA_rA]
  have e2 : rA S (leb 2 z) 2281 6 = S 2281 6 + 2 := rA_zn (leb_z 2 _ rfl) rfl
  refine CL_in mL_257 rfl ?_
  show WP fb _ 257 0 [some (vR (some 2281)), some (vL v), none, some (vI z), none] [] σ _
  refine x_lr (z := some 2281) T_257_0 rfl ?_
  refine x_ic T_257_1 ?_
  refine x_li (z := z) T_257_2 rfl ?_
  refine x_i2l T_257_3 ?_
  refine x_cv3 T_257_4 mN_237 mL_237 (Nat.le_of_ble_eq_true rfl) mO_237 (PM.t hP) (Nat.le_of_ble_eq_true rfl) (m_put 2 rfl hP (by decide) rfl (by omega) (by omega)) ?_
  rintro _ σ ⟨rfl, hP⟩
  refine cV ?_
  refine x_ic T_257_7 ?_
  refine x_si (ls1 := [some (vR (some 2281)), some (vL v), none, some (vI z), some (vI 0)]) T_257_8 rfl ?_
  exact m_putPacked_loop hz (by omega) z.toNat 0 σ (by omega) (by decide) (by rw [show pkP v z (0 : Int).toNat = [] from rfl, rA_nil]; exact hP)
theorem m_userNamed_loop {o : Int} (hP : PM σ0 P S σ) (hJ : IV true T U S) (ho : 0 ≤ o) (h1 : o + 3 ≤ 512) : ∀ (m : Nat) (k : Int) (o4 o5 : Option AV), k + m = 4 → 0 ≤ k → WP fb d 259 2 [some (vR (some 2281)), some (vI o), some (vI 3), some (vI k), o4, o5] [] σ (rP (usF (S 2285) o m k) σ) := by
  intro m
  induction m with
  | zero =>
    intro k o4 o5 hk hk0
    refine x_li (z := k) T_259_2 rfl ?_
    refine x_ic T_259_3 ?_
    refine x_ic2 T_259_4 (fun _ => ?_) (fun h => absurd (show 4 ≤ k by omega) h)
    refine x_ic T_259_78 ?_
    refine x_ri T_259_79 ?_
    exact ⟨rfl, rfl⟩
  | succ m ih =>
    intro k o4 o5 hk hk0
    have key : ¬ (S 2285 o = ubyte (3 * k) ∧ S 2285 (o + 1) = ubyte (3 * k + 1) ∧ S 2285 (o + 2) = ubyte (3 * k + 2)) → ∀ o4 o5, WP fb d 259 2 [some (vR (some 2281)), some (vI o), some (vI 3), some (vI (k + 1)), o4, o5] [] σ (rP (usF (S 2285) o (m + 1) k) σ) := by
      intro q o4 o5
      rw [show usF (S 2285) o (m + 1) k = usF (S 2285) o m (k + 1) from if_neg q]
      exact ih (k + 1) o4 o5 (by omega) (by omega)
    refine x_li (z := k) T_259_2 rfl ?_
    refine x_ic T_259_3 ?_
    refine x_ic2 T_259_4 (fun h => absurd (show 4 ≤ k from h) (by omega)) (fun _ => ?_)
    refine x_li (z := 3) T_259_7 rfl ?_
    refine x_ic T_259_8 ?_
    refine x_ic2 T_259_9 (fun h => absurd (show ¬ (3 : Int) = 3 from h) (by decide)) (fun _ => ?_)
    refine x_ic T_259_12 ?_
    refine x_si (ls1 := [some (vR (some 2281)), some (vI o), some (vI 3), some (vI k), some (vI 1), o5]) T_259_13 rfl ?_
    refine x_ic T_259_15 ?_
    refine x_si (ls1 := [some (vR (some 2281)), some (vI o), some (vI 3), some (vI k), some (vI 1), some (vI 0)]) T_259_16 rfl ?_
    refine x_li (z := 0) T_259_18 rfl ?_
    refine x_ic T_259_20 ?_
    refine x_ic2 T_259_21 (fun h => absurd (show 3 ≤ (0 : Int) from h) (by decide)) (fun _ => ?_)
    refine x_li (z := 1) T_259_24 rfl ?_
    refine x_if T_259_26 (fun h => absurd (show (1 : Int) = 0 from h) (by decide)) (fun _ => ?_)
    refine x_lr (z := some 2281) T_259_29 rfl ?_
    refine x_gR (z := some 2285) T_259_30 F_17_3 (PM.t hP) (PM.r hP 3 2285 rfl) ?_
    refine x_li (z := o) T_259_33 rfl ?_
    refine x_li (z := 0) T_259_34 rfl ?_
    refine x_ib (w := o) T_259_36 (fun h => absurd h.1 (by decide)) (by show w32 (o + 0) = o; rw [Int.add_zero]; exact w32_id (by omega) (by omega)) ?_
    have b1 : 0 ≤ S 2285 o ∧ S 2285 o ≤ 255 := IV.a hJ 2285 0 512 rfl rfl rfl (by omega) (by omega)
    refine x_alI (z := S 2285 o) T_259_37 (by decide) (PM.ta hP 2285 0 512 rfl rfl) (by omega) (by omega) (PM.aS hP 2285 rfl rfl (by omega)) ?_
    refine x_lr (z := some 2281) T_259_38 rfl ?_
    refine x_gR (z := some 2284) T_259_39 F_17_2 (PM.t hP) (PM.r hP 2 2284 rfl) ?_
    refine x_ic T_259_42 ?_
    refine x_li (z := k) T_259_43 rfl ?_
    refine x_ib (w := (3 * k)) T_259_44 (fun h => absurd h.1 (by decide)) (w32_id (by omega) (by omega)) ?_
    refine x_li (z := 0) T_259_45 rfl ?_
    refine x_ib (w := (3 * k)) T_259_47 (fun h => absurd h.1 (by decide)) (by show w32 (3 * k + 0) = 3 * k; rw [Int.add_zero]; exact w32_id (by omega) (by omega)) ?_
    refine x_alI (z := ubyte (3 * k)) T_259_48 (by decide) (PM.ta hP 2284 0 12 rfl rfl) (by omega) (by omega) (PM.c2284 hP (by omega) (by omega)) ?_
    refine x_ic2 T_259_49 (fun h49 => ?_) (fun h49 => ?_)
    · replace h49 : ¬ S 2285 o = ubyte (3 * k) := h49
      refine x_ic T_259_56 ?_
      refine x_si (ls1 := [some (vR (some 2281)), some (vI o), some (vI 3), some (vI k), some (vI 0), some (vI 0)]) T_259_57 rfl ?_
      refine x_inc (w := 1) (ls1 := [some (vR (some 2281)), some (vI o), some (vI 3), some (vI k), some (vI 0), some (vI 1)]) T_259_59 rfl (w32_id (by omega) (by omega)) rfl ?_
      refine x_goto T_259_62 ?_
      refine x_li (z := 1) T_259_18 rfl ?_
      refine x_ic T_259_20 ?_
      refine x_ic2 T_259_21 (fun h => absurd (show 3 ≤ (1 : Int) from h) (by decide)) (fun _ => ?_)
      refine x_li (z := 0) T_259_24 rfl ?_
      refine x_if T_259_26 (fun _ => ?_) (fun h => absurd (show (0 : Int) = 0 by decide) h)
      refine x_ic T_259_56 ?_
      refine x_si (ls1 := [some (vR (some 2281)), some (vI o), some (vI 3), some (vI k), some (vI 0), some (vI 1)]) T_259_57 rfl ?_
      refine x_inc (w := 2) (ls1 := [some (vR (some 2281)), some (vI o), some (vI 3), some (vI k), some (vI 0), some (vI 2)]) T_259_59 rfl (w32_id (by omega) (by omega)) rfl ?_
      refine x_goto T_259_62 ?_
      refine x_li (z := 2) T_259_18 rfl ?_
      refine x_ic T_259_20 ?_
      refine x_ic2 T_259_21 (fun h => absurd (show 3 ≤ (2 : Int) from h) (by decide)) (fun _ => ?_)
      refine x_li (z := 0) T_259_24 rfl ?_
      refine x_if T_259_26 (fun _ => ?_) (fun h => absurd (show (0 : Int) = 0 by decide) h)
      refine x_ic T_259_56 ?_
      refine x_si (ls1 := [some (vR (some 2281)), some (vI o), some (vI 3), some (vI k), some (vI 0), some (vI 2)]) T_259_57 rfl ?_
      refine x_inc (w := 3) (ls1 := [some (vR (some 2281)), some (vI o), some (vI 3), some (vI k), some (vI 0), some (vI 3)]) T_259_59 rfl (w32_id (by omega) (by omega)) rfl ?_
      refine x_goto T_259_62 ?_
      refine x_li (z := 3) T_259_18 rfl ?_
      refine x_ic T_259_20 ?_
      refine x_ic2 T_259_21 (fun _ => ?_) (fun h => absurd (show 3 ≤ (3 : Int) by decide) h)
      refine x_li (z := 0) T_259_65 rfl ?_
      refine x_if T_259_67 (fun _ => ?_) (fun h => absurd (show (0 : Int) = 0 by decide) h)
      refine x_inc (w := (k + 1)) (ls1 := [some (vR (some 2281)), some (vI o), some (vI 3), some (vI (k + 1)), some (vI 0), some (vI 3)]) T_259_72 rfl (w32_id (by omega) (by omega)) rfl ?_
      refine x_goto T_259_75 ?_
      exact key (fun q => by omega) _ _
    · replace h49 : ¬ (¬ S 2285 o = ubyte (3 * k)) := h49
      refine x_ic T_259_52 ?_
      refine x_goto T_259_53 ?_
      refine x_si (ls1 := [some (vR (some 2281)), some (vI o), some (vI 3), some (vI k), some (vI 1), some (vI 0)]) T_259_57 rfl ?_
      refine x_inc (w := 1) (ls1 := [some (vR (some 2281)), some (vI o), some (vI 3), some (vI k), some (vI 1), some (vI 1)]) T_259_59 rfl (w32_id (by omega) (by omega)) rfl ?_
      refine x_goto T_259_62 ?_
      refine x_li (z := 1) T_259_18 rfl ?_
      refine x_ic T_259_20 ?_
      refine x_ic2 T_259_21 (fun h => absurd (show 3 ≤ (1 : Int) from h) (by decide)) (fun _ => ?_)
      refine x_li (z := 1) T_259_24 rfl ?_
      refine x_if T_259_26 (fun h => absurd (show (1 : Int) = 0 from h) (by decide)) (fun _ => ?_)
      refine x_lr (z := some 2281) T_259_29 rfl ?_
      refine x_gR (z := some 2285) T_259_30 F_17_3 (PM.t hP) (PM.r hP 3 2285 rfl) ?_
      refine x_li (z := o) T_259_33 rfl ?_
      refine x_li (z := 1) T_259_34 rfl ?_
      refine x_ib (w := (o + 1)) T_259_36 (fun h => absurd h.1 (by decide)) (w32_id (by omega) (by omega)) ?_
      have b2 : 0 ≤ S 2285 (o + 1) ∧ S 2285 (o + 1) ≤ 255 := IV.a hJ 2285 0 512 rfl rfl rfl (by omega) (by omega)
      refine x_alI (z := S 2285 (o + 1)) T_259_37 (by decide) (PM.ta hP 2285 0 512 rfl rfl) (by omega) (by omega) (PM.aS hP 2285 rfl rfl (by omega)) ?_
      refine x_lr (z := some 2281) T_259_38 rfl ?_
      refine x_gR (z := some 2284) T_259_39 F_17_2 (PM.t hP) (PM.r hP 2 2284 rfl) ?_
      refine x_ic T_259_42 ?_
      refine x_li (z := k) T_259_43 rfl ?_
      refine x_ib (w := (3 * k)) T_259_44 (fun h => absurd h.1 (by decide)) (w32_id (by omega) (by omega)) ?_
      refine x_li (z := 1) T_259_45 rfl ?_
      refine x_ib (w := ((3 * k) + 1)) T_259_47 (fun h => absurd h.1 (by decide)) (w32_id (by omega) (by omega)) ?_
      refine x_alI (z := ubyte ((3 * k) + 1)) T_259_48 (by decide) (PM.ta hP 2284 0 12 rfl rfl) (by omega) (by omega) (PM.c2284 hP (by omega) (by omega)) ?_
      refine x_ic2 T_259_49 (fun h49 => ?_) (fun h49 => ?_)
      · replace h49 : ¬ S 2285 (o + 1) = ubyte ((3 * k) + 1) := h49
        refine x_ic T_259_56 ?_
        refine x_si (ls1 := [some (vR (some 2281)), some (vI o), some (vI 3), some (vI k), some (vI 0), some (vI 1)]) T_259_57 rfl ?_
        refine x_inc (w := 2) (ls1 := [some (vR (some 2281)), some (vI o), some (vI 3), some (vI k), some (vI 0), some (vI 2)]) T_259_59 rfl (w32_id (by omega) (by omega)) rfl ?_
        refine x_goto T_259_62 ?_
        refine x_li (z := 2) T_259_18 rfl ?_
        refine x_ic T_259_20 ?_
        refine x_ic2 T_259_21 (fun h => absurd (show 3 ≤ (2 : Int) from h) (by decide)) (fun _ => ?_)
        refine x_li (z := 0) T_259_24 rfl ?_
        refine x_if T_259_26 (fun _ => ?_) (fun h => absurd (show (0 : Int) = 0 by decide) h)
        refine x_ic T_259_56 ?_
        refine x_si (ls1 := [some (vR (some 2281)), some (vI o), some (vI 3), some (vI k), some (vI 0), some (vI 2)]) T_259_57 rfl ?_
        refine x_inc (w := 3) (ls1 := [some (vR (some 2281)), some (vI o), some (vI 3), some (vI k), some (vI 0), some (vI 3)]) T_259_59 rfl (w32_id (by omega) (by omega)) rfl ?_
        refine x_goto T_259_62 ?_
        refine x_li (z := 3) T_259_18 rfl ?_
        refine x_ic T_259_20 ?_
        refine x_ic2 T_259_21 (fun _ => ?_) (fun h => absurd (show 3 ≤ (3 : Int) by decide) h)
        refine x_li (z := 0) T_259_65 rfl ?_
        refine x_if T_259_67 (fun _ => ?_) (fun h => absurd (show (0 : Int) = 0 by decide) h)
        refine x_inc (w := (k + 1)) (ls1 := [some (vR (some 2281)), some (vI o), some (vI 3), some (vI (k + 1)), some (vI 0), some (vI 3)]) T_259_72 rfl (w32_id (by omega) (by omega)) rfl ?_
        refine x_goto T_259_75 ?_
        exact key (fun q => by omega) _ _
      · replace h49 : ¬ (¬ S 2285 (o + 1) = ubyte ((3 * k) + 1)) := h49
        refine x_ic T_259_52 ?_
        refine x_goto T_259_53 ?_
        refine x_si (ls1 := [some (vR (some 2281)), some (vI o), some (vI 3), some (vI k), some (vI 1), some (vI 1)]) T_259_57 rfl ?_
        refine x_inc (w := 2) (ls1 := [some (vR (some 2281)), some (vI o), some (vI 3), some (vI k), some (vI 1), some (vI 2)]) T_259_59 rfl (w32_id (by omega) (by omega)) rfl ?_
        refine x_goto T_259_62 ?_
        refine x_li (z := 2) T_259_18 rfl ?_
        refine x_ic T_259_20 ?_
        refine x_ic2 T_259_21 (fun h => absurd (show 3 ≤ (2 : Int) from h) (by decide)) (fun _ => ?_)
        refine x_li (z := 1) T_259_24 rfl ?_
        refine x_if T_259_26 (fun h => absurd (show (1 : Int) = 0 from h) (by decide)) (fun _ => ?_)
        refine x_lr (z := some 2281) T_259_29 rfl ?_
        refine x_gR (z := some 2285) T_259_30 F_17_3 (PM.t hP) (PM.r hP 3 2285 rfl) ?_
        refine x_li (z := o) T_259_33 rfl ?_
        refine x_li (z := 2) T_259_34 rfl ?_
        refine x_ib (w := (o + 2)) T_259_36 (fun h => absurd h.1 (by decide)) (w32_id (by omega) (by omega)) ?_
        have b3 : 0 ≤ S 2285 (o + 2) ∧ S 2285 (o + 2) ≤ 255 := IV.a hJ 2285 0 512 rfl rfl rfl (by omega) (by omega)
        refine x_alI (z := S 2285 (o + 2)) T_259_37 (by decide) (PM.ta hP 2285 0 512 rfl rfl) (by omega) (by omega) (PM.aS hP 2285 rfl rfl (by omega)) ?_
        refine x_lr (z := some 2281) T_259_38 rfl ?_
        refine x_gR (z := some 2284) T_259_39 F_17_2 (PM.t hP) (PM.r hP 2 2284 rfl) ?_
        refine x_ic T_259_42 ?_
        refine x_li (z := k) T_259_43 rfl ?_
        refine x_ib (w := (3 * k)) T_259_44 (fun h => absurd h.1 (by decide)) (w32_id (by omega) (by omega)) ?_
        refine x_li (z := 2) T_259_45 rfl ?_
        refine x_ib (w := ((3 * k) + 2)) T_259_47 (fun h => absurd h.1 (by decide)) (w32_id (by omega) (by omega)) ?_
        refine x_alI (z := ubyte ((3 * k) + 2)) T_259_48 (by decide) (PM.ta hP 2284 0 12 rfl rfl) (by omega) (by omega) (PM.c2284 hP (by omega) (by omega)) ?_
        refine x_ic2 T_259_49 (fun h49 => ?_) (fun h49 => ?_)
        · replace h49 : ¬ S 2285 (o + 2) = ubyte ((3 * k) + 2) := h49
          refine x_ic T_259_56 ?_
          refine x_si (ls1 := [some (vR (some 2281)), some (vI o), some (vI 3), some (vI k), some (vI 0), some (vI 2)]) T_259_57 rfl ?_
          refine x_inc (w := 3) (ls1 := [some (vR (some 2281)), some (vI o), some (vI 3), some (vI k), some (vI 0), some (vI 3)]) T_259_59 rfl (w32_id (by omega) (by omega)) rfl ?_
          refine x_goto T_259_62 ?_
          refine x_li (z := 3) T_259_18 rfl ?_
          refine x_ic T_259_20 ?_
          refine x_ic2 T_259_21 (fun _ => ?_) (fun h => absurd (show 3 ≤ (3 : Int) by decide) h)
          refine x_li (z := 0) T_259_65 rfl ?_
          refine x_if T_259_67 (fun _ => ?_) (fun h => absurd (show (0 : Int) = 0 by decide) h)
          refine x_inc (w := (k + 1)) (ls1 := [some (vR (some 2281)), some (vI o), some (vI 3), some (vI (k + 1)), some (vI 0), some (vI 3)]) T_259_72 rfl (w32_id (by omega) (by omega)) rfl ?_
          refine x_goto T_259_75 ?_
          exact key (fun q => by omega) _ _
        · replace h49 : ¬ (¬ S 2285 (o + 2) = ubyte ((3 * k) + 2)) := h49
          refine x_ic T_259_52 ?_
          refine x_goto T_259_53 ?_
          refine x_si (ls1 := [some (vR (some 2281)), some (vI o), some (vI 3), some (vI k), some (vI 1), some (vI 2)]) T_259_57 rfl ?_
          refine x_inc (w := 3) (ls1 := [some (vR (some 2281)), some (vI o), some (vI 3), some (vI k), some (vI 1), some (vI 3)]) T_259_59 rfl (w32_id (by omega) (by omega)) rfl ?_
          refine x_goto T_259_62 ?_
          refine x_li (z := 3) T_259_18 rfl ?_
          refine x_ic T_259_20 ?_
          refine x_ic2 T_259_21 (fun _ => ?_) (fun h => absurd (show 3 ≤ (3 : Int) by decide) h)
          refine x_li (z := 1) T_259_65 rfl ?_
          refine x_if T_259_67 (fun h => absurd (show (1 : Int) = 0 from h) (by decide)) (fun _ => ?_)
          refine x_li (z := k) T_259_70 rfl ?_
          refine x_ri T_259_71 ?_
          exact ⟨by rw [show usF (S 2285) o (m + 1) k = k from if_pos (by omega)], rfl⟩
theorem m_userNamed {o z : Int} (hP : PM σ0 P S σ) (hJ : IV true T U S) (ho : 0 ≤ o) (hz : 0 ≤ z) (h1 : o + z ≤ 512) : CL fb d 259 [vR (some 2281), vI o, vI z] σ (rP (qUser (S 2285) o z) σ) := by
  unfold qUser
  by_cases h3 : z = 3
  · rw [if_pos h3]
    subst h3
    refine CL_in mL_259 rfl ?_
    show WP fb _ 259 0 [some (vR (some 2281)), some (vI o), some (vI 3), none, none, none] [] σ _
    refine x_ic T_259_0 ?_
    refine x_si (ls1 := [some (vR (some 2281)), some (vI o), some (vI 3), some (vI 0), none, none]) T_259_1 rfl ?_
    exact m_userNamed_loop hP hJ ho (by omega) 4 0 _ _ (by omega) (by decide)
  · rw [if_neg h3]
    refine CL_in mL_259 rfl ?_
    show WP fb _ 259 0 [some (vR (some 2281)), some (vI o), some (vI z), none, none, none] [] σ _
    refine x_ic T_259_0 ?_
    refine x_si (ls1 := [some (vR (some 2281)), some (vI o), some (vI z), some (vI 0), none, none]) T_259_1 rfl ?_
    refine x_li (z := 0) T_259_2 rfl ?_
    refine x_ic T_259_3 ?_
    refine x_ic2 T_259_4 (fun h => absurd (show 4 ≤ (0 : Int) from h) (by decide)) (fun _ => ?_)
    refine x_li (z := z) T_259_7 rfl ?_
    refine x_ic T_259_8 ?_
    refine x_ic2 T_259_9 (fun _ => ?_) (fun h => absurd (show ¬ z = 3 by exact h3) h)
    refine x_ic T_259_78 ?_
    refine x_ri T_259_79 ?_
    exact ⟨rfl, rfl⟩
theorem m_open {k m : Int} (hP : PM σ0 P S σ) (hk : 0 ≤ k ∧ k < 288) : CL fb d 277 [vR (some 2281), vI k, vI m] σ (rV σ0 (gOpen P k m) S) := by
  refine CL_in mL_277 rfl ?_
  show WP fb _ 277 0 [some (vR (some 2281)), some (vI k), some (vI m)] [] σ _
  refine x_lr (z := some 2281) T_277_0 rfl ?_
  refine x_gR (z := some 2309) T_277_1 F_17_33 (PM.t hP) (PM.r hP 33 2309 rfl) ?_
  refine x_li (z := k) T_277_4 rfl ?_
  refine x_li (z := m) T_277_5 rfl ?_
  refine y_aIP hP T_277_6 2309 288 rfl rfl rfl (by omega) (by omega) (fun σ hP => ?_)
  refine x_lr (z := some 2281) T_277_7 rfl ?_
  refine x_gR (z := some 2311) T_277_8 F_17_35 (PM.t hP) (PM.r hP 35 2311 rfl) ?_
  refine x_li (z := k) T_277_11 rfl ?_
  refine x_lc T_277_12 ?_
  refine y_aLP hP T_277_13 2311 288 rfl rfl rfl (by omega) (by omega) (fun σ hP => ?_)
  refine x_lr (z := some 2281) T_277_14 rfl ?_
  refine x_gR (z := some 2312) T_277_15 F_17_36 (PM.t hP) (PM.r hP 36 2312 rfl) ?_
  refine x_li (z := k) T_277_18 rfl ?_
  refine x_ic T_277_19 ?_
  refine y_aIP hP T_277_20 2312 288 rfl rfl rfl (by omega) (by omega) (fun σ hP => ?_)
  refine x_rv T_277_21 ?_
  exact ⟨rfl, hP⟩
theorem m_step {k o z : Int} (hP : PM σ0 P S σ) (hI : IV false T U P) (hJ : IV true T U S) (h : okN s n) (hd : s = 2 → qMode P s n < 0 → 0 < n → n % 16 = 0) (hk : 0 ≤ k ∧ k < 8) (ho : S 2287 k = o) (hz : S 2288 k = z) (h0 : 0 ≤ o ∧ 0 ≤ z ∧ o + z ≤ 512) : CL fb (d + 5) 267 [vR (some 2281), vI s, vI n, vI u, vI k] σ (fun r σ' => r = some (vI (qSt P s n u (seg (S 2285) o z.toNat))) ∧ PM σ0 P (if qMode P s n < 0 ∧ ¬ qMv P s n u 1 = 0 then rU S 2281 92 (qTo P s n (seg (S 2285) o z.toNat)) else S) σ') := by
  have hup : seg (S 2285) o z.toNat = [46, 46] ↔ z = 2 ∧ S 2285 o = 46 ∧ S 2285 (o + 1) = 46 := by
    rw [seg_eq]
    constructor
    · rintro ⟨q1, q2⟩
      have q1 : 2 = z.toNat := q1
      have q3 := q2 0 (by omega) (by omega)
      have q4 := q2 1 (by omega) (by omega)
      rw [Int.add_zero] at q3
      exact ⟨by omega, q3, q4⟩
    · rintro ⟨q1, q2, q5⟩
      refine ⟨by rw [q1]; rfl, fun i q3 q4 => ?_⟩
      have : i = 0 ∨ i = 1 := by omega
      rcases this with rfl | rfl
      · rw [Int.add_zero]
        exact q2
      · exact q5
  by_cases hm : qMode P s n < 0
  · by_cases hv : qMv P s n u 1 = 0
    · rw [show qSt P s n u (seg (S 2285) o z.toNat) = 3 by unfold qSt; rw [if_neg (by omega), if_pos hv], if_neg (by omega)]
      refine CL_in mL_267 rfl ?_
      show WP fb _ 267 0 [some (vR (some 2281)), some (vI s), some (vI n), some (vI u), some (vI k), none] [] σ _
      refine x_lr (z := some 2281) T_267_0 rfl ?_
      refine x_li (z := s) T_267_1 rfl ?_
      refine x_li (z := n) T_267_2 rfl ?_
      refine x_cv3 T_267_3 mN_252 mL_252 (Nat.le_of_ble_eq_true rfl) mO_252 (PM.t hP) (Nat.le_of_ble_eq_true rfl) (m_isDirectory hP (by omega)) ?_
      rintro _ σ ⟨rfl, rfl⟩
      refine cI ?_
      refine x_if T_267_6 (fun _ => ?_) (fun h => absurd (show ¬ (if qMode P s n < 0 then (1 : Int) else 0) = 0 by rw [if_pos hm]; decide) h)
      refine x_lr (z := some 2281) T_267_11 rfl ?_
      refine x_li (z := s) T_267_12 rfl ?_
      refine x_li (z := n) T_267_13 rfl ?_
      refine x_li (z := u) T_267_14 rfl ?_
      refine x_ic T_267_15 ?_
      refine x_cv5 T_267_16 mN_248 mL_248 (Nat.le_of_ble_eq_true rfl) mO_248 (PM.t hP) (Nat.le_of_ble_eq_true rfl) (m_may hP (by omega)) ?_
      rintro _ σ ⟨rfl, rfl⟩
      refine cI ?_
      refine x_if T_267_19 (fun h => absurd (show ¬ (if qMv P s n u 1 = 0 then (0 : Int) else 1) = 0 from h) (by rw [if_pos hv]; decide)) (fun _ => ?_)
      refine x_ic T_267_22 ?_
      refine x_ri T_267_23 ?_
      exact ⟨rfl, hP⟩
    · rw [if_pos ⟨hm, hv⟩, show qSt P s n u (seg (S 2285) o z.toNat) = if qTo P s n (seg (S 2285) o z.toNat) < 0 then 1 else 0 by unfold qSt; rw [if_neg (by omega), if_neg hv]]
      by_cases hu : z = 2 ∧ S 2285 o = 46 ∧ S 2285 (o + 1) = 46
      · have ht : qTo P s n (seg (S 2285) o z.toNat) = qUp P s n := if_pos (hup.mpr hu)
        rw [ht]
        refine CL_in mL_267 rfl ?_
        show WP fb _ 267 0 [some (vR (some 2281)), some (vI s), some (vI n), some (vI u), some (vI k), none] [] σ _
        refine x_lr (z := some 2281) T_267_0 rfl ?_
        refine x_li (z := s) T_267_1 rfl ?_
        refine x_li (z := n) T_267_2 rfl ?_
        refine x_cv3 T_267_3 mN_252 mL_252 (Nat.le_of_ble_eq_true rfl) mO_252 (PM.t hP) (Nat.le_of_ble_eq_true rfl) (m_isDirectory hP (by omega)) ?_
        rintro _ σ ⟨rfl, rfl⟩
        refine cI ?_
        refine x_if T_267_6 (fun _ => ?_) (fun h => absurd (show ¬ (if qMode P s n < 0 then (1 : Int) else 0) = 0 by rw [if_pos hm]; decide) h)
        refine x_lr (z := some 2281) T_267_11 rfl ?_
        refine x_li (z := s) T_267_12 rfl ?_
        refine x_li (z := n) T_267_13 rfl ?_
        refine x_li (z := u) T_267_14 rfl ?_
        refine x_ic T_267_15 ?_
        refine x_cv5 T_267_16 mN_248 mL_248 (Nat.le_of_ble_eq_true rfl) mO_248 (PM.t hP) (Nat.le_of_ble_eq_true rfl) (m_may hP (by omega)) ?_
        rintro _ σ ⟨rfl, rfl⟩
        refine cI ?_
        refine x_if T_267_19 (fun _ => ?_) (fun h => absurd (show ¬ (if qMv P s n u 1 = 0 then (0 : Int) else 1) = 0 by rw [if_neg hv]; decide) h)
        refine x_lr (z := some 2281) T_267_24 rfl ?_
        refine x_gR (z := some 2288) T_267_25 F_17_11 (PM.t hP) (PM.r hP 11 2288 rfl) ?_
        refine x_li (z := k) T_267_28 rfl ?_
        refine x_alI (z := z) T_267_30 (by decide) (PM.ta hP 2288 0 8 rfl rfl) (by omega) (by omega) (Eq.trans (PM.aS hP 2288 rfl rfl (by omega)) hz) ?_
        refine x_ic T_267_31 ?_
        refine x_ic2 T_267_32 (fun h => absurd (show ¬ z = 2 from h) (by omega)) (fun _ => ?_)
        refine x_lr (z := some 2281) T_267_35 rfl ?_
        refine x_gR (z := some 2285) T_267_36 F_17_3 (PM.t hP) (PM.r hP 3 2285 rfl) ?_
        refine x_lr (z := some 2281) T_267_39 rfl ?_
        refine x_gR (z := some 2287) T_267_40 F_17_10 (PM.t hP) (PM.r hP 10 2287 rfl) ?_
        refine x_li (z := k) T_267_43 rfl ?_
        refine x_alI (z := o) T_267_45 (by decide) (PM.ta hP 2287 0 8 rfl rfl) (by omega) (by omega) (Eq.trans (PM.aS hP 2287 rfl rfl (by omega)) ho) ?_
        have b1 : 0 ≤ S 2285 o ∧ S 2285 o ≤ 255 := IV.a hJ 2285 0 512 rfl rfl rfl (by omega) (by omega)
        refine x_alI (z := S 2285 o) T_267_46 (by decide) (PM.ta hP 2285 0 512 rfl rfl) (by omega) (by omega) (PM.aS hP 2285 rfl rfl (by omega)) ?_
        refine x_ic T_267_47 ?_
        refine x_ic2 T_267_49 (fun h => absurd (show ¬ S 2285 o = 46 from h) (by omega)) (fun _ => ?_)
        refine x_lr (z := some 2281) T_267_52 rfl ?_
        refine x_gR (z := some 2285) T_267_53 F_17_3 (PM.t hP) (PM.r hP 3 2285 rfl) ?_
        refine x_lr (z := some 2281) T_267_56 rfl ?_
        refine x_gR (z := some 2287) T_267_57 F_17_10 (PM.t hP) (PM.r hP 10 2287 rfl) ?_
        refine x_li (z := k) T_267_60 rfl ?_
        refine x_alI (z := o) T_267_62 (by decide) (PM.ta hP 2287 0 8 rfl rfl) (by omega) (by omega) (Eq.trans (PM.aS hP 2287 rfl rfl (by omega)) ho) ?_
        refine x_ic T_267_63 ?_
        refine x_ib (w := (o + 1)) T_267_64 (fun h => absurd h.1 (by decide)) (w32_id (by omega) (by omega)) ?_
        have b2 : 0 ≤ S 2285 (o + 1) ∧ S 2285 (o + 1) ≤ 255 := IV.a hJ 2285 0 512 rfl rfl rfl (by omega) (by omega)
        refine x_alI (z := S 2285 (o + 1)) T_267_65 (by decide) (PM.ta hP 2285 0 512 rfl rfl) (by omega) (by omega) (PM.aS hP 2285 rfl rfl (by omega)) ?_
        refine x_ic T_267_66 ?_
        refine x_ic2 T_267_68 (fun h => absurd (show ¬ S 2285 (o + 1) = 46 from h) (by omega)) (fun _ => ?_)
        refine x_ic T_267_71 ?_
        refine x_goto T_267_72 ?_
        refine x_si (ls1 := [some (vR (some 2281)), some (vI s), some (vI n), some (vI u), some (vI k), some (vI 1)]) T_267_76 rfl ?_
        refine x_lr (z := some 2281) T_267_78 rfl ?_
        refine x_li (z := 1) T_267_79 rfl ?_
        refine x_if T_267_81 (fun h => absurd (show (1 : Int) = 0 from h) (by decide)) (fun _ => ?_)
        refine x_lr (z := some 2281) T_267_84 rfl ?_
        refine x_li (z := s) T_267_85 rfl ?_
        refine x_li (z := n) T_267_86 rfl ?_
        refine x_cv3 T_267_87 mN_246 mL_246 (Nat.le_of_ble_eq_true rfl) mO_246 (PM.t hP) (Nat.le_of_ble_eq_true rfl) (m_aboveOf hP (by omega)) ?_
        rintro _ σ ⟨rfl, rfl⟩
        refine cI ?_
        refine x_goto T_267_90 ?_
        refine y_pIS hP T_267_113 F_17_92 92 rfl rfl (fun σ hP => ?_)
        refine x_lr (z := some 2281) T_267_116 rfl ?_
        refine x_gI (z := qUp P s n) T_267_117 (Or.inl F_17_92) (PM.t hP) (Eq.trans (PM.nS hP 2281 92 92 rfl rfl rfl) rU_s) ?_
        refine x_if T_267_120 (fun h120 => ?_) (fun h120 => ?_)
        · replace h120 : 0 ≤ qUp P s n := h120
          refine x_ic T_267_127 ?_
          refine x_ri T_267_128 ?_
          exact ⟨by first | rw [if_pos (by omega)] | rw [if_neg (by omega)], hP⟩
        · replace h120 : ¬ (0 ≤ qUp P s n) := h120
          refine x_ic T_267_123 ?_
          refine x_goto T_267_124 ?_
          refine x_ri T_267_128 ?_
          exact ⟨by first | rw [if_pos (by omega)] | rw [if_neg (by omega)], hP⟩
      · have ht : qTo P s n (seg (S 2285) o z.toNat) = qFind P s n (seg (S 2285) o z.toNat) := if_neg (fun q => hu (hup.mp q))
        rw [ht]
        refine CL_in mL_267 rfl ?_
        show WP fb _ 267 0 [some (vR (some 2281)), some (vI s), some (vI n), some (vI u), some (vI k), none] [] σ _
        refine x_lr (z := some 2281) T_267_0 rfl ?_
        refine x_li (z := s) T_267_1 rfl ?_
        refine x_li (z := n) T_267_2 rfl ?_
        refine x_cv3 T_267_3 mN_252 mL_252 (Nat.le_of_ble_eq_true rfl) mO_252 (PM.t hP) (Nat.le_of_ble_eq_true rfl) (m_isDirectory hP (by omega)) ?_
        rintro _ σ ⟨rfl, rfl⟩
        refine cI ?_
        refine x_if T_267_6 (fun _ => ?_) (fun h => absurd (show ¬ (if qMode P s n < 0 then (1 : Int) else 0) = 0 by rw [if_pos hm]; decide) h)
        refine x_lr (z := some 2281) T_267_11 rfl ?_
        refine x_li (z := s) T_267_12 rfl ?_
        refine x_li (z := n) T_267_13 rfl ?_
        refine x_li (z := u) T_267_14 rfl ?_
        refine x_ic T_267_15 ?_
        refine x_cv5 T_267_16 mN_248 mL_248 (Nat.le_of_ble_eq_true rfl) mO_248 (PM.t hP) (Nat.le_of_ble_eq_true rfl) (m_may hP (by omega)) ?_
        rintro _ σ ⟨rfl, rfl⟩
        refine cI ?_
        refine x_if T_267_19 (fun _ => ?_) (fun h => absurd (show ¬ (if qMv P s n u 1 = 0 then (0 : Int) else 1) = 0 by rw [if_neg hv]; decide) h)
        refine x_cut (C := z = 2 ∧ S 2285 o = 46 ∧ S 2285 (o + 1) = 46) (J := 76) (ls1 := [some (vR (some 2281)), some (vI s), some (vI n), some (vI u), some (vI k), none]) (sk := fun z => vI z :: []) (fun z76 hz76 => ?_) (fun kJ76 => ?_)
        · refine x_si (ls1 := [some (vR (some 2281)), some (vI s), some (vI n), some (vI u), some (vI k), some (vI z76)]) T_267_76 rfl ?_
          refine x_lr (z := some 2281) T_267_78 rfl ?_
          refine x_li (z := z76) T_267_79 rfl ?_
          refine x_if T_267_81 (fun _ => ?_) (fun h => absurd (show z76 = 0 by (rw [hz76]; exact if_neg hu)) h)
          refine x_lr (z := some 2281) T_267_93 rfl ?_
          refine x_li (z := s) T_267_94 rfl ?_
          refine x_li (z := n) T_267_95 rfl ?_
          refine x_lr (z := some 2281) T_267_96 rfl ?_
          refine x_gR (z := some 2287) T_267_97 F_17_10 (PM.t hP) (PM.r hP 10 2287 rfl) ?_
          refine x_li (z := k) T_267_100 rfl ?_
          refine x_alI (z := o) T_267_102 (by decide) (PM.ta hP 2287 0 8 rfl rfl) (by omega) (by omega) (Eq.trans (PM.aS hP 2287 rfl rfl (by omega)) ho) ?_
          refine x_lr (z := some 2281) T_267_103 rfl ?_
          refine x_gR (z := some 2288) T_267_104 F_17_11 (PM.t hP) (PM.r hP 11 2288 rfl) ?_
          refine x_li (z := k) T_267_107 rfl ?_
          refine x_alI (z := z) T_267_109 (by decide) (PM.ta hP 2288 0 8 rfl rfl) (by omega) (by omega) (Eq.trans (PM.aS hP 2288 rfl rfl (by omega)) hz) ?_
          refine x_cv5 T_267_110 mN_268 mL_268 (Nat.le_of_ble_eq_true rfl) mO_268 (PM.t hP) (Nat.le_of_ble_eq_true rfl) (m_finds hP hI hJ (by omega) (by omega) (by omega) (by omega) (by omega)) ?_
          rintro _ σ ⟨rfl, rfl⟩
          refine cI ?_
          refine y_pIS hP T_267_113 F_17_92 92 rfl rfl (fun σ hP => ?_)
          refine x_lr (z := some 2281) T_267_116 rfl ?_
          refine x_gI (z := qFind P s n (seg (S 2285) o (z).toNat)) T_267_117 (Or.inl F_17_92) (PM.t hP) (Eq.trans (PM.nS hP 2281 92 92 rfl rfl rfl) rU_s) ?_
          refine x_if T_267_120 (fun h120 => ?_) (fun h120 => ?_)
          · replace h120 : 0 ≤ qFind P s n (seg (S 2285) o (z).toNat) := h120
            refine x_ic T_267_127 ?_
            refine x_ri T_267_128 ?_
            exact ⟨by first | rw [if_pos (by omega)] | rw [if_neg (by omega)], hP⟩
          · replace h120 : ¬ (0 ≤ qFind P s n (seg (S 2285) o (z).toNat)) := h120
            refine x_ic T_267_123 ?_
            refine x_goto T_267_124 ?_
            refine x_ri T_267_128 ?_
            exact ⟨by first | rw [if_pos (by omega)] | rw [if_neg (by omega)], hP⟩
        · refine x_lr (z := some 2281) T_267_24 rfl ?_
          refine x_gR (z := some 2288) T_267_25 F_17_11 (PM.t hP) (PM.r hP 11 2288 rfl) ?_
          refine x_li (z := k) T_267_28 rfl ?_
          refine x_alI (z := z) T_267_30 (by decide) (PM.ta hP 2288 0 8 rfl rfl) (by omega) (by omega) (Eq.trans (PM.aS hP 2288 rfl rfl (by omega)) hz) ?_
          refine x_ic T_267_31 ?_
          refine x_ic2 T_267_32 (fun h32 => ?_) (fun h32 => ?_)
          · replace h32 : ¬ z = 2 := h32
            refine x_ic T_267_75 ?_
            exact kJ76 0 (if_neg (by omega)).symm
          · replace h32 : ¬ (¬ z = 2) := h32
            refine x_lr (z := some 2281) T_267_35 rfl ?_
            refine x_gR (z := some 2285) T_267_36 F_17_3 (PM.t hP) (PM.r hP 3 2285 rfl) ?_
            refine x_lr (z := some 2281) T_267_39 rfl ?_
            refine x_gR (z := some 2287) T_267_40 F_17_10 (PM.t hP) (PM.r hP 10 2287 rfl) ?_
            refine x_li (z := k) T_267_43 rfl ?_
            refine x_alI (z := o) T_267_45 (by decide) (PM.ta hP 2287 0 8 rfl rfl) (by omega) (by omega) (Eq.trans (PM.aS hP 2287 rfl rfl (by omega)) ho) ?_
            have b1 : 0 ≤ S 2285 o ∧ S 2285 o ≤ 255 := IV.a hJ 2285 0 512 rfl rfl rfl (by omega) (by omega)
            refine x_alI (z := S 2285 o) T_267_46 (by decide) (PM.ta hP 2285 0 512 rfl rfl) (by omega) (by omega) (PM.aS hP 2285 rfl rfl (by omega)) ?_
            refine x_ic T_267_47 ?_
            refine x_ic2 T_267_49 (fun h49 => ?_) (fun h49 => ?_)
            · replace h49 : ¬ S 2285 o = 46 := h49
              refine x_ic T_267_75 ?_
              exact kJ76 0 (if_neg (by omega)).symm
            · replace h49 : ¬ (¬ S 2285 o = 46) := h49
              refine x_lr (z := some 2281) T_267_52 rfl ?_
              refine x_gR (z := some 2285) T_267_53 F_17_3 (PM.t hP) (PM.r hP 3 2285 rfl) ?_
              refine x_lr (z := some 2281) T_267_56 rfl ?_
              refine x_gR (z := some 2287) T_267_57 F_17_10 (PM.t hP) (PM.r hP 10 2287 rfl) ?_
              refine x_li (z := k) T_267_60 rfl ?_
              refine x_alI (z := o) T_267_62 (by decide) (PM.ta hP 2287 0 8 rfl rfl) (by omega) (by omega) (Eq.trans (PM.aS hP 2287 rfl rfl (by omega)) ho) ?_
              refine x_ic T_267_63 ?_
              refine x_ib (w := (o + 1)) T_267_64 (fun h => absurd h.1 (by decide)) (w32_id (by omega) (by omega)) ?_
              have b2 : 0 ≤ S 2285 (o + 1) ∧ S 2285 (o + 1) ≤ 255 := IV.a hJ 2285 0 512 rfl rfl rfl (by omega) (by omega)
              refine x_alI (z := S 2285 (o + 1)) T_267_65 (by decide) (PM.ta hP 2285 0 512 rfl rfl) (by omega) (by omega) (PM.aS hP 2285 rfl rfl (by omega)) ?_
              refine x_ic T_267_66 ?_
              refine x_ic2 T_267_68 (fun h68 => ?_) (fun h68 => ?_)
              · replace h68 : ¬ S 2285 (o + 1) = 46 := h68
                refine x_ic T_267_75 ?_
                exact kJ76 0 (if_neg (by omega)).symm
              · replace h68 : ¬ (¬ S 2285 (o + 1) = 46) := h68
                refine x_ic T_267_71 ?_
                refine x_goto T_267_72 ?_
                exact kJ76 1 (if_pos (by omega)).symm
  · rw [show qSt P s n u (seg (S 2285) o z.toNat) = 2 from if_pos hm, if_neg (by omega)]
    refine CL_in mL_267 rfl ?_
    show WP fb _ 267 0 [some (vR (some 2281)), some (vI s), some (vI n), some (vI u), some (vI k), none] [] σ _
    refine x_lr (z := some 2281) T_267_0 rfl ?_
    refine x_li (z := s) T_267_1 rfl ?_
    refine x_li (z := n) T_267_2 rfl ?_
    refine x_cv3 T_267_3 mN_252 mL_252 (Nat.le_of_ble_eq_true rfl) mO_252 (PM.t hP) (Nat.le_of_ble_eq_true rfl) (m_isDirectory hP (by omega)) ?_
    rintro _ σ ⟨rfl, rfl⟩
    refine cI ?_
    refine x_if T_267_6 (fun h => absurd (show ¬ (if qMode P s n < 0 then (1 : Int) else 0) = 0 from h) (by rw [if_neg hm]; decide)) (fun _ => ?_)
    refine x_ic T_267_9 ?_
    refine x_ri T_267_10 ?_
    exact ⟨rfl, hP⟩
theorem m_opening {m : Int} (hP : PM σ0 P S σ) (hI : IV false T U P) (h : okN s n) : CL fb (d + 4) 275 [vR (some 2281), vI s, vI n, vI u, vI m] σ (rP (qOpn P s n u m) σ) := by
  have hu := qUp_ok hI h
  refine CL_in mL_275 rfl ?_
  show WP fb _ 275 0 [some (vR (some 2281)), some (vI s), some (vI n), some (vI u), some (vI m), none, none, none, none, none] [] σ _
  refine x_li (z := m) T_275_0 rfl ?_
  refine x_ic T_275_2 ?_
  refine x_ib (w := (and32 m (-81))) T_275_4 (fun h => absurd h.1 (by decide)) rfl ?_
  refine x_si (ls1 := [some (vR (some 2281)), some (vI s), some (vI n), some (vI u), some (vI m), some (vI (and32 m (-81))), none, none, none, none]) T_275_5 rfl ?_
  refine x_cut (C := ¬ and32 m 16 = 0) (J := 20) (ls1 := [some (vR (some 2281)), some (vI s), some (vI n), some (vI u), some (vI m), some (vI (and32 m (-81))), none, none, none, none]) (sk := fun z => vI z :: []) (fun z20 hz20 => ?_) (fun kJ20 => ?_)
  · refine x_si (ls1 := [some (vR (some 2281)), some (vI s), some (vI n), some (vI u), some (vI m), some (vI (and32 m (-81))), some (vI z20), none, none, none]) T_275_20 rfl ?_
    refine x_li (z := (and32 m (-81))) T_275_22 rfl ?_
    refine x_ic T_275_24 ?_
    refine x_ic2 T_275_25 (fun h25 => ?_) (fun h25 => ?_)
    · replace h25 : (and32 m (-81)) ≤ 3 := h25
      refine x_lr (z := some 2281) T_275_31 rfl ?_
      refine x_li (z := s) T_275_32 rfl ?_
      refine x_li (z := n) T_275_33 rfl ?_
      refine x_cv3 T_275_34 mN_252 mL_252 (Nat.le_of_ble_eq_true rfl) mO_252 (PM.t hP) (Nat.le_of_ble_eq_true rfl) (m_isDirectory hP (by omega)) ?_
      rintro _ σ ⟨rfl, rfl⟩
      refine cI ?_
      refine x_if T_275_37 (fun h37 => ?_) (fun h37 => ?_)
      · replace h37 : ¬ (qMode P s n < 0) := ite1_z h37
        refine x_cut (C := and32 m (-81) = 0 ∨ and32 m (-81) = 2) (J := 69) (ls1 := [some (vR (some 2281)), some (vI s), some (vI n), some (vI u), some (vI m), some (vI (and32 m (-81))), some (vI z20), none, none, none]) (sk := fun z => vI z :: []) (fun z69 hz69 => ?_) (fun kJ69 => ?_)
        · refine x_si (ls1 := [some (vR (some 2281)), some (vI s), some (vI n), some (vI u), some (vI m), some (vI (and32 m (-81))), some (vI z20), some (vI z69), none, none]) T_275_69 rfl ?_
          refine x_cut (C := and32 m (-81) = 1 ∨ and32 m (-81) = 2 ∨ ¬ and32 m 16 = 0) (J := 93) (ls1 := [some (vR (some 2281)), some (vI s), some (vI n), some (vI u), some (vI m), some (vI (and32 m (-81))), some (vI z20), some (vI z69), none, none]) (sk := fun z => vI z :: []) (fun z93 hz93 => ?_) (fun kJ93 => ?_)
          · refine x_si (ls1 := [some (vR (some 2281)), some (vI s), some (vI n), some (vI u), some (vI m), some (vI (and32 m (-81))), some (vI z20), some (vI z69), some (vI z93), none]) T_275_93 rfl ?_
            refine x_li (z := z69) T_275_95 rfl ?_
            refine x_if T_275_97 (fun h97 => ?_) (fun h97 => ?_)
            · replace h97 : ¬ (and32 m (-81) = 0 ∨ and32 m (-81) = 2) := ite1_z (hz69.symm.trans h97)
              refine x_li (z := z93) T_275_111 rfl ?_
              refine x_if T_275_113 (fun h113 => ?_) (fun h113 => ?_)
              · replace h113 : ¬ (and32 m (-81) = 1 ∨ and32 m (-81) = 2 ∨ ¬ and32 m 16 = 0) := ite1_z (hz93.symm.trans h113)
                refine x_li (z := (and32 m (-81))) T_275_127 rfl ?_
                refine x_ic T_275_129 ?_
                refine x_ic2 T_275_130 (fun h130 => ?_) (fun h130 => ?_)
                · replace h130 : ¬ (and32 m (-81)) = 3 := h130
                  refine x_cut (C := ¬ and32 m 64 = 0) (J := 159) (ls1 := [some (vR (some 2281)), some (vI s), some (vI n), some (vI u), some (vI m), some (vI (and32 m (-81))), some (vI z20), some (vI z69), some (vI z93), none]) (sk := fun z => vI z :: []) (fun z159 hz159 => ?_) (fun kJ159 => ?_)
                  · refine x_si (ls1 := [some (vR (some 2281)), some (vI s), some (vI n), some (vI u), some (vI m), some (vI (and32 m (-81))), some (vI z20), some (vI z69), some (vI z93), some (vI z159)]) T_275_159 rfl ?_
                    refine x_li (z := z159) T_275_161 rfl ?_
                    refine x_if T_275_163 (fun h163 => ?_) (fun h163 => ?_)
                    · replace h163 : ¬ (¬ and32 m 64 = 0) := ite1_z (hz159.symm.trans h163)
                      refine x_ic T_275_195 ?_
                      refine x_ri T_275_196 ?_
                      refine ⟨?_, rfl⟩
                      unfold qOpn
                      (repeat' split) <;> first | rfl | omega
                    · replace h163 : (¬ and32 m 64 = 0) := ite1_n (fun e => h163 (hz159.trans e))
                      refine x_li (z := s) T_275_166 rfl ?_
                      refine x_ic T_275_167 ?_
                      refine x_ic2 T_275_168 (fun h168 => ?_) (fun h168 => ?_)
                      · replace h168 : s = 2 := h168
                        refine x_ic T_275_191 ?_
                        refine x_goto T_275_192 ?_
                        refine x_ri T_275_196 ?_
                        refine ⟨?_, rfl⟩
                        unfold qOpn
                        (repeat' split) <;> first | rfl | omega
                      · replace h168 : ¬ (s = 2) := h168
                        refine x_li (z := n) T_275_171 rfl ?_
                        refine x_if T_275_172 (fun h172 => ?_) (fun h172 => ?_)
                        · replace h172 : n = 0 := h172
                          refine x_ic T_275_191 ?_
                          refine x_goto T_275_192 ?_
                          refine x_ri T_275_196 ?_
                          refine ⟨?_, rfl⟩
                          unfold qOpn
                          (repeat' split) <;> first | rfl | omega
                        · replace h172 : ¬ (n = 0) := h172
                          refine x_lr (z := some 2281) T_275_175 rfl ?_
                          refine x_li (z := s) T_275_176 rfl ?_
                          refine x_lr (z := some 2281) T_275_177 rfl ?_
                          refine x_li (z := s) T_275_178 rfl ?_
                          refine x_li (z := n) T_275_179 rfl ?_
                          refine x_cv3 T_275_180 mN_246 mL_246 (Nat.le_of_ble_eq_true rfl) mO_246 (PM.t hP) (Nat.le_of_ble_eq_true rfl) (m_aboveOf hP (by omega)) ?_
                          rintro _ σ ⟨rfl, rfl⟩
                          refine cI ?_
                          refine x_li (z := u) T_275_183 rfl ?_
                          refine x_ic T_275_184 ?_
                          refine x_cv5 T_275_185 mN_248 mL_248 (Nat.le_of_ble_eq_true rfl) mO_248 (PM.t hP) (Nat.le_of_ble_eq_true rfl) (m_may hP (by omega)) ?_
                          rintro _ σ ⟨rfl, rfl⟩
                          refine cI ?_
                          refine x_if T_275_188 (fun h188 => ?_) (fun h188 => ?_)
                          · replace h188 : ¬ (qMv P s (qUp P s n) u 2 = 0) := ite0_n h188
                            refine x_ic T_275_195 ?_
                            refine x_ri T_275_196 ?_
                            refine ⟨?_, rfl⟩
                            unfold qOpn
                            (repeat' split) <;> first | rfl | omega
                          · replace h188 : (qMv P s (qUp P s n) u 2 = 0) := ite0_z (Classical.not_not.mp h188)
                            refine x_ic T_275_191 ?_
                            refine x_goto T_275_192 ?_
                            refine x_ri T_275_196 ?_
                            refine ⟨?_, rfl⟩
                            unfold qOpn
                            (repeat' split) <;> first | rfl | omega
                  · refine x_li (z := m) T_275_146 rfl ?_
                    refine x_ic T_275_148 ?_
                    refine x_ib (w := (and32 m 64)) T_275_150 (fun h => absurd h.1 (by decide)) rfl ?_
                    refine x_if T_275_151 (fun h151 => ?_) (fun h151 => ?_)
                    · replace h151 : (and32 m 64) = 0 := h151
                      refine x_ic T_275_158 ?_
                      exact kJ159 0 (if_neg (by omega)).symm
                    · replace h151 : ¬ ((and32 m 64) = 0) := h151
                      refine x_ic T_275_154 ?_
                      refine x_goto T_275_155 ?_
                      exact kJ159 1 (if_pos (by omega)).symm
                · replace h130 : ¬ (¬ (and32 m (-81)) = 3) := h130
                  refine x_lr (z := some 2281) T_275_133 rfl ?_
                  refine x_li (z := s) T_275_134 rfl ?_
                  refine x_li (z := n) T_275_135 rfl ?_
                  refine x_li (z := u) T_275_136 rfl ?_
                  refine x_ic T_275_137 ?_
                  refine x_cv5 T_275_138 mN_248 mL_248 (Nat.le_of_ble_eq_true rfl) mO_248 (PM.t hP) (Nat.le_of_ble_eq_true rfl) (m_may hP (by omega)) ?_
                  rintro _ σ ⟨rfl, rfl⟩
                  refine cI ?_
                  refine x_if T_275_141 (fun h141 => ?_) (fun h141 => ?_)
                  · replace h141 : ¬ (qMv P s n u 1 = 0) := ite0_n h141
                    refine x_cut (C := ¬ and32 m 64 = 0) (J := 159) (ls1 := [some (vR (some 2281)), some (vI s), some (vI n), some (vI u), some (vI m), some (vI (and32 m (-81))), some (vI z20), some (vI z69), some (vI z93), none]) (sk := fun z => vI z :: []) (fun z159 hz159 => ?_) (fun kJ159 => ?_)
                    · refine x_si (ls1 := [some (vR (some 2281)), some (vI s), some (vI n), some (vI u), some (vI m), some (vI (and32 m (-81))), some (vI z20), some (vI z69), some (vI z93), some (vI z159)]) T_275_159 rfl ?_
                      refine x_li (z := z159) T_275_161 rfl ?_
                      refine x_if T_275_163 (fun h163 => ?_) (fun h163 => ?_)
                      · replace h163 : ¬ (¬ and32 m 64 = 0) := ite1_z (hz159.symm.trans h163)
                        refine x_ic T_275_195 ?_
                        refine x_ri T_275_196 ?_
                        refine ⟨?_, rfl⟩
                        unfold qOpn
                        (repeat' split) <;> first | rfl | omega
                      · replace h163 : (¬ and32 m 64 = 0) := ite1_n (fun e => h163 (hz159.trans e))
                        refine x_li (z := s) T_275_166 rfl ?_
                        refine x_ic T_275_167 ?_
                        refine x_ic2 T_275_168 (fun h168 => ?_) (fun h168 => ?_)
                        · replace h168 : s = 2 := h168
                          refine x_ic T_275_191 ?_
                          refine x_goto T_275_192 ?_
                          refine x_ri T_275_196 ?_
                          refine ⟨?_, rfl⟩
                          unfold qOpn
                          (repeat' split) <;> first | rfl | omega
                        · replace h168 : ¬ (s = 2) := h168
                          refine x_li (z := n) T_275_171 rfl ?_
                          refine x_if T_275_172 (fun h172 => ?_) (fun h172 => ?_)
                          · replace h172 : n = 0 := h172
                            refine x_ic T_275_191 ?_
                            refine x_goto T_275_192 ?_
                            refine x_ri T_275_196 ?_
                            refine ⟨?_, rfl⟩
                            unfold qOpn
                            (repeat' split) <;> first | rfl | omega
                          · replace h172 : ¬ (n = 0) := h172
                            refine x_lr (z := some 2281) T_275_175 rfl ?_
                            refine x_li (z := s) T_275_176 rfl ?_
                            refine x_lr (z := some 2281) T_275_177 rfl ?_
                            refine x_li (z := s) T_275_178 rfl ?_
                            refine x_li (z := n) T_275_179 rfl ?_
                            refine x_cv3 T_275_180 mN_246 mL_246 (Nat.le_of_ble_eq_true rfl) mO_246 (PM.t hP) (Nat.le_of_ble_eq_true rfl) (m_aboveOf hP (by omega)) ?_
                            rintro _ σ ⟨rfl, rfl⟩
                            refine cI ?_
                            refine x_li (z := u) T_275_183 rfl ?_
                            refine x_ic T_275_184 ?_
                            refine x_cv5 T_275_185 mN_248 mL_248 (Nat.le_of_ble_eq_true rfl) mO_248 (PM.t hP) (Nat.le_of_ble_eq_true rfl) (m_may hP (by omega)) ?_
                            rintro _ σ ⟨rfl, rfl⟩
                            refine cI ?_
                            refine x_if T_275_188 (fun h188 => ?_) (fun h188 => ?_)
                            · replace h188 : ¬ (qMv P s (qUp P s n) u 2 = 0) := ite0_n h188
                              refine x_ic T_275_195 ?_
                              refine x_ri T_275_196 ?_
                              refine ⟨?_, rfl⟩
                              unfold qOpn
                              (repeat' split) <;> first | rfl | omega
                            · replace h188 : (qMv P s (qUp P s n) u 2 = 0) := ite0_z (Classical.not_not.mp h188)
                              refine x_ic T_275_191 ?_
                              refine x_goto T_275_192 ?_
                              refine x_ri T_275_196 ?_
                              refine ⟨?_, rfl⟩
                              unfold qOpn
                              (repeat' split) <;> first | rfl | omega
                    · refine x_li (z := m) T_275_146 rfl ?_
                      refine x_ic T_275_148 ?_
                      refine x_ib (w := (and32 m 64)) T_275_150 (fun h => absurd h.1 (by decide)) rfl ?_
                      refine x_if T_275_151 (fun h151 => ?_) (fun h151 => ?_)
                      · replace h151 : (and32 m 64) = 0 := h151
                        refine x_ic T_275_158 ?_
                        exact kJ159 0 (if_neg (by omega)).symm
                      · replace h151 : ¬ ((and32 m 64) = 0) := h151
                        refine x_ic T_275_154 ?_
                        refine x_goto T_275_155 ?_
                        exact kJ159 1 (if_pos (by omega)).symm
                  · replace h141 : (qMv P s n u 1 = 0) := ite0_z (Classical.not_not.mp h141)
                    refine x_ic T_275_144 ?_
                    refine x_ri T_275_145 ?_
                    refine ⟨?_, rfl⟩
                    unfold qOpn
                    (repeat' split) <;> first | rfl | omega
              · replace h113 : (and32 m (-81) = 1 ∨ and32 m (-81) = 2 ∨ ¬ and32 m 16 = 0) := ite1_n (fun e => h113 (hz93.trans e))
                refine x_lr (z := some 2281) T_275_116 rfl ?_
                refine x_li (z := s) T_275_117 rfl ?_
                refine x_li (z := n) T_275_118 rfl ?_
                refine x_li (z := u) T_275_119 rfl ?_
                refine x_ic T_275_120 ?_
                refine x_cv5 T_275_121 mN_248 mL_248 (Nat.le_of_ble_eq_true rfl) mO_248 (PM.t hP) (Nat.le_of_ble_eq_true rfl) (m_may hP (by omega)) ?_
                rintro _ σ ⟨rfl, rfl⟩
                refine cI ?_
                refine x_if T_275_124 (fun h124 => ?_) (fun h124 => ?_)
                · replace h124 : (qMv P s n u 2 = 0) := ite0_z h124
                  refine x_ic T_275_144 ?_
                  refine x_ri T_275_145 ?_
                  refine ⟨?_, rfl⟩
                  unfold qOpn
                  (repeat' split) <;> first | rfl | omega
                · replace h124 : ¬ (qMv P s n u 2 = 0) := ite0_n h124
                  refine x_li (z := (and32 m (-81))) T_275_127 rfl ?_
                  refine x_ic T_275_129 ?_
                  refine x_ic2 T_275_130 (fun h130 => ?_) (fun h130 => ?_)
                  · replace h130 : ¬ (and32 m (-81)) = 3 := h130
                    refine x_cut (C := ¬ and32 m 64 = 0) (J := 159) (ls1 := [some (vR (some 2281)), some (vI s), some (vI n), some (vI u), some (vI m), some (vI (and32 m (-81))), some (vI z20), some (vI z69), some (vI z93), none]) (sk := fun z => vI z :: []) (fun z159 hz159 => ?_) (fun kJ159 => ?_)
                    · refine x_si (ls1 := [some (vR (some 2281)), some (vI s), some (vI n), some (vI u), some (vI m), some (vI (and32 m (-81))), some (vI z20), some (vI z69), some (vI z93), some (vI z159)]) T_275_159 rfl ?_
                      refine x_li (z := z159) T_275_161 rfl ?_
                      refine x_if T_275_163 (fun h163 => ?_) (fun h163 => ?_)
                      · replace h163 : ¬ (¬ and32 m 64 = 0) := ite1_z (hz159.symm.trans h163)
                        refine x_ic T_275_195 ?_
                        refine x_ri T_275_196 ?_
                        refine ⟨?_, rfl⟩
                        unfold qOpn
                        (repeat' split) <;> first | rfl | omega
                      · replace h163 : (¬ and32 m 64 = 0) := ite1_n (fun e => h163 (hz159.trans e))
                        refine x_li (z := s) T_275_166 rfl ?_
                        refine x_ic T_275_167 ?_
                        refine x_ic2 T_275_168 (fun h168 => ?_) (fun h168 => ?_)
                        · replace h168 : s = 2 := h168
                          refine x_ic T_275_191 ?_
                          refine x_goto T_275_192 ?_
                          refine x_ri T_275_196 ?_
                          refine ⟨?_, rfl⟩
                          unfold qOpn
                          (repeat' split) <;> first | rfl | omega
                        · replace h168 : ¬ (s = 2) := h168
                          refine x_li (z := n) T_275_171 rfl ?_
                          refine x_if T_275_172 (fun h172 => ?_) (fun h172 => ?_)
                          · replace h172 : n = 0 := h172
                            refine x_ic T_275_191 ?_
                            refine x_goto T_275_192 ?_
                            refine x_ri T_275_196 ?_
                            refine ⟨?_, rfl⟩
                            unfold qOpn
                            (repeat' split) <;> first | rfl | omega
                          · replace h172 : ¬ (n = 0) := h172
                            refine x_lr (z := some 2281) T_275_175 rfl ?_
                            refine x_li (z := s) T_275_176 rfl ?_
                            refine x_lr (z := some 2281) T_275_177 rfl ?_
                            refine x_li (z := s) T_275_178 rfl ?_
                            refine x_li (z := n) T_275_179 rfl ?_
                            refine x_cv3 T_275_180 mN_246 mL_246 (Nat.le_of_ble_eq_true rfl) mO_246 (PM.t hP) (Nat.le_of_ble_eq_true rfl) (m_aboveOf hP (by omega)) ?_
                            rintro _ σ ⟨rfl, rfl⟩
                            refine cI ?_
                            refine x_li (z := u) T_275_183 rfl ?_
                            refine x_ic T_275_184 ?_
                            refine x_cv5 T_275_185 mN_248 mL_248 (Nat.le_of_ble_eq_true rfl) mO_248 (PM.t hP) (Nat.le_of_ble_eq_true rfl) (m_may hP (by omega)) ?_
                            rintro _ σ ⟨rfl, rfl⟩
                            refine cI ?_
                            refine x_if T_275_188 (fun h188 => ?_) (fun h188 => ?_)
                            · replace h188 : ¬ (qMv P s (qUp P s n) u 2 = 0) := ite0_n h188
                              refine x_ic T_275_195 ?_
                              refine x_ri T_275_196 ?_
                              refine ⟨?_, rfl⟩
                              unfold qOpn
                              (repeat' split) <;> first | rfl | omega
                            · replace h188 : (qMv P s (qUp P s n) u 2 = 0) := ite0_z (Classical.not_not.mp h188)
                              refine x_ic T_275_191 ?_
                              refine x_goto T_275_192 ?_
                              refine x_ri T_275_196 ?_
                              refine ⟨?_, rfl⟩
                              unfold qOpn
                              (repeat' split) <;> first | rfl | omega
                    · refine x_li (z := m) T_275_146 rfl ?_
                      refine x_ic T_275_148 ?_
                      refine x_ib (w := (and32 m 64)) T_275_150 (fun h => absurd h.1 (by decide)) rfl ?_
                      refine x_if T_275_151 (fun h151 => ?_) (fun h151 => ?_)
                      · replace h151 : (and32 m 64) = 0 := h151
                        refine x_ic T_275_158 ?_
                        exact kJ159 0 (if_neg (by omega)).symm
                      · replace h151 : ¬ ((and32 m 64) = 0) := h151
                        refine x_ic T_275_154 ?_
                        refine x_goto T_275_155 ?_
                        exact kJ159 1 (if_pos (by omega)).symm
                  · replace h130 : ¬ (¬ (and32 m (-81)) = 3) := h130
                    refine x_lr (z := some 2281) T_275_133 rfl ?_
                    refine x_li (z := s) T_275_134 rfl ?_
                    refine x_li (z := n) T_275_135 rfl ?_
                    refine x_li (z := u) T_275_136 rfl ?_
                    refine x_ic T_275_137 ?_
                    refine x_cv5 T_275_138 mN_248 mL_248 (Nat.le_of_ble_eq_true rfl) mO_248 (PM.t hP) (Nat.le_of_ble_eq_true rfl) (m_may hP (by omega)) ?_
                    rintro _ σ ⟨rfl, rfl⟩
                    refine cI ?_
                    refine x_if T_275_141 (fun h141 => ?_) (fun h141 => ?_)
                    · replace h141 : ¬ (qMv P s n u 1 = 0) := ite0_n h141
                      refine x_cut (C := ¬ and32 m 64 = 0) (J := 159) (ls1 := [some (vR (some 2281)), some (vI s), some (vI n), some (vI u), some (vI m), some (vI (and32 m (-81))), some (vI z20), some (vI z69), some (vI z93), none]) (sk := fun z => vI z :: []) (fun z159 hz159 => ?_) (fun kJ159 => ?_)
                      · refine x_si (ls1 := [some (vR (some 2281)), some (vI s), some (vI n), some (vI u), some (vI m), some (vI (and32 m (-81))), some (vI z20), some (vI z69), some (vI z93), some (vI z159)]) T_275_159 rfl ?_
                        refine x_li (z := z159) T_275_161 rfl ?_
                        refine x_if T_275_163 (fun h163 => ?_) (fun h163 => ?_)
                        · replace h163 : ¬ (¬ and32 m 64 = 0) := ite1_z (hz159.symm.trans h163)
                          refine x_ic T_275_195 ?_
                          refine x_ri T_275_196 ?_
                          refine ⟨?_, rfl⟩
                          unfold qOpn
                          (repeat' split) <;> first | rfl | omega
                        · replace h163 : (¬ and32 m 64 = 0) := ite1_n (fun e => h163 (hz159.trans e))
                          refine x_li (z := s) T_275_166 rfl ?_
                          refine x_ic T_275_167 ?_
                          refine x_ic2 T_275_168 (fun h168 => ?_) (fun h168 => ?_)
                          · replace h168 : s = 2 := h168
                            refine x_ic T_275_191 ?_
                            refine x_goto T_275_192 ?_
                            refine x_ri T_275_196 ?_
                            refine ⟨?_, rfl⟩
                            unfold qOpn
                            (repeat' split) <;> first | rfl | omega
                          · replace h168 : ¬ (s = 2) := h168
                            refine x_li (z := n) T_275_171 rfl ?_
                            refine x_if T_275_172 (fun h172 => ?_) (fun h172 => ?_)
                            · replace h172 : n = 0 := h172
                              refine x_ic T_275_191 ?_
                              refine x_goto T_275_192 ?_
                              refine x_ri T_275_196 ?_
                              refine ⟨?_, rfl⟩
                              unfold qOpn
                              (repeat' split) <;> first | rfl | omega
                            · replace h172 : ¬ (n = 0) := h172
                              refine x_lr (z := some 2281) T_275_175 rfl ?_
                              refine x_li (z := s) T_275_176 rfl ?_
                              refine x_lr (z := some 2281) T_275_177 rfl ?_
                              refine x_li (z := s) T_275_178 rfl ?_
                              refine x_li (z := n) T_275_179 rfl ?_
                              refine x_cv3 T_275_180 mN_246 mL_246 (Nat.le_of_ble_eq_true rfl) mO_246 (PM.t hP) (Nat.le_of_ble_eq_true rfl) (m_aboveOf hP (by omega)) ?_
                              rintro _ σ ⟨rfl, rfl⟩
                              refine cI ?_
                              refine x_li (z := u) T_275_183 rfl ?_
                              refine x_ic T_275_184 ?_
                              refine x_cv5 T_275_185 mN_248 mL_248 (Nat.le_of_ble_eq_true rfl) mO_248 (PM.t hP) (Nat.le_of_ble_eq_true rfl) (m_may hP (by omega)) ?_
                              rintro _ σ ⟨rfl, rfl⟩
                              refine cI ?_
                              refine x_if T_275_188 (fun h188 => ?_) (fun h188 => ?_)
                              · replace h188 : ¬ (qMv P s (qUp P s n) u 2 = 0) := ite0_n h188
                                refine x_ic T_275_195 ?_
                                refine x_ri T_275_196 ?_
                                refine ⟨?_, rfl⟩
                                unfold qOpn
                                (repeat' split) <;> first | rfl | omega
                              · replace h188 : (qMv P s (qUp P s n) u 2 = 0) := ite0_z (Classical.not_not.mp h188)
                                refine x_ic T_275_191 ?_
                                refine x_goto T_275_192 ?_
                                refine x_ri T_275_196 ?_
                                refine ⟨?_, rfl⟩
                                unfold qOpn
                                (repeat' split) <;> first | rfl | omega
                      · refine x_li (z := m) T_275_146 rfl ?_
                        refine x_ic T_275_148 ?_
                        refine x_ib (w := (and32 m 64)) T_275_150 (fun h => absurd h.1 (by decide)) rfl ?_
                        refine x_if T_275_151 (fun h151 => ?_) (fun h151 => ?_)
                        · replace h151 : (and32 m 64) = 0 := h151
                          refine x_ic T_275_158 ?_
                          exact kJ159 0 (if_neg (by omega)).symm
                        · replace h151 : ¬ ((and32 m 64) = 0) := h151
                          refine x_ic T_275_154 ?_
                          refine x_goto T_275_155 ?_
                          exact kJ159 1 (if_pos (by omega)).symm
                    · replace h141 : (qMv P s n u 1 = 0) := ite0_z (Classical.not_not.mp h141)
                      refine x_ic T_275_144 ?_
                      refine x_ri T_275_145 ?_
                      refine ⟨?_, rfl⟩
                      unfold qOpn
                      (repeat' split) <;> first | rfl | omega
            · replace h97 : (and32 m (-81) = 0 ∨ and32 m (-81) = 2) := ite1_n (fun e => h97 (hz69.trans e))
              refine x_lr (z := some 2281) T_275_100 rfl ?_
              refine x_li (z := s) T_275_101 rfl ?_
              refine x_li (z := n) T_275_102 rfl ?_
              refine x_li (z := u) T_275_103 rfl ?_
              refine x_ic T_275_104 ?_
              refine x_cv5 T_275_105 mN_248 mL_248 (Nat.le_of_ble_eq_true rfl) mO_248 (PM.t hP) (Nat.le_of_ble_eq_true rfl) (m_may hP (by omega)) ?_
              rintro _ σ ⟨rfl, rfl⟩
              refine cI ?_
              refine x_if T_275_108 (fun h108 => ?_) (fun h108 => ?_)
              · replace h108 : (qMv P s n u 4 = 0) := ite0_z h108
                refine x_ic T_275_144 ?_
                refine x_ri T_275_145 ?_
                refine ⟨?_, rfl⟩
                unfold qOpn
                (repeat' split) <;> first | rfl | omega
              · replace h108 : ¬ (qMv P s n u 4 = 0) := ite0_n h108
                refine x_li (z := z93) T_275_111 rfl ?_
                refine x_if T_275_113 (fun h113 => ?_) (fun h113 => ?_)
                · replace h113 : ¬ (and32 m (-81) = 1 ∨ and32 m (-81) = 2 ∨ ¬ and32 m 16 = 0) := ite1_z (hz93.symm.trans h113)
                  refine x_li (z := (and32 m (-81))) T_275_127 rfl ?_
                  refine x_ic T_275_129 ?_
                  refine x_ic2 T_275_130 (fun h130 => ?_) (fun h130 => ?_)
                  · replace h130 : ¬ (and32 m (-81)) = 3 := h130
                    refine x_cut (C := ¬ and32 m 64 = 0) (J := 159) (ls1 := [some (vR (some 2281)), some (vI s), some (vI n), some (vI u), some (vI m), some (vI (and32 m (-81))), some (vI z20), some (vI z69), some (vI z93), none]) (sk := fun z => vI z :: []) (fun z159 hz159 => ?_) (fun kJ159 => ?_)
                    · refine x_si (ls1 := [some (vR (some 2281)), some (vI s), some (vI n), some (vI u), some (vI m), some (vI (and32 m (-81))), some (vI z20), some (vI z69), some (vI z93), some (vI z159)]) T_275_159 rfl ?_
                      refine x_li (z := z159) T_275_161 rfl ?_
                      refine x_if T_275_163 (fun h163 => ?_) (fun h163 => ?_)
                      · replace h163 : ¬ (¬ and32 m 64 = 0) := ite1_z (hz159.symm.trans h163)
                        refine x_ic T_275_195 ?_
                        refine x_ri T_275_196 ?_
                        refine ⟨?_, rfl⟩
                        unfold qOpn
                        (repeat' split) <;> first | rfl | omega
                      · replace h163 : (¬ and32 m 64 = 0) := ite1_n (fun e => h163 (hz159.trans e))
                        refine x_li (z := s) T_275_166 rfl ?_
                        refine x_ic T_275_167 ?_
                        refine x_ic2 T_275_168 (fun h168 => ?_) (fun h168 => ?_)
                        · replace h168 : s = 2 := h168
                          refine x_ic T_275_191 ?_
                          refine x_goto T_275_192 ?_
                          refine x_ri T_275_196 ?_
                          refine ⟨?_, rfl⟩
                          unfold qOpn
                          (repeat' split) <;> first | rfl | omega
                        · replace h168 : ¬ (s = 2) := h168
                          refine x_li (z := n) T_275_171 rfl ?_
                          refine x_if T_275_172 (fun h172 => ?_) (fun h172 => ?_)
                          · replace h172 : n = 0 := h172
                            refine x_ic T_275_191 ?_
                            refine x_goto T_275_192 ?_
                            refine x_ri T_275_196 ?_
                            refine ⟨?_, rfl⟩
                            unfold qOpn
                            (repeat' split) <;> first | rfl | omega
                          · replace h172 : ¬ (n = 0) := h172
                            refine x_lr (z := some 2281) T_275_175 rfl ?_
                            refine x_li (z := s) T_275_176 rfl ?_
                            refine x_lr (z := some 2281) T_275_177 rfl ?_
                            refine x_li (z := s) T_275_178 rfl ?_
                            refine x_li (z := n) T_275_179 rfl ?_
                            refine x_cv3 T_275_180 mN_246 mL_246 (Nat.le_of_ble_eq_true rfl) mO_246 (PM.t hP) (Nat.le_of_ble_eq_true rfl) (m_aboveOf hP (by omega)) ?_
                            rintro _ σ ⟨rfl, rfl⟩
                            refine cI ?_
                            refine x_li (z := u) T_275_183 rfl ?_
                            refine x_ic T_275_184 ?_
                            refine x_cv5 T_275_185 mN_248 mL_248 (Nat.le_of_ble_eq_true rfl) mO_248 (PM.t hP) (Nat.le_of_ble_eq_true rfl) (m_may hP (by omega)) ?_
                            rintro _ σ ⟨rfl, rfl⟩
                            refine cI ?_
                            refine x_if T_275_188 (fun h188 => ?_) (fun h188 => ?_)
                            · replace h188 : ¬ (qMv P s (qUp P s n) u 2 = 0) := ite0_n h188
                              refine x_ic T_275_195 ?_
                              refine x_ri T_275_196 ?_
                              refine ⟨?_, rfl⟩
                              unfold qOpn
                              (repeat' split) <;> first | rfl | omega
                            · replace h188 : (qMv P s (qUp P s n) u 2 = 0) := ite0_z (Classical.not_not.mp h188)
                              refine x_ic T_275_191 ?_
                              refine x_goto T_275_192 ?_
                              refine x_ri T_275_196 ?_
                              refine ⟨?_, rfl⟩
                              unfold qOpn
                              (repeat' split) <;> first | rfl | omega
                    · refine x_li (z := m) T_275_146 rfl ?_
                      refine x_ic T_275_148 ?_
                      refine x_ib (w := (and32 m 64)) T_275_150 (fun h => absurd h.1 (by decide)) rfl ?_
                      refine x_if T_275_151 (fun h151 => ?_) (fun h151 => ?_)
                      · replace h151 : (and32 m 64) = 0 := h151
                        refine x_ic T_275_158 ?_
                        exact kJ159 0 (if_neg (by omega)).symm
                      · replace h151 : ¬ ((and32 m 64) = 0) := h151
                        refine x_ic T_275_154 ?_
                        refine x_goto T_275_155 ?_
                        exact kJ159 1 (if_pos (by omega)).symm
                  · replace h130 : ¬ (¬ (and32 m (-81)) = 3) := h130
                    refine x_lr (z := some 2281) T_275_133 rfl ?_
                    refine x_li (z := s) T_275_134 rfl ?_
                    refine x_li (z := n) T_275_135 rfl ?_
                    refine x_li (z := u) T_275_136 rfl ?_
                    refine x_ic T_275_137 ?_
                    refine x_cv5 T_275_138 mN_248 mL_248 (Nat.le_of_ble_eq_true rfl) mO_248 (PM.t hP) (Nat.le_of_ble_eq_true rfl) (m_may hP (by omega)) ?_
                    rintro _ σ ⟨rfl, rfl⟩
                    refine cI ?_
                    refine x_if T_275_141 (fun h141 => ?_) (fun h141 => ?_)
                    · replace h141 : ¬ (qMv P s n u 1 = 0) := ite0_n h141
                      refine x_cut (C := ¬ and32 m 64 = 0) (J := 159) (ls1 := [some (vR (some 2281)), some (vI s), some (vI n), some (vI u), some (vI m), some (vI (and32 m (-81))), some (vI z20), some (vI z69), some (vI z93), none]) (sk := fun z => vI z :: []) (fun z159 hz159 => ?_) (fun kJ159 => ?_)
                      · refine x_si (ls1 := [some (vR (some 2281)), some (vI s), some (vI n), some (vI u), some (vI m), some (vI (and32 m (-81))), some (vI z20), some (vI z69), some (vI z93), some (vI z159)]) T_275_159 rfl ?_
                        refine x_li (z := z159) T_275_161 rfl ?_
                        refine x_if T_275_163 (fun h163 => ?_) (fun h163 => ?_)
                        · replace h163 : ¬ (¬ and32 m 64 = 0) := ite1_z (hz159.symm.trans h163)
                          refine x_ic T_275_195 ?_
                          refine x_ri T_275_196 ?_
                          refine ⟨?_, rfl⟩
                          unfold qOpn
                          (repeat' split) <;> first | rfl | omega
                        · replace h163 : (¬ and32 m 64 = 0) := ite1_n (fun e => h163 (hz159.trans e))
                          refine x_li (z := s) T_275_166 rfl ?_
                          refine x_ic T_275_167 ?_
                          refine x_ic2 T_275_168 (fun h168 => ?_) (fun h168 => ?_)
                          · replace h168 : s = 2 := h168
                            refine x_ic T_275_191 ?_
                            refine x_goto T_275_192 ?_
                            refine x_ri T_275_196 ?_
                            refine ⟨?_, rfl⟩
                            unfold qOpn
                            (repeat' split) <;> first | rfl | omega
                          · replace h168 : ¬ (s = 2) := h168
                            refine x_li (z := n) T_275_171 rfl ?_
                            refine x_if T_275_172 (fun h172 => ?_) (fun h172 => ?_)
                            · replace h172 : n = 0 := h172
                              refine x_ic T_275_191 ?_
                              refine x_goto T_275_192 ?_
                              refine x_ri T_275_196 ?_
                              refine ⟨?_, rfl⟩
                              unfold qOpn
                              (repeat' split) <;> first | rfl | omega
                            · replace h172 : ¬ (n = 0) := h172
                              refine x_lr (z := some 2281) T_275_175 rfl ?_
                              refine x_li (z := s) T_275_176 rfl ?_
                              refine x_lr (z := some 2281) T_275_177 rfl ?_
                              refine x_li (z := s) T_275_178 rfl ?_
                              refine x_li (z := n) T_275_179 rfl ?_
                              refine x_cv3 T_275_180 mN_246 mL_246 (Nat.le_of_ble_eq_true rfl) mO_246 (PM.t hP) (Nat.le_of_ble_eq_true rfl) (m_aboveOf hP (by omega)) ?_
                              rintro _ σ ⟨rfl, rfl⟩
                              refine cI ?_
                              refine x_li (z := u) T_275_183 rfl ?_
                              refine x_ic T_275_184 ?_
                              refine x_cv5 T_275_185 mN_248 mL_248 (Nat.le_of_ble_eq_true rfl) mO_248 (PM.t hP) (Nat.le_of_ble_eq_true rfl) (m_may hP (by omega)) ?_
                              rintro _ σ ⟨rfl, rfl⟩
                              refine cI ?_
                              refine x_if T_275_188 (fun h188 => ?_) (fun h188 => ?_)
                              · replace h188 : ¬ (qMv P s (qUp P s n) u 2 = 0) := ite0_n h188
                                refine x_ic T_275_195 ?_
                                refine x_ri T_275_196 ?_
                                refine ⟨?_, rfl⟩
                                unfold qOpn
                                (repeat' split) <;> first | rfl | omega
                              · replace h188 : (qMv P s (qUp P s n) u 2 = 0) := ite0_z (Classical.not_not.mp h188)
                                refine x_ic T_275_191 ?_
                                refine x_goto T_275_192 ?_
                                refine x_ri T_275_196 ?_
                                refine ⟨?_, rfl⟩
                                unfold qOpn
                                (repeat' split) <;> first | rfl | omega
                      · refine x_li (z := m) T_275_146 rfl ?_
                        refine x_ic T_275_148 ?_
                        refine x_ib (w := (and32 m 64)) T_275_150 (fun h => absurd h.1 (by decide)) rfl ?_
                        refine x_if T_275_151 (fun h151 => ?_) (fun h151 => ?_)
                        · replace h151 : (and32 m 64) = 0 := h151
                          refine x_ic T_275_158 ?_
                          exact kJ159 0 (if_neg (by omega)).symm
                        · replace h151 : ¬ ((and32 m 64) = 0) := h151
                          refine x_ic T_275_154 ?_
                          refine x_goto T_275_155 ?_
                          exact kJ159 1 (if_pos (by omega)).symm
                    · replace h141 : (qMv P s n u 1 = 0) := ite0_z (Classical.not_not.mp h141)
                      refine x_ic T_275_144 ?_
                      refine x_ri T_275_145 ?_
                      refine ⟨?_, rfl⟩
                      unfold qOpn
                      (repeat' split) <;> first | rfl | omega
                · replace h113 : (and32 m (-81) = 1 ∨ and32 m (-81) = 2 ∨ ¬ and32 m 16 = 0) := ite1_n (fun e => h113 (hz93.trans e))
                  refine x_lr (z := some 2281) T_275_116 rfl ?_
                  refine x_li (z := s) T_275_117 rfl ?_
                  refine x_li (z := n) T_275_118 rfl ?_
                  refine x_li (z := u) T_275_119 rfl ?_
                  refine x_ic T_275_120 ?_
                  refine x_cv5 T_275_121 mN_248 mL_248 (Nat.le_of_ble_eq_true rfl) mO_248 (PM.t hP) (Nat.le_of_ble_eq_true rfl) (m_may hP (by omega)) ?_
                  rintro _ σ ⟨rfl, rfl⟩
                  refine cI ?_
                  refine x_if T_275_124 (fun h124 => ?_) (fun h124 => ?_)
                  · replace h124 : (qMv P s n u 2 = 0) := ite0_z h124
                    refine x_ic T_275_144 ?_
                    refine x_ri T_275_145 ?_
                    refine ⟨?_, rfl⟩
                    unfold qOpn
                    (repeat' split) <;> first | rfl | omega
                  · replace h124 : ¬ (qMv P s n u 2 = 0) := ite0_n h124
                    refine x_li (z := (and32 m (-81))) T_275_127 rfl ?_
                    refine x_ic T_275_129 ?_
                    refine x_ic2 T_275_130 (fun h130 => ?_) (fun h130 => ?_)
                    · replace h130 : ¬ (and32 m (-81)) = 3 := h130
                      refine x_cut (C := ¬ and32 m 64 = 0) (J := 159) (ls1 := [some (vR (some 2281)), some (vI s), some (vI n), some (vI u), some (vI m), some (vI (and32 m (-81))), some (vI z20), some (vI z69), some (vI z93), none]) (sk := fun z => vI z :: []) (fun z159 hz159 => ?_) (fun kJ159 => ?_)
                      · refine x_si (ls1 := [some (vR (some 2281)), some (vI s), some (vI n), some (vI u), some (vI m), some (vI (and32 m (-81))), some (vI z20), some (vI z69), some (vI z93), some (vI z159)]) T_275_159 rfl ?_
                        refine x_li (z := z159) T_275_161 rfl ?_
                        refine x_if T_275_163 (fun h163 => ?_) (fun h163 => ?_)
                        · replace h163 : ¬ (¬ and32 m 64 = 0) := ite1_z (hz159.symm.trans h163)
                          refine x_ic T_275_195 ?_
                          refine x_ri T_275_196 ?_
                          refine ⟨?_, rfl⟩
                          unfold qOpn
                          (repeat' split) <;> first | rfl | omega
                        · replace h163 : (¬ and32 m 64 = 0) := ite1_n (fun e => h163 (hz159.trans e))
                          refine x_li (z := s) T_275_166 rfl ?_
                          refine x_ic T_275_167 ?_
                          refine x_ic2 T_275_168 (fun h168 => ?_) (fun h168 => ?_)
                          · replace h168 : s = 2 := h168
                            refine x_ic T_275_191 ?_
                            refine x_goto T_275_192 ?_
                            refine x_ri T_275_196 ?_
                            refine ⟨?_, rfl⟩
                            unfold qOpn
                            (repeat' split) <;> first | rfl | omega
                          · replace h168 : ¬ (s = 2) := h168
                            refine x_li (z := n) T_275_171 rfl ?_
                            refine x_if T_275_172 (fun h172 => ?_) (fun h172 => ?_)
                            · replace h172 : n = 0 := h172
                              refine x_ic T_275_191 ?_
                              refine x_goto T_275_192 ?_
                              refine x_ri T_275_196 ?_
                              refine ⟨?_, rfl⟩
                              unfold qOpn
                              (repeat' split) <;> first | rfl | omega
                            · replace h172 : ¬ (n = 0) := h172
                              refine x_lr (z := some 2281) T_275_175 rfl ?_
                              refine x_li (z := s) T_275_176 rfl ?_
                              refine x_lr (z := some 2281) T_275_177 rfl ?_
                              refine x_li (z := s) T_275_178 rfl ?_
                              refine x_li (z := n) T_275_179 rfl ?_
                              refine x_cv3 T_275_180 mN_246 mL_246 (Nat.le_of_ble_eq_true rfl) mO_246 (PM.t hP) (Nat.le_of_ble_eq_true rfl) (m_aboveOf hP (by omega)) ?_
                              rintro _ σ ⟨rfl, rfl⟩
                              refine cI ?_
                              refine x_li (z := u) T_275_183 rfl ?_
                              refine x_ic T_275_184 ?_
                              refine x_cv5 T_275_185 mN_248 mL_248 (Nat.le_of_ble_eq_true rfl) mO_248 (PM.t hP) (Nat.le_of_ble_eq_true rfl) (m_may hP (by omega)) ?_
                              rintro _ σ ⟨rfl, rfl⟩
                              refine cI ?_
                              refine x_if T_275_188 (fun h188 => ?_) (fun h188 => ?_)
                              · replace h188 : ¬ (qMv P s (qUp P s n) u 2 = 0) := ite0_n h188
                                refine x_ic T_275_195 ?_
                                refine x_ri T_275_196 ?_
                                refine ⟨?_, rfl⟩
                                unfold qOpn
                                (repeat' split) <;> first | rfl | omega
                              · replace h188 : (qMv P s (qUp P s n) u 2 = 0) := ite0_z (Classical.not_not.mp h188)
                                refine x_ic T_275_191 ?_
                                refine x_goto T_275_192 ?_
                                refine x_ri T_275_196 ?_
                                refine ⟨?_, rfl⟩
                                unfold qOpn
                                (repeat' split) <;> first | rfl | omega
                      · refine x_li (z := m) T_275_146 rfl ?_
                        refine x_ic T_275_148 ?_
                        refine x_ib (w := (and32 m 64)) T_275_150 (fun h => absurd h.1 (by decide)) rfl ?_
                        refine x_if T_275_151 (fun h151 => ?_) (fun h151 => ?_)
                        · replace h151 : (and32 m 64) = 0 := h151
                          refine x_ic T_275_158 ?_
                          exact kJ159 0 (if_neg (by omega)).symm
                        · replace h151 : ¬ ((and32 m 64) = 0) := h151
                          refine x_ic T_275_154 ?_
                          refine x_goto T_275_155 ?_
                          exact kJ159 1 (if_pos (by omega)).symm
                    · replace h130 : ¬ (¬ (and32 m (-81)) = 3) := h130
                      refine x_lr (z := some 2281) T_275_133 rfl ?_
                      refine x_li (z := s) T_275_134 rfl ?_
                      refine x_li (z := n) T_275_135 rfl ?_
                      refine x_li (z := u) T_275_136 rfl ?_
                      refine x_ic T_275_137 ?_
                      refine x_cv5 T_275_138 mN_248 mL_248 (Nat.le_of_ble_eq_true rfl) mO_248 (PM.t hP) (Nat.le_of_ble_eq_true rfl) (m_may hP (by omega)) ?_
                      rintro _ σ ⟨rfl, rfl⟩
                      refine cI ?_
                      refine x_if T_275_141 (fun h141 => ?_) (fun h141 => ?_)
                      · replace h141 : ¬ (qMv P s n u 1 = 0) := ite0_n h141
                        refine x_cut (C := ¬ and32 m 64 = 0) (J := 159) (ls1 := [some (vR (some 2281)), some (vI s), some (vI n), some (vI u), some (vI m), some (vI (and32 m (-81))), some (vI z20), some (vI z69), some (vI z93), none]) (sk := fun z => vI z :: []) (fun z159 hz159 => ?_) (fun kJ159 => ?_)
                        · refine x_si (ls1 := [some (vR (some 2281)), some (vI s), some (vI n), some (vI u), some (vI m), some (vI (and32 m (-81))), some (vI z20), some (vI z69), some (vI z93), some (vI z159)]) T_275_159 rfl ?_
                          refine x_li (z := z159) T_275_161 rfl ?_
                          refine x_if T_275_163 (fun h163 => ?_) (fun h163 => ?_)
                          · replace h163 : ¬ (¬ and32 m 64 = 0) := ite1_z (hz159.symm.trans h163)
                            refine x_ic T_275_195 ?_
                            refine x_ri T_275_196 ?_
                            refine ⟨?_, rfl⟩
                            unfold qOpn
                            (repeat' split) <;> first | rfl | omega
                          · replace h163 : (¬ and32 m 64 = 0) := ite1_n (fun e => h163 (hz159.trans e))
                            refine x_li (z := s) T_275_166 rfl ?_
                            refine x_ic T_275_167 ?_
                            refine x_ic2 T_275_168 (fun h168 => ?_) (fun h168 => ?_)
                            · replace h168 : s = 2 := h168
                              refine x_ic T_275_191 ?_
                              refine x_goto T_275_192 ?_
                              refine x_ri T_275_196 ?_
                              refine ⟨?_, rfl⟩
                              unfold qOpn
                              (repeat' split) <;> first | rfl | omega
                            · replace h168 : ¬ (s = 2) := h168
                              refine x_li (z := n) T_275_171 rfl ?_
                              refine x_if T_275_172 (fun h172 => ?_) (fun h172 => ?_)
                              · replace h172 : n = 0 := h172
                                refine x_ic T_275_191 ?_
                                refine x_goto T_275_192 ?_
                                refine x_ri T_275_196 ?_
                                refine ⟨?_, rfl⟩
                                unfold qOpn
                                (repeat' split) <;> first | rfl | omega
                              · replace h172 : ¬ (n = 0) := h172
                                refine x_lr (z := some 2281) T_275_175 rfl ?_
                                refine x_li (z := s) T_275_176 rfl ?_
                                refine x_lr (z := some 2281) T_275_177 rfl ?_
                                refine x_li (z := s) T_275_178 rfl ?_
                                refine x_li (z := n) T_275_179 rfl ?_
                                refine x_cv3 T_275_180 mN_246 mL_246 (Nat.le_of_ble_eq_true rfl) mO_246 (PM.t hP) (Nat.le_of_ble_eq_true rfl) (m_aboveOf hP (by omega)) ?_
                                rintro _ σ ⟨rfl, rfl⟩
                                refine cI ?_
                                refine x_li (z := u) T_275_183 rfl ?_
                                refine x_ic T_275_184 ?_
                                refine x_cv5 T_275_185 mN_248 mL_248 (Nat.le_of_ble_eq_true rfl) mO_248 (PM.t hP) (Nat.le_of_ble_eq_true rfl) (m_may hP (by omega)) ?_
                                rintro _ σ ⟨rfl, rfl⟩
                                refine cI ?_
                                refine x_if T_275_188 (fun h188 => ?_) (fun h188 => ?_)
                                · replace h188 : ¬ (qMv P s (qUp P s n) u 2 = 0) := ite0_n h188
                                  refine x_ic T_275_195 ?_
                                  refine x_ri T_275_196 ?_
                                  refine ⟨?_, rfl⟩
                                  unfold qOpn
                                  (repeat' split) <;> first | rfl | omega
                                · replace h188 : (qMv P s (qUp P s n) u 2 = 0) := ite0_z (Classical.not_not.mp h188)
                                  refine x_ic T_275_191 ?_
                                  refine x_goto T_275_192 ?_
                                  refine x_ri T_275_196 ?_
                                  refine ⟨?_, rfl⟩
                                  unfold qOpn
                                  (repeat' split) <;> first | rfl | omega
                        · refine x_li (z := m) T_275_146 rfl ?_
                          refine x_ic T_275_148 ?_
                          refine x_ib (w := (and32 m 64)) T_275_150 (fun h => absurd h.1 (by decide)) rfl ?_
                          refine x_if T_275_151 (fun h151 => ?_) (fun h151 => ?_)
                          · replace h151 : (and32 m 64) = 0 := h151
                            refine x_ic T_275_158 ?_
                            exact kJ159 0 (if_neg (by omega)).symm
                          · replace h151 : ¬ ((and32 m 64) = 0) := h151
                            refine x_ic T_275_154 ?_
                            refine x_goto T_275_155 ?_
                            exact kJ159 1 (if_pos (by omega)).symm
                      · replace h141 : (qMv P s n u 1 = 0) := ite0_z (Classical.not_not.mp h141)
                        refine x_ic T_275_144 ?_
                        refine x_ri T_275_145 ?_
                        refine ⟨?_, rfl⟩
                        unfold qOpn
                        (repeat' split) <;> first | rfl | omega
          · refine x_li (z := (and32 m (-81))) T_275_71 rfl ?_
            refine x_ic T_275_73 ?_
            refine x_ic2 T_275_74 (fun h74 => ?_) (fun h74 => ?_)
            · replace h74 : (and32 m (-81)) = 1 := h74
              refine x_ic T_275_88 ?_
              refine x_goto T_275_89 ?_
              exact kJ93 1 (if_pos (by omega)).symm
            · replace h74 : ¬ ((and32 m (-81)) = 1) := h74
              refine x_li (z := (and32 m (-81))) T_275_77 rfl ?_
              refine x_ic T_275_79 ?_
              refine x_ic2 T_275_80 (fun h80 => ?_) (fun h80 => ?_)
              · replace h80 : (and32 m (-81)) = 2 := h80
                refine x_ic T_275_88 ?_
                refine x_goto T_275_89 ?_
                exact kJ93 1 (if_pos (by omega)).symm
              · replace h80 : ¬ ((and32 m (-81)) = 2) := h80
                refine x_li (z := z20) T_275_83 rfl ?_
                refine x_if T_275_85 (fun h85 => ?_) (fun h85 => ?_)
                · replace h85 : ¬ (¬ and32 m 16 = 0) := ite1_z (hz20.symm.trans h85)
                  refine x_ic T_275_92 ?_
                  exact kJ93 0 (if_neg (by omega)).symm
                · replace h85 : (¬ and32 m 16 = 0) := ite1_n (fun e => h85 (hz20.trans e))
                  refine x_ic T_275_88 ?_
                  refine x_goto T_275_89 ?_
                  exact kJ93 1 (if_pos (by omega)).symm
        · refine x_li (z := (and32 m (-81))) T_275_53 rfl ?_
          refine x_if T_275_55 (fun h55 => ?_) (fun h55 => ?_)
          · replace h55 : (and32 m (-81)) = 0 := h55
            refine x_ic T_275_64 ?_
            refine x_goto T_275_65 ?_
            exact kJ69 1 (if_pos (by omega)).symm
          · replace h55 : ¬ ((and32 m (-81)) = 0) := h55
            refine x_li (z := (and32 m (-81))) T_275_58 rfl ?_
            refine x_ic T_275_60 ?_
            refine x_ic2 T_275_61 (fun h61 => ?_) (fun h61 => ?_)
            · replace h61 : ¬ (and32 m (-81)) = 2 := h61
              refine x_ic T_275_68 ?_
              exact kJ69 0 (if_neg (by omega)).symm
            · replace h61 : ¬ (¬ (and32 m (-81)) = 2) := h61
              refine x_ic T_275_64 ?_
              refine x_goto T_275_65 ?_
              exact kJ69 1 (if_pos (by omega)).symm
      · replace h37 : (qMode P s n < 0) := ite1_n h37
        refine x_li (z := (and32 m (-81))) T_275_40 rfl ?_
        refine x_if T_275_42 (fun h42 => ?_) (fun h42 => ?_)
        · replace h42 : 0 < (and32 m (-81)) := h42
          refine x_ic T_275_50 ?_
          refine x_ri T_275_52 ?_
          refine ⟨?_, rfl⟩
          unfold qOpn
          (repeat' split) <;> first | rfl | omega
        · replace h42 : ¬ (0 < (and32 m (-81))) := h42
          refine x_li (z := z20) T_275_45 rfl ?_
          refine x_if T_275_47 (fun h47 => ?_) (fun h47 => ?_)
          · replace h47 : ¬ (¬ and32 m 16 = 0) := ite1_z (hz20.symm.trans h47)
            refine x_cut (C := and32 m (-81) = 0 ∨ and32 m (-81) = 2) (J := 69) (ls1 := [some (vR (some 2281)), some (vI s), some (vI n), some (vI u), some (vI m), some (vI (and32 m (-81))), some (vI z20), none, none, none]) (sk := fun z => vI z :: []) (fun z69 hz69 => ?_) (fun kJ69 => ?_)
            · refine x_si (ls1 := [some (vR (some 2281)), some (vI s), some (vI n), some (vI u), some (vI m), some (vI (and32 m (-81))), some (vI z20), some (vI z69), none, none]) T_275_69 rfl ?_
              refine x_cut (C := and32 m (-81) = 1 ∨ and32 m (-81) = 2 ∨ ¬ and32 m 16 = 0) (J := 93) (ls1 := [some (vR (some 2281)), some (vI s), some (vI n), some (vI u), some (vI m), some (vI (and32 m (-81))), some (vI z20), some (vI z69), none, none]) (sk := fun z => vI z :: []) (fun z93 hz93 => ?_) (fun kJ93 => ?_)
              · refine x_si (ls1 := [some (vR (some 2281)), some (vI s), some (vI n), some (vI u), some (vI m), some (vI (and32 m (-81))), some (vI z20), some (vI z69), some (vI z93), none]) T_275_93 rfl ?_
                refine x_li (z := z69) T_275_95 rfl ?_
                refine x_if T_275_97 (fun h97 => ?_) (fun h97 => ?_)
                · replace h97 : ¬ (and32 m (-81) = 0 ∨ and32 m (-81) = 2) := ite1_z (hz69.symm.trans h97)
                  refine x_li (z := z93) T_275_111 rfl ?_
                  refine x_if T_275_113 (fun h113 => ?_) (fun h113 => ?_)
                  · replace h113 : ¬ (and32 m (-81) = 1 ∨ and32 m (-81) = 2 ∨ ¬ and32 m 16 = 0) := ite1_z (hz93.symm.trans h113)
                    refine x_li (z := (and32 m (-81))) T_275_127 rfl ?_
                    refine x_ic T_275_129 ?_
                    refine x_ic2 T_275_130 (fun h130 => ?_) (fun h130 => ?_)
                    · replace h130 : ¬ (and32 m (-81)) = 3 := h130
                      refine x_cut (C := ¬ and32 m 64 = 0) (J := 159) (ls1 := [some (vR (some 2281)), some (vI s), some (vI n), some (vI u), some (vI m), some (vI (and32 m (-81))), some (vI z20), some (vI z69), some (vI z93), none]) (sk := fun z => vI z :: []) (fun z159 hz159 => ?_) (fun kJ159 => ?_)
                      · refine x_si (ls1 := [some (vR (some 2281)), some (vI s), some (vI n), some (vI u), some (vI m), some (vI (and32 m (-81))), some (vI z20), some (vI z69), some (vI z93), some (vI z159)]) T_275_159 rfl ?_
                        refine x_li (z := z159) T_275_161 rfl ?_
                        refine x_if T_275_163 (fun h163 => ?_) (fun h163 => ?_)
                        · replace h163 : ¬ (¬ and32 m 64 = 0) := ite1_z (hz159.symm.trans h163)
                          refine x_ic T_275_195 ?_
                          refine x_ri T_275_196 ?_
                          refine ⟨?_, rfl⟩
                          unfold qOpn
                          (repeat' split) <;> first | rfl | omega
                        · replace h163 : (¬ and32 m 64 = 0) := ite1_n (fun e => h163 (hz159.trans e))
                          refine x_li (z := s) T_275_166 rfl ?_
                          refine x_ic T_275_167 ?_
                          refine x_ic2 T_275_168 (fun h168 => ?_) (fun h168 => ?_)
                          · replace h168 : s = 2 := h168
                            refine x_ic T_275_191 ?_
                            refine x_goto T_275_192 ?_
                            refine x_ri T_275_196 ?_
                            refine ⟨?_, rfl⟩
                            unfold qOpn
                            (repeat' split) <;> first | rfl | omega
                          · replace h168 : ¬ (s = 2) := h168
                            refine x_li (z := n) T_275_171 rfl ?_
                            refine x_if T_275_172 (fun h172 => ?_) (fun h172 => ?_)
                            · replace h172 : n = 0 := h172
                              refine x_ic T_275_191 ?_
                              refine x_goto T_275_192 ?_
                              refine x_ri T_275_196 ?_
                              refine ⟨?_, rfl⟩
                              unfold qOpn
                              (repeat' split) <;> first | rfl | omega
                            · replace h172 : ¬ (n = 0) := h172
                              refine x_lr (z := some 2281) T_275_175 rfl ?_
                              refine x_li (z := s) T_275_176 rfl ?_
                              refine x_lr (z := some 2281) T_275_177 rfl ?_
                              refine x_li (z := s) T_275_178 rfl ?_
                              refine x_li (z := n) T_275_179 rfl ?_
                              refine x_cv3 T_275_180 mN_246 mL_246 (Nat.le_of_ble_eq_true rfl) mO_246 (PM.t hP) (Nat.le_of_ble_eq_true rfl) (m_aboveOf hP (by omega)) ?_
                              rintro _ σ ⟨rfl, rfl⟩
                              refine cI ?_
                              refine x_li (z := u) T_275_183 rfl ?_
                              refine x_ic T_275_184 ?_
                              refine x_cv5 T_275_185 mN_248 mL_248 (Nat.le_of_ble_eq_true rfl) mO_248 (PM.t hP) (Nat.le_of_ble_eq_true rfl) (m_may hP (by omega)) ?_
                              rintro _ σ ⟨rfl, rfl⟩
                              refine cI ?_
                              refine x_if T_275_188 (fun h188 => ?_) (fun h188 => ?_)
                              · replace h188 : ¬ (qMv P s (qUp P s n) u 2 = 0) := ite0_n h188
                                refine x_ic T_275_195 ?_
                                refine x_ri T_275_196 ?_
                                refine ⟨?_, rfl⟩
                                unfold qOpn
                                (repeat' split) <;> first | rfl | omega
                              · replace h188 : (qMv P s (qUp P s n) u 2 = 0) := ite0_z (Classical.not_not.mp h188)
                                refine x_ic T_275_191 ?_
                                refine x_goto T_275_192 ?_
                                refine x_ri T_275_196 ?_
                                refine ⟨?_, rfl⟩
                                unfold qOpn
                                (repeat' split) <;> first | rfl | omega
                      · refine x_li (z := m) T_275_146 rfl ?_
                        refine x_ic T_275_148 ?_
                        refine x_ib (w := (and32 m 64)) T_275_150 (fun h => absurd h.1 (by decide)) rfl ?_
                        refine x_if T_275_151 (fun h151 => ?_) (fun h151 => ?_)
                        · replace h151 : (and32 m 64) = 0 := h151
                          refine x_ic T_275_158 ?_
                          exact kJ159 0 (if_neg (by omega)).symm
                        · replace h151 : ¬ ((and32 m 64) = 0) := h151
                          refine x_ic T_275_154 ?_
                          refine x_goto T_275_155 ?_
                          exact kJ159 1 (if_pos (by omega)).symm
                    · replace h130 : ¬ (¬ (and32 m (-81)) = 3) := h130
                      refine x_lr (z := some 2281) T_275_133 rfl ?_
                      refine x_li (z := s) T_275_134 rfl ?_
                      refine x_li (z := n) T_275_135 rfl ?_
                      refine x_li (z := u) T_275_136 rfl ?_
                      refine x_ic T_275_137 ?_
                      refine x_cv5 T_275_138 mN_248 mL_248 (Nat.le_of_ble_eq_true rfl) mO_248 (PM.t hP) (Nat.le_of_ble_eq_true rfl) (m_may hP (by omega)) ?_
                      rintro _ σ ⟨rfl, rfl⟩
                      refine cI ?_
                      refine x_if T_275_141 (fun h141 => ?_) (fun h141 => ?_)
                      · replace h141 : ¬ (qMv P s n u 1 = 0) := ite0_n h141
                        refine x_cut (C := ¬ and32 m 64 = 0) (J := 159) (ls1 := [some (vR (some 2281)), some (vI s), some (vI n), some (vI u), some (vI m), some (vI (and32 m (-81))), some (vI z20), some (vI z69), some (vI z93), none]) (sk := fun z => vI z :: []) (fun z159 hz159 => ?_) (fun kJ159 => ?_)
                        · refine x_si (ls1 := [some (vR (some 2281)), some (vI s), some (vI n), some (vI u), some (vI m), some (vI (and32 m (-81))), some (vI z20), some (vI z69), some (vI z93), some (vI z159)]) T_275_159 rfl ?_
                          refine x_li (z := z159) T_275_161 rfl ?_
                          refine x_if T_275_163 (fun h163 => ?_) (fun h163 => ?_)
                          · replace h163 : ¬ (¬ and32 m 64 = 0) := ite1_z (hz159.symm.trans h163)
                            refine x_ic T_275_195 ?_
                            refine x_ri T_275_196 ?_
                            refine ⟨?_, rfl⟩
                            unfold qOpn
                            (repeat' split) <;> first | rfl | omega
                          · replace h163 : (¬ and32 m 64 = 0) := ite1_n (fun e => h163 (hz159.trans e))
                            refine x_li (z := s) T_275_166 rfl ?_
                            refine x_ic T_275_167 ?_
                            refine x_ic2 T_275_168 (fun h168 => ?_) (fun h168 => ?_)
                            · replace h168 : s = 2 := h168
                              refine x_ic T_275_191 ?_
                              refine x_goto T_275_192 ?_
                              refine x_ri T_275_196 ?_
                              refine ⟨?_, rfl⟩
                              unfold qOpn
                              (repeat' split) <;> first | rfl | omega
                            · replace h168 : ¬ (s = 2) := h168
                              refine x_li (z := n) T_275_171 rfl ?_
                              refine x_if T_275_172 (fun h172 => ?_) (fun h172 => ?_)
                              · replace h172 : n = 0 := h172
                                refine x_ic T_275_191 ?_
                                refine x_goto T_275_192 ?_
                                refine x_ri T_275_196 ?_
                                refine ⟨?_, rfl⟩
                                unfold qOpn
                                (repeat' split) <;> first | rfl | omega
                              · replace h172 : ¬ (n = 0) := h172
                                refine x_lr (z := some 2281) T_275_175 rfl ?_
                                refine x_li (z := s) T_275_176 rfl ?_
                                refine x_lr (z := some 2281) T_275_177 rfl ?_
                                refine x_li (z := s) T_275_178 rfl ?_
                                refine x_li (z := n) T_275_179 rfl ?_
                                refine x_cv3 T_275_180 mN_246 mL_246 (Nat.le_of_ble_eq_true rfl) mO_246 (PM.t hP) (Nat.le_of_ble_eq_true rfl) (m_aboveOf hP (by omega)) ?_
                                rintro _ σ ⟨rfl, rfl⟩
                                refine cI ?_
                                refine x_li (z := u) T_275_183 rfl ?_
                                refine x_ic T_275_184 ?_
                                refine x_cv5 T_275_185 mN_248 mL_248 (Nat.le_of_ble_eq_true rfl) mO_248 (PM.t hP) (Nat.le_of_ble_eq_true rfl) (m_may hP (by omega)) ?_
                                rintro _ σ ⟨rfl, rfl⟩
                                refine cI ?_
                                refine x_if T_275_188 (fun h188 => ?_) (fun h188 => ?_)
                                · replace h188 : ¬ (qMv P s (qUp P s n) u 2 = 0) := ite0_n h188
                                  refine x_ic T_275_195 ?_
                                  refine x_ri T_275_196 ?_
                                  refine ⟨?_, rfl⟩
                                  unfold qOpn
                                  (repeat' split) <;> first | rfl | omega
                                · replace h188 : (qMv P s (qUp P s n) u 2 = 0) := ite0_z (Classical.not_not.mp h188)
                                  refine x_ic T_275_191 ?_
                                  refine x_goto T_275_192 ?_
                                  refine x_ri T_275_196 ?_
                                  refine ⟨?_, rfl⟩
                                  unfold qOpn
                                  (repeat' split) <;> first | rfl | omega
                        · refine x_li (z := m) T_275_146 rfl ?_
                          refine x_ic T_275_148 ?_
                          refine x_ib (w := (and32 m 64)) T_275_150 (fun h => absurd h.1 (by decide)) rfl ?_
                          refine x_if T_275_151 (fun h151 => ?_) (fun h151 => ?_)
                          · replace h151 : (and32 m 64) = 0 := h151
                            refine x_ic T_275_158 ?_
                            exact kJ159 0 (if_neg (by omega)).symm
                          · replace h151 : ¬ ((and32 m 64) = 0) := h151
                            refine x_ic T_275_154 ?_
                            refine x_goto T_275_155 ?_
                            exact kJ159 1 (if_pos (by omega)).symm
                      · replace h141 : (qMv P s n u 1 = 0) := ite0_z (Classical.not_not.mp h141)
                        refine x_ic T_275_144 ?_
                        refine x_ri T_275_145 ?_
                        refine ⟨?_, rfl⟩
                        unfold qOpn
                        (repeat' split) <;> first | rfl | omega
                  · replace h113 : (and32 m (-81) = 1 ∨ and32 m (-81) = 2 ∨ ¬ and32 m 16 = 0) := ite1_n (fun e => h113 (hz93.trans e))
                    refine x_lr (z := some 2281) T_275_116 rfl ?_
                    refine x_li (z := s) T_275_117 rfl ?_
                    refine x_li (z := n) T_275_118 rfl ?_
                    refine x_li (z := u) T_275_119 rfl ?_
                    refine x_ic T_275_120 ?_
                    refine x_cv5 T_275_121 mN_248 mL_248 (Nat.le_of_ble_eq_true rfl) mO_248 (PM.t hP) (Nat.le_of_ble_eq_true rfl) (m_may hP (by omega)) ?_
                    rintro _ σ ⟨rfl, rfl⟩
                    refine cI ?_
                    refine x_if T_275_124 (fun h124 => ?_) (fun h124 => ?_)
                    · replace h124 : (qMv P s n u 2 = 0) := ite0_z h124
                      refine x_ic T_275_144 ?_
                      refine x_ri T_275_145 ?_
                      refine ⟨?_, rfl⟩
                      unfold qOpn
                      (repeat' split) <;> first | rfl | omega
                    · replace h124 : ¬ (qMv P s n u 2 = 0) := ite0_n h124
                      refine x_li (z := (and32 m (-81))) T_275_127 rfl ?_
                      refine x_ic T_275_129 ?_
                      refine x_ic2 T_275_130 (fun h130 => ?_) (fun h130 => ?_)
                      · replace h130 : ¬ (and32 m (-81)) = 3 := h130
                        refine x_cut (C := ¬ and32 m 64 = 0) (J := 159) (ls1 := [some (vR (some 2281)), some (vI s), some (vI n), some (vI u), some (vI m), some (vI (and32 m (-81))), some (vI z20), some (vI z69), some (vI z93), none]) (sk := fun z => vI z :: []) (fun z159 hz159 => ?_) (fun kJ159 => ?_)
                        · refine x_si (ls1 := [some (vR (some 2281)), some (vI s), some (vI n), some (vI u), some (vI m), some (vI (and32 m (-81))), some (vI z20), some (vI z69), some (vI z93), some (vI z159)]) T_275_159 rfl ?_
                          refine x_li (z := z159) T_275_161 rfl ?_
                          refine x_if T_275_163 (fun h163 => ?_) (fun h163 => ?_)
                          · replace h163 : ¬ (¬ and32 m 64 = 0) := ite1_z (hz159.symm.trans h163)
                            refine x_ic T_275_195 ?_
                            refine x_ri T_275_196 ?_
                            refine ⟨?_, rfl⟩
                            unfold qOpn
                            (repeat' split) <;> first | rfl | omega
                          · replace h163 : (¬ and32 m 64 = 0) := ite1_n (fun e => h163 (hz159.trans e))
                            refine x_li (z := s) T_275_166 rfl ?_
                            refine x_ic T_275_167 ?_
                            refine x_ic2 T_275_168 (fun h168 => ?_) (fun h168 => ?_)
                            · replace h168 : s = 2 := h168
                              refine x_ic T_275_191 ?_
                              refine x_goto T_275_192 ?_
                              refine x_ri T_275_196 ?_
                              refine ⟨?_, rfl⟩
                              unfold qOpn
                              (repeat' split) <;> first | rfl | omega
                            · replace h168 : ¬ (s = 2) := h168
                              refine x_li (z := n) T_275_171 rfl ?_
                              refine x_if T_275_172 (fun h172 => ?_) (fun h172 => ?_)
                              · replace h172 : n = 0 := h172
                                refine x_ic T_275_191 ?_
                                refine x_goto T_275_192 ?_
                                refine x_ri T_275_196 ?_
                                refine ⟨?_, rfl⟩
                                unfold qOpn
                                (repeat' split) <;> first | rfl | omega
                              · replace h172 : ¬ (n = 0) := h172
                                refine x_lr (z := some 2281) T_275_175 rfl ?_
                                refine x_li (z := s) T_275_176 rfl ?_
                                refine x_lr (z := some 2281) T_275_177 rfl ?_
                                refine x_li (z := s) T_275_178 rfl ?_
                                refine x_li (z := n) T_275_179 rfl ?_
                                refine x_cv3 T_275_180 mN_246 mL_246 (Nat.le_of_ble_eq_true rfl) mO_246 (PM.t hP) (Nat.le_of_ble_eq_true rfl) (m_aboveOf hP (by omega)) ?_
                                rintro _ σ ⟨rfl, rfl⟩
                                refine cI ?_
                                refine x_li (z := u) T_275_183 rfl ?_
                                refine x_ic T_275_184 ?_
                                refine x_cv5 T_275_185 mN_248 mL_248 (Nat.le_of_ble_eq_true rfl) mO_248 (PM.t hP) (Nat.le_of_ble_eq_true rfl) (m_may hP (by omega)) ?_
                                rintro _ σ ⟨rfl, rfl⟩
                                refine cI ?_
                                refine x_if T_275_188 (fun h188 => ?_) (fun h188 => ?_)
                                · replace h188 : ¬ (qMv P s (qUp P s n) u 2 = 0) := ite0_n h188
                                  refine x_ic T_275_195 ?_
                                  refine x_ri T_275_196 ?_
                                  refine ⟨?_, rfl⟩
                                  unfold qOpn
                                  (repeat' split) <;> first | rfl | omega
                                · replace h188 : (qMv P s (qUp P s n) u 2 = 0) := ite0_z (Classical.not_not.mp h188)
                                  refine x_ic T_275_191 ?_
                                  refine x_goto T_275_192 ?_
                                  refine x_ri T_275_196 ?_
                                  refine ⟨?_, rfl⟩
                                  unfold qOpn
                                  (repeat' split) <;> first | rfl | omega
                        · refine x_li (z := m) T_275_146 rfl ?_
                          refine x_ic T_275_148 ?_
                          refine x_ib (w := (and32 m 64)) T_275_150 (fun h => absurd h.1 (by decide)) rfl ?_
                          refine x_if T_275_151 (fun h151 => ?_) (fun h151 => ?_)
                          · replace h151 : (and32 m 64) = 0 := h151
                            refine x_ic T_275_158 ?_
                            exact kJ159 0 (if_neg (by omega)).symm
                          · replace h151 : ¬ ((and32 m 64) = 0) := h151
                            refine x_ic T_275_154 ?_
                            refine x_goto T_275_155 ?_
                            exact kJ159 1 (if_pos (by omega)).symm
                      · replace h130 : ¬ (¬ (and32 m (-81)) = 3) := h130
                        refine x_lr (z := some 2281) T_275_133 rfl ?_
                        refine x_li (z := s) T_275_134 rfl ?_
                        refine x_li (z := n) T_275_135 rfl ?_
                        refine x_li (z := u) T_275_136 rfl ?_
                        refine x_ic T_275_137 ?_
                        refine x_cv5 T_275_138 mN_248 mL_248 (Nat.le_of_ble_eq_true rfl) mO_248 (PM.t hP) (Nat.le_of_ble_eq_true rfl) (m_may hP (by omega)) ?_
                        rintro _ σ ⟨rfl, rfl⟩
                        refine cI ?_
                        refine x_if T_275_141 (fun h141 => ?_) (fun h141 => ?_)
                        · replace h141 : ¬ (qMv P s n u 1 = 0) := ite0_n h141
                          refine x_cut (C := ¬ and32 m 64 = 0) (J := 159) (ls1 := [some (vR (some 2281)), some (vI s), some (vI n), some (vI u), some (vI m), some (vI (and32 m (-81))), some (vI z20), some (vI z69), some (vI z93), none]) (sk := fun z => vI z :: []) (fun z159 hz159 => ?_) (fun kJ159 => ?_)
                          · refine x_si (ls1 := [some (vR (some 2281)), some (vI s), some (vI n), some (vI u), some (vI m), some (vI (and32 m (-81))), some (vI z20), some (vI z69), some (vI z93), some (vI z159)]) T_275_159 rfl ?_
                            refine x_li (z := z159) T_275_161 rfl ?_
                            refine x_if T_275_163 (fun h163 => ?_) (fun h163 => ?_)
                            · replace h163 : ¬ (¬ and32 m 64 = 0) := ite1_z (hz159.symm.trans h163)
                              refine x_ic T_275_195 ?_
                              refine x_ri T_275_196 ?_
                              refine ⟨?_, rfl⟩
                              unfold qOpn
                              (repeat' split) <;> first | rfl | omega
                            · replace h163 : (¬ and32 m 64 = 0) := ite1_n (fun e => h163 (hz159.trans e))
                              refine x_li (z := s) T_275_166 rfl ?_
                              refine x_ic T_275_167 ?_
                              refine x_ic2 T_275_168 (fun h168 => ?_) (fun h168 => ?_)
                              · replace h168 : s = 2 := h168
                                refine x_ic T_275_191 ?_
                                refine x_goto T_275_192 ?_
                                refine x_ri T_275_196 ?_
                                refine ⟨?_, rfl⟩
                                unfold qOpn
                                (repeat' split) <;> first | rfl | omega
                              · replace h168 : ¬ (s = 2) := h168
                                refine x_li (z := n) T_275_171 rfl ?_
                                refine x_if T_275_172 (fun h172 => ?_) (fun h172 => ?_)
                                · replace h172 : n = 0 := h172
                                  refine x_ic T_275_191 ?_
                                  refine x_goto T_275_192 ?_
                                  refine x_ri T_275_196 ?_
                                  refine ⟨?_, rfl⟩
                                  unfold qOpn
                                  (repeat' split) <;> first | rfl | omega
                                · replace h172 : ¬ (n = 0) := h172
                                  refine x_lr (z := some 2281) T_275_175 rfl ?_
                                  refine x_li (z := s) T_275_176 rfl ?_
                                  refine x_lr (z := some 2281) T_275_177 rfl ?_
                                  refine x_li (z := s) T_275_178 rfl ?_
                                  refine x_li (z := n) T_275_179 rfl ?_
                                  refine x_cv3 T_275_180 mN_246 mL_246 (Nat.le_of_ble_eq_true rfl) mO_246 (PM.t hP) (Nat.le_of_ble_eq_true rfl) (m_aboveOf hP (by omega)) ?_
                                  rintro _ σ ⟨rfl, rfl⟩
                                  refine cI ?_
                                  refine x_li (z := u) T_275_183 rfl ?_
                                  refine x_ic T_275_184 ?_
                                  refine x_cv5 T_275_185 mN_248 mL_248 (Nat.le_of_ble_eq_true rfl) mO_248 (PM.t hP) (Nat.le_of_ble_eq_true rfl) (m_may hP (by omega)) ?_
                                  rintro _ σ ⟨rfl, rfl⟩
                                  refine cI ?_
                                  refine x_if T_275_188 (fun h188 => ?_) (fun h188 => ?_)
                                  · replace h188 : ¬ (qMv P s (qUp P s n) u 2 = 0) := ite0_n h188
                                    refine x_ic T_275_195 ?_
                                    refine x_ri T_275_196 ?_
                                    refine ⟨?_, rfl⟩
                                    unfold qOpn
                                    (repeat' split) <;> first | rfl | omega
                                  · replace h188 : (qMv P s (qUp P s n) u 2 = 0) := ite0_z (Classical.not_not.mp h188)
                                    refine x_ic T_275_191 ?_
                                    refine x_goto T_275_192 ?_
                                    refine x_ri T_275_196 ?_
                                    refine ⟨?_, rfl⟩
                                    unfold qOpn
                                    (repeat' split) <;> first | rfl | omega
                          · refine x_li (z := m) T_275_146 rfl ?_
                            refine x_ic T_275_148 ?_
                            refine x_ib (w := (and32 m 64)) T_275_150 (fun h => absurd h.1 (by decide)) rfl ?_
                            refine x_if T_275_151 (fun h151 => ?_) (fun h151 => ?_)
                            · replace h151 : (and32 m 64) = 0 := h151
                              refine x_ic T_275_158 ?_
                              exact kJ159 0 (if_neg (by omega)).symm
                            · replace h151 : ¬ ((and32 m 64) = 0) := h151
                              refine x_ic T_275_154 ?_
                              refine x_goto T_275_155 ?_
                              exact kJ159 1 (if_pos (by omega)).symm
                        · replace h141 : (qMv P s n u 1 = 0) := ite0_z (Classical.not_not.mp h141)
                          refine x_ic T_275_144 ?_
                          refine x_ri T_275_145 ?_
                          refine ⟨?_, rfl⟩
                          unfold qOpn
                          (repeat' split) <;> first | rfl | omega
                · replace h97 : (and32 m (-81) = 0 ∨ and32 m (-81) = 2) := ite1_n (fun e => h97 (hz69.trans e))
                  refine x_lr (z := some 2281) T_275_100 rfl ?_
                  refine x_li (z := s) T_275_101 rfl ?_
                  refine x_li (z := n) T_275_102 rfl ?_
                  refine x_li (z := u) T_275_103 rfl ?_
                  refine x_ic T_275_104 ?_
                  refine x_cv5 T_275_105 mN_248 mL_248 (Nat.le_of_ble_eq_true rfl) mO_248 (PM.t hP) (Nat.le_of_ble_eq_true rfl) (m_may hP (by omega)) ?_
                  rintro _ σ ⟨rfl, rfl⟩
                  refine cI ?_
                  refine x_if T_275_108 (fun h108 => ?_) (fun h108 => ?_)
                  · replace h108 : (qMv P s n u 4 = 0) := ite0_z h108
                    refine x_ic T_275_144 ?_
                    refine x_ri T_275_145 ?_
                    refine ⟨?_, rfl⟩
                    unfold qOpn
                    (repeat' split) <;> first | rfl | omega
                  · replace h108 : ¬ (qMv P s n u 4 = 0) := ite0_n h108
                    refine x_li (z := z93) T_275_111 rfl ?_
                    refine x_if T_275_113 (fun h113 => ?_) (fun h113 => ?_)
                    · replace h113 : ¬ (and32 m (-81) = 1 ∨ and32 m (-81) = 2 ∨ ¬ and32 m 16 = 0) := ite1_z (hz93.symm.trans h113)
                      refine x_li (z := (and32 m (-81))) T_275_127 rfl ?_
                      refine x_ic T_275_129 ?_
                      refine x_ic2 T_275_130 (fun h130 => ?_) (fun h130 => ?_)
                      · replace h130 : ¬ (and32 m (-81)) = 3 := h130
                        refine x_cut (C := ¬ and32 m 64 = 0) (J := 159) (ls1 := [some (vR (some 2281)), some (vI s), some (vI n), some (vI u), some (vI m), some (vI (and32 m (-81))), some (vI z20), some (vI z69), some (vI z93), none]) (sk := fun z => vI z :: []) (fun z159 hz159 => ?_) (fun kJ159 => ?_)
                        · refine x_si (ls1 := [some (vR (some 2281)), some (vI s), some (vI n), some (vI u), some (vI m), some (vI (and32 m (-81))), some (vI z20), some (vI z69), some (vI z93), some (vI z159)]) T_275_159 rfl ?_
                          refine x_li (z := z159) T_275_161 rfl ?_
                          refine x_if T_275_163 (fun h163 => ?_) (fun h163 => ?_)
                          · replace h163 : ¬ (¬ and32 m 64 = 0) := ite1_z (hz159.symm.trans h163)
                            refine x_ic T_275_195 ?_
                            refine x_ri T_275_196 ?_
                            refine ⟨?_, rfl⟩
                            unfold qOpn
                            (repeat' split) <;> first | rfl | omega
                          · replace h163 : (¬ and32 m 64 = 0) := ite1_n (fun e => h163 (hz159.trans e))
                            refine x_li (z := s) T_275_166 rfl ?_
                            refine x_ic T_275_167 ?_
                            refine x_ic2 T_275_168 (fun h168 => ?_) (fun h168 => ?_)
                            · replace h168 : s = 2 := h168
                              refine x_ic T_275_191 ?_
                              refine x_goto T_275_192 ?_
                              refine x_ri T_275_196 ?_
                              refine ⟨?_, rfl⟩
                              unfold qOpn
                              (repeat' split) <;> first | rfl | omega
                            · replace h168 : ¬ (s = 2) := h168
                              refine x_li (z := n) T_275_171 rfl ?_
                              refine x_if T_275_172 (fun h172 => ?_) (fun h172 => ?_)
                              · replace h172 : n = 0 := h172
                                refine x_ic T_275_191 ?_
                                refine x_goto T_275_192 ?_
                                refine x_ri T_275_196 ?_
                                refine ⟨?_, rfl⟩
                                unfold qOpn
                                (repeat' split) <;> first | rfl | omega
                              · replace h172 : ¬ (n = 0) := h172
                                refine x_lr (z := some 2281) T_275_175 rfl ?_
                                refine x_li (z := s) T_275_176 rfl ?_
                                refine x_lr (z := some 2281) T_275_177 rfl ?_
                                refine x_li (z := s) T_275_178 rfl ?_
                                refine x_li (z := n) T_275_179 rfl ?_
                                refine x_cv3 T_275_180 mN_246 mL_246 (Nat.le_of_ble_eq_true rfl) mO_246 (PM.t hP) (Nat.le_of_ble_eq_true rfl) (m_aboveOf hP (by omega)) ?_
                                rintro _ σ ⟨rfl, rfl⟩
                                refine cI ?_
                                refine x_li (z := u) T_275_183 rfl ?_
                                refine x_ic T_275_184 ?_
                                refine x_cv5 T_275_185 mN_248 mL_248 (Nat.le_of_ble_eq_true rfl) mO_248 (PM.t hP) (Nat.le_of_ble_eq_true rfl) (m_may hP (by omega)) ?_
                                rintro _ σ ⟨rfl, rfl⟩
                                refine cI ?_
                                refine x_if T_275_188 (fun h188 => ?_) (fun h188 => ?_)
                                · replace h188 : ¬ (qMv P s (qUp P s n) u 2 = 0) := ite0_n h188
                                  refine x_ic T_275_195 ?_
                                  refine x_ri T_275_196 ?_
                                  refine ⟨?_, rfl⟩
                                  unfold qOpn
                                  (repeat' split) <;> first | rfl | omega
                                · replace h188 : (qMv P s (qUp P s n) u 2 = 0) := ite0_z (Classical.not_not.mp h188)
                                  refine x_ic T_275_191 ?_
                                  refine x_goto T_275_192 ?_
                                  refine x_ri T_275_196 ?_
                                  refine ⟨?_, rfl⟩
                                  unfold qOpn
                                  (repeat' split) <;> first | rfl | omega
                        · refine x_li (z := m) T_275_146 rfl ?_
                          refine x_ic T_275_148 ?_
                          refine x_ib (w := (and32 m 64)) T_275_150 (fun h => absurd h.1 (by decide)) rfl ?_
                          refine x_if T_275_151 (fun h151 => ?_) (fun h151 => ?_)
                          · replace h151 : (and32 m 64) = 0 := h151
                            refine x_ic T_275_158 ?_
                            exact kJ159 0 (if_neg (by omega)).symm
                          · replace h151 : ¬ ((and32 m 64) = 0) := h151
                            refine x_ic T_275_154 ?_
                            refine x_goto T_275_155 ?_
                            exact kJ159 1 (if_pos (by omega)).symm
                      · replace h130 : ¬ (¬ (and32 m (-81)) = 3) := h130
                        refine x_lr (z := some 2281) T_275_133 rfl ?_
                        refine x_li (z := s) T_275_134 rfl ?_
                        refine x_li (z := n) T_275_135 rfl ?_
                        refine x_li (z := u) T_275_136 rfl ?_
                        refine x_ic T_275_137 ?_
                        refine x_cv5 T_275_138 mN_248 mL_248 (Nat.le_of_ble_eq_true rfl) mO_248 (PM.t hP) (Nat.le_of_ble_eq_true rfl) (m_may hP (by omega)) ?_
                        rintro _ σ ⟨rfl, rfl⟩
                        refine cI ?_
                        refine x_if T_275_141 (fun h141 => ?_) (fun h141 => ?_)
                        · replace h141 : ¬ (qMv P s n u 1 = 0) := ite0_n h141
                          refine x_cut (C := ¬ and32 m 64 = 0) (J := 159) (ls1 := [some (vR (some 2281)), some (vI s), some (vI n), some (vI u), some (vI m), some (vI (and32 m (-81))), some (vI z20), some (vI z69), some (vI z93), none]) (sk := fun z => vI z :: []) (fun z159 hz159 => ?_) (fun kJ159 => ?_)
                          · refine x_si (ls1 := [some (vR (some 2281)), some (vI s), some (vI n), some (vI u), some (vI m), some (vI (and32 m (-81))), some (vI z20), some (vI z69), some (vI z93), some (vI z159)]) T_275_159 rfl ?_
                            refine x_li (z := z159) T_275_161 rfl ?_
                            refine x_if T_275_163 (fun h163 => ?_) (fun h163 => ?_)
                            · replace h163 : ¬ (¬ and32 m 64 = 0) := ite1_z (hz159.symm.trans h163)
                              refine x_ic T_275_195 ?_
                              refine x_ri T_275_196 ?_
                              refine ⟨?_, rfl⟩
                              unfold qOpn
                              (repeat' split) <;> first | rfl | omega
                            · replace h163 : (¬ and32 m 64 = 0) := ite1_n (fun e => h163 (hz159.trans e))
                              refine x_li (z := s) T_275_166 rfl ?_
                              refine x_ic T_275_167 ?_
                              refine x_ic2 T_275_168 (fun h168 => ?_) (fun h168 => ?_)
                              · replace h168 : s = 2 := h168
                                refine x_ic T_275_191 ?_
                                refine x_goto T_275_192 ?_
                                refine x_ri T_275_196 ?_
                                refine ⟨?_, rfl⟩
                                unfold qOpn
                                (repeat' split) <;> first | rfl | omega
                              · replace h168 : ¬ (s = 2) := h168
                                refine x_li (z := n) T_275_171 rfl ?_
                                refine x_if T_275_172 (fun h172 => ?_) (fun h172 => ?_)
                                · replace h172 : n = 0 := h172
                                  refine x_ic T_275_191 ?_
                                  refine x_goto T_275_192 ?_
                                  refine x_ri T_275_196 ?_
                                  refine ⟨?_, rfl⟩
                                  unfold qOpn
                                  (repeat' split) <;> first | rfl | omega
                                · replace h172 : ¬ (n = 0) := h172
                                  refine x_lr (z := some 2281) T_275_175 rfl ?_
                                  refine x_li (z := s) T_275_176 rfl ?_
                                  refine x_lr (z := some 2281) T_275_177 rfl ?_
                                  refine x_li (z := s) T_275_178 rfl ?_
                                  refine x_li (z := n) T_275_179 rfl ?_
                                  refine x_cv3 T_275_180 mN_246 mL_246 (Nat.le_of_ble_eq_true rfl) mO_246 (PM.t hP) (Nat.le_of_ble_eq_true rfl) (m_aboveOf hP (by omega)) ?_
                                  rintro _ σ ⟨rfl, rfl⟩
                                  refine cI ?_
                                  refine x_li (z := u) T_275_183 rfl ?_
                                  refine x_ic T_275_184 ?_
                                  refine x_cv5 T_275_185 mN_248 mL_248 (Nat.le_of_ble_eq_true rfl) mO_248 (PM.t hP) (Nat.le_of_ble_eq_true rfl) (m_may hP (by omega)) ?_
                                  rintro _ σ ⟨rfl, rfl⟩
                                  refine cI ?_
                                  refine x_if T_275_188 (fun h188 => ?_) (fun h188 => ?_)
                                  · replace h188 : ¬ (qMv P s (qUp P s n) u 2 = 0) := ite0_n h188
                                    refine x_ic T_275_195 ?_
                                    refine x_ri T_275_196 ?_
                                    refine ⟨?_, rfl⟩
                                    unfold qOpn
                                    (repeat' split) <;> first | rfl | omega
                                  · replace h188 : (qMv P s (qUp P s n) u 2 = 0) := ite0_z (Classical.not_not.mp h188)
                                    refine x_ic T_275_191 ?_
                                    refine x_goto T_275_192 ?_
                                    refine x_ri T_275_196 ?_
                                    refine ⟨?_, rfl⟩
                                    unfold qOpn
                                    (repeat' split) <;> first | rfl | omega
                          · refine x_li (z := m) T_275_146 rfl ?_
                            refine x_ic T_275_148 ?_
                            refine x_ib (w := (and32 m 64)) T_275_150 (fun h => absurd h.1 (by decide)) rfl ?_
                            refine x_if T_275_151 (fun h151 => ?_) (fun h151 => ?_)
                            · replace h151 : (and32 m 64) = 0 := h151
                              refine x_ic T_275_158 ?_
                              exact kJ159 0 (if_neg (by omega)).symm
                            · replace h151 : ¬ ((and32 m 64) = 0) := h151
                              refine x_ic T_275_154 ?_
                              refine x_goto T_275_155 ?_
                              exact kJ159 1 (if_pos (by omega)).symm
                        · replace h141 : (qMv P s n u 1 = 0) := ite0_z (Classical.not_not.mp h141)
                          refine x_ic T_275_144 ?_
                          refine x_ri T_275_145 ?_
                          refine ⟨?_, rfl⟩
                          unfold qOpn
                          (repeat' split) <;> first | rfl | omega
                    · replace h113 : (and32 m (-81) = 1 ∨ and32 m (-81) = 2 ∨ ¬ and32 m 16 = 0) := ite1_n (fun e => h113 (hz93.trans e))
                      refine x_lr (z := some 2281) T_275_116 rfl ?_
                      refine x_li (z := s) T_275_117 rfl ?_
                      refine x_li (z := n) T_275_118 rfl ?_
                      refine x_li (z := u) T_275_119 rfl ?_
                      refine x_ic T_275_120 ?_
                      refine x_cv5 T_275_121 mN_248 mL_248 (Nat.le_of_ble_eq_true rfl) mO_248 (PM.t hP) (Nat.le_of_ble_eq_true rfl) (m_may hP (by omega)) ?_
                      rintro _ σ ⟨rfl, rfl⟩
                      refine cI ?_
                      refine x_if T_275_124 (fun h124 => ?_) (fun h124 => ?_)
                      · replace h124 : (qMv P s n u 2 = 0) := ite0_z h124
                        refine x_ic T_275_144 ?_
                        refine x_ri T_275_145 ?_
                        refine ⟨?_, rfl⟩
                        unfold qOpn
                        (repeat' split) <;> first | rfl | omega
                      · replace h124 : ¬ (qMv P s n u 2 = 0) := ite0_n h124
                        refine x_li (z := (and32 m (-81))) T_275_127 rfl ?_
                        refine x_ic T_275_129 ?_
                        refine x_ic2 T_275_130 (fun h130 => ?_) (fun h130 => ?_)
                        · replace h130 : ¬ (and32 m (-81)) = 3 := h130
                          refine x_cut (C := ¬ and32 m 64 = 0) (J := 159) (ls1 := [some (vR (some 2281)), some (vI s), some (vI n), some (vI u), some (vI m), some (vI (and32 m (-81))), some (vI z20), some (vI z69), some (vI z93), none]) (sk := fun z => vI z :: []) (fun z159 hz159 => ?_) (fun kJ159 => ?_)
                          · refine x_si (ls1 := [some (vR (some 2281)), some (vI s), some (vI n), some (vI u), some (vI m), some (vI (and32 m (-81))), some (vI z20), some (vI z69), some (vI z93), some (vI z159)]) T_275_159 rfl ?_
                            refine x_li (z := z159) T_275_161 rfl ?_
                            refine x_if T_275_163 (fun h163 => ?_) (fun h163 => ?_)
                            · replace h163 : ¬ (¬ and32 m 64 = 0) := ite1_z (hz159.symm.trans h163)
                              refine x_ic T_275_195 ?_
                              refine x_ri T_275_196 ?_
                              refine ⟨?_, rfl⟩
                              unfold qOpn
                              (repeat' split) <;> first | rfl | omega
                            · replace h163 : (¬ and32 m 64 = 0) := ite1_n (fun e => h163 (hz159.trans e))
                              refine x_li (z := s) T_275_166 rfl ?_
                              refine x_ic T_275_167 ?_
                              refine x_ic2 T_275_168 (fun h168 => ?_) (fun h168 => ?_)
                              · replace h168 : s = 2 := h168
                                refine x_ic T_275_191 ?_
                                refine x_goto T_275_192 ?_
                                refine x_ri T_275_196 ?_
                                refine ⟨?_, rfl⟩
                                unfold qOpn
                                (repeat' split) <;> first | rfl | omega
                              · replace h168 : ¬ (s = 2) := h168
                                refine x_li (z := n) T_275_171 rfl ?_
                                refine x_if T_275_172 (fun h172 => ?_) (fun h172 => ?_)
                                · replace h172 : n = 0 := h172
                                  refine x_ic T_275_191 ?_
                                  refine x_goto T_275_192 ?_
                                  refine x_ri T_275_196 ?_
                                  refine ⟨?_, rfl⟩
                                  unfold qOpn
                                  (repeat' split) <;> first | rfl | omega
                                · replace h172 : ¬ (n = 0) := h172
                                  refine x_lr (z := some 2281) T_275_175 rfl ?_
                                  refine x_li (z := s) T_275_176 rfl ?_
                                  refine x_lr (z := some 2281) T_275_177 rfl ?_
                                  refine x_li (z := s) T_275_178 rfl ?_
                                  refine x_li (z := n) T_275_179 rfl ?_
                                  refine x_cv3 T_275_180 mN_246 mL_246 (Nat.le_of_ble_eq_true rfl) mO_246 (PM.t hP) (Nat.le_of_ble_eq_true rfl) (m_aboveOf hP (by omega)) ?_
                                  rintro _ σ ⟨rfl, rfl⟩
                                  refine cI ?_
                                  refine x_li (z := u) T_275_183 rfl ?_
                                  refine x_ic T_275_184 ?_
                                  refine x_cv5 T_275_185 mN_248 mL_248 (Nat.le_of_ble_eq_true rfl) mO_248 (PM.t hP) (Nat.le_of_ble_eq_true rfl) (m_may hP (by omega)) ?_
                                  rintro _ σ ⟨rfl, rfl⟩
                                  refine cI ?_
                                  refine x_if T_275_188 (fun h188 => ?_) (fun h188 => ?_)
                                  · replace h188 : ¬ (qMv P s (qUp P s n) u 2 = 0) := ite0_n h188
                                    refine x_ic T_275_195 ?_
                                    refine x_ri T_275_196 ?_
                                    refine ⟨?_, rfl⟩
                                    unfold qOpn
                                    (repeat' split) <;> first | rfl | omega
                                  · replace h188 : (qMv P s (qUp P s n) u 2 = 0) := ite0_z (Classical.not_not.mp h188)
                                    refine x_ic T_275_191 ?_
                                    refine x_goto T_275_192 ?_
                                    refine x_ri T_275_196 ?_
                                    refine ⟨?_, rfl⟩
                                    unfold qOpn
                                    (repeat' split) <;> first | rfl | omega
                          · refine x_li (z := m) T_275_146 rfl ?_
                            refine x_ic T_275_148 ?_
                            refine x_ib (w := (and32 m 64)) T_275_150 (fun h => absurd h.1 (by decide)) rfl ?_
                            refine x_if T_275_151 (fun h151 => ?_) (fun h151 => ?_)
                            · replace h151 : (and32 m 64) = 0 := h151
                              refine x_ic T_275_158 ?_
                              exact kJ159 0 (if_neg (by omega)).symm
                            · replace h151 : ¬ ((and32 m 64) = 0) := h151
                              refine x_ic T_275_154 ?_
                              refine x_goto T_275_155 ?_
                              exact kJ159 1 (if_pos (by omega)).symm
                        · replace h130 : ¬ (¬ (and32 m (-81)) = 3) := h130
                          refine x_lr (z := some 2281) T_275_133 rfl ?_
                          refine x_li (z := s) T_275_134 rfl ?_
                          refine x_li (z := n) T_275_135 rfl ?_
                          refine x_li (z := u) T_275_136 rfl ?_
                          refine x_ic T_275_137 ?_
                          refine x_cv5 T_275_138 mN_248 mL_248 (Nat.le_of_ble_eq_true rfl) mO_248 (PM.t hP) (Nat.le_of_ble_eq_true rfl) (m_may hP (by omega)) ?_
                          rintro _ σ ⟨rfl, rfl⟩
                          refine cI ?_
                          refine x_if T_275_141 (fun h141 => ?_) (fun h141 => ?_)
                          · replace h141 : ¬ (qMv P s n u 1 = 0) := ite0_n h141
                            refine x_cut (C := ¬ and32 m 64 = 0) (J := 159) (ls1 := [some (vR (some 2281)), some (vI s), some (vI n), some (vI u), some (vI m), some (vI (and32 m (-81))), some (vI z20), some (vI z69), some (vI z93), none]) (sk := fun z => vI z :: []) (fun z159 hz159 => ?_) (fun kJ159 => ?_)
                            · refine x_si (ls1 := [some (vR (some 2281)), some (vI s), some (vI n), some (vI u), some (vI m), some (vI (and32 m (-81))), some (vI z20), some (vI z69), some (vI z93), some (vI z159)]) T_275_159 rfl ?_
                              refine x_li (z := z159) T_275_161 rfl ?_
                              refine x_if T_275_163 (fun h163 => ?_) (fun h163 => ?_)
                              · replace h163 : ¬ (¬ and32 m 64 = 0) := ite1_z (hz159.symm.trans h163)
                                refine x_ic T_275_195 ?_
                                refine x_ri T_275_196 ?_
                                refine ⟨?_, rfl⟩
                                unfold qOpn
                                (repeat' split) <;> first | rfl | omega
                              · replace h163 : (¬ and32 m 64 = 0) := ite1_n (fun e => h163 (hz159.trans e))
                                refine x_li (z := s) T_275_166 rfl ?_
                                refine x_ic T_275_167 ?_
                                refine x_ic2 T_275_168 (fun h168 => ?_) (fun h168 => ?_)
                                · replace h168 : s = 2 := h168
                                  refine x_ic T_275_191 ?_
                                  refine x_goto T_275_192 ?_
                                  refine x_ri T_275_196 ?_
                                  refine ⟨?_, rfl⟩
                                  unfold qOpn
                                  (repeat' split) <;> first | rfl | omega
                                · replace h168 : ¬ (s = 2) := h168
                                  refine x_li (z := n) T_275_171 rfl ?_
                                  refine x_if T_275_172 (fun h172 => ?_) (fun h172 => ?_)
                                  · replace h172 : n = 0 := h172
                                    refine x_ic T_275_191 ?_
                                    refine x_goto T_275_192 ?_
                                    refine x_ri T_275_196 ?_
                                    refine ⟨?_, rfl⟩
                                    unfold qOpn
                                    (repeat' split) <;> first | rfl | omega
                                  · replace h172 : ¬ (n = 0) := h172
                                    refine x_lr (z := some 2281) T_275_175 rfl ?_
                                    refine x_li (z := s) T_275_176 rfl ?_
                                    refine x_lr (z := some 2281) T_275_177 rfl ?_
                                    refine x_li (z := s) T_275_178 rfl ?_
                                    refine x_li (z := n) T_275_179 rfl ?_
                                    refine x_cv3 T_275_180 mN_246 mL_246 (Nat.le_of_ble_eq_true rfl) mO_246 (PM.t hP) (Nat.le_of_ble_eq_true rfl) (m_aboveOf hP (by omega)) ?_
                                    rintro _ σ ⟨rfl, rfl⟩
                                    refine cI ?_
                                    refine x_li (z := u) T_275_183 rfl ?_
                                    refine x_ic T_275_184 ?_
                                    refine x_cv5 T_275_185 mN_248 mL_248 (Nat.le_of_ble_eq_true rfl) mO_248 (PM.t hP) (Nat.le_of_ble_eq_true rfl) (m_may hP (by omega)) ?_
                                    rintro _ σ ⟨rfl, rfl⟩
                                    refine cI ?_
                                    refine x_if T_275_188 (fun h188 => ?_) (fun h188 => ?_)
                                    · replace h188 : ¬ (qMv P s (qUp P s n) u 2 = 0) := ite0_n h188
                                      refine x_ic T_275_195 ?_
                                      refine x_ri T_275_196 ?_
                                      refine ⟨?_, rfl⟩
                                      unfold qOpn
                                      (repeat' split) <;> first | rfl | omega
                                    · replace h188 : (qMv P s (qUp P s n) u 2 = 0) := ite0_z (Classical.not_not.mp h188)
                                      refine x_ic T_275_191 ?_
                                      refine x_goto T_275_192 ?_
                                      refine x_ri T_275_196 ?_
                                      refine ⟨?_, rfl⟩
                                      unfold qOpn
                                      (repeat' split) <;> first | rfl | omega
                            · refine x_li (z := m) T_275_146 rfl ?_
                              refine x_ic T_275_148 ?_
                              refine x_ib (w := (and32 m 64)) T_275_150 (fun h => absurd h.1 (by decide)) rfl ?_
                              refine x_if T_275_151 (fun h151 => ?_) (fun h151 => ?_)
                              · replace h151 : (and32 m 64) = 0 := h151
                                refine x_ic T_275_158 ?_
                                exact kJ159 0 (if_neg (by omega)).symm
                              · replace h151 : ¬ ((and32 m 64) = 0) := h151
                                refine x_ic T_275_154 ?_
                                refine x_goto T_275_155 ?_
                                exact kJ159 1 (if_pos (by omega)).symm
                          · replace h141 : (qMv P s n u 1 = 0) := ite0_z (Classical.not_not.mp h141)
                            refine x_ic T_275_144 ?_
                            refine x_ri T_275_145 ?_
                            refine ⟨?_, rfl⟩
                            unfold qOpn
                            (repeat' split) <;> first | rfl | omega
              · refine x_li (z := (and32 m (-81))) T_275_71 rfl ?_
                refine x_ic T_275_73 ?_
                refine x_ic2 T_275_74 (fun h74 => ?_) (fun h74 => ?_)
                · replace h74 : (and32 m (-81)) = 1 := h74
                  refine x_ic T_275_88 ?_
                  refine x_goto T_275_89 ?_
                  exact kJ93 1 (if_pos (by omega)).symm
                · replace h74 : ¬ ((and32 m (-81)) = 1) := h74
                  refine x_li (z := (and32 m (-81))) T_275_77 rfl ?_
                  refine x_ic T_275_79 ?_
                  refine x_ic2 T_275_80 (fun h80 => ?_) (fun h80 => ?_)
                  · replace h80 : (and32 m (-81)) = 2 := h80
                    refine x_ic T_275_88 ?_
                    refine x_goto T_275_89 ?_
                    exact kJ93 1 (if_pos (by omega)).symm
                  · replace h80 : ¬ ((and32 m (-81)) = 2) := h80
                    refine x_li (z := z20) T_275_83 rfl ?_
                    refine x_if T_275_85 (fun h85 => ?_) (fun h85 => ?_)
                    · replace h85 : ¬ (¬ and32 m 16 = 0) := ite1_z (hz20.symm.trans h85)
                      refine x_ic T_275_92 ?_
                      exact kJ93 0 (if_neg (by omega)).symm
                    · replace h85 : (¬ and32 m 16 = 0) := ite1_n (fun e => h85 (hz20.trans e))
                      refine x_ic T_275_88 ?_
                      refine x_goto T_275_89 ?_
                      exact kJ93 1 (if_pos (by omega)).symm
            · refine x_li (z := (and32 m (-81))) T_275_53 rfl ?_
              refine x_if T_275_55 (fun h55 => ?_) (fun h55 => ?_)
              · replace h55 : (and32 m (-81)) = 0 := h55
                refine x_ic T_275_64 ?_
                refine x_goto T_275_65 ?_
                exact kJ69 1 (if_pos (by omega)).symm
              · replace h55 : ¬ ((and32 m (-81)) = 0) := h55
                refine x_li (z := (and32 m (-81))) T_275_58 rfl ?_
                refine x_ic T_275_60 ?_
                refine x_ic2 T_275_61 (fun h61 => ?_) (fun h61 => ?_)
                · replace h61 : ¬ (and32 m (-81)) = 2 := h61
                  refine x_ic T_275_68 ?_
                  exact kJ69 0 (if_neg (by omega)).symm
                · replace h61 : ¬ (¬ (and32 m (-81)) = 2) := h61
                  refine x_ic T_275_64 ?_
                  refine x_goto T_275_65 ?_
                  exact kJ69 1 (if_pos (by omega)).symm
          · replace h47 : (¬ and32 m 16 = 0) := ite1_n (fun e => h47 (hz20.trans e))
            refine x_ic T_275_50 ?_
            refine x_ri T_275_52 ?_
            refine ⟨?_, rfl⟩
            unfold qOpn
            (repeat' split) <;> first | rfl | omega
    · replace h25 : ¬ ((and32 m (-81)) ≤ 3) := h25
      refine x_ic T_275_28 ?_
      refine x_ri T_275_30 ?_
      refine ⟨?_, rfl⟩
      unfold qOpn
      (repeat' split) <;> first | rfl | omega
  · refine x_li (z := m) T_275_7 rfl ?_
    refine x_ic T_275_9 ?_
    refine x_ib (w := (and32 m 16)) T_275_11 (fun h => absurd h.1 (by decide)) rfl ?_
    refine x_if T_275_12 (fun h12 => ?_) (fun h12 => ?_)
    · replace h12 : (and32 m 16) = 0 := h12
      refine x_ic T_275_19 ?_
      exact kJ20 0 (if_neg (by omega)).symm
    · replace h12 : ¬ ((and32 m 16) = 0) := h12
      refine x_ic T_275_15 ?_
      refine x_goto T_275_16 ?_
      exact kJ20 1 (if_pos (by omega)).symm
end MSERVE
