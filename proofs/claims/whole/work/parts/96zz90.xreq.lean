/-! The class's kernel: its messages made. -/
theorem T_123_0 : hTab 123 0 = some ((3, 0, 2, []), 1) := rfl
theorem T_123_1 : hTab 123 1 = some ((3, 0, 2, []), 2) := rfl
theorem T_123_2 : hTab 123 2 = some ((3, 1, 0, []), 3) := rfl
theorem T_123_3 : hTab 123 3 = some ((31, 122, 0, []), 6) := rfl
theorem T_123_6 : hTab 123 6 = some ((31, 124, 0, []), 9) := rfl
theorem T_123_9 : hTab 123 9 = some ((25, 1, Int.ofNat 5, []), 12) := rfl
theorem T_123_12 : hTab 123 12 = some ((3, 0, 2, []), 13) := rfl
theorem T_123_13 : hTab 123 13 = some ((0, 0, 110, []), 15) := rfl
theorem T_123_15 : hTab 123 15 = some ((3, 2, 0, []), 16) := rfl
theorem T_123_16 : hTab 123 16 = some ((31, 125, 0, []), 19) := rfl
theorem T_123_19 : hTab 123 19 = some ((3, 0, 2, []), 20) := rfl
theorem T_123_20 : hTab 123 20 = some ((24, 1, Int.ofNat 8, []), 23) := rfl
theorem T_123_23 : hTab 123 23 = some ((3, 0, 2, []), 24) := rfl
theorem T_123_24 : hTab 123 24 = some ((24, 1, Int.ofNat 5, []), 27) := rfl
theorem T_123_27 : hTab 123 27 = some ((14, 0, 0, []), 28) := rfl
theorem T_123_28 : hTab 123 28 = some ((0, 0, 4, []), 29) := rfl
theorem T_123_29 : hTab 123 29 = some ((31, 22, 0, []), 32) := rfl
theorem T_123_32 : hTab 123 32 = some ((3, 0, 2, []), 33) := rfl
theorem T_123_33 : hTab 123 33 = some ((24, 1, Int.ofNat 8, []), 36) := rfl
theorem T_123_36 : hTab 123 36 = some ((3, 3, 0, []), 37) := rfl
theorem T_123_37 : hTab 123 37 = some ((0, 0, (-1), []), 38) := rfl
theorem T_123_38 : hTab 123 38 = some ((19, 1, Int.ofNat 45, []), 41) := rfl
theorem T_123_41 : hTab 123 41 = some ((1, 0, 0, []), 42) := rfl
theorem T_123_42 : hTab 123 42 = some ((22, 0, Int.ofNat 46, []), 45) := rfl
theorem T_123_45 : hTab 123 45 = some ((1, 0, 1, []), 46) := rfl
theorem T_123_46 : hTab 123 46 = some ((0, 0, 2, []), 47) := rfl
theorem T_123_47 : hTab 123 47 = some ((31, 22, 0, []), 50) := rfl
theorem T_123_50 : hTab 123 50 = some ((3, 3, 0, []), 51) := rfl
theorem T_123_51 : hTab 123 51 = some ((0, 0, (-1), []), 52) := rfl
theorem T_123_52 : hTab 123 52 = some ((19, 0, Int.ofNat 60, []), 55) := rfl
theorem T_123_55 : hTab 123 55 = some ((3, 0, 2, []), 56) := rfl
theorem T_123_56 : hTab 123 56 = some ((3, 3, 0, []), 57) := rfl
theorem T_123_57 : hTab 123 57 = some ((31, 126, 0, []), 60) := rfl
theorem T_123_60 : hTab 123 60 = some ((3, 0, 2, []), 61) := rfl
theorem T_123_61 : hTab 123 61 = some ((24, 1, Int.ofNat 8, []), 64) := rfl
theorem T_123_64 : hTab 123 64 = some ((31, 24, 0, []), 67) := rfl
theorem T_123_67 : hTab 123 67 = some ((3, 0, 2, []), 68) := rfl
theorem T_123_68 : hTab 123 68 = some ((24, 1, Int.ofNat 5, []), 71) := rfl
theorem T_123_71 : hTab 123 71 = some ((0, 0, (-1), []), 72) := rfl
theorem T_123_72 : hTab 123 72 = some ((19, 1, Int.ofNat 79, []), 75) := rfl
theorem T_123_75 : hTab 123 75 = some ((2, 0, 0, []), 76) := rfl
theorem T_123_76 : hTab 123 76 = some ((22, 0, Int.ofNat 83, []), 79) := rfl
theorem T_123_79 : hTab 123 79 = some ((3, 0, 2, []), 80) := rfl
theorem T_123_80 : hTab 123 80 = some ((24, 1, Int.ofNat 8, []), 83) := rfl
theorem T_123_83 : hTab 123 83 = some ((33, 4, 0, []), 84) := rfl
theorem T_125_0 : hTab 125 0 = some ((3, 0, 2, []), 1) := rfl
theorem T_125_1 : hTab 125 1 = some ((24, 1, Int.ofNat 8, []), 4) := rfl
theorem T_125_4 : hTab 125 4 = some ((3, 1, 0, []), 5) := rfl
theorem T_125_5 : hTab 125 5 = some ((1, 0, 1, []), 6) := rfl
theorem T_125_6 : hTab 125 6 = some ((31, 21, 0, []), 9) := rfl
theorem T_125_9 : hTab 125 9 = some ((3, 0, 2, []), 10) := rfl
theorem T_125_10 : hTab 125 10 = some ((24, 1, Int.ofNat 8, []), 13) := rfl
theorem T_125_13 : hTab 125 13 = some ((3, 2, 0, []), 14) := rfl
theorem T_125_14 : hTab 125 14 = some ((14, 0, 0, []), 15) := rfl
theorem T_125_15 : hTab 125 15 = some ((0, 0, 4, []), 16) := rfl
theorem T_125_16 : hTab 125 16 = some ((31, 22, 0, []), 19) := rfl
theorem T_125_19 : hTab 125 19 = some ((33, 0, 0, []), 20) := rfl
theorem T_126_0 : hTab 126 0 = some ((3, 1, 0, []), 1) := rfl
theorem T_126_1 : hTab 126 1 = some ((18, 2, Int.ofNat 67, []), 4) := rfl
theorem T_126_4 : hTab 126 4 = some ((3, 1, 0, []), 5) := rfl
theorem T_126_5 : hTab 126 5 = some ((3, 0, 2, []), 6) := rfl
theorem T_126_6 : hTab 126 6 = some ((24, 1, Int.ofNat 6, []), 9) := rfl
theorem T_126_9 : hTab 126 9 = some ((19, 3, Int.ofNat 67, []), 12) := rfl
theorem T_126_12 : hTab 126 12 = some ((3, 1, 0, []), 13) := rfl
theorem T_126_13 : hTab 126 13 = some ((3, 0, 2, []), 14) := rfl
theorem T_126_14 : hTab 126 14 = some ((24, 1, Int.ofNat 15, []), 17) := rfl
theorem T_126_17 : hTab 126 17 = some ((28, 0, 0, []), 18) := rfl
theorem T_126_18 : hTab 126 18 = some ((19, 3, Int.ofNat 67, []), 21) := rfl
theorem T_126_21 : hTab 126 21 = some ((3, 0, 2, []), 22) := rfl
theorem T_126_22 : hTab 126 22 = some ((24, 1, Int.ofNat 8, []), 25) := rfl
theorem T_126_25 : hTab 126 25 = some ((3, 0, 2, []), 26) := rfl
theorem T_126_26 : hTab 126 26 = some ((24, 1, Int.ofNat 16, []), 29) := rfl
theorem T_126_29 : hTab 126 29 = some ((3, 1, 0, []), 30) := rfl
theorem T_126_30 : hTab 126 30 = some ((26, 0, 0, []), 31) := rfl
theorem T_126_31 : hTab 126 31 = some ((3, 0, 2, []), 32) := rfl
theorem T_126_32 : hTab 126 32 = some ((24, 1, Int.ofNat 15, []), 35) := rfl
theorem T_126_35 : hTab 126 35 = some ((3, 1, 0, []), 36) := rfl
theorem T_126_36 : hTab 126 36 = some ((26, 0, 0, []), 37) := rfl
theorem T_126_37 : hTab 126 37 = some ((10, 1, 0, []), 38) := rfl
theorem T_126_38 : hTab 126 38 = some ((14, 0, 0, []), 39) := rfl
theorem T_126_39 : hTab 126 39 = some ((0, 0, 2, []), 40) := rfl
theorem T_126_40 : hTab 126 40 = some ((31, 22, 0, []), 43) := rfl
theorem T_126_43 : hTab 126 43 = some ((3, 0, 2, []), 44) := rfl
theorem T_126_44 : hTab 126 44 = some ((24, 1, Int.ofNat 8, []), 47) := rfl
theorem T_126_47 : hTab 126 47 = some ((3, 0, 2, []), 48) := rfl
theorem T_126_48 : hTab 126 48 = some ((24, 1, Int.ofNat 14, []), 51) := rfl
theorem T_126_51 : hTab 126 51 = some ((3, 0, 2, []), 52) := rfl
theorem T_126_52 : hTab 126 52 = some ((24, 1, Int.ofNat 15, []), 55) := rfl
theorem T_126_55 : hTab 126 55 = some ((3, 1, 0, []), 56) := rfl
theorem T_126_56 : hTab 126 56 = some ((26, 0, 0, []), 57) := rfl
theorem T_126_57 : hTab 126 57 = some ((3, 0, 2, []), 58) := rfl
theorem T_126_58 : hTab 126 58 = some ((24, 1, Int.ofNat 16, []), 61) := rfl
theorem T_126_61 : hTab 126 61 = some ((3, 1, 0, []), 62) := rfl
theorem T_126_62 : hTab 126 62 = some ((26, 0, 0, []), 63) := rfl
theorem T_126_63 : hTab 126 63 = some ((31, 32, 0, []), 66) := rfl
theorem T_126_66 : hTab 126 66 = some ((7, 0, 0, []), 67) := rfl
theorem T_126_67 : hTab 126 67 = some ((33, 0, 0, []), 68) := rfl
theorem T_127_0 : hTab 127 0 = some ((3, 0, 2, []), 1) := rfl
theorem T_127_1 : hTab 127 1 = some ((3, 0, 2, []), 2) := rfl
theorem T_127_2 : hTab 127 2 = some ((3, 1, 0, []), 3) := rfl
theorem T_127_3 : hTab 127 3 = some ((31, 122, 0, []), 6) := rfl
theorem T_127_6 : hTab 127 6 = some ((31, 124, 0, []), 9) := rfl
theorem T_127_9 : hTab 127 9 = some ((25, 1, Int.ofNat 5, []), 12) := rfl
theorem T_127_12 : hTab 127 12 = some ((3, 0, 2, []), 13) := rfl
theorem T_127_13 : hTab 127 13 = some ((0, 0, 104, []), 15) := rfl
theorem T_127_15 : hTab 127 15 = some ((3, 0, 2, []), 16) := rfl
theorem T_127_16 : hTab 127 16 = some ((24, 1, Int.ofNat 5, []), 19) := rfl
theorem T_127_19 : hTab 127 19 = some ((31, 125, 0, []), 22) := rfl
theorem T_127_22 : hTab 127 22 = some ((3, 0, 2, []), 23) := rfl
theorem T_127_23 : hTab 127 23 = some ((24, 1, Int.ofNat 8, []), 26) := rfl
theorem T_127_26 : hTab 127 26 = some ((1, 0, 4294967295, []), 29) := rfl
theorem T_127_29 : hTab 127 29 = some ((0, 0, 4, []), 30) := rfl
theorem T_127_30 : hTab 127 30 = some ((31, 22, 0, []), 33) := rfl
theorem T_127_33 : hTab 127 33 = some ((3, 0, 2, []), 34) := rfl
theorem T_127_34 : hTab 127 34 = some ((24, 1, Int.ofNat 8, []), 37) := rfl
theorem T_127_37 : hTab 127 37 = some ((1, 0, 3, []), 40) := rfl
theorem T_127_40 : hTab 127 40 = some ((0, 0, 2, []), 41) := rfl
theorem T_127_41 : hTab 127 41 = some ((31, 22, 0, []), 44) := rfl
theorem T_127_44 : hTab 127 44 = some ((3, 0, 2, []), 45) := rfl
theorem T_127_45 : hTab 127 45 = some ((24, 1, Int.ofNat 8, []), 48) := rfl
theorem T_127_48 : hTab 127 48 = some ((3, 2, 0, []), 49) := rfl
theorem T_127_49 : hTab 127 49 = some ((31, 72, 1, []), 52) := rfl
theorem T_127_52 : hTab 127 52 = some ((14, 0, 0, []), 53) := rfl
theorem T_127_53 : hTab 127 53 = some ((0, 0, 3, []), 54) := rfl
theorem T_127_54 : hTab 127 54 = some ((31, 22, 0, []), 57) := rfl
theorem T_127_57 : hTab 127 57 = some ((3, 0, 2, []), 58) := rfl
theorem T_127_58 : hTab 127 58 = some ((24, 1, Int.ofNat 8, []), 61) := rfl
theorem T_127_61 : hTab 127 61 = some ((1, 0, 0, []), 62) := rfl
theorem T_127_62 : hTab 127 62 = some ((0, 0, 2, []), 63) := rfl
theorem T_127_63 : hTab 127 63 = some ((31, 22, 0, []), 66) := rfl
theorem T_127_66 : hTab 127 66 = some ((3, 0, 2, []), 67) := rfl
theorem T_127_67 : hTab 127 67 = some ((24, 1, Int.ofNat 8, []), 70) := rfl
theorem T_127_70 : hTab 127 70 = some ((31, 24, 0, []), 73) := rfl
theorem T_127_73 : hTab 127 73 = some ((3, 0, 2, []), 74) := rfl
theorem T_127_74 : hTab 127 74 = some ((24, 1, Int.ofNat 5, []), 77) := rfl
theorem T_127_77 : hTab 127 77 = some ((0, 0, (-1), []), 78) := rfl
theorem T_127_78 : hTab 127 78 = some ((19, 1, Int.ofNat 85, []), 81) := rfl
theorem T_127_81 : hTab 127 81 = some ((2, 0, 0, []), 82) := rfl
theorem T_127_82 : hTab 127 82 = some ((22, 0, Int.ofNat 89, []), 85) := rfl
theorem T_127_85 : hTab 127 85 = some ((3, 0, 2, []), 86) := rfl
theorem T_127_86 : hTab 127 86 = some ((24, 1, Int.ofNat 8, []), 89) := rfl
theorem T_127_89 : hTab 127 89 = some ((33, 4, 0, []), 90) := rfl
theorem T_131_0 : hTab 131 0 = some ((3, 0, 2, []), 1) := rfl
theorem T_131_1 : hTab 131 1 = some ((3, 1, 0, []), 2) := rfl
theorem T_131_2 : hTab 131 2 = some ((3, 2, 0, []), 3) := rfl
theorem T_131_3 : hTab 131 3 = some ((31, 125, 0, []), 6) := rfl
theorem T_131_6 : hTab 131 6 = some ((3, 0, 2, []), 7) := rfl
theorem T_131_7 : hTab 131 7 = some ((24, 1, Int.ofNat 8, []), 10) := rfl
theorem T_131_10 : hTab 131 10 = some ((31, 24, 0, []), 13) := rfl
theorem T_131_13 : hTab 131 13 = some ((3, 0, 2, []), 14) := rfl
theorem T_131_14 : hTab 131 14 = some ((24, 1, Int.ofNat 8, []), 17) := rfl
theorem T_131_17 : hTab 131 17 = some ((33, 4, 0, []), 18) := rfl
theorem T_135_0 : hTab 135 0 = some ((3, 0, 2, []), 1) := rfl
theorem T_135_1 : hTab 135 1 = some ((0, 0, 112, []), 3) := rfl
theorem T_135_3 : hTab 135 3 = some ((3, 1, 0, []), 4) := rfl
theorem T_135_4 : hTab 135 4 = some ((31, 125, 0, []), 7) := rfl
theorem T_135_7 : hTab 135 7 = some ((3, 0, 2, []), 8) := rfl
theorem T_135_8 : hTab 135 8 = some ((24, 1, Int.ofNat 8, []), 11) := rfl
theorem T_135_11 : hTab 135 11 = some ((3, 2, 0, []), 12) := rfl
theorem T_135_12 : hTab 135 12 = some ((14, 0, 0, []), 13) := rfl
theorem T_135_13 : hTab 135 13 = some ((0, 0, 1, []), 14) := rfl
theorem T_135_14 : hTab 135 14 = some ((31, 22, 0, []), 17) := rfl
theorem T_135_17 : hTab 135 17 = some ((3, 0, 2, []), 18) := rfl
theorem T_135_18 : hTab 135 18 = some ((24, 1, Int.ofNat 8, []), 21) := rfl
theorem T_135_21 : hTab 135 21 = some ((31, 24, 0, []), 24) := rfl
theorem T_135_24 : hTab 135 24 = some ((3, 0, 2, []), 25) := rfl
theorem T_135_25 : hTab 135 25 = some ((24, 1, Int.ofNat 8, []), 28) := rfl
theorem T_135_28 : hTab 135 28 = some ((33, 4, 0, []), 29) := rfl
theorem T_137_0 : hTab 137 0 = some ((3, 0, 2, []), 1) := rfl
theorem T_137_1 : hTab 137 1 = some ((0, 0, 116, []), 3) := rfl
theorem T_137_3 : hTab 137 3 = some ((3, 1, 0, []), 4) := rfl
theorem T_137_4 : hTab 137 4 = some ((31, 125, 0, []), 7) := rfl
theorem T_137_7 : hTab 137 7 = some ((3, 0, 2, []), 8) := rfl
theorem T_137_8 : hTab 137 8 = some ((24, 1, Int.ofNat 8, []), 11) := rfl
theorem T_137_11 : hTab 137 11 = some ((3, 2, 1, []), 12) := rfl
theorem T_137_12 : hTab 137 12 = some ((0, 0, 8, []), 14) := rfl
theorem T_137_14 : hTab 137 14 = some ((31, 22, 0, []), 17) := rfl
theorem T_137_17 : hTab 137 17 = some ((3, 0, 2, []), 18) := rfl
theorem T_137_18 : hTab 137 18 = some ((24, 1, Int.ofNat 8, []), 21) := rfl
theorem T_137_21 : hTab 137 21 = some ((3, 4, 0, []), 23) := rfl
theorem T_137_23 : hTab 137 23 = some ((14, 0, 0, []), 24) := rfl
theorem T_137_24 : hTab 137 24 = some ((0, 0, 4, []), 25) := rfl
theorem T_137_25 : hTab 137 25 = some ((31, 22, 0, []), 28) := rfl
theorem T_137_28 : hTab 137 28 = some ((3, 0, 2, []), 29) := rfl
theorem T_137_29 : hTab 137 29 = some ((24, 1, Int.ofNat 8, []), 32) := rfl
theorem T_137_32 : hTab 137 32 = some ((31, 24, 0, []), 35) := rfl
theorem T_137_35 : hTab 137 35 = some ((3, 0, 2, []), 36) := rfl
theorem T_137_36 : hTab 137 36 = some ((24, 1, Int.ofNat 8, []), 39) := rfl
theorem T_137_39 : hTab 137 39 = some ((33, 4, 0, []), 40) := rfl
theorem T_145_0 : hTab 145 0 = some ((3, 0, 2, []), 1) := rfl
theorem T_145_1 : hTab 145 1 = some ((0, 0, 114, []), 3) := rfl
theorem T_145_3 : hTab 145 3 = some ((3, 1, 0, []), 4) := rfl
theorem T_145_4 : hTab 145 4 = some ((31, 125, 0, []), 7) := rfl
theorem T_145_7 : hTab 145 7 = some ((3, 0, 2, []), 8) := rfl
theorem T_145_8 : hTab 145 8 = some ((3, 0, 2, []), 9) := rfl
theorem T_145_9 : hTab 145 9 = some ((24, 1, Int.ofNat 6, []), 12) := rfl
theorem T_145_12 : hTab 145 12 = some ((0, 0, 1, []), 13) := rfl
theorem T_145_13 : hTab 145 13 = some ((10, 1, 0, []), 14) := rfl
theorem T_145_14 : hTab 145 14 = some ((31, 126, 0, []), 17) := rfl
theorem T_145_17 : hTab 145 17 = some ((3, 0, 2, []), 18) := rfl
theorem T_145_18 : hTab 145 18 = some ((24, 1, Int.ofNat 8, []), 21) := rfl
theorem T_145_21 : hTab 145 21 = some ((3, 2, 1, []), 22) := rfl
theorem T_145_22 : hTab 145 22 = some ((0, 0, 4, []), 23) := rfl
theorem T_145_23 : hTab 145 23 = some ((31, 22, 0, []), 26) := rfl
theorem T_145_26 : hTab 145 26 = some ((3, 0, 2, []), 27) := rfl
theorem T_145_27 : hTab 145 27 = some ((24, 1, Int.ofNat 8, []), 30) := rfl
theorem T_145_30 : hTab 145 30 = some ((3, 4, 0, []), 32) := rfl
theorem T_145_32 : hTab 145 32 = some ((14, 0, 0, []), 33) := rfl
theorem T_145_33 : hTab 145 33 = some ((0, 0, 1, []), 34) := rfl
theorem T_145_34 : hTab 145 34 = some ((31, 22, 0, []), 37) := rfl
theorem T_145_37 : hTab 145 37 = some ((3, 0, 2, []), 38) := rfl
theorem T_145_38 : hTab 145 38 = some ((24, 1, Int.ofNat 8, []), 41) := rfl
theorem T_145_41 : hTab 145 41 = some ((31, 24, 0, []), 44) := rfl
theorem T_145_44 : hTab 145 44 = some ((3, 0, 2, []), 45) := rfl
theorem T_145_45 : hTab 145 45 = some ((24, 1, Int.ofNat 8, []), 48) := rfl
theorem T_145_48 : hTab 145 48 = some ((33, 4, 0, []), 49) := rfl
theorem T_146_0 : hTab 146 0 = some ((3, 0, 2, []), 1) := rfl
theorem T_146_1 : hTab 146 1 = some ((0, 0, 118, []), 3) := rfl
theorem T_146_3 : hTab 146 3 = some ((3, 1, 0, []), 4) := rfl
theorem T_146_4 : hTab 146 4 = some ((31, 125, 0, []), 7) := rfl
theorem T_146_7 : hTab 146 7 = some ((3, 0, 2, []), 8) := rfl
theorem T_146_8 : hTab 146 8 = some ((24, 1, Int.ofNat 8, []), 11) := rfl
theorem T_146_11 : hTab 146 11 = some ((3, 2, 1, []), 12) := rfl
theorem T_146_12 : hTab 146 12 = some ((0, 0, 8, []), 14) := rfl
theorem T_146_14 : hTab 146 14 = some ((31, 22, 0, []), 17) := rfl
theorem T_146_17 : hTab 146 17 = some ((3, 0, 2, []), 18) := rfl
theorem T_146_18 : hTab 146 18 = some ((24, 1, Int.ofNat 8, []), 21) := rfl
theorem T_146_21 : hTab 146 21 = some ((3, 6, 0, []), 23) := rfl
theorem T_146_23 : hTab 146 23 = some ((3, 5, 0, []), 25) := rfl
theorem T_146_25 : hTab 146 25 = some ((10, 1, 0, []), 26) := rfl
theorem T_146_26 : hTab 146 26 = some ((14, 0, 0, []), 27) := rfl
theorem T_146_27 : hTab 146 27 = some ((0, 0, 4, []), 28) := rfl
theorem T_146_28 : hTab 146 28 = some ((31, 22, 0, []), 31) := rfl
theorem T_146_31 : hTab 146 31 = some ((3, 0, 2, []), 32) := rfl
theorem T_146_32 : hTab 146 32 = some ((24, 1, Int.ofNat 8, []), 35) := rfl
theorem T_146_35 : hTab 146 35 = some ((3, 4, 2, []), 37) := rfl
theorem T_146_37 : hTab 146 37 = some ((3, 5, 0, []), 39) := rfl
theorem T_146_39 : hTab 146 39 = some ((3, 6, 0, []), 41) := rfl
theorem T_146_41 : hTab 146 41 = some ((31, 32, 0, []), 44) := rfl
theorem T_146_44 : hTab 146 44 = some ((7, 0, 0, []), 45) := rfl
theorem T_146_45 : hTab 146 45 = some ((3, 0, 2, []), 46) := rfl
theorem T_146_46 : hTab 146 46 = some ((24, 1, Int.ofNat 8, []), 49) := rfl
theorem T_146_49 : hTab 146 49 = some ((31, 24, 0, []), 52) := rfl
theorem T_146_52 : hTab 146 52 = some ((3, 0, 2, []), 53) := rfl
theorem T_146_53 : hTab 146 53 = some ((24, 1, Int.ofNat 8, []), 56) := rfl
theorem T_146_56 : hTab 146 56 = some ((33, 4, 0, []), 57) := rfl
theorem T_158_0 : hTab 158 0 = some ((0, 0, 49, []), 2) := rfl
theorem T_158_2 : hTab 158 2 = some ((3, 8, 0, []), 4) := rfl
theorem T_158_4 : hTab 158 4 = some ((10, 0, 0, []), 5) := rfl
theorem T_158_5 : hTab 158 5 = some ((3, 7, 0, []), 7) := rfl
theorem T_158_7 : hTab 158 7 = some ((10, 1, 0, []), 8) := rfl
theorem T_158_8 : hTab 158 8 = some ((4, 9, 0, []), 10) := rfl
theorem T_158_10 : hTab 158 10 = some ((3, 0, 2, []), 11) := rfl
theorem T_158_11 : hTab 158 11 = some ((0, 0, 126, []), 13) := rfl
theorem T_158_13 : hTab 158 13 = some ((3, 1, 0, []), 14) := rfl
theorem T_158_14 : hTab 158 14 = some ((31, 125, 0, []), 17) := rfl
theorem T_158_17 : hTab 158 17 = some ((3, 0, 2, []), 18) := rfl
theorem T_158_18 : hTab 158 18 = some ((24, 1, Int.ofNat 8, []), 21) := rfl
theorem T_158_21 : hTab 158 21 = some ((3, 9, 0, []), 23) := rfl
theorem T_158_23 : hTab 158 23 = some ((14, 0, 0, []), 24) := rfl
theorem T_158_24 : hTab 158 24 = some ((0, 0, 2, []), 25) := rfl
theorem T_158_25 : hTab 158 25 = some ((31, 22, 0, []), 28) := rfl
theorem T_158_28 : hTab 158 28 = some ((3, 0, 2, []), 29) := rfl
theorem T_158_29 : hTab 158 29 = some ((24, 1, Int.ofNat 8, []), 32) := rfl
theorem T_158_32 : hTab 158 32 = some ((3, 9, 0, []), 34) := rfl
theorem T_158_34 : hTab 158 34 = some ((0, 0, 2, []), 35) := rfl
theorem T_158_35 : hTab 158 35 = some ((10, 1, 0, []), 36) := rfl
theorem T_158_36 : hTab 158 36 = some ((14, 0, 0, []), 37) := rfl
theorem T_158_37 : hTab 158 37 = some ((0, 0, 2, []), 38) := rfl
theorem T_158_38 : hTab 158 38 = some ((31, 22, 0, []), 41) := rfl
theorem T_158_41 : hTab 158 41 = some ((3, 0, 2, []), 42) := rfl
theorem T_158_42 : hTab 158 42 = some ((24, 1, Int.ofNat 8, []), 45) := rfl
theorem T_158_45 : hTab 158 45 = some ((1, 0, (-1), []), 48) := rfl
theorem T_158_48 : hTab 158 48 = some ((0, 0, 6, []), 50) := rfl
theorem T_158_50 : hTab 158 50 = some ((31, 22, 0, []), 53) := rfl
theorem T_158_53 : hTab 158 53 = some ((3, 0, 2, []), 54) := rfl
theorem T_158_54 : hTab 158 54 = some ((24, 1, Int.ofNat 8, []), 57) := rfl
theorem T_158_57 : hTab 158 57 = some ((1, 0, (-1), []), 60) := rfl
theorem T_158_60 : hTab 158 60 = some ((0, 0, 8, []), 62) := rfl
theorem T_158_62 : hTab 158 62 = some ((31, 22, 0, []), 65) := rfl
theorem T_158_65 : hTab 158 65 = some ((3, 0, 2, []), 66) := rfl
theorem T_158_66 : hTab 158 66 = some ((24, 1, Int.ofNat 8, []), 69) := rfl
theorem T_158_69 : hTab 158 69 = some ((1, 0, (-1), []), 72) := rfl
theorem T_158_72 : hTab 158 72 = some ((0, 0, 5, []), 73) := rfl
theorem T_158_73 : hTab 158 73 = some ((31, 22, 0, []), 76) := rfl
theorem T_158_76 : hTab 158 76 = some ((3, 0, 2, []), 77) := rfl
theorem T_158_77 : hTab 158 77 = some ((24, 1, Int.ofNat 8, []), 80) := rfl
theorem T_158_80 : hTab 158 80 = some ((3, 2, 1, []), 81) := rfl
theorem T_158_81 : hTab 158 81 = some ((0, 0, 4, []), 82) := rfl
theorem T_158_82 : hTab 158 82 = some ((31, 22, 0, []), 85) := rfl
theorem T_158_85 : hTab 158 85 = some ((3, 0, 2, []), 86) := rfl
theorem T_158_86 : hTab 158 86 = some ((24, 1, Int.ofNat 8, []), 89) := rfl
theorem T_158_89 : hTab 158 89 = some ((1, 0, (-1), []), 92) := rfl
theorem T_158_92 : hTab 158 92 = some ((0, 0, 8, []), 94) := rfl
theorem T_158_94 : hTab 158 94 = some ((31, 22, 0, []), 97) := rfl
theorem T_158_97 : hTab 158 97 = some ((3, 0, 2, []), 98) := rfl
theorem T_158_98 : hTab 158 98 = some ((24, 1, Int.ofNat 8, []), 101) := rfl
theorem T_158_101 : hTab 158 101 = some ((3, 4, 1, []), 103) := rfl
theorem T_158_103 : hTab 158 103 = some ((0, 0, 8, []), 105) := rfl
theorem T_158_105 : hTab 158 105 = some ((31, 22, 0, []), 108) := rfl
theorem T_158_108 : hTab 158 108 = some ((3, 0, 2, []), 109) := rfl
theorem T_158_109 : hTab 158 109 = some ((24, 1, Int.ofNat 8, []), 112) := rfl
theorem T_158_112 : hTab 158 112 = some ((3, 8, 0, []), 114) := rfl
theorem T_158_114 : hTab 158 114 = some ((3, 7, 0, []), 116) := rfl
theorem T_158_116 : hTab 158 116 = some ((10, 1, 0, []), 117) := rfl
theorem T_158_117 : hTab 158 117 = some ((14, 0, 0, []), 118) := rfl
theorem T_158_118 : hTab 158 118 = some ((0, 0, 2, []), 119) := rfl
theorem T_158_119 : hTab 158 119 = some ((31, 22, 0, []), 122) := rfl
theorem T_158_122 : hTab 158 122 = some ((3, 0, 2, []), 123) := rfl
theorem T_158_123 : hTab 158 123 = some ((24, 1, Int.ofNat 8, []), 126) := rfl
theorem T_158_126 : hTab 158 126 = some ((3, 6, 2, []), 128) := rfl
theorem T_158_128 : hTab 158 128 = some ((3, 7, 0, []), 130) := rfl
theorem T_158_130 : hTab 158 130 = some ((3, 8, 0, []), 132) := rfl
theorem T_158_132 : hTab 158 132 = some ((31, 32, 0, []), 135) := rfl
theorem T_158_135 : hTab 158 135 = some ((7, 0, 0, []), 136) := rfl
theorem T_158_136 : hTab 158 136 = some ((3, 0, 2, []), 137) := rfl
theorem T_158_137 : hTab 158 137 = some ((24, 1, Int.ofNat 8, []), 140) := rfl
theorem T_158_140 : hTab 158 140 = some ((1, 0, 0, []), 141) := rfl
theorem T_158_141 : hTab 158 141 = some ((0, 0, 6, []), 143) := rfl
theorem T_158_143 : hTab 158 143 = some ((31, 22, 0, []), 146) := rfl
theorem T_158_146 : hTab 158 146 = some ((3, 0, 2, []), 147) := rfl
theorem T_158_147 : hTab 158 147 = some ((24, 1, Int.ofNat 8, []), 150) := rfl
theorem T_158_150 : hTab 158 150 = some ((31, 24, 0, []), 153) := rfl
theorem T_158_153 : hTab 158 153 = some ((3, 0, 2, []), 154) := rfl
theorem T_158_154 : hTab 158 154 = some ((24, 1, Int.ofNat 8, []), 157) := rfl
theorem T_158_157 : hTab 158 157 = some ((33, 4, 0, []), 158) := rfl
theorem F_1_5 : (hFd 1 5).2.2.1 = 0 := rfl
theorem F_1_6 : (hFd 1 6).2.2.1 = 0 := rfl
theorem F_1_8 : (hFd 1 8).2.2.1 = 4 := rfl
theorem F_1_14 : (hFd 1 14).2.2.1 = 4 := rfl
theorem F_1_15 : (hFd 1 15).2.2.1 = 4 := rfl
theorem F_1_16 : (hFd 1 16).2.2.1 = 4 := rfl
theorem mN_123 : hmN 123 = 4 := by decide +kernel
theorem mL_123 : hmL 123 = 4 := by decide +kernel
theorem mK_123 : hmK 123 = 1 := by decide +kernel
theorem mO_123 : hmO 123 = 1 := by decide +kernel
theorem mN_125 : hmN 125 = 3 := by decide +kernel
theorem mL_125 : hmL 125 = 3 := by decide +kernel
theorem mK_125 : hmK 125 = 1 := by decide +kernel
theorem mO_125 : hmO 125 = 1 := by decide +kernel
theorem mN_126 : hmN 126 = 2 := by decide +kernel
theorem mL_126 : hmL 126 = 2 := by decide +kernel
theorem mK_126 : hmK 126 = 1 := by decide +kernel
theorem mO_126 : hmO 126 = 1 := by decide +kernel
theorem mN_127 : hmN 127 = 3 := by decide +kernel
theorem mL_127 : hmL 127 = 3 := by decide +kernel
theorem mK_127 : hmK 127 = 1 := by decide +kernel
theorem mO_127 : hmO 127 = 1 := by decide +kernel
theorem mN_131 : hmN 131 = 3 := by decide +kernel
theorem mL_131 : hmL 131 = 3 := by decide +kernel
theorem mK_131 : hmK 131 = 1 := by decide +kernel
theorem mO_131 : hmO 131 = 1 := by decide +kernel
theorem mN_135 : hmN 135 = 3 := by decide +kernel
theorem mL_135 : hmL 135 = 3 := by decide +kernel
theorem mK_135 : hmK 135 = 1 := by decide +kernel
theorem mO_135 : hmO 135 = 1 := by decide +kernel
theorem mN_137 : hmN 137 = 4 := by decide +kernel
theorem mL_137 : hmL 137 = 5 := by decide +kernel
theorem mK_137 : hmK 137 = 1 := by decide +kernel
theorem mO_137 : hmO 137 = 1 := by decide +kernel
theorem mN_145 : hmN 145 = 4 := by decide +kernel
theorem mL_145 : hmL 145 = 5 := by decide +kernel
theorem mK_145 : hmK 145 = 1 := by decide +kernel
theorem mO_145 : hmO 145 = 1 := by decide +kernel
theorem mN_146 : hmN 146 = 6 := by decide +kernel
theorem mL_146 : hmL 146 = 7 := by decide +kernel
theorem mK_146 : hmK 146 = 1 := by decide +kernel
theorem mO_146 : hmO 146 = 1 := by decide +kernel
theorem mN_158 : hmN 158 = 7 := by decide +kernel
theorem mL_158 : hmL 158 = 10 := by decide +kernel
theorem mK_158 : hmK 158 = 1 := by decide +kernel
theorem mO_158 : hmO 158 = 1 := by decide +kernel
/-- what the making of a message leaves -/
def FR1 (W W2 : qR) : Prop := ∀ (x : Nat) (k : Int), ¬ (x = 138 ∧ k = 2065) → ¬ (x = 139 ∧ k < 2000) → ¬ (x = 129 ∧ k = 2037) → W2 x k = W x k
/-- a message's bytes, its size ahead of them -/
def mFr (m : List Int) : List Int := leb 4 (4 + (m.length : Int)) ++ m
abbrev XRQ (σ0 : hM) (W : qR) (R : rR) (m : List Int) : Option AV → hM → Prop := fun r σ' => r = some (vR (some 138)) ∧ ∃ W2, PX σ0 W2 R σ' ∧ BY W2 138 300 (mFr m) ∧ FR1 W W2
/-- .. with a new fid, or none -/
abbrev XRN (σ0 : hM) (W : qR) (R : rR) (g : Int) (m : List Int) : Option AV → hM → Prop := fun r σ' => r = some (vR (if g < 0 then none else some 138)) ∧ ∃ W2, PX σ0 W2 R σ' ∧ BY W2 138 300 (mFr m) ∧ FR1 W W2 ∧ W2 129 2037 = g
section XREQ
variable {fb : Bool} {d S a b c q n0 : Nat} {σ0 σ : hM} {W W0 W1 W2 W3 P : qR} {R : rR} {i j k x z v s e w f g u y n p T U t md ln : Int} {l lo nm : List Int}
theorem SH138 : SH 138 300 := ⟨by decide, ⟨by decide, by decide⟩, by decide⟩
theorem FR1_rfl : FR1 W W := fun _ _ _ _ _ => rfl
theorem FR1_tr (h1 : FR1 W W1) (h2 : FR1 W1 W2) : FR1 W W2 := fun x k a b c => (h2 x k a b c).trans (h1 x k a b c)
theorem FR1_fb (h : FB 138 W W2) : FR1 W W2 := fun x k a b _ => h x k a b
theorem FR1_fr : FR1 W (rU W 129 2037 g) := fun x k _ _ c => if_neg c
theorem FR1.by {m : Nat} (h : FR1 W W2) (hB : BY W b m l) (hb : b ≠ 138) : BY W2 b m l := by
  obtain ⟨a1, a2, a3, a4, a5, a6, a7⟩ := hB
  have hbo := tX_o a1
  have h139 : b + 1 ≠ 139 := fun c => by omega
  refine ⟨a1, a2, a3, (h b 2065 (fun c => hb c.1) (fun c => absurd c.2 (by decide)) (fun c => absurd c.2 (by decide))).trans a4, a5, a6, fun i h0 h1 => ?_⟩
  rw [h (b + 1) i (fun c => by omega) (fun c => h139 c.1) (fun c => by omega)]
  exact a7 i h0 h1
theorem x_start0 (hP : PX σ0 W R σ) (hB : SH b n0) (hn : 7 ≤ n0) (hx : -2147483648 ≤ x ∧ x ≤ 2147483647) (hv : -9223372036854775808 ≤ v ∧ v ≤ 9223372036854775807) : CL fb (d + 1) 21 [vR (some b), vI x, vL v] σ (XB σ0 W R b n0 (leb 4 0 ++ (leb 1 x ++ leb 2 v)) none) := by
  have ho := hB.1
  have p1 := fun (σ : hM) (hP : PX σ0 (rU W b 2065 0) R σ) => x_put (fb := fb) (d := d) (k := 4) (v := 0) 4 hP hB.set0 rfl (by decide) (by decide) (by show 0 + 4 ≤ n0; omega)
  have p2 := fun (σ : hM) (W1 : qR) (hP : PX σ0 W1 R σ) (hB1 : BY W1 b n0 ([] ++ leb 4 0)) => x_put (fb := fb) (d := d) (k := 1) (v := x) 1 hP hB1 rfl (by decide) ⟨by omega, by omega⟩ (by rw [List.length_append, leb_len]; show 0 + 4 + 1 ≤ n0; omega)
  have p3 := fun (σ : hM) (W1 : qR) (hP : PX σ0 W1 R σ) (hB1 : BY W1 b n0 ([] ++ leb 4 0 ++ leb 1 x)) => x_put (fb := fb) (d := d) (k := 2) (v := v) 2 hP hB1 rfl (by decide) hv (by rw [List.length_append, List.length_append, leb_len, leb_len]; show 0 + 4 + 1 + 2 ≤ n0; omega)
  refine CL_in mL_21 rfl ?_
  show WP fb _ 21 0 [some (vR (some b)), some (vI x), some (vL v), none] [] σ _
  refine x_lr (z := some b) T_21_0 rfl ?_
  refine x_ic T_21_1 ?_
  refine z_pI hP T_21_2 F_2_1 ho (key := 2065) rfl (fun σ hP => ?_)
  refine x_lr (z := some b) T_21_5 rfl ?_
  refine x_lc T_21_6 ?_
  refine x_ic T_21_7 ?_
  refine x_cv3 T_21_8 mN_22 mL_22 (Nat.le_of_ble_eq_true rfl) mO_22 (hP.o ho) (Nat.le_of_ble_eq_true rfl) (p1 σ hP) ?_
  clear hP p1
  rintro _ σ ⟨rfl, W1, hP, hB1, hF1⟩
  refine cV ?_
  refine x_lr (z := some b) T_21_11 rfl ?_
  refine x_li (z := x) T_21_12 rfl ?_
  refine x_i2l T_21_13 ?_
  refine x_ic T_21_14 ?_
  refine x_cv3 T_21_15 mN_22 mL_22 (Nat.le_of_ble_eq_true rfl) mO_22 (hP.o ho) (Nat.le_of_ble_eq_true rfl) (p2 σ W1 hP hB1) ?_
  clear hP p2
  rintro _ σ ⟨rfl, W2, hP, hB2, hF2⟩
  refine cV ?_
  refine x_lr (z := some b) T_21_18 rfl ?_
  refine x_ll (z := v) T_21_19 rfl ?_
  refine x_ic T_21_20 ?_
  refine x_cv3 T_21_21 mN_22 mL_22 (Nat.le_of_ble_eq_true rfl) mO_22 (hP.o ho) (Nat.le_of_ble_eq_true rfl) (p3 σ W2 hP hB2) ?_
  clear hP p3
  rintro _ σ ⟨rfl, W3, hP, hB3, hF3⟩
  refine cV ?_
  refine x_rv T_21_24 ?_
  exact ⟨rfl, W3, hP, by rw [List.nil_append, List.append_assoc] at hB3; exact hB3, FB_tr FB_set (FB_tr hF1 (FB_tr hF2 hF3))⟩
theorem x_fin (hP : PX σ0 W R σ) (hB : BY W 138 300 l) (m : List Int) (hl : l = leb 4 0 ++ m) : CL fb (d + 1) 24 [vR (some 138)] σ (XB σ0 W R 138 300 (mFr m) none) := by
  have h := x_finish (fb := fb) (d := d) (z := 4 + (m.length : Int)) hP hB (by rw [hl, List.length_append, leb_len]; omega) (by omega)
  rw [hl, lay_size] at h
  exact h
theorem x_put8 (m : Nat) (hP : PX σ0 W R σ) (hB : BY W 138 300 l) (hm : (m : Int) = k) (hk : k ≤ 8) (hv : -9223372036854775808 ≤ v ∧ v ≤ 9223372036854775807) (hl : l.length + m ≤ 300) : CL fb d 22 [vR (some 138), vL v, vI k] σ (XB σ0 W R 138 300 (l ++ leb m v) none) := x_put m hP hB hm hk hv hl
/-- a message's head and the fid it is about -/
theorem x_kstart (hP : PX σ0 W R σ) (ht : 0 ≤ t ∧ t ≤ 255) (hf : -1 ≤ f ∧ f ≤ 2147483647) : CL fb (d + 2) 125 [vR (some 129), vI t, vI f] σ (XB σ0 W R 138 300 (leb 4 0 ++ (leb 1 t ++ leb 2 1) ++ leb 4 f) none) := by
  have h1 := x_start0 (fb := fb) (d := d) (x := t) (v := 1) hP SH138 (by decide) ⟨by omega, by omega⟩ (by decide)
  have h2 := fun (σ : hM) (W1 : qR) (hP : PX σ0 W1 R σ) (hB : BY W1 138 300 (leb 4 0 ++ (leb 1 t ++ leb 2 1))) => x_put8 (fb := fb) (d := d + 1) (k := 4) (v := f) 4 hP hB rfl (by decide) ⟨by omega, by omega⟩ (by simp only [List.length_append, leb_len]; omega)
  refine CL_in mL_125 rfl ?_
  show WP fb _ 125 0 [some (vR (some 129)), some (vI t), some (vI f)] [] σ _
  refine x_lr (z := some 129) T_125_0 rfl ?_
  refine x_gR (z := some 138) T_125_1 F_1_8 (hP.o xo_129) (hP.rc xo_129 rfl rfl) ?_
  refine x_li (z := t) T_125_4 rfl ?_
  refine x_lc T_125_5 ?_
  refine x_cv3 T_125_6 mN_21 mL_21 (Nat.le_of_ble_eq_true rfl) mO_21 (hP.o xo_138) (Nat.le_of_ble_eq_true rfl) (h1) ?_
  clear hP h1
  rintro _ σ ⟨rfl, W1, hP, hB1, hF1⟩
  refine cV ?_
  refine x_lr (z := some 129) T_125_9 rfl ?_
  refine x_gR (z := some 138) T_125_10 F_1_8 (hP.o xo_129) (hP.rc xo_129 rfl rfl) ?_
  refine x_li (z := f) T_125_13 rfl ?_
  refine x_i2l T_125_14 ?_
  refine x_ic T_125_15 ?_
  refine x_cv3 T_125_16 mN_22 mL_22 (Nat.le_of_ble_eq_true rfl) mO_22 (hP.o xo_138) (Nat.le_of_ble_eq_true rfl) (h2 σ W1 hP hB1) ?_
  clear hP h2
  rintro _ σ ⟨rfl, W2, hP, hB2, hF2⟩
  refine cV ?_
  refine x_rv T_125_19 ?_
  exact ⟨rfl, W2, hP, hB2, FB_tr hF1 hF2⟩
theorem usL_eq (hu : 0 ≤ u ∧ u ≤ 3) : leb 3 (hUN.getD u.toNat 0) = usL u := by
  have h : u = 0 ∨ u = 1 ∨ u = 2 ∨ u = 3 := by omega
  rcases h with rfl | rfl | rfl | rfl <;> decide +kernel
theorem x_about (hP : PX σ0 W R σ) (ht : 0 ≤ t ∧ t ≤ 255) (hf : -1 ≤ f ∧ f ≤ 2147483647) : CL fb (d + 3) 131 [vR (some 129), vI t, vI f] σ (XRQ σ0 W R (mOne t f)) := by
  have hk := fun (σ : hM) (W0 : qR) (hP : PX σ0 W0 R σ) => x_kstart (fb := fb) (d := d) (t := t) (f := f) hP (by omega) (by omega)
  have hf := fun (σ : hM) (V : qR) (hP : PX σ0 V R σ) (hB : BY V 138 300 (leb 4 0 ++ (leb 1 t ++ leb 2 1) ++ leb 4 f)) => x_fin (fb := fb) (d := d + 1) hP hB (mOne t f) (by unfold mOne; simp only [List.append_assoc])
  refine CL_in mL_131 rfl ?_
  show WP fb _ 131 0 [some (vR (some 129)), some (vI t), some (vI f)] [] σ _
  refine x_lr (z := some 129) T_131_0 rfl ?_
  refine x_li (z := t) T_131_1 rfl ?_
  refine x_li (z := f) T_131_2 rfl ?_
  refine x_cv3 T_131_3 mN_125 mL_125 (Nat.le_of_ble_eq_true rfl) mO_125 (hP.o xo_129) (Nat.le_of_ble_eq_true rfl) (hk σ _ hP) ?_
  clear hP hk
  rintro _ σ ⟨rfl, V0, hP, hB0, hF0⟩
  refine cV ?_
  refine x_lr (z := some 129) T_131_6 rfl ?_
  refine x_gR (z := some 138) T_131_7 F_1_8 (hP.o xo_129) (hP.rc xo_129 rfl rfl) ?_
  refine x_cv1 T_131_10 mN_24 mL_24 (Nat.le_of_ble_eq_true rfl) mO_24 (hP.o xo_138) (Nat.le_of_ble_eq_true rfl) (hf σ V0 hP hB0) ?_
  clear hP hf
  rintro _ σ ⟨rfl, V1, hP, hB1, hF1⟩
  refine cV ?_
  refine x_lr (z := some 129) T_131_13 rfl ?_
  refine x_gR (z := some 138) T_131_14 F_1_8 (hP.o xo_129) (hP.rc xo_129 rfl rfl) ?_
  refine x_rr T_131_17 ?_
  exact ⟨rfl, _, hP, hB1, FR1_tr (FR1_fb hF0) (FR1_fb hF1)⟩
theorem x_openingM (hP : PX σ0 W R σ) (hf : -1 ≤ f ∧ f ≤ 2147483647) (hm : 0 ≤ md ∧ md ≤ 255) : CL fb (d + 3) 135 [vR (some 129), vI f, vI md] σ (XRQ σ0 W R (mOpen f md)) := by
  have hk := fun (σ : hM) (W0 : qR) (hP : PX σ0 W0 R σ) => x_kstart (fb := fb) (d := d) (t := 112) (f := f) hP (by omega) (by omega)
  have h0 := fun (σ : hM) (V : qR) (hP : PX σ0 V R σ) (hB : BY V 138 300 (leb 4 0 ++ (leb 1 112 ++ leb 2 1) ++ leb 4 f)) => x_put8 (fb := fb) (d := d + 2) (k := 1) (v := md) 1 hP hB rfl (by decide) ⟨by omega, by omega⟩ (by simp only [List.length_append, leb_len]; omega)
  have hf := fun (σ : hM) (V : qR) (hP : PX σ0 V R σ) (hB : BY V 138 300 (leb 4 0 ++ (leb 1 112 ++ leb 2 1) ++ leb 4 f ++ leb 1 md)) => x_fin (fb := fb) (d := d + 1) hP hB (mOpen f md) (by unfold mOpen; simp only [List.append_assoc])
  refine CL_in mL_135 rfl ?_
  show WP fb _ 135 0 [some (vR (some 129)), some (vI f), some (vI md)] [] σ _
  refine x_lr (z := some 129) T_135_0 rfl ?_
  refine x_ic T_135_1 ?_
  refine x_li (z := f) T_135_3 rfl ?_
  refine x_cv3 T_135_4 mN_125 mL_125 (Nat.le_of_ble_eq_true rfl) mO_125 (hP.o xo_129) (Nat.le_of_ble_eq_true rfl) (hk σ _ hP) ?_
  clear hP hk
  rintro _ σ ⟨rfl, V0, hP, hB0, hF0⟩
  refine cV ?_
  refine x_lr (z := some 129) T_135_7 rfl ?_
  refine x_gR (z := some 138) T_135_8 F_1_8 (hP.o xo_129) (hP.rc xo_129 rfl rfl) ?_
  refine x_li (z := md) T_135_11 rfl ?_
  refine x_i2l T_135_12 ?_
  refine x_ic T_135_13 ?_
  refine x_cv3 T_135_14 mN_22 mL_22 (Nat.le_of_ble_eq_true rfl) mO_22 (hP.o xo_138) (Nat.le_of_ble_eq_true rfl) (h0 σ V0 hP hB0) ?_
  clear hP h0
  rintro _ σ ⟨rfl, V1, hP, hB1, hF1⟩
  refine cV ?_
  refine x_lr (z := some 129) T_135_17 rfl ?_
  refine x_gR (z := some 138) T_135_18 F_1_8 (hP.o xo_129) (hP.rc xo_129 rfl rfl) ?_
  refine x_cv1 T_135_21 mN_24 mL_24 (Nat.le_of_ble_eq_true rfl) mO_24 (hP.o xo_138) (Nat.le_of_ble_eq_true rfl) (hf σ V1 hP hB1) ?_
  clear hP hf
  rintro _ σ ⟨rfl, V2, hP, hB2, hF2⟩
  refine cV ?_
  refine x_lr (z := some 129) T_135_24 rfl ?_
  refine x_gR (z := some 138) T_135_25 F_1_8 (hP.o xo_129) (hP.rc xo_129 rfl rfl) ?_
  refine x_rr T_135_28 ?_
  exact ⟨rfl, _, hP, hB2, FR1_tr (FR1_tr (FR1_fb hF0) (FR1_fb hF1)) (FR1_fb hF2)⟩
theorem x_reading (hP : PX σ0 W R σ) (hf : -1 ≤ f ∧ f ≤ 2147483647) (hx : -9223372036854775808 ≤ x ∧ x ≤ 9223372036854775807) (hn : 0 ≤ n ∧ n ≤ 2147483647) : CL fb (d + 3) 137 [vR (some 129), vI f, vL x, vI n] σ (XRQ σ0 W R (mRead f x n)) := by
  have hk := fun (σ : hM) (W0 : qR) (hP : PX σ0 W0 R σ) => x_kstart (fb := fb) (d := d) (t := 116) (f := f) hP (by omega) (by omega)
  have h0 := fun (σ : hM) (V : qR) (hP : PX σ0 V R σ) (hB : BY V 138 300 (leb 4 0 ++ (leb 1 116 ++ leb 2 1) ++ leb 4 f)) => x_put8 (fb := fb) (d := d + 2) (k := 8) (v := x) 8 hP hB rfl (by decide) ⟨by omega, by omega⟩ (by simp only [List.length_append, leb_len]; omega)
  have h1 := fun (σ : hM) (V : qR) (hP : PX σ0 V R σ) (hB : BY V 138 300 (leb 4 0 ++ (leb 1 116 ++ leb 2 1) ++ leb 4 f ++ leb 8 x)) => x_put8 (fb := fb) (d := d + 2) (k := 4) (v := n) 4 hP hB rfl (by decide) ⟨by omega, by omega⟩ (by simp only [List.length_append, leb_len]; omega)
  have hf := fun (σ : hM) (V : qR) (hP : PX σ0 V R σ) (hB : BY V 138 300 (leb 4 0 ++ (leb 1 116 ++ leb 2 1) ++ leb 4 f ++ leb 8 x ++ leb 4 n)) => x_fin (fb := fb) (d := d + 1) hP hB (mRead f x n) (by unfold mRead; simp only [List.append_assoc])
  refine CL_in mL_137 rfl ?_
  show WP fb _ 137 0 [some (vR (some 129)), some (vI f), some (vL x), none, some (vI n)] [] σ _
  refine x_lr (z := some 129) T_137_0 rfl ?_
  refine x_ic T_137_1 ?_
  refine x_li (z := f) T_137_3 rfl ?_
  refine x_cv3 T_137_4 mN_125 mL_125 (Nat.le_of_ble_eq_true rfl) mO_125 (hP.o xo_129) (Nat.le_of_ble_eq_true rfl) (hk σ _ hP) ?_
  clear hP hk
  rintro _ σ ⟨rfl, V0, hP, hB0, hF0⟩
  refine cV ?_
  refine x_lr (z := some 129) T_137_7 rfl ?_
  refine x_gR (z := some 138) T_137_8 F_1_8 (hP.o xo_129) (hP.rc xo_129 rfl rfl) ?_
  refine x_ll (z := x) T_137_11 rfl ?_
  refine x_ic T_137_12 ?_
  refine x_cv3 T_137_14 mN_22 mL_22 (Nat.le_of_ble_eq_true rfl) mO_22 (hP.o xo_138) (Nat.le_of_ble_eq_true rfl) (h0 σ V0 hP hB0) ?_
  clear hP h0
  rintro _ σ ⟨rfl, V1, hP, hB1, hF1⟩
  refine cV ?_
  refine x_lr (z := some 129) T_137_17 rfl ?_
  refine x_gR (z := some 138) T_137_18 F_1_8 (hP.o xo_129) (hP.rc xo_129 rfl rfl) ?_
  refine x_li (z := n) T_137_21 rfl ?_
  refine x_i2l T_137_23 ?_
  refine x_ic T_137_24 ?_
  refine x_cv3 T_137_25 mN_22 mL_22 (Nat.le_of_ble_eq_true rfl) mO_22 (hP.o xo_138) (Nat.le_of_ble_eq_true rfl) (h1 σ V1 hP hB1) ?_
  clear hP h1
  rintro _ σ ⟨rfl, V2, hP, hB2, hF2⟩
  refine cV ?_
  refine x_lr (z := some 129) T_137_28 rfl ?_
  refine x_gR (z := some 138) T_137_29 F_1_8 (hP.o xo_129) (hP.rc xo_129 rfl rfl) ?_
  refine x_cv1 T_137_32 mN_24 mL_24 (Nat.le_of_ble_eq_true rfl) mO_24 (hP.o xo_138) (Nat.le_of_ble_eq_true rfl) (hf σ V2 hP hB2) ?_
  clear hP hf
  rintro _ σ ⟨rfl, V3, hP, hB3, hF3⟩
  refine cV ?_
  refine x_lr (z := some 129) T_137_35 rfl ?_
  refine x_gR (z := some 138) T_137_36 F_1_8 (hP.o xo_129) (hP.rc xo_129 rfl rfl) ?_
  refine x_rr T_137_39 ?_
  exact ⟨rfl, _, hP, hB3, FR1_tr (FR1_tr (FR1_tr (FR1_fb hF0) (FR1_fb hF1)) (FR1_fb hF2)) (FR1_fb hF3)⟩
theorem x_writing (hP : PX σ0 W R σ) (hf : -1 ≤ f ∧ f ≤ 2147483647) (hx : -9223372036854775808 ≤ x ∧ x ≤ 9223372036854775807) (hCB : BY W c q lo) (hcb : c ≠ 138) (hse : 0 ≤ s ∧ s ≤ e ∧ e ≤ lo.length) (hnm : seg (lg lo) s (e - s).toNat = nm) (hl2 : nm.length ≤ 200) : CL fb (d + 3) 146 [vR (some 129), vI f, vL x, vR (some c), vI s, vI e] σ (XRQ σ0 W R (mWr f x nm)) := by
  have hlo := hCB.2.2.1
  have hll := hCB.2.2.2.2.1
  have hnl : (nm.length : Int) = e - s := by rw [← hnm, seg_len]; omega
  have hk := fun (σ : hM) (W0 : qR) (hP : PX σ0 W0 R σ) => x_kstart (fb := fb) (d := d) (t := 118) (f := f) hP (by omega) (by omega)
  have h0 := fun (σ : hM) (V : qR) (hP : PX σ0 V R σ) (hB : BY V 138 300 (leb 4 0 ++ (leb 1 118 ++ leb 2 1) ++ leb 4 f)) => x_put8 (fb := fb) (d := d + 2) (k := 8) (v := x) 8 hP hB rfl (by decide) ⟨by omega, by omega⟩ (by simp only [List.length_append, leb_len]; omega)
  have h1 := fun (σ : hM) (V : qR) (hP : PX σ0 V R σ) (hB : BY V 138 300 (leb 4 0 ++ (leb 1 118 ++ leb 2 1) ++ leb 4 f ++ leb 8 x)) => x_put8 (fb := fb) (d := d + 2) (k := 4) (v := (e - s)) 4 hP hB rfl (by decide) ⟨by omega, by omega⟩ (by simp only [List.length_append, leb_len]; omega)
  have h2 := fun (σ : hM) (V : qR) (hP : PX σ0 V R σ) (hB : BY V 138 300 (leb 4 0 ++ (leb 1 118 ++ leb 2 1) ++ leb 4 f ++ leb 8 x ++ leb 4 ((e - s)))) (hC : BY V c q lo) => x_addAll (fb := fb) (d := d + 2) (s := s) (e := e) hP hB hC hcb (Or.inr (by omega)) (by omega)
  have e2 : (leb 4 0 ++ (leb 1 118 ++ leb 2 1) ++ leb 4 f ++ leb 8 x ++ leb 4 ((e - s)) ++ seg (lg lo) s (e - s).toNat).take 300 = leb 4 0 ++ (leb 1 118 ++ leb 2 1) ++ leb 4 f ++ leb 8 x ++ leb 4 ((e - s)) ++ nm := by
    rw [hnm]
    exact List.take_of_length_le (by simp only [List.length_append, leb_len]; omega)
  rw [e2] at h2
  obtain ⟨r2, hr2⟩ : ∃ q : Int, (if (leb 4 0 ++ (leb 1 118 ++ leb 2 1) ++ leb 4 f ++ leb 8 x ++ leb 4 ((e - s))).length + (e - s).toNat ≤ 300 then (1 : Int) else 0) = q := ⟨_, rfl⟩
  rw [hr2] at h2
  have hf := fun (σ : hM) (V : qR) (hP : PX σ0 V R σ) (hB : BY V 138 300 (leb 4 0 ++ (leb 1 118 ++ leb 2 1) ++ leb 4 f ++ leb 8 x ++ leb 4 ((e - s)) ++ nm)) => x_fin (fb := fb) (d := d + 1) hP hB (mWr f x nm) (by unfold mWr; rw [hnl]; simp only [List.append_assoc])
  refine CL_in mL_146 rfl ?_
  show WP fb _ 146 0 [some (vR (some 129)), some (vI f), some (vL x), none, some (vR (some c)), some (vI s), some (vI e)] [] σ _
  refine x_lr (z := some 129) T_146_0 rfl ?_
  refine x_ic T_146_1 ?_
  refine x_li (z := f) T_146_3 rfl ?_
  refine x_cv3 T_146_4 mN_125 mL_125 (Nat.le_of_ble_eq_true rfl) mO_125 (hP.o xo_129) (Nat.le_of_ble_eq_true rfl) (hk σ _ hP) ?_
  clear hP hk
  rintro _ σ ⟨rfl, V0, hP, hB0, hF0⟩
  refine cV ?_
  refine x_lr (z := some 129) T_146_7 rfl ?_
  refine x_gR (z := some 138) T_146_8 F_1_8 (hP.o xo_129) (hP.rc xo_129 rfl rfl) ?_
  refine x_ll (z := x) T_146_11 rfl ?_
  refine x_ic T_146_12 ?_
  refine x_cv3 T_146_14 mN_22 mL_22 (Nat.le_of_ble_eq_true rfl) mO_22 (hP.o xo_138) (Nat.le_of_ble_eq_true rfl) (h0 σ V0 hP hB0) ?_
  clear hP h0
  rintro _ σ ⟨rfl, V1, hP, hB1, hF1⟩
  refine cV ?_
  refine x_lr (z := some 129) T_146_17 rfl ?_
  refine x_gR (z := some 138) T_146_18 F_1_8 (hP.o xo_129) (hP.rc xo_129 rfl rfl) ?_
  refine x_li (z := e) T_146_21 rfl ?_
  refine x_li (z := s) T_146_23 rfl ?_
  refine x_ib (w := (e - s)) T_146_25 (fun h => absurd h.1 (by decide)) (w32_id (by omega) (by omega)) ?_
  refine x_i2l T_146_26 ?_
  refine x_ic T_146_27 ?_
  refine x_cv3 T_146_28 mN_22 mL_22 (Nat.le_of_ble_eq_true rfl) mO_22 (hP.o xo_138) (Nat.le_of_ble_eq_true rfl) (h1 σ V1 hP hB1) ?_
  clear hP h1
  rintro _ σ ⟨rfl, V2, hP, hB2, hF2⟩
  refine cV ?_
  refine x_lr (z := some 129) T_146_31 rfl ?_
  refine x_gR (z := some 138) T_146_32 F_1_8 (hP.o xo_129) (hP.rc xo_129 rfl rfl) ?_
  refine x_lr (z := some c) T_146_35 rfl ?_
  refine x_li (z := s) T_146_37 rfl ?_
  refine x_li (z := e) T_146_39 rfl ?_
  refine x_cv4 T_146_41 mN_32 mL_32 (Nat.le_of_ble_eq_true rfl) mO_32 (hP.o xo_138) (Nat.le_of_ble_eq_true rfl) (h2 σ V2 hP hB2 ((FR1_tr (FR1_tr (FR1_fb hF0) (FR1_fb hF1)) (FR1_fb hF2)).by hCB hcb)) ?_
  clear hP h2
  rintro _ σ ⟨rfl, V3, hP, hB3, hF3⟩
  refine cI ?_
  refine x_popI T_146_44 ?_
  refine x_lr (z := some 129) T_146_45 rfl ?_
  refine x_gR (z := some 138) T_146_46 F_1_8 (hP.o xo_129) (hP.rc xo_129 rfl rfl) ?_
  refine x_cv1 T_146_49 mN_24 mL_24 (Nat.le_of_ble_eq_true rfl) mO_24 (hP.o xo_138) (Nat.le_of_ble_eq_true rfl) (hf σ V3 hP hB3) ?_
  clear hP hf
  rintro _ σ ⟨rfl, V4, hP, hB4, hF4⟩
  refine cV ?_
  refine x_lr (z := some 129) T_146_52 rfl ?_
  refine x_gR (z := some 138) T_146_53 F_1_8 (hP.o xo_129) (hP.rc xo_129 rfl rfl) ?_
  refine x_rr T_146_56 ?_
  exact ⟨rfl, _, hP, hB4, FR1_tr (FR1_tr (FR1_tr (FR1_tr (FR1_fb hF0) (FR1_fb hF1)) (FR1_fb hF2)) (FR1_fb hF3)) (FR1_fb hF4)⟩
theorem x_telling (hP : PX σ0 W R σ) (hf : -1 ≤ f ∧ f ≤ 2147483647) (hm : -9223372036854775808 ≤ md ∧ md ≤ 9223372036854775807) (hln : -9223372036854775808 ≤ ln ∧ ln ≤ 9223372036854775807) (hCB : BY W c q lo) (hcb : c ≠ 138) (hse : 0 ≤ s ∧ s ≤ e ∧ e ≤ lo.length) (hnm : seg (lg lo) s (e - s).toNat = nm) (hl2 : nm.length ≤ 200) : CL fb (d + 3) 158 [vR (some 129), vI f, vL md, vL ln, vR (some c), vI s, vI e] σ (XRQ σ0 W R (mWst f nm md ln)) := by
  have hlo := hCB.2.2.1
  have hll := hCB.2.2.2.2.1
  have hnl : (nm.length : Int) = e - s := by rw [← hnm, seg_len]; omega
  obtain ⟨y, hy⟩ : ∃ y, 49 + (e - s) = y := ⟨_, rfl⟩
  have hk := fun (σ : hM) (W0 : qR) (hP : PX σ0 W0 R σ) => x_kstart (fb := fb) (d := d) (t := 126) (f := f) hP (by omega) (by omega)
  have h0 := fun (σ : hM) (V : qR) (hP : PX σ0 V R σ) (hB : BY V 138 300 (leb 4 0 ++ (leb 1 126 ++ leb 2 1) ++ leb 4 f)) => x_put8 (fb := fb) (d := d + 2) (k := 2) (v := y) 2 hP hB rfl (by decide) ⟨by omega, by omega⟩ (by simp only [List.length_append, leb_len]; omega)
  have h1 := fun (σ : hM) (V : qR) (hP : PX σ0 V R σ) (hB : BY V 138 300 (leb 4 0 ++ (leb 1 126 ++ leb 2 1) ++ leb 4 f ++ leb 2 y)) => x_put8 (fb := fb) (d := d + 2) (k := 2) (v := (y - 2)) 2 hP hB rfl (by decide) ⟨by omega, by omega⟩ (by simp only [List.length_append, leb_len]; omega)
  have h2 := fun (σ : hM) (V : qR) (hP : PX σ0 V R σ) (hB : BY V 138 300 (leb 4 0 ++ (leb 1 126 ++ leb 2 1) ++ leb 4 f ++ leb 2 y ++ leb 2 ((y - 2)))) => x_put8 (fb := fb) (d := d + 2) (k := 6) (v := (-1)) 6 hP hB rfl (by decide) (by decide) (by simp only [List.length_append, leb_len]; omega)
  have h3 := fun (σ : hM) (V : qR) (hP : PX σ0 V R σ) (hB : BY V 138 300 (leb 4 0 ++ (leb 1 126 ++ leb 2 1) ++ leb 4 f ++ leb 2 y ++ leb 2 ((y - 2)) ++ leb 6 ((-1)))) => x_put8 (fb := fb) (d := d + 2) (k := 8) (v := (-1)) 8 hP hB rfl (by decide) (by decide) (by simp only [List.length_append, leb_len]; omega)
  have h4 := fun (σ : hM) (V : qR) (hP : PX σ0 V R σ) (hB : BY V 138 300 (leb 4 0 ++ (leb 1 126 ++ leb 2 1) ++ leb 4 f ++ leb 2 y ++ leb 2 ((y - 2)) ++ leb 6 ((-1)) ++ leb 8 ((-1)))) => x_put8 (fb := fb) (d := d + 2) (k := 5) (v := (-1)) 5 hP hB rfl (by decide) (by decide) (by simp only [List.length_append, leb_len]; omega)
  have h5 := fun (σ : hM) (V : qR) (hP : PX σ0 V R σ) (hB : BY V 138 300 (leb 4 0 ++ (leb 1 126 ++ leb 2 1) ++ leb 4 f ++ leb 2 y ++ leb 2 ((y - 2)) ++ leb 6 ((-1)) ++ leb 8 ((-1)) ++ leb 5 ((-1)))) => x_put8 (fb := fb) (d := d + 2) (k := 4) (v := md) 4 hP hB rfl (by decide) ⟨by omega, by omega⟩ (by simp only [List.length_append, leb_len]; omega)
  have h6 := fun (σ : hM) (V : qR) (hP : PX σ0 V R σ) (hB : BY V 138 300 (leb 4 0 ++ (leb 1 126 ++ leb 2 1) ++ leb 4 f ++ leb 2 y ++ leb 2 ((y - 2)) ++ leb 6 ((-1)) ++ leb 8 ((-1)) ++ leb 5 ((-1)) ++ leb 4 md)) => x_put8 (fb := fb) (d := d + 2) (k := 8) (v := (-1)) 8 hP hB rfl (by decide) (by decide) (by simp only [List.length_append, leb_len]; omega)
  have h7 := fun (σ : hM) (V : qR) (hP : PX σ0 V R σ) (hB : BY V 138 300 (leb 4 0 ++ (leb 1 126 ++ leb 2 1) ++ leb 4 f ++ leb 2 y ++ leb 2 ((y - 2)) ++ leb 6 ((-1)) ++ leb 8 ((-1)) ++ leb 5 ((-1)) ++ leb 4 md ++ leb 8 ((-1)))) => x_put8 (fb := fb) (d := d + 2) (k := 8) (v := ln) 8 hP hB rfl (by decide) ⟨by omega, by omega⟩ (by simp only [List.length_append, leb_len]; omega)
  have h8 := fun (σ : hM) (V : qR) (hP : PX σ0 V R σ) (hB : BY V 138 300 (leb 4 0 ++ (leb 1 126 ++ leb 2 1) ++ leb 4 f ++ leb 2 y ++ leb 2 ((y - 2)) ++ leb 6 ((-1)) ++ leb 8 ((-1)) ++ leb 5 ((-1)) ++ leb 4 md ++ leb 8 ((-1)) ++ leb 8 ln)) => x_put8 (fb := fb) (d := d + 2) (k := 2) (v := (e - s)) 2 hP hB rfl (by decide) ⟨by omega, by omega⟩ (by simp only [List.length_append, leb_len]; omega)
  have h9 := fun (σ : hM) (V : qR) (hP : PX σ0 V R σ) (hB : BY V 138 300 (leb 4 0 ++ (leb 1 126 ++ leb 2 1) ++ leb 4 f ++ leb 2 y ++ leb 2 ((y - 2)) ++ leb 6 ((-1)) ++ leb 8 ((-1)) ++ leb 5 ((-1)) ++ leb 4 md ++ leb 8 ((-1)) ++ leb 8 ln ++ leb 2 ((e - s)))) (hC : BY V c q lo) => x_addAll (fb := fb) (d := d + 2) (s := s) (e := e) hP hB hC hcb (Or.inr (by omega)) (by omega)
  have e9 : (leb 4 0 ++ (leb 1 126 ++ leb 2 1) ++ leb 4 f ++ leb 2 y ++ leb 2 ((y - 2)) ++ leb 6 ((-1)) ++ leb 8 ((-1)) ++ leb 5 ((-1)) ++ leb 4 md ++ leb 8 ((-1)) ++ leb 8 ln ++ leb 2 ((e - s)) ++ seg (lg lo) s (e - s).toNat).take 300 = leb 4 0 ++ (leb 1 126 ++ leb 2 1) ++ leb 4 f ++ leb 2 y ++ leb 2 ((y - 2)) ++ leb 6 ((-1)) ++ leb 8 ((-1)) ++ leb 5 ((-1)) ++ leb 4 md ++ leb 8 ((-1)) ++ leb 8 ln ++ leb 2 ((e - s)) ++ nm := by
    rw [hnm]
    exact List.take_of_length_le (by simp only [List.length_append, leb_len]; omega)
  rw [e9] at h9
  obtain ⟨r9, hr9⟩ : ∃ q : Int, (if (leb 4 0 ++ (leb 1 126 ++ leb 2 1) ++ leb 4 f ++ leb 2 y ++ leb 2 ((y - 2)) ++ leb 6 ((-1)) ++ leb 8 ((-1)) ++ leb 5 ((-1)) ++ leb 4 md ++ leb 8 ((-1)) ++ leb 8 ln ++ leb 2 ((e - s))).length + (e - s).toNat ≤ 300 then (1 : Int) else 0) = q := ⟨_, rfl⟩
  rw [hr9] at h9
  have h10 := fun (σ : hM) (V : qR) (hP : PX σ0 V R σ) (hB : BY V 138 300 (leb 4 0 ++ (leb 1 126 ++ leb 2 1) ++ leb 4 f ++ leb 2 y ++ leb 2 ((y - 2)) ++ leb 6 ((-1)) ++ leb 8 ((-1)) ++ leb 5 ((-1)) ++ leb 4 md ++ leb 8 ((-1)) ++ leb 8 ln ++ leb 2 ((e - s)) ++ nm)) => x_put8 (fb := fb) (d := d + 2) (k := 6) (v := 0) 6 hP hB rfl (by decide) (by decide) (by simp only [List.length_append, leb_len]; omega)
  have hf := fun (σ : hM) (V : qR) (hP : PX σ0 V R σ) (hB : BY V 138 300 (leb 4 0 ++ (leb 1 126 ++ leb 2 1) ++ leb 4 f ++ leb 2 y ++ leb 2 ((y - 2)) ++ leb 6 ((-1)) ++ leb 8 ((-1)) ++ leb 5 ((-1)) ++ leb 4 md ++ leb 8 ((-1)) ++ leb 8 ln ++ leb 2 ((e - s)) ++ nm ++ leb 6 0)) => x_fin (fb := fb) (d := d + 1) hP hB (mWst f nm md ln) (by unfold mWst; rw [hnl, show 47 + (e - s) = y - 2 by omega, hy, show leb 2 65535 = [255, 255] by decide, show leb 4 4294967295 = [255, 255, 255, 255] by decide, show leb 1 255 = [255] by decide, show leb 8 (-1) = [255, 255, 255, 255, 255, 255, 255, 255] by decide, show leb 6 (-1) = [255, 255, 255, 255, 255, 255] by decide, show leb 5 (-1) = [255, 255, 255, 255, 255] by decide, show leb 6 0 = [0, 0, 0, 0, 0, 0] by decide, show leb 2 0 = [0, 0] by decide]; simp only [List.append_assoc, List.cons_append, List.nil_append])
  refine CL_in mL_158 rfl ?_
  show WP fb _ 158 0 [some (vR (some 129)), some (vI f), some (vL md), none, some (vL ln), none, some (vR (some c)), some (vI s), some (vI e), none] [] σ _
  refine x_ic T_158_0 ?_
  refine x_li (z := e) T_158_2 rfl ?_
  refine x_ib (w := (49 + e)) T_158_4 (fun h => absurd h.1 (by decide)) (w32_id (by omega) (by omega)) ?_
  refine x_li (z := s) T_158_5 rfl ?_
  refine x_ib (w := y) T_158_7 (fun h => absurd h.1 (by decide)) (w32_e (by omega) (by omega) (by omega)) ?_
  refine x_si (ls1 := [some (vR (some 129)), some (vI f), some (vL md), none, some (vL ln), none, some (vR (some c)), some (vI s), some (vI e), some (vI y)]) T_158_8 rfl ?_
  refine x_lr (z := some 129) T_158_10 rfl ?_
  refine x_ic T_158_11 ?_
  refine x_li (z := f) T_158_13 rfl ?_
  refine x_cv3 T_158_14 mN_125 mL_125 (Nat.le_of_ble_eq_true rfl) mO_125 (hP.o xo_129) (Nat.le_of_ble_eq_true rfl) (hk σ _ hP) ?_
  clear hP hk
  rintro _ σ ⟨rfl, V0, hP, hB0, hF0⟩
  refine cV ?_
  refine x_lr (z := some 129) T_158_17 rfl ?_
  refine x_gR (z := some 138) T_158_18 F_1_8 (hP.o xo_129) (hP.rc xo_129 rfl rfl) ?_
  refine x_li (z := y) T_158_21 rfl ?_
  refine x_i2l T_158_23 ?_
  refine x_ic T_158_24 ?_
  refine x_cv3 T_158_25 mN_22 mL_22 (Nat.le_of_ble_eq_true rfl) mO_22 (hP.o xo_138) (Nat.le_of_ble_eq_true rfl) (h0 σ V0 hP hB0) ?_
  clear hP h0
  rintro _ σ ⟨rfl, V1, hP, hB1, hF1⟩
  refine cV ?_
  refine x_lr (z := some 129) T_158_28 rfl ?_
  refine x_gR (z := some 138) T_158_29 F_1_8 (hP.o xo_129) (hP.rc xo_129 rfl rfl) ?_
  refine x_li (z := y) T_158_32 rfl ?_
  refine x_ic T_158_34 ?_
  refine x_ib (w := (y - 2)) T_158_35 (fun h => absurd h.1 (by decide)) (w32_id (by omega) (by omega)) ?_
  refine x_i2l T_158_36 ?_
  refine x_ic T_158_37 ?_
  refine x_cv3 T_158_38 mN_22 mL_22 (Nat.le_of_ble_eq_true rfl) mO_22 (hP.o xo_138) (Nat.le_of_ble_eq_true rfl) (h1 σ V1 hP hB1) ?_
  clear hP h1
  rintro _ σ ⟨rfl, V2, hP, hB2, hF2⟩
  refine cV ?_
  refine x_lr (z := some 129) T_158_41 rfl ?_
  refine x_gR (z := some 138) T_158_42 F_1_8 (hP.o xo_129) (hP.rc xo_129 rfl rfl) ?_
  refine x_lc T_158_45 ?_
  refine x_ic T_158_48 ?_
  refine x_cv3 T_158_50 mN_22 mL_22 (Nat.le_of_ble_eq_true rfl) mO_22 (hP.o xo_138) (Nat.le_of_ble_eq_true rfl) (h2 σ V2 hP hB2) ?_
  clear hP h2
  rintro _ σ ⟨rfl, V3, hP, hB3, hF3⟩
  refine cV ?_
  refine x_lr (z := some 129) T_158_53 rfl ?_
  refine x_gR (z := some 138) T_158_54 F_1_8 (hP.o xo_129) (hP.rc xo_129 rfl rfl) ?_
  refine x_lc T_158_57 ?_
  refine x_ic T_158_60 ?_
  refine x_cv3 T_158_62 mN_22 mL_22 (Nat.le_of_ble_eq_true rfl) mO_22 (hP.o xo_138) (Nat.le_of_ble_eq_true rfl) (h3 σ V3 hP hB3) ?_
  clear hP h3
  rintro _ σ ⟨rfl, V4, hP, hB4, hF4⟩
  refine cV ?_
  refine x_lr (z := some 129) T_158_65 rfl ?_
  refine x_gR (z := some 138) T_158_66 F_1_8 (hP.o xo_129) (hP.rc xo_129 rfl rfl) ?_
  refine x_lc T_158_69 ?_
  refine x_ic T_158_72 ?_
  refine x_cv3 T_158_73 mN_22 mL_22 (Nat.le_of_ble_eq_true rfl) mO_22 (hP.o xo_138) (Nat.le_of_ble_eq_true rfl) (h4 σ V4 hP hB4) ?_
  clear hP h4
  rintro _ σ ⟨rfl, V5, hP, hB5, hF5⟩
  refine cV ?_
  refine x_lr (z := some 129) T_158_76 rfl ?_
  refine x_gR (z := some 138) T_158_77 F_1_8 (hP.o xo_129) (hP.rc xo_129 rfl rfl) ?_
  refine x_ll (z := md) T_158_80 rfl ?_
  refine x_ic T_158_81 ?_
  refine x_cv3 T_158_82 mN_22 mL_22 (Nat.le_of_ble_eq_true rfl) mO_22 (hP.o xo_138) (Nat.le_of_ble_eq_true rfl) (h5 σ V5 hP hB5) ?_
  clear hP h5
  rintro _ σ ⟨rfl, V6, hP, hB6, hF6⟩
  refine cV ?_
  refine x_lr (z := some 129) T_158_85 rfl ?_
  refine x_gR (z := some 138) T_158_86 F_1_8 (hP.o xo_129) (hP.rc xo_129 rfl rfl) ?_
  refine x_lc T_158_89 ?_
  refine x_ic T_158_92 ?_
  refine x_cv3 T_158_94 mN_22 mL_22 (Nat.le_of_ble_eq_true rfl) mO_22 (hP.o xo_138) (Nat.le_of_ble_eq_true rfl) (h6 σ V6 hP hB6) ?_
  clear hP h6
  rintro _ σ ⟨rfl, V7, hP, hB7, hF7⟩
  refine cV ?_
  refine x_lr (z := some 129) T_158_97 rfl ?_
  refine x_gR (z := some 138) T_158_98 F_1_8 (hP.o xo_129) (hP.rc xo_129 rfl rfl) ?_
  refine x_ll (z := ln) T_158_101 rfl ?_
  refine x_ic T_158_103 ?_
  refine x_cv3 T_158_105 mN_22 mL_22 (Nat.le_of_ble_eq_true rfl) mO_22 (hP.o xo_138) (Nat.le_of_ble_eq_true rfl) (h7 σ V7 hP hB7) ?_
  clear hP h7
  rintro _ σ ⟨rfl, V8, hP, hB8, hF8⟩
  refine cV ?_
  refine x_lr (z := some 129) T_158_108 rfl ?_
  refine x_gR (z := some 138) T_158_109 F_1_8 (hP.o xo_129) (hP.rc xo_129 rfl rfl) ?_
  refine x_li (z := e) T_158_112 rfl ?_
  refine x_li (z := s) T_158_114 rfl ?_
  refine x_ib (w := (e - s)) T_158_116 (fun h => absurd h.1 (by decide)) (w32_id (by omega) (by omega)) ?_
  refine x_i2l T_158_117 ?_
  refine x_ic T_158_118 ?_
  refine x_cv3 T_158_119 mN_22 mL_22 (Nat.le_of_ble_eq_true rfl) mO_22 (hP.o xo_138) (Nat.le_of_ble_eq_true rfl) (h8 σ V8 hP hB8) ?_
  clear hP h8
  rintro _ σ ⟨rfl, V9, hP, hB9, hF9⟩
  refine cV ?_
  refine x_lr (z := some 129) T_158_122 rfl ?_
  refine x_gR (z := some 138) T_158_123 F_1_8 (hP.o xo_129) (hP.rc xo_129 rfl rfl) ?_
  refine x_lr (z := some c) T_158_126 rfl ?_
  refine x_li (z := s) T_158_128 rfl ?_
  refine x_li (z := e) T_158_130 rfl ?_
  refine x_cv4 T_158_132 mN_32 mL_32 (Nat.le_of_ble_eq_true rfl) mO_32 (hP.o xo_138) (Nat.le_of_ble_eq_true rfl) (h9 σ V9 hP hB9 ((FR1_tr (FR1_tr (FR1_tr (FR1_tr (FR1_tr (FR1_tr (FR1_tr (FR1_tr (FR1_tr (FR1_fb hF0) (FR1_fb hF1)) (FR1_fb hF2)) (FR1_fb hF3)) (FR1_fb hF4)) (FR1_fb hF5)) (FR1_fb hF6)) (FR1_fb hF7)) (FR1_fb hF8)) (FR1_fb hF9)).by hCB hcb)) ?_
  clear hP h9
  rintro _ σ ⟨rfl, V10, hP, hB10, hF10⟩
  refine cI ?_
  refine x_popI T_158_135 ?_
  refine x_lr (z := some 129) T_158_136 rfl ?_
  refine x_gR (z := some 138) T_158_137 F_1_8 (hP.o xo_129) (hP.rc xo_129 rfl rfl) ?_
  refine x_lc T_158_140 ?_
  refine x_ic T_158_141 ?_
  refine x_cv3 T_158_143 mN_22 mL_22 (Nat.le_of_ble_eq_true rfl) mO_22 (hP.o xo_138) (Nat.le_of_ble_eq_true rfl) (h10 σ V10 hP hB10) ?_
  clear hP h10
  rintro _ σ ⟨rfl, V11, hP, hB11, hF11⟩
  refine cV ?_
  refine x_lr (z := some 129) T_158_146 rfl ?_
  refine x_gR (z := some 138) T_158_147 F_1_8 (hP.o xo_129) (hP.rc xo_129 rfl rfl) ?_
  refine x_cv1 T_158_150 mN_24 mL_24 (Nat.le_of_ble_eq_true rfl) mO_24 (hP.o xo_138) (Nat.le_of_ble_eq_true rfl) (hf σ V11 hP hB11) ?_
  clear hP hf
  rintro _ σ ⟨rfl, V12, hP, hB12, hF12⟩
  refine cV ?_
  refine x_lr (z := some 129) T_158_153 rfl ?_
  refine x_gR (z := some 138) T_158_154 F_1_8 (hP.o xo_129) (hP.rc xo_129 rfl rfl) ?_
  refine x_rr T_158_157 ?_
  exact ⟨rfl, _, hP, hB12, FR1_tr (FR1_tr (FR1_tr (FR1_tr (FR1_tr (FR1_tr (FR1_tr (FR1_tr (FR1_tr (FR1_tr (FR1_tr (FR1_tr (FR1_fb hF0) (FR1_fb hF1)) (FR1_fb hF2)) (FR1_fb hF3)) (FR1_fb hF4)) (FR1_fb hF5)) (FR1_fb hF6)) (FR1_fb hF7)) (FR1_fb hF8)) (FR1_fb hF9)) (FR1_fb hF10)) (FR1_fb hF11)) (FR1_fb hF12)⟩
/-- where the names of a path stand -/
def NMX (W : qR) (lo : List Int) (i : Int) (nm : List Int) : Prop := 0 ≤ W 147 i ∧ W 147 i ≤ W 148 i ∧ W 148 i ≤ (lo.length : Int) ∧ seg (lg lo) (W 147 i) (W 148 i - W 147 i).toNat = nm
theorem NMX.fr (h : NMX W lo i nm) (hF : FR1 W W2) (hi : i < 2000) : NMX W2 lo i nm := by
  unfold NMX at h ⊢
  rw [hF 147 i (by omega) (by omega) (by omega), hF 148 i (by omega) (by omega) (by omega)]
  exact h
theorem x_putName (hP : PX σ0 W R σ) (hB : BY W 138 300 l) (hC : BY W 145 161 lo) (hN : NMX W lo i nm) (hnn : W 129 2038 = n) (hi : 0 ≤ i ∧ i < n ∧ i < 100) (hl : l.length + 2 + nm.length ≤ 300) : CL fb (d + 1) 126 [vR (some 129), vI i] σ (XB σ0 W R 138 300 (l ++ leb 2 (nm.length : Int) ++ nm) none) := by
  obtain ⟨s, hs⟩ : ∃ q, W 147 i = q := ⟨_, rfl⟩
  obtain ⟨e, he⟩ : ∃ q, W 148 i = q := ⟨_, rfl⟩
  unfold NMX at hN
  rw [hs, he] at hN
  obtain ⟨a1, a2, a3, a4⟩ := hN
  have hll := hC.2.2.2.2.1
  have hnl : (nm.length : Int) = e - s := by rw [← a4, seg_len]; omega
  have h1 := x_put8 (fb := fb) (d := d) (k := 2) (v := e - s) 2 hP hB rfl (by decide) ⟨by omega, by omega⟩ (by omega)
  have h2 := fun (σ : hM) (V : qR) (hP : PX σ0 V R σ) (hB : BY V 138 300 (l ++ leb 2 (e - s))) (hC : BY V 145 161 lo) => x_addAll (fb := fb) (d := d) (s := s) (e := e) hP hB hC (by decide) (Or.inr (by omega)) a3
  rw [a4, List.take_of_length_le (by simp only [List.length_append, leb_len]; omega)] at h2
  obtain ⟨r2, hr2⟩ : ∃ q : Int, (if (l ++ leb 2 (e - s)).length + (e - s).toNat ≤ 300 then (1 : Int) else 0) = q := ⟨_, rfl⟩
  rw [hr2] at h2
  have hx : ∀ (V : qR), FB 138 W V → V 147 i = s ∧ V 148 i = e := fun V hF => ⟨(hF 147 i (by omega) (by omega)).trans hs, (hF 148 i (by omega) (by omega)).trans he⟩
  rw [hnl]
  refine CL_in mL_126 rfl ?_
  show WP fb _ 126 0 [some (vR (some 129)), some (vI i)] [] σ _
  refine x_li (z := i) T_126_0 rfl ?_
  refine x_if T_126_1 (fun h => absurd (show i < 0 from h) (by omega)) (fun _ => ?_)
  refine x_li (z := i) T_126_4 rfl ?_
  refine x_lr (z := some 129) T_126_5 rfl ?_
  refine x_gI (z := n) T_126_6 (Or.inl F_1_6) (hP.o xo_129) (Eq.trans (hP.gi xo_129 (key := 2038) rfl) hnn) ?_
  refine x_ic2 T_126_9 (fun h => absurd (show n ≤ i from h) (by omega)) (fun _ => ?_)
  refine x_li (z := i) T_126_12 rfl ?_
  refine x_lr (z := some 129) T_126_13 rfl ?_
  refine x_gR (z := some 147) T_126_14 F_1_15 (hP.o xo_129) (hP.rc xo_129 rfl rfl) ?_
  refine x_len T_126_17 (hP.ta xa_147) ?_
  refine x_ic2 T_126_18 (fun h => absurd (show 100 ≤ i from h) (by omega)) (fun _ => ?_)
  refine x_lr (z := some 129) T_126_21 rfl ?_
  refine x_gR (z := some 138) T_126_22 F_1_8 (hP.o xo_129) (hP.rc xo_129 rfl rfl) ?_
  refine x_lr (z := some 129) T_126_25 rfl ?_
  refine x_gR (z := some 148) T_126_26 F_1_16 (hP.o xo_129) (hP.rc xo_129 rfl rfl) ?_
  refine x_li (z := i) T_126_29 rfl ?_
  refine x_alI (z := e) T_126_30 (by decide) (hP.ta xa_148) (by omega) (by omega) (Eq.trans (hP.ai xa_148 (by omega)) he) ?_
  refine x_lr (z := some 129) T_126_31 rfl ?_
  refine x_gR (z := some 147) T_126_32 F_1_15 (hP.o xo_129) (hP.rc xo_129 rfl rfl) ?_
  refine x_li (z := i) T_126_35 rfl ?_
  refine x_alI (z := s) T_126_36 (by decide) (hP.ta xa_147) (by omega) (by omega) (Eq.trans (hP.ai xa_147 (by omega)) hs) ?_
  refine x_ib (w := (e - s)) T_126_37 (fun h => absurd h.1 (by decide)) (w32_id (by omega) (by omega)) ?_
  refine x_i2l T_126_38 ?_
  refine x_ic T_126_39 ?_
  refine x_cv3 T_126_40 mN_22 mL_22 (Nat.le_of_ble_eq_true rfl) mO_22 (hP.o xo_138) (Nat.le_of_ble_eq_true rfl) (h1) ?_
  clear hP h1
  rintro _ σ ⟨rfl, V1, hP, hB1, hF1⟩
  obtain ⟨hs1, he1⟩ := hx V1 hF1
  refine cV ?_
  refine x_lr (z := some 129) T_126_43 rfl ?_
  refine x_gR (z := some 138) T_126_44 F_1_8 (hP.o xo_129) (hP.rc xo_129 rfl rfl) ?_
  refine x_lr (z := some 129) T_126_47 rfl ?_
  refine x_gR (z := some 145) T_126_48 F_1_14 (hP.o xo_129) (hP.rc xo_129 rfl rfl) ?_
  refine x_lr (z := some 129) T_126_51 rfl ?_
  refine x_gR (z := some 147) T_126_52 F_1_15 (hP.o xo_129) (hP.rc xo_129 rfl rfl) ?_
  refine x_li (z := i) T_126_55 rfl ?_
  refine x_alI (z := s) T_126_56 (by decide) (hP.ta xa_147) (by omega) (by omega) (Eq.trans (hP.ai xa_147 (by omega)) hs1) ?_
  refine x_lr (z := some 129) T_126_57 rfl ?_
  refine x_gR (z := some 148) T_126_58 F_1_16 (hP.o xo_129) (hP.rc xo_129 rfl rfl) ?_
  refine x_li (z := i) T_126_61 rfl ?_
  refine x_alI (z := e) T_126_62 (by decide) (hP.ta xa_148) (by omega) (by omega) (Eq.trans (hP.ai xa_148 (by omega)) he1) ?_
  refine x_cv4 T_126_63 mN_32 mL_32 (Nat.le_of_ble_eq_true rfl) mO_32 (hP.o xo_138) (Nat.le_of_ble_eq_true rfl) (h2 σ V1 hP hB1 (hF1.by hC (by decide))) ?_
  clear hP h2
  rintro _ σ ⟨rfl, V2, hP, hB2, hF2⟩
  refine cI ?_
  refine x_popI T_126_66 ?_
  refine x_rv T_126_67 ?_
  exact ⟨rfl, V2, hP, hB2, FB_tr hF1 hF2⟩
theorem x_creating (hP : PX σ0 W R σ) (hf : -1 ≤ f ∧ f ≤ 2147483647) (hx : -9223372036854775808 ≤ x ∧ x ≤ 9223372036854775807) (hm : 0 ≤ md ∧ md ≤ 255) (hC : BY W 145 161 lo) (hnn : W 129 2038 = n) (hn1 : 1 ≤ n ∧ n ≤ 100) (hN : NMX W lo (n - 1) nm) (hl2 : nm.length ≤ 200) : CL fb (d + 3) 145 [vR (some 129), vI f, vL x, vI md] σ (XRQ σ0 W R (mCre f nm x md)) := by
  have hnV : ∀ V : qR, FR1 W V → V 129 2038 = n := fun V hF => (hF _ _ (by omega) (by omega) (by omega)).trans hnn
  have hk := fun (σ : hM) (W0 : qR) (hP : PX σ0 W0 R σ) => x_kstart (fb := fb) (d := d) (t := 114) (f := f) hP (by omega) (by omega)
  have h0 := fun (σ : hM) (V : qR) (hP : PX σ0 V R σ) (hB : BY V 138 300 (leb 4 0 ++ (leb 1 114 ++ leb 2 1) ++ leb 4 f)) (hF : FR1 W V) => x_putName (fb := fb) (d := d + 1) hP hB (hF.by hC (by decide)) (hN.fr hF (by omega)) (hnV V hF) ⟨by omega, by omega, by omega⟩ (by simp only [List.length_append, leb_len]; omega)
  have h1 := fun (σ : hM) (V : qR) (hP : PX σ0 V R σ) (hB : BY V 138 300 (leb 4 0 ++ (leb 1 114 ++ leb 2 1) ++ leb 4 f ++ leb 2 (nm.length : Int) ++ nm)) => x_put8 (fb := fb) (d := d + 2) (k := 4) (v := x) 4 hP hB rfl (by decide) ⟨by omega, by omega⟩ (by simp only [List.length_append, leb_len]; omega)
  have h2 := fun (σ : hM) (V : qR) (hP : PX σ0 V R σ) (hB : BY V 138 300 (leb 4 0 ++ (leb 1 114 ++ leb 2 1) ++ leb 4 f ++ leb 2 (nm.length : Int) ++ nm ++ leb 4 x)) => x_put8 (fb := fb) (d := d + 2) (k := 1) (v := md) 1 hP hB rfl (by decide) ⟨by omega, by omega⟩ (by simp only [List.length_append, leb_len]; omega)
  have hf := fun (σ : hM) (V : qR) (hP : PX σ0 V R σ) (hB : BY V 138 300 (leb 4 0 ++ (leb 1 114 ++ leb 2 1) ++ leb 4 f ++ leb 2 (nm.length : Int) ++ nm ++ leb 4 x ++ leb 1 md)) => x_fin (fb := fb) (d := d + 1) hP hB (mCre f nm x md) (by unfold mCre; simp only [List.append_assoc])
  refine CL_in mL_145 rfl ?_
  show WP fb _ 145 0 [some (vR (some 129)), some (vI f), some (vL x), none, some (vI md)] [] σ _
  refine x_lr (z := some 129) T_145_0 rfl ?_
  refine x_ic T_145_1 ?_
  refine x_li (z := f) T_145_3 rfl ?_
  refine x_cv3 T_145_4 mN_125 mL_125 (Nat.le_of_ble_eq_true rfl) mO_125 (hP.o xo_129) (Nat.le_of_ble_eq_true rfl) (hk σ _ hP) ?_
  clear hP hk
  rintro _ σ ⟨rfl, V0, hP, hB0, hF0⟩
  have hn0 := hnV V0 (FR1_fb hF0)
  refine cV ?_
  refine x_lr (z := some 129) T_145_7 rfl ?_
  refine x_lr (z := some 129) T_145_8 rfl ?_
  refine x_gI (z := n) T_145_9 (Or.inl F_1_6) (hP.o xo_129) (Eq.trans (hP.gi xo_129 (key := 2038) rfl) hn0) ?_
  refine x_ic T_145_12 ?_
  refine x_ib (w := (n - 1)) T_145_13 (fun h => absurd h.1 (by decide)) (w32_id (by omega) (by omega)) ?_
  refine x_cv2 T_145_14 mN_126 mL_126 (Nat.le_of_ble_eq_true rfl) mO_126 (hP.o xo_129) (Nat.le_of_ble_eq_true rfl) (h0 σ V0 hP hB0 (FR1_fb hF0)) ?_
  clear hP h0
  rintro _ σ ⟨rfl, V1, hP, hB1, hF1⟩
  refine cV ?_
  refine x_lr (z := some 129) T_145_17 rfl ?_
  refine x_gR (z := some 138) T_145_18 F_1_8 (hP.o xo_129) (hP.rc xo_129 rfl rfl) ?_
  refine x_ll (z := x) T_145_21 rfl ?_
  refine x_ic T_145_22 ?_
  refine x_cv3 T_145_23 mN_22 mL_22 (Nat.le_of_ble_eq_true rfl) mO_22 (hP.o xo_138) (Nat.le_of_ble_eq_true rfl) (h1 σ V1 hP hB1) ?_
  clear hP h1
  rintro _ σ ⟨rfl, V2, hP, hB2, hF2⟩
  refine cV ?_
  refine x_lr (z := some 129) T_145_26 rfl ?_
  refine x_gR (z := some 138) T_145_27 F_1_8 (hP.o xo_129) (hP.rc xo_129 rfl rfl) ?_
  refine x_li (z := md) T_145_30 rfl ?_
  refine x_i2l T_145_32 ?_
  refine x_ic T_145_33 ?_
  refine x_cv3 T_145_34 mN_22 mL_22 (Nat.le_of_ble_eq_true rfl) mO_22 (hP.o xo_138) (Nat.le_of_ble_eq_true rfl) (h2 σ V2 hP hB2) ?_
  clear hP h2
  rintro _ σ ⟨rfl, V3, hP, hB3, hF3⟩
  refine cV ?_
  refine x_lr (z := some 129) T_145_37 rfl ?_
  refine x_gR (z := some 138) T_145_38 F_1_8 (hP.o xo_129) (hP.rc xo_129 rfl rfl) ?_
  refine x_cv1 T_145_41 mN_24 mL_24 (Nat.le_of_ble_eq_true rfl) mO_24 (hP.o xo_138) (Nat.le_of_ble_eq_true rfl) (hf σ V3 hP hB3) ?_
  clear hP hf
  rintro _ σ ⟨rfl, V4, hP, hB4, hF4⟩
  refine cV ?_
  refine x_lr (z := some 129) T_145_44 rfl ?_
  refine x_gR (z := some 138) T_145_45 F_1_8 (hP.o xo_129) (hP.rc xo_129 rfl rfl) ?_
  refine x_rr T_145_48 ?_
  exact ⟨rfl, _, hP, hB4, FR1_tr (FR1_tr (FR1_tr (FR1_tr (FR1_fb hF0) (FR1_fb hF1)) (FR1_fb hF2)) (FR1_fb hF3)) (FR1_fb hF4)⟩
section NEWF
variable {ord : List Int} {tt : Nat → Nat}
theorem x_attaching (hP : PX σ0 W R σ) (hS : VS S s) (hX : XV W R P S s ord tt) (hI : IV false T U P) (hu : 0 ≤ u ∧ u ≤ 3) : CL fb (d + 3) 127 [vR (some 129), vI s, vI u] σ (XRN σ0 W R (qNewF P s) (mAtt (qNewF P s) u)) := by
  have hO := hS.o
  have hS2 := hS.2
  have hho := x_host (fb := fb) (d := d + 2) (s := s) hP hS.1
  rw [← hS2] at hho
  have hsp := x_spareNumber (fb := fb) (d := d + 2) hP hS hX.2.1.fu hI
  obtain ⟨g, hg⟩ : ∃ q, qNewF P s = q := ⟨_, rfl⟩
  have hgr : g = -1 ∨ (0 ≤ g ∧ g ≤ 47) := by rw [← hg]; exact qNewF_rng
  rw [hg] at hsp ⊢
  obtain ⟨us, hus0⟩ : ∃ q, hUN.getD u.toNat 0 = q := ⟨_, rfl⟩
  have husr := hUN_rng (u := u) ⟨hu.1, by omega⟩
  rw [hus0] at husr
  have hus := fun (σ : hM) (V : qR) (hP : PX σ0 V R σ) => s_user (fb := fb) (d := d + 2) hP.gx ⟨hu.1, by omega⟩ hus0
  have hk := fun (σ : hM) (W0 : qR) (hP : PX σ0 W0 R σ) => x_kstart (fb := fb) (d := d) (t := 104) (f := g) hP (by omega) (by omega)
  have h0 := fun (σ : hM) (V : qR) (hP : PX σ0 V R σ) (hB : BY V 138 300 (leb 4 0 ++ (leb 1 104 ++ leb 2 1) ++ leb 4 g)) => x_put8 (fb := fb) (d := d + 2) (k := 4) (v := 4294967295) 4 hP hB rfl (by decide) (by decide) (by simp only [List.length_append, leb_len]; omega)
  have h1 := fun (σ : hM) (V : qR) (hP : PX σ0 V R σ) (hB : BY V 138 300 (leb 4 0 ++ (leb 1 104 ++ leb 2 1) ++ leb 4 g ++ leb 4 4294967295)) => x_put8 (fb := fb) (d := d + 2) (k := 2) (v := 3) 2 hP hB rfl (by decide) (by decide) (by simp only [List.length_append, leb_len]; omega)
  have h2 := fun (σ : hM) (V : qR) (hP : PX σ0 V R σ) (hB : BY V 138 300 (leb 4 0 ++ (leb 1 104 ++ leb 2 1) ++ leb 4 g ++ leb 4 4294967295 ++ leb 2 3)) => x_put8 (fb := fb) (d := d + 2) (k := 3) (v := us) 3 hP hB rfl (by decide) ⟨by omega, by omega⟩ (by simp only [List.length_append, leb_len]; omega)
  have h3 := fun (σ : hM) (V : qR) (hP : PX σ0 V R σ) (hB : BY V 138 300 (leb 4 0 ++ (leb 1 104 ++ leb 2 1) ++ leb 4 g ++ leb 4 4294967295 ++ leb 2 3 ++ leb 3 us)) => x_put8 (fb := fb) (d := d + 2) (k := 2) (v := 0) 2 hP hB rfl (by decide) (by decide) (by simp only [List.length_append, leb_len]; omega)
  have hf := fun (σ : hM) (V : qR) (hP : PX σ0 V R σ) (hB : BY V 138 300 (leb 4 0 ++ (leb 1 104 ++ leb 2 1) ++ leb 4 g ++ leb 4 4294967295 ++ leb 2 3 ++ leb 3 us ++ leb 2 0)) => x_fin (fb := fb) (d := d + 1) hP hB (mAtt g u) (by unfold mAtt; rw [← usL_eq hu, hus0]; simp only [List.append_assoc])
  rcases hgr with rfl | hgr
  · skip
    refine CL_in mL_127 rfl ?_
    show WP fb _ 127 0 [some (vR (some 129)), some (vI s), some (vI u)] [] σ _
    refine x_lr (z := some 129) T_127_0 rfl ?_
    refine x_lr (z := some 129) T_127_1 rfl ?_
    refine x_li (z := s) T_127_2 rfl ?_
    refine x_cv2 T_127_3 mN_122 mL_122 (Nat.le_of_ble_eq_true rfl) mO_122 (hP.o xo_129) (Nat.le_of_ble_eq_true rfl) (hho) ?_
    rintro _ σ ⟨rfl, rfl⟩
    refine cR ?_
    refine x_cv1 T_127_6 mN_124 mL_124 (Nat.le_of_ble_eq_true rfl) mO_124 (hP.o hO) (Nat.le_of_ble_eq_true rfl) (hsp) ?_
    rintro _ σ ⟨rfl, rfl⟩
    refine cI ?_
    refine z_pI hP T_127_9 F_1_5 xo_129 (key := 2037) rfl (fun σ hP => ?_)
    refine x_lr (z := some 129) T_127_12 rfl ?_
    refine x_ic T_127_13 ?_
    refine x_lr (z := some 129) T_127_15 rfl ?_
    refine x_gI (z := (-1)) T_127_16 (Or.inl F_1_5) (hP.o xo_129) (Eq.trans (hP.gi xo_129 (key := 2037) rfl) rU_s) ?_
    refine x_cv3 T_127_19 mN_125 mL_125 (Nat.le_of_ble_eq_true rfl) mO_125 (hP.o xo_129) (Nat.le_of_ble_eq_true rfl) (hk σ _ hP) ?_
    clear hP hk
    rintro _ σ ⟨rfl, V0, hP, hB0, hF0⟩
    refine cV ?_
    refine x_lr (z := some 129) T_127_22 rfl ?_
    refine x_gR (z := some 138) T_127_23 F_1_8 (hP.o xo_129) (hP.rc xo_129 rfl rfl) ?_
    refine x_lc T_127_26 ?_
    refine x_ic T_127_29 ?_
    refine x_cv3 T_127_30 mN_22 mL_22 (Nat.le_of_ble_eq_true rfl) mO_22 (hP.o xo_138) (Nat.le_of_ble_eq_true rfl) (h0 σ V0 hP hB0) ?_
    clear hP h0
    rintro _ σ ⟨rfl, V1, hP, hB1, hF1⟩
    refine cV ?_
    refine x_lr (z := some 129) T_127_33 rfl ?_
    refine x_gR (z := some 138) T_127_34 F_1_8 (hP.o xo_129) (hP.rc xo_129 rfl rfl) ?_
    refine x_lc T_127_37 ?_
    refine x_ic T_127_40 ?_
    refine x_cv3 T_127_41 mN_22 mL_22 (Nat.le_of_ble_eq_true rfl) mO_22 (hP.o xo_138) (Nat.le_of_ble_eq_true rfl) (h1 σ V1 hP hB1) ?_
    clear hP h1
    rintro _ σ ⟨rfl, V2, hP, hB2, hF2⟩
    refine cV ?_
    refine x_lr (z := some 129) T_127_44 rfl ?_
    refine x_gR (z := some 138) T_127_45 F_1_8 (hP.o xo_129) (hP.rc xo_129 rfl rfl) ?_
    refine x_li (z := u) T_127_48 rfl ?_
    refine x_cs1 T_127_49 mN_72 mL_72 (Nat.le_of_ble_eq_true rfl) mK_72 (Nat.le_of_ble_eq_true rfl) (hus σ V2 hP) ?_
    rintro _ σ ⟨rfl, rfl⟩
    refine cI ?_
    refine x_i2l T_127_52 ?_
    refine x_ic T_127_53 ?_
    refine x_cv3 T_127_54 mN_22 mL_22 (Nat.le_of_ble_eq_true rfl) mO_22 (hP.o xo_138) (Nat.le_of_ble_eq_true rfl) (h2 σ V2 hP hB2) ?_
    clear hP h2
    rintro _ σ ⟨rfl, V3, hP, hB3, hF3⟩
    refine cV ?_
    refine x_lr (z := some 129) T_127_57 rfl ?_
    refine x_gR (z := some 138) T_127_58 F_1_8 (hP.o xo_129) (hP.rc xo_129 rfl rfl) ?_
    refine x_lc T_127_61 ?_
    refine x_ic T_127_62 ?_
    refine x_cv3 T_127_63 mN_22 mL_22 (Nat.le_of_ble_eq_true rfl) mO_22 (hP.o xo_138) (Nat.le_of_ble_eq_true rfl) (h3 σ V3 hP hB3) ?_
    clear hP h3
    rintro _ σ ⟨rfl, V4, hP, hB4, hF4⟩
    refine cV ?_
    refine x_lr (z := some 129) T_127_66 rfl ?_
    refine x_gR (z := some 138) T_127_67 F_1_8 (hP.o xo_129) (hP.rc xo_129 rfl rfl) ?_
    refine x_cv1 T_127_70 mN_24 mL_24 (Nat.le_of_ble_eq_true rfl) mO_24 (hP.o xo_138) (Nat.le_of_ble_eq_true rfl) (hf σ V4 hP hB4) ?_
    clear hP hf
    rintro _ σ ⟨rfl, V5, hP, hB5, hF5⟩
    have hg9 : V5 129 2037 = -1 := by rw [hF5 129 2037 (by decide) (by decide), hF4 129 2037 (by decide) (by decide), hF3 129 2037 (by decide) (by decide), hF2 129 2037 (by decide) (by decide), hF1 129 2037 (by decide) (by decide), hF0 129 2037 (by decide) (by decide)]; exact rU_s
    refine cV ?_
    refine x_lr (z := some 129) T_127_73 rfl ?_
    refine x_gI (z := (-1)) T_127_74 (Or.inl F_1_5) (hP.o xo_129) (Eq.trans (hP.gi xo_129 (key := 2037) rfl) hg9) ?_
    refine x_ic T_127_77 ?_
    refine x_ic2 T_127_78 (fun h => absurd (show ¬ ((-1) : Int) = (-1) from h) (by decide)) (fun _ => ?_)
    refine x_nu T_127_81 ?_
    refine x_goto T_127_82 ?_
    refine x_rr T_127_89 ?_
    exact ⟨by rw [if_pos (show (-1 : Int) < 0 by decide)], _, hP, hB5, FR1_tr FR1_fr (FR1_tr (FR1_tr (FR1_tr (FR1_tr (FR1_tr (FR1_fb hF0) (FR1_fb hF1)) (FR1_fb hF2)) (FR1_fb hF3)) (FR1_fb hF4)) (FR1_fb hF5)), hg9⟩
  · skip
    refine CL_in mL_127 rfl ?_
    show WP fb _ 127 0 [some (vR (some 129)), some (vI s), some (vI u)] [] σ _
    refine x_lr (z := some 129) T_127_0 rfl ?_
    refine x_lr (z := some 129) T_127_1 rfl ?_
    refine x_li (z := s) T_127_2 rfl ?_
    refine x_cv2 T_127_3 mN_122 mL_122 (Nat.le_of_ble_eq_true rfl) mO_122 (hP.o xo_129) (Nat.le_of_ble_eq_true rfl) (hho) ?_
    rintro _ σ ⟨rfl, rfl⟩
    refine cR ?_
    refine x_cv1 T_127_6 mN_124 mL_124 (Nat.le_of_ble_eq_true rfl) mO_124 (hP.o hO) (Nat.le_of_ble_eq_true rfl) (hsp) ?_
    rintro _ σ ⟨rfl, rfl⟩
    refine cI ?_
    refine z_pI hP T_127_9 F_1_5 xo_129 (key := 2037) rfl (fun σ hP => ?_)
    refine x_lr (z := some 129) T_127_12 rfl ?_
    refine x_ic T_127_13 ?_
    refine x_lr (z := some 129) T_127_15 rfl ?_
    refine x_gI (z := g) T_127_16 (Or.inl F_1_5) (hP.o xo_129) (Eq.trans (hP.gi xo_129 (key := 2037) rfl) rU_s) ?_
    refine x_cv3 T_127_19 mN_125 mL_125 (Nat.le_of_ble_eq_true rfl) mO_125 (hP.o xo_129) (Nat.le_of_ble_eq_true rfl) (hk σ _ hP) ?_
    clear hP hk
    rintro _ σ ⟨rfl, V0, hP, hB0, hF0⟩
    refine cV ?_
    refine x_lr (z := some 129) T_127_22 rfl ?_
    refine x_gR (z := some 138) T_127_23 F_1_8 (hP.o xo_129) (hP.rc xo_129 rfl rfl) ?_
    refine x_lc T_127_26 ?_
    refine x_ic T_127_29 ?_
    refine x_cv3 T_127_30 mN_22 mL_22 (Nat.le_of_ble_eq_true rfl) mO_22 (hP.o xo_138) (Nat.le_of_ble_eq_true rfl) (h0 σ V0 hP hB0) ?_
    clear hP h0
    rintro _ σ ⟨rfl, V1, hP, hB1, hF1⟩
    refine cV ?_
    refine x_lr (z := some 129) T_127_33 rfl ?_
    refine x_gR (z := some 138) T_127_34 F_1_8 (hP.o xo_129) (hP.rc xo_129 rfl rfl) ?_
    refine x_lc T_127_37 ?_
    refine x_ic T_127_40 ?_
    refine x_cv3 T_127_41 mN_22 mL_22 (Nat.le_of_ble_eq_true rfl) mO_22 (hP.o xo_138) (Nat.le_of_ble_eq_true rfl) (h1 σ V1 hP hB1) ?_
    clear hP h1
    rintro _ σ ⟨rfl, V2, hP, hB2, hF2⟩
    refine cV ?_
    refine x_lr (z := some 129) T_127_44 rfl ?_
    refine x_gR (z := some 138) T_127_45 F_1_8 (hP.o xo_129) (hP.rc xo_129 rfl rfl) ?_
    refine x_li (z := u) T_127_48 rfl ?_
    refine x_cs1 T_127_49 mN_72 mL_72 (Nat.le_of_ble_eq_true rfl) mK_72 (Nat.le_of_ble_eq_true rfl) (hus σ V2 hP) ?_
    rintro _ σ ⟨rfl, rfl⟩
    refine cI ?_
    refine x_i2l T_127_52 ?_
    refine x_ic T_127_53 ?_
    refine x_cv3 T_127_54 mN_22 mL_22 (Nat.le_of_ble_eq_true rfl) mO_22 (hP.o xo_138) (Nat.le_of_ble_eq_true rfl) (h2 σ V2 hP hB2) ?_
    clear hP h2
    rintro _ σ ⟨rfl, V3, hP, hB3, hF3⟩
    refine cV ?_
    refine x_lr (z := some 129) T_127_57 rfl ?_
    refine x_gR (z := some 138) T_127_58 F_1_8 (hP.o xo_129) (hP.rc xo_129 rfl rfl) ?_
    refine x_lc T_127_61 ?_
    refine x_ic T_127_62 ?_
    refine x_cv3 T_127_63 mN_22 mL_22 (Nat.le_of_ble_eq_true rfl) mO_22 (hP.o xo_138) (Nat.le_of_ble_eq_true rfl) (h3 σ V3 hP hB3) ?_
    clear hP h3
    rintro _ σ ⟨rfl, V4, hP, hB4, hF4⟩
    refine cV ?_
    refine x_lr (z := some 129) T_127_66 rfl ?_
    refine x_gR (z := some 138) T_127_67 F_1_8 (hP.o xo_129) (hP.rc xo_129 rfl rfl) ?_
    refine x_cv1 T_127_70 mN_24 mL_24 (Nat.le_of_ble_eq_true rfl) mO_24 (hP.o xo_138) (Nat.le_of_ble_eq_true rfl) (hf σ V4 hP hB4) ?_
    clear hP hf
    rintro _ σ ⟨rfl, V5, hP, hB5, hF5⟩
    have hg9 : V5 129 2037 = g := by rw [hF5 129 2037 (by decide) (by decide), hF4 129 2037 (by decide) (by decide), hF3 129 2037 (by decide) (by decide), hF2 129 2037 (by decide) (by decide), hF1 129 2037 (by decide) (by decide), hF0 129 2037 (by decide) (by decide)]; exact rU_s
    refine cV ?_
    refine x_lr (z := some 129) T_127_73 rfl ?_
    refine x_gI (z := g) T_127_74 (Or.inl F_1_5) (hP.o xo_129) (Eq.trans (hP.gi xo_129 (key := 2037) rfl) hg9) ?_
    refine x_ic T_127_77 ?_
    refine x_ic2 T_127_78 (fun _ => ?_) (fun h => absurd (show ¬ g = (-1) by omega) h)
    refine x_lr (z := some 129) T_127_85 rfl ?_
    refine x_gR (z := some 138) T_127_86 F_1_8 (hP.o xo_129) (hP.rc xo_129 rfl rfl) ?_
    refine x_rr T_127_89 ?_
    exact ⟨by rw [if_neg (show ¬ g < 0 by omega)], _, hP, hB5, FR1_tr FR1_fr (FR1_tr (FR1_tr (FR1_tr (FR1_tr (FR1_tr (FR1_fb hF0) (FR1_fb hF1)) (FR1_fb hF2)) (FR1_fb hF3)) (FR1_fb hF4)) (FR1_fb hF5)), hg9⟩
theorem x_walking0 (hP : PX σ0 W R σ) (hS : VS S s) (hX : XV W R P S s ord tt) (hI : IV false T U P) (hf : 0 ≤ f ∧ f ≤ 47) : CL fb (d + 3) 123 [vR (some 129), vI s, vI f, vI (-1)] σ (XRN σ0 W R (qNewF P s) (mCopy f (qNewF P s))) := by
  have hO := hS.o
  have hS2 := hS.2
  have hho := x_host (fb := fb) (d := d + 2) (s := s) hP hS.1
  rw [← hS2] at hho
  have hsp := x_spareNumber (fb := fb) (d := d + 2) hP hS hX.2.1.fu hI
  obtain ⟨g, hg⟩ : ∃ q, qNewF P s = q := ⟨_, rfl⟩
  have hgr : g = -1 ∨ (0 ≤ g ∧ g ≤ 47) := by rw [← hg]; exact qNewF_rng
  rw [hg] at hsp ⊢
  have hk := fun (σ : hM) (W0 : qR) (hP : PX σ0 W0 R σ) => x_kstart (fb := fb) (d := d) (t := 110) (f := f) hP (by omega) (by omega)
  have h0 := fun (σ : hM) (V : qR) (hP : PX σ0 V R σ) (hB : BY V 138 300 (leb 4 0 ++ (leb 1 110 ++ leb 2 1) ++ leb 4 f)) => x_put8 (fb := fb) (d := d + 2) (k := 4) (v := g) 4 hP hB rfl (by decide) ⟨by omega, by omega⟩ (by simp only [List.length_append, leb_len]; omega)
  have h1 := fun (σ : hM) (V : qR) (hP : PX σ0 V R σ) (hB : BY V 138 300 (leb 4 0 ++ (leb 1 110 ++ leb 2 1) ++ leb 4 f ++ leb 4 g)) => x_put8 (fb := fb) (d := d + 2) (k := 2) (v := 0) 2 hP hB rfl (by decide) (by decide) (by simp only [List.length_append, leb_len]; omega)
  have hf := fun (σ : hM) (V : qR) (hP : PX σ0 V R σ) (hB : BY V 138 300 (leb 4 0 ++ (leb 1 110 ++ leb 2 1) ++ leb 4 f ++ leb 4 g ++ leb 2 0)) => x_fin (fb := fb) (d := d + 1) hP hB (mCopy f g) (by unfold mCopy; simp only [List.append_assoc])
  rcases hgr with rfl | hgr
  · skip
    refine CL_in mL_123 rfl ?_
    show WP fb _ 123 0 [some (vR (some 129)), some (vI s), some (vI f), some (vI (-1))] [] σ _
    refine x_lr (z := some 129) T_123_0 rfl ?_
    refine x_lr (z := some 129) T_123_1 rfl ?_
    refine x_li (z := s) T_123_2 rfl ?_
    refine x_cv2 T_123_3 mN_122 mL_122 (Nat.le_of_ble_eq_true rfl) mO_122 (hP.o xo_129) (Nat.le_of_ble_eq_true rfl) (hho) ?_
    rintro _ σ ⟨rfl, rfl⟩
    refine cR ?_
    refine x_cv1 T_123_6 mN_124 mL_124 (Nat.le_of_ble_eq_true rfl) mO_124 (hP.o hO) (Nat.le_of_ble_eq_true rfl) (hsp) ?_
    rintro _ σ ⟨rfl, rfl⟩
    refine cI ?_
    refine z_pI hP T_123_9 F_1_5 xo_129 (key := 2037) rfl (fun σ hP => ?_)
    refine x_lr (z := some 129) T_123_12 rfl ?_
    refine x_ic T_123_13 ?_
    refine x_li (z := f) T_123_15 rfl ?_
    refine x_cv3 T_123_16 mN_125 mL_125 (Nat.le_of_ble_eq_true rfl) mO_125 (hP.o xo_129) (Nat.le_of_ble_eq_true rfl) (hk σ _ hP) ?_
    clear hP hk
    rintro _ σ ⟨rfl, V0, hP, hB0, hF0⟩
    have hg0 : V0 129 2037 = -1 := (hF0 129 2037 (by decide) (by decide)).trans rU_s
    refine cV ?_
    refine x_lr (z := some 129) T_123_19 rfl ?_
    refine x_gR (z := some 138) T_123_20 F_1_8 (hP.o xo_129) (hP.rc xo_129 rfl rfl) ?_
    refine x_lr (z := some 129) T_123_23 rfl ?_
    refine x_gI (z := (-1)) T_123_24 (Or.inl F_1_5) (hP.o xo_129) (Eq.trans (hP.gi xo_129 (key := 2037) rfl) hg0) ?_
    refine x_i2l T_123_27 ?_
    refine x_ic T_123_28 ?_
    refine x_cv3 T_123_29 mN_22 mL_22 (Nat.le_of_ble_eq_true rfl) mO_22 (hP.o xo_138) (Nat.le_of_ble_eq_true rfl) (h0 σ V0 hP hB0) ?_
    clear hP h0
    rintro _ σ ⟨rfl, V1, hP, hB1, hF1⟩
    refine cV ?_
    refine x_lr (z := some 129) T_123_32 rfl ?_
    refine x_gR (z := some 138) T_123_33 F_1_8 (hP.o xo_129) (hP.rc xo_129 rfl rfl) ?_
    refine x_li (z := (-1)) T_123_36 rfl ?_
    refine x_ic T_123_37 ?_
    refine x_ic2 T_123_38 (fun h => absurd (show ¬ ((-1) : Int) = (-1) from h) (by decide)) (fun _ => ?_)
    refine x_lc T_123_41 ?_
    refine x_goto T_123_42 ?_
    refine x_ic T_123_46 ?_
    refine x_cv3 T_123_47 mN_22 mL_22 (Nat.le_of_ble_eq_true rfl) mO_22 (hP.o xo_138) (Nat.le_of_ble_eq_true rfl) (h1 σ V1 hP hB1) ?_
    clear hP h1
    rintro _ σ ⟨rfl, V2, hP, hB2, hF2⟩
    refine cV ?_
    refine x_li (z := (-1)) T_123_50 rfl ?_
    refine x_ic T_123_51 ?_
    refine x_ic2 T_123_52 (fun _ => ?_) (fun h => absurd (show ((-1) : Int) = (-1) by decide) h)
    refine x_lr (z := some 129) T_123_60 rfl ?_
    refine x_gR (z := some 138) T_123_61 F_1_8 (hP.o xo_129) (hP.rc xo_129 rfl rfl) ?_
    refine x_cv1 T_123_64 mN_24 mL_24 (Nat.le_of_ble_eq_true rfl) mO_24 (hP.o xo_138) (Nat.le_of_ble_eq_true rfl) (hf σ V2 hP hB2) ?_
    clear hP hf
    rintro _ σ ⟨rfl, V3, hP, hB3, hF3⟩
    have hg9 : V3 129 2037 = -1 := by rw [hF3 129 2037 (by decide) (by decide), hF2 129 2037 (by decide) (by decide), hF1 129 2037 (by decide) (by decide), hF0 129 2037 (by decide) (by decide)]; exact rU_s
    refine cV ?_
    refine x_lr (z := some 129) T_123_67 rfl ?_
    refine x_gI (z := (-1)) T_123_68 (Or.inl F_1_5) (hP.o xo_129) (Eq.trans (hP.gi xo_129 (key := 2037) rfl) hg9) ?_
    refine x_ic T_123_71 ?_
    refine x_ic2 T_123_72 (fun h => absurd (show ¬ ((-1) : Int) = (-1) from h) (by decide)) (fun _ => ?_)
    refine x_nu T_123_75 ?_
    refine x_goto T_123_76 ?_
    refine x_rr T_123_83 ?_
    exact ⟨by rw [if_pos (show (-1 : Int) < 0 by decide)], _, hP, hB3, FR1_tr FR1_fr (FR1_tr (FR1_tr (FR1_tr (FR1_fb hF0) (FR1_fb hF1)) (FR1_fb hF2)) (FR1_fb hF3)), hg9⟩
  · skip
    refine CL_in mL_123 rfl ?_
    show WP fb _ 123 0 [some (vR (some 129)), some (vI s), some (vI f), some (vI (-1))] [] σ _
    refine x_lr (z := some 129) T_123_0 rfl ?_
    refine x_lr (z := some 129) T_123_1 rfl ?_
    refine x_li (z := s) T_123_2 rfl ?_
    refine x_cv2 T_123_3 mN_122 mL_122 (Nat.le_of_ble_eq_true rfl) mO_122 (hP.o xo_129) (Nat.le_of_ble_eq_true rfl) (hho) ?_
    rintro _ σ ⟨rfl, rfl⟩
    refine cR ?_
    refine x_cv1 T_123_6 mN_124 mL_124 (Nat.le_of_ble_eq_true rfl) mO_124 (hP.o hO) (Nat.le_of_ble_eq_true rfl) (hsp) ?_
    rintro _ σ ⟨rfl, rfl⟩
    refine cI ?_
    refine z_pI hP T_123_9 F_1_5 xo_129 (key := 2037) rfl (fun σ hP => ?_)
    refine x_lr (z := some 129) T_123_12 rfl ?_
    refine x_ic T_123_13 ?_
    refine x_li (z := f) T_123_15 rfl ?_
    refine x_cv3 T_123_16 mN_125 mL_125 (Nat.le_of_ble_eq_true rfl) mO_125 (hP.o xo_129) (Nat.le_of_ble_eq_true rfl) (hk σ _ hP) ?_
    clear hP hk
    rintro _ σ ⟨rfl, V0, hP, hB0, hF0⟩
    have hg0 : V0 129 2037 = g := (hF0 129 2037 (by decide) (by decide)).trans rU_s
    refine cV ?_
    refine x_lr (z := some 129) T_123_19 rfl ?_
    refine x_gR (z := some 138) T_123_20 F_1_8 (hP.o xo_129) (hP.rc xo_129 rfl rfl) ?_
    refine x_lr (z := some 129) T_123_23 rfl ?_
    refine x_gI (z := g) T_123_24 (Or.inl F_1_5) (hP.o xo_129) (Eq.trans (hP.gi xo_129 (key := 2037) rfl) hg0) ?_
    refine x_i2l T_123_27 ?_
    refine x_ic T_123_28 ?_
    refine x_cv3 T_123_29 mN_22 mL_22 (Nat.le_of_ble_eq_true rfl) mO_22 (hP.o xo_138) (Nat.le_of_ble_eq_true rfl) (h0 σ V0 hP hB0) ?_
    clear hP h0
    rintro _ σ ⟨rfl, V1, hP, hB1, hF1⟩
    refine cV ?_
    refine x_lr (z := some 129) T_123_32 rfl ?_
    refine x_gR (z := some 138) T_123_33 F_1_8 (hP.o xo_129) (hP.rc xo_129 rfl rfl) ?_
    refine x_li (z := (-1)) T_123_36 rfl ?_
    refine x_ic T_123_37 ?_
    refine x_ic2 T_123_38 (fun h => absurd (show ¬ ((-1) : Int) = (-1) from h) (by decide)) (fun _ => ?_)
    refine x_lc T_123_41 ?_
    refine x_goto T_123_42 ?_
    refine x_ic T_123_46 ?_
    refine x_cv3 T_123_47 mN_22 mL_22 (Nat.le_of_ble_eq_true rfl) mO_22 (hP.o xo_138) (Nat.le_of_ble_eq_true rfl) (h1 σ V1 hP hB1) ?_
    clear hP h1
    rintro _ σ ⟨rfl, V2, hP, hB2, hF2⟩
    refine cV ?_
    refine x_li (z := (-1)) T_123_50 rfl ?_
    refine x_ic T_123_51 ?_
    refine x_ic2 T_123_52 (fun _ => ?_) (fun h => absurd (show ((-1) : Int) = (-1) by decide) h)
    refine x_lr (z := some 129) T_123_60 rfl ?_
    refine x_gR (z := some 138) T_123_61 F_1_8 (hP.o xo_129) (hP.rc xo_129 rfl rfl) ?_
    refine x_cv1 T_123_64 mN_24 mL_24 (Nat.le_of_ble_eq_true rfl) mO_24 (hP.o xo_138) (Nat.le_of_ble_eq_true rfl) (hf σ V2 hP hB2) ?_
    clear hP hf
    rintro _ σ ⟨rfl, V3, hP, hB3, hF3⟩
    have hg9 : V3 129 2037 = g := by rw [hF3 129 2037 (by decide) (by decide), hF2 129 2037 (by decide) (by decide), hF1 129 2037 (by decide) (by decide), hF0 129 2037 (by decide) (by decide)]; exact rU_s
    refine cV ?_
    refine x_lr (z := some 129) T_123_67 rfl ?_
    refine x_gI (z := g) T_123_68 (Or.inl F_1_5) (hP.o xo_129) (Eq.trans (hP.gi xo_129 (key := 2037) rfl) hg9) ?_
    refine x_ic T_123_71 ?_
    refine x_ic2 T_123_72 (fun _ => ?_) (fun h => absurd (show ¬ g = (-1) by omega) h)
    refine x_lr (z := some 129) T_123_79 rfl ?_
    refine x_gR (z := some 138) T_123_80 F_1_8 (hP.o xo_129) (hP.rc xo_129 rfl rfl) ?_
    refine x_rr T_123_83 ?_
    exact ⟨by rw [if_neg (show ¬ g < 0 by omega)], _, hP, hB3, FR1_tr FR1_fr (FR1_tr (FR1_tr (FR1_tr (FR1_fb hF0) (FR1_fb hF1)) (FR1_fb hF2)) (FR1_fb hF3)), hg9⟩
theorem x_walking1 (hP : PX σ0 W R σ) (hS : VS S s) (hX : XV W R P S s ord tt) (hI : IV false T U P) (hf : 0 ≤ f ∧ f ≤ 47) (hC : BY W 145 161 lo) (hnn : W 129 2038 = n) (hi : 0 ≤ i ∧ i < n ∧ i < 100) (hN : NMX W lo i nm) (hl2 : nm.length ≤ 200) : CL fb (d + 3) 123 [vR (some 129), vI s, vI f, vI i] σ (XRN σ0 W R (qNewF P s) (mWalk f (qNewF P s) nm)) := by
  have hO := hS.o
  have hS2 := hS.2
  have hho := x_host (fb := fb) (d := d + 2) (s := s) hP hS.1
  rw [← hS2] at hho
  have hsp := x_spareNumber (fb := fb) (d := d + 2) hP hS hX.2.1.fu hI
  obtain ⟨g, hg⟩ : ∃ q, qNewF P s = q := ⟨_, rfl⟩
  have hgr : g = -1 ∨ (0 ≤ g ∧ g ≤ 47) := by rw [← hg]; exact qNewF_rng
  rw [hg] at hsp ⊢
  have hnV : ∀ V : qR, FR1 W V → V 129 2038 = n := fun V hF => (hF _ _ (by omega) (by omega) (by omega)).trans hnn
  have hk := fun (σ : hM) (W0 : qR) (hP : PX σ0 W0 R σ) => x_kstart (fb := fb) (d := d) (t := 110) (f := f) hP (by omega) (by omega)
  have h0 := fun (σ : hM) (V : qR) (hP : PX σ0 V R σ) (hB : BY V 138 300 (leb 4 0 ++ (leb 1 110 ++ leb 2 1) ++ leb 4 f)) => x_put8 (fb := fb) (d := d + 2) (k := 4) (v := g) 4 hP hB rfl (by decide) ⟨by omega, by omega⟩ (by simp only [List.length_append, leb_len]; omega)
  have h1 := fun (σ : hM) (V : qR) (hP : PX σ0 V R σ) (hB : BY V 138 300 (leb 4 0 ++ (leb 1 110 ++ leb 2 1) ++ leb 4 f ++ leb 4 g)) => x_put8 (fb := fb) (d := d + 2) (k := 2) (v := 1) 2 hP hB rfl (by decide) (by decide) (by simp only [List.length_append, leb_len]; omega)
  have h2 := fun (σ : hM) (V : qR) (hP : PX σ0 V R σ) (hB : BY V 138 300 (leb 4 0 ++ (leb 1 110 ++ leb 2 1) ++ leb 4 f ++ leb 4 g ++ leb 2 1)) (hF : FR1 W V) => x_putName (fb := fb) (d := d + 1) hP hB (hF.by hC (by decide)) (hN.fr hF (by omega)) (hnV V hF) hi (by simp only [List.length_append, leb_len]; omega)
  have hf := fun (σ : hM) (V : qR) (hP : PX σ0 V R σ) (hB : BY V 138 300 (leb 4 0 ++ (leb 1 110 ++ leb 2 1) ++ leb 4 f ++ leb 4 g ++ leb 2 1 ++ leb 2 (nm.length : Int) ++ nm)) => x_fin (fb := fb) (d := d + 1) hP hB (mWalk f g nm) (by unfold mWalk; simp only [List.append_assoc])
  rcases hgr with rfl | hgr
  · skip
    refine CL_in mL_123 rfl ?_
    show WP fb _ 123 0 [some (vR (some 129)), some (vI s), some (vI f), some (vI i)] [] σ _
    refine x_lr (z := some 129) T_123_0 rfl ?_
    refine x_lr (z := some 129) T_123_1 rfl ?_
    refine x_li (z := s) T_123_2 rfl ?_
    refine x_cv2 T_123_3 mN_122 mL_122 (Nat.le_of_ble_eq_true rfl) mO_122 (hP.o xo_129) (Nat.le_of_ble_eq_true rfl) (hho) ?_
    rintro _ σ ⟨rfl, rfl⟩
    refine cR ?_
    refine x_cv1 T_123_6 mN_124 mL_124 (Nat.le_of_ble_eq_true rfl) mO_124 (hP.o hO) (Nat.le_of_ble_eq_true rfl) (hsp) ?_
    rintro _ σ ⟨rfl, rfl⟩
    refine cI ?_
    refine z_pI hP T_123_9 F_1_5 xo_129 (key := 2037) rfl (fun σ hP => ?_)
    refine x_lr (z := some 129) T_123_12 rfl ?_
    refine x_ic T_123_13 ?_
    refine x_li (z := f) T_123_15 rfl ?_
    refine x_cv3 T_123_16 mN_125 mL_125 (Nat.le_of_ble_eq_true rfl) mO_125 (hP.o xo_129) (Nat.le_of_ble_eq_true rfl) (hk σ _ hP) ?_
    clear hP hk
    rintro _ σ ⟨rfl, V0, hP, hB0, hF0⟩
    have hg0 : V0 129 2037 = -1 := (hF0 129 2037 (by decide) (by decide)).trans rU_s
    refine cV ?_
    refine x_lr (z := some 129) T_123_19 rfl ?_
    refine x_gR (z := some 138) T_123_20 F_1_8 (hP.o xo_129) (hP.rc xo_129 rfl rfl) ?_
    refine x_lr (z := some 129) T_123_23 rfl ?_
    refine x_gI (z := (-1)) T_123_24 (Or.inl F_1_5) (hP.o xo_129) (Eq.trans (hP.gi xo_129 (key := 2037) rfl) hg0) ?_
    refine x_i2l T_123_27 ?_
    refine x_ic T_123_28 ?_
    refine x_cv3 T_123_29 mN_22 mL_22 (Nat.le_of_ble_eq_true rfl) mO_22 (hP.o xo_138) (Nat.le_of_ble_eq_true rfl) (h0 σ V0 hP hB0) ?_
    clear hP h0
    rintro _ σ ⟨rfl, V1, hP, hB1, hF1⟩
    refine cV ?_
    refine x_lr (z := some 129) T_123_32 rfl ?_
    refine x_gR (z := some 138) T_123_33 F_1_8 (hP.o xo_129) (hP.rc xo_129 rfl rfl) ?_
    refine x_li (z := i) T_123_36 rfl ?_
    refine x_ic T_123_37 ?_
    refine x_ic2 T_123_38 (fun _ => ?_) (fun h => absurd (show ¬ i = (-1) by omega) h)
    refine x_lc T_123_45 ?_
    refine x_ic T_123_46 ?_
    refine x_cv3 T_123_47 mN_22 mL_22 (Nat.le_of_ble_eq_true rfl) mO_22 (hP.o xo_138) (Nat.le_of_ble_eq_true rfl) (h1 σ V1 hP hB1) ?_
    clear hP h1
    rintro _ σ ⟨rfl, V2, hP, hB2, hF2⟩
    refine cV ?_
    refine x_li (z := i) T_123_50 rfl ?_
    refine x_ic T_123_51 ?_
    refine x_ic2 T_123_52 (fun h => absurd (show i = (-1) from h) (by omega)) (fun _ => ?_)
    refine x_lr (z := some 129) T_123_55 rfl ?_
    refine x_li (z := i) T_123_56 rfl ?_
    refine x_cv2 T_123_57 mN_126 mL_126 (Nat.le_of_ble_eq_true rfl) mO_126 (hP.o xo_129) (Nat.le_of_ble_eq_true rfl) (h2 σ V2 hP hB2 (FR1_tr FR1_fr (FR1_tr (FR1_tr (FR1_fb hF0) (FR1_fb hF1)) (FR1_fb hF2)))) ?_
    clear hP h2
    rintro _ σ ⟨rfl, V3, hP, hB3, hF3⟩
    refine cV ?_
    refine x_lr (z := some 129) T_123_60 rfl ?_
    refine x_gR (z := some 138) T_123_61 F_1_8 (hP.o xo_129) (hP.rc xo_129 rfl rfl) ?_
    refine x_cv1 T_123_64 mN_24 mL_24 (Nat.le_of_ble_eq_true rfl) mO_24 (hP.o xo_138) (Nat.le_of_ble_eq_true rfl) (hf σ V3 hP hB3) ?_
    clear hP hf
    rintro _ σ ⟨rfl, V4, hP, hB4, hF4⟩
    have hg9 : V4 129 2037 = -1 := by rw [hF4 129 2037 (by decide) (by decide), hF3 129 2037 (by decide) (by decide), hF2 129 2037 (by decide) (by decide), hF1 129 2037 (by decide) (by decide), hF0 129 2037 (by decide) (by decide)]; exact rU_s
    refine cV ?_
    refine x_lr (z := some 129) T_123_67 rfl ?_
    refine x_gI (z := (-1)) T_123_68 (Or.inl F_1_5) (hP.o xo_129) (Eq.trans (hP.gi xo_129 (key := 2037) rfl) hg9) ?_
    refine x_ic T_123_71 ?_
    refine x_ic2 T_123_72 (fun h => absurd (show ¬ ((-1) : Int) = (-1) from h) (by decide)) (fun _ => ?_)
    refine x_nu T_123_75 ?_
    refine x_goto T_123_76 ?_
    refine x_rr T_123_83 ?_
    exact ⟨by rw [if_pos (show (-1 : Int) < 0 by decide)], _, hP, hB4, FR1_tr FR1_fr (FR1_tr (FR1_tr (FR1_tr (FR1_tr (FR1_fb hF0) (FR1_fb hF1)) (FR1_fb hF2)) (FR1_fb hF3)) (FR1_fb hF4)), hg9⟩
  · skip
    refine CL_in mL_123 rfl ?_
    show WP fb _ 123 0 [some (vR (some 129)), some (vI s), some (vI f), some (vI i)] [] σ _
    refine x_lr (z := some 129) T_123_0 rfl ?_
    refine x_lr (z := some 129) T_123_1 rfl ?_
    refine x_li (z := s) T_123_2 rfl ?_
    refine x_cv2 T_123_3 mN_122 mL_122 (Nat.le_of_ble_eq_true rfl) mO_122 (hP.o xo_129) (Nat.le_of_ble_eq_true rfl) (hho) ?_
    rintro _ σ ⟨rfl, rfl⟩
    refine cR ?_
    refine x_cv1 T_123_6 mN_124 mL_124 (Nat.le_of_ble_eq_true rfl) mO_124 (hP.o hO) (Nat.le_of_ble_eq_true rfl) (hsp) ?_
    rintro _ σ ⟨rfl, rfl⟩
    refine cI ?_
    refine z_pI hP T_123_9 F_1_5 xo_129 (key := 2037) rfl (fun σ hP => ?_)
    refine x_lr (z := some 129) T_123_12 rfl ?_
    refine x_ic T_123_13 ?_
    refine x_li (z := f) T_123_15 rfl ?_
    refine x_cv3 T_123_16 mN_125 mL_125 (Nat.le_of_ble_eq_true rfl) mO_125 (hP.o xo_129) (Nat.le_of_ble_eq_true rfl) (hk σ _ hP) ?_
    clear hP hk
    rintro _ σ ⟨rfl, V0, hP, hB0, hF0⟩
    have hg0 : V0 129 2037 = g := (hF0 129 2037 (by decide) (by decide)).trans rU_s
    refine cV ?_
    refine x_lr (z := some 129) T_123_19 rfl ?_
    refine x_gR (z := some 138) T_123_20 F_1_8 (hP.o xo_129) (hP.rc xo_129 rfl rfl) ?_
    refine x_lr (z := some 129) T_123_23 rfl ?_
    refine x_gI (z := g) T_123_24 (Or.inl F_1_5) (hP.o xo_129) (Eq.trans (hP.gi xo_129 (key := 2037) rfl) hg0) ?_
    refine x_i2l T_123_27 ?_
    refine x_ic T_123_28 ?_
    refine x_cv3 T_123_29 mN_22 mL_22 (Nat.le_of_ble_eq_true rfl) mO_22 (hP.o xo_138) (Nat.le_of_ble_eq_true rfl) (h0 σ V0 hP hB0) ?_
    clear hP h0
    rintro _ σ ⟨rfl, V1, hP, hB1, hF1⟩
    refine cV ?_
    refine x_lr (z := some 129) T_123_32 rfl ?_
    refine x_gR (z := some 138) T_123_33 F_1_8 (hP.o xo_129) (hP.rc xo_129 rfl rfl) ?_
    refine x_li (z := i) T_123_36 rfl ?_
    refine x_ic T_123_37 ?_
    refine x_ic2 T_123_38 (fun _ => ?_) (fun h => absurd (show ¬ i = (-1) by omega) h)
    refine x_lc T_123_45 ?_
    refine x_ic T_123_46 ?_
    refine x_cv3 T_123_47 mN_22 mL_22 (Nat.le_of_ble_eq_true rfl) mO_22 (hP.o xo_138) (Nat.le_of_ble_eq_true rfl) (h1 σ V1 hP hB1) ?_
    clear hP h1
    rintro _ σ ⟨rfl, V2, hP, hB2, hF2⟩
    refine cV ?_
    refine x_li (z := i) T_123_50 rfl ?_
    refine x_ic T_123_51 ?_
    refine x_ic2 T_123_52 (fun h => absurd (show i = (-1) from h) (by omega)) (fun _ => ?_)
    refine x_lr (z := some 129) T_123_55 rfl ?_
    refine x_li (z := i) T_123_56 rfl ?_
    refine x_cv2 T_123_57 mN_126 mL_126 (Nat.le_of_ble_eq_true rfl) mO_126 (hP.o xo_129) (Nat.le_of_ble_eq_true rfl) (h2 σ V2 hP hB2 (FR1_tr FR1_fr (FR1_tr (FR1_tr (FR1_fb hF0) (FR1_fb hF1)) (FR1_fb hF2)))) ?_
    clear hP h2
    rintro _ σ ⟨rfl, V3, hP, hB3, hF3⟩
    refine cV ?_
    refine x_lr (z := some 129) T_123_60 rfl ?_
    refine x_gR (z := some 138) T_123_61 F_1_8 (hP.o xo_129) (hP.rc xo_129 rfl rfl) ?_
    refine x_cv1 T_123_64 mN_24 mL_24 (Nat.le_of_ble_eq_true rfl) mO_24 (hP.o xo_138) (Nat.le_of_ble_eq_true rfl) (hf σ V3 hP hB3) ?_
    clear hP hf
    rintro _ σ ⟨rfl, V4, hP, hB4, hF4⟩
    have hg9 : V4 129 2037 = g := by rw [hF4 129 2037 (by decide) (by decide), hF3 129 2037 (by decide) (by decide), hF2 129 2037 (by decide) (by decide), hF1 129 2037 (by decide) (by decide), hF0 129 2037 (by decide) (by decide)]; exact rU_s
    refine cV ?_
    refine x_lr (z := some 129) T_123_67 rfl ?_
    refine x_gI (z := g) T_123_68 (Or.inl F_1_5) (hP.o xo_129) (Eq.trans (hP.gi xo_129 (key := 2037) rfl) hg9) ?_
    refine x_ic T_123_71 ?_
    refine x_ic2 T_123_72 (fun _ => ?_) (fun h => absurd (show ¬ g = (-1) by omega) h)
    refine x_lr (z := some 129) T_123_79 rfl ?_
    refine x_gR (z := some 138) T_123_80 F_1_8 (hP.o xo_129) (hP.rc xo_129 rfl rfl) ?_
    refine x_rr T_123_83 ?_
    exact ⟨by rw [if_neg (show ¬ g < 0 by omega)], _, hP, hB4, FR1_tr FR1_fr (FR1_tr (FR1_tr (FR1_tr (FR1_tr (FR1_fb hF0) (FR1_fb hF1)) (FR1_fb hF2)) (FR1_fb hF3)) (FR1_fb hF4)), hg9⟩
end NEWF
end XREQ
