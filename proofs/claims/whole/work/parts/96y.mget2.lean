/-! The reference's methods that look at members, descriptors, servers and fids. -/
theorem T_418_8 : hTab 418 8 = some ((3, 2, 0, []), 9) := rfl
theorem T_418_9 : hTab 418 9 = some ((14, 0, 0, []), 10) := rfl
theorem T_418_10 : hTab 418 10 = some ((1, 0, 0, []), 11) := rfl
theorem T_418_11 : hTab 418 11 = some ((3, 0, 2, []), 12) := rfl
theorem T_418_12 : hTab 418 12 = some ((24, 17, Int.ofNat 64, []), 15) := rfl
theorem T_418_15 : hTab 418 15 = some ((3, 0, 2, []), 16) := rfl
theorem T_418_16 : hTab 418 16 = some ((24, 17, Int.ofNat 53, []), 19) := rfl
theorem T_418_19 : hTab 418 19 = some ((3, 1, 0, []), 20) := rfl
theorem T_418_20 : hTab 418 20 = some ((26, 0, 0, []), 21) := rfl
theorem T_418_21 : hTab 418 21 = some ((26, 0, 0, []), 22) := rfl
theorem T_418_22 : hTab 418 22 = some ((0, 0, 1, []), 23) := rfl
theorem T_418_23 : hTab 418 23 = some ((10, 1, 0, []), 24) := rfl
theorem T_418_24 : hTab 418 24 = some ((14, 0, 0, []), 25) := rfl
theorem T_418_25 : hTab 418 25 = some ((31, 282, 0, []), 28) := rfl
theorem T_418_28 : hTab 418 28 = some ((18, 1, Int.ofNat 33, []), 31) := rfl
theorem T_418_33 : hTab 418 33 = some ((0, 0, 8, []), 35) := rfl
theorem T_418_35 : hTab 418 35 = some ((3, 0, 2, []), 36) := rfl
theorem T_418_36 : hTab 418 36 = some ((24, 17, Int.ofNat 53, []), 39) := rfl
theorem T_418_39 : hTab 418 39 = some ((3, 1, 0, []), 40) := rfl
theorem T_418_40 : hTab 418 40 = some ((26, 0, 0, []), 41) := rfl
theorem T_418_41 : hTab 418 41 = some ((10, 2, 0, []), 42) := rfl
theorem T_418_42 : hTab 418 42 = some ((3, 2, 0, []), 43) := rfl
theorem T_418_43 : hTab 418 43 = some ((10, 0, 0, []), 44) := rfl
theorem T_418_44 : hTab 418 44 = some ((4, 5, 0, []), 46) := rfl
theorem T_418_46 : hTab 418 46 = some ((3, 3, 0, []), 47) := rfl
theorem T_418_47 : hTab 418 47 = some ((14, 0, 0, []), 48) := rfl
theorem T_418_48 : hTab 418 48 = some ((1, 0, 0, []), 49) := rfl
theorem T_418_49 : hTab 418 49 = some ((3, 0, 2, []), 50) := rfl
theorem T_418_50 : hTab 418 50 = some ((24, 17, Int.ofNat 67, []), 53) := rfl
theorem T_418_53 : hTab 418 53 = some ((3, 5, 0, []), 55) := rfl
theorem T_418_55 : hTab 418 55 = some ((26, 0, 0, []), 56) := rfl
theorem T_418_56 : hTab 418 56 = some ((0, 0, 1, []), 57) := rfl
theorem T_418_57 : hTab 418 57 = some ((10, 1, 0, []), 58) := rfl
theorem T_418_58 : hTab 418 58 = some ((14, 0, 0, []), 59) := rfl
theorem T_418_59 : hTab 418 59 = some ((31, 282, 0, []), 62) := rfl
theorem T_418_62 : hTab 418 62 = some ((18, 1, Int.ofNat 67, []), 65) := rfl
theorem T_418_65 : hTab 418 65 = some ((0, 0, (-1), []), 66) := rfl
theorem T_418_66 : hTab 418 66 = some ((33, 1, 0, []), 67) := rfl
theorem T_418_67 : hTab 418 67 = some ((0, 0, 6, []), 69) := rfl
theorem T_418_69 : hTab 418 69 = some ((3, 5, 0, []), 71) := rfl
theorem T_418_71 : hTab 418 71 = some ((10, 2, 0, []), 72) := rfl
theorem T_418_72 : hTab 418 72 = some ((3, 3, 0, []), 73) := rfl
theorem T_418_73 : hTab 418 73 = some ((10, 0, 0, []), 74) := rfl
theorem T_418_74 : hTab 418 74 = some ((4, 6, 0, []), 76) := rfl
theorem T_418_76 : hTab 418 76 = some ((3, 4, 0, []), 78) := rfl
theorem T_418_78 : hTab 418 78 = some ((18, 1, Int.ofNat 91, []), 81) := rfl
theorem T_418_81 : hTab 418 81 = some ((3, 0, 2, []), 82) := rfl
theorem T_418_82 : hTab 418 82 = some ((24, 17, Int.ofNat 68, []), 85) := rfl
theorem T_418_85 : hTab 418 85 = some ((3, 6, 0, []), 87) := rfl
theorem T_418_87 : hTab 418 87 = some ((26, 0, 0, []), 88) := rfl
theorem T_418_88 : hTab 418 88 = some ((22, 0, Int.ofNat 149, []), 91) := rfl
theorem T_418_91 : hTab 418 91 = some ((3, 4, 0, []), 93) := rfl
theorem T_418_93 : hTab 418 93 = some ((0, 0, 1, []), 94) := rfl
theorem T_418_94 : hTab 418 94 = some ((19, 1, Int.ofNat 107, []), 97) := rfl
theorem T_418_97 : hTab 418 97 = some ((3, 0, 2, []), 98) := rfl
theorem T_418_98 : hTab 418 98 = some ((24, 17, Int.ofNat 69, []), 101) := rfl
theorem T_418_101 : hTab 418 101 = some ((3, 6, 0, []), 103) := rfl
theorem T_418_103 : hTab 418 103 = some ((26, 0, 0, []), 104) := rfl
theorem T_418_104 : hTab 418 104 = some ((22, 0, Int.ofNat 149, []), 107) := rfl
theorem T_418_107 : hTab 418 107 = some ((3, 4, 0, []), 109) := rfl
theorem T_418_109 : hTab 418 109 = some ((0, 0, 2, []), 110) := rfl
theorem T_418_110 : hTab 418 110 = some ((19, 1, Int.ofNat 123, []), 113) := rfl
theorem T_418_113 : hTab 418 113 = some ((3, 0, 2, []), 114) := rfl
theorem T_418_114 : hTab 418 114 = some ((24, 17, Int.ofNat 70, []), 117) := rfl
theorem T_418_117 : hTab 418 117 = some ((3, 6, 0, []), 119) := rfl
theorem T_418_119 : hTab 418 119 = some ((26, 0, 0, []), 120) := rfl
theorem T_418_120 : hTab 418 120 = some ((22, 0, Int.ofNat 149, []), 123) := rfl
theorem T_418_123 : hTab 418 123 = some ((3, 4, 0, []), 125) := rfl
theorem T_418_125 : hTab 418 125 = some ((0, 0, 3, []), 126) := rfl
theorem T_418_126 : hTab 418 126 = some ((19, 1, Int.ofNat 147, []), 129) := rfl
theorem T_418_129 : hTab 418 129 = some ((3, 0, 2, []), 130) := rfl
theorem T_418_130 : hTab 418 130 = some ((24, 17, Int.ofNat 72, []), 133) := rfl
theorem T_418_133 : hTab 418 133 = some ((3, 6, 0, []), 135) := rfl
theorem T_418_135 : hTab 418 135 = some ((26, 2, 0, []), 136) := rfl
theorem T_418_136 : hTab 418 136 = some ((18, 0, Int.ofNat 143, []), 139) := rfl
theorem T_418_139 : hTab 418 139 = some ((0, 0, 1, []), 140) := rfl
theorem T_418_140 : hTab 418 140 = some ((22, 0, Int.ofNat 149, []), 143) := rfl
theorem T_418_143 : hTab 418 143 = some ((0, 0, 0, []), 144) := rfl
theorem T_418_144 : hTab 418 144 = some ((22, 0, Int.ofNat 149, []), 147) := rfl
theorem T_418_147 : hTab 418 147 = some ((0, 0, (-100), []), 149) := rfl
theorem T_418_149 : hTab 418 149 = some ((33, 1, 0, []), 150) := rfl
theorem T_419_8 : hTab 419 8 = some ((3, 2, 0, []), 9) := rfl
theorem T_419_9 : hTab 419 9 = some ((14, 0, 0, []), 10) := rfl
theorem T_419_10 : hTab 419 10 = some ((1, 0, 0, []), 11) := rfl
theorem T_419_11 : hTab 419 11 = some ((1, 0, 7, []), 14) := rfl
theorem T_419_14 : hTab 419 14 = some ((31, 282, 0, []), 17) := rfl
theorem T_419_17 : hTab 419 17 = some ((18, 0, Int.ofNat 34, []), 20) := rfl
theorem T_419_20 : hTab 419 20 = some ((3, 0, 2, []), 21) := rfl
theorem T_419_21 : hTab 419 21 = some ((24, 17, Int.ofNat 57, []), 24) := rfl
theorem T_419_24 : hTab 419 24 = some ((0, 0, 8, []), 26) := rfl
theorem T_419_26 : hTab 419 26 = some ((3, 1, 0, []), 27) := rfl
theorem T_419_27 : hTab 419 27 = some ((10, 2, 0, []), 28) := rfl
theorem T_419_28 : hTab 419 28 = some ((3, 2, 0, []), 29) := rfl
theorem T_419_29 : hTab 419 29 = some ((10, 0, 0, []), 30) := rfl
theorem T_419_30 : hTab 419 30 = some ((26, 0, 0, []), 31) := rfl
theorem T_419_31 : hTab 419 31 = some ((18, 3, Int.ofNat 36, []), 34) := rfl
theorem T_419_36 : hTab 419 36 = some ((3, 0, 2, []), 37) := rfl
theorem T_419_37 : hTab 419 37 = some ((24, 17, Int.ofNat 57, []), 40) := rfl
theorem T_419_40 : hTab 419 40 = some ((0, 0, 8, []), 42) := rfl
theorem T_419_42 : hTab 419 42 = some ((3, 1, 0, []), 43) := rfl
theorem T_419_43 : hTab 419 43 = some ((10, 2, 0, []), 44) := rfl
theorem T_419_44 : hTab 419 44 = some ((3, 2, 0, []), 45) := rfl
theorem T_419_45 : hTab 419 45 = some ((10, 0, 0, []), 46) := rfl
theorem T_419_46 : hTab 419 46 = some ((26, 0, 0, []), 47) := rfl
theorem T_419_47 : hTab 419 47 = some ((4, 4, 0, []), 49) := rfl
theorem T_419_49 : hTab 419 49 = some ((3, 3, 0, []), 50) := rfl
theorem T_419_50 : hTab 419 50 = some ((18, 1, Int.ofNat 63, []), 53) := rfl
theorem T_419_53 : hTab 419 53 = some ((3, 0, 2, []), 54) := rfl
theorem T_419_54 : hTab 419 54 = some ((24, 17, Int.ofNat 61, []), 57) := rfl
theorem T_419_57 : hTab 419 57 = some ((3, 4, 0, []), 59) := rfl
theorem T_419_59 : hTab 419 59 = some ((26, 0, 0, []), 60) := rfl
theorem T_419_60 : hTab 419 60 = some ((22, 0, Int.ofNat 109, []), 63) := rfl
theorem T_419_63 : hTab 419 63 = some ((3, 3, 0, []), 64) := rfl
theorem T_419_64 : hTab 419 64 = some ((0, 0, 1, []), 65) := rfl
theorem T_419_65 : hTab 419 65 = some ((19, 1, Int.ofNat 78, []), 68) := rfl
theorem T_419_68 : hTab 419 68 = some ((3, 0, 2, []), 69) := rfl
theorem T_419_69 : hTab 419 69 = some ((24, 17, Int.ofNat 62, []), 72) := rfl
theorem T_419_72 : hTab 419 72 = some ((3, 4, 0, []), 74) := rfl
theorem T_419_74 : hTab 419 74 = some ((26, 0, 0, []), 75) := rfl
theorem T_419_75 : hTab 419 75 = some ((22, 0, Int.ofNat 109, []), 78) := rfl
theorem T_419_78 : hTab 419 78 = some ((3, 3, 0, []), 79) := rfl
theorem T_419_79 : hTab 419 79 = some ((0, 0, 2, []), 80) := rfl
theorem T_419_80 : hTab 419 80 = some ((19, 1, Int.ofNat 93, []), 83) := rfl
theorem T_419_83 : hTab 419 83 = some ((3, 0, 2, []), 84) := rfl
theorem T_419_84 : hTab 419 84 = some ((24, 17, Int.ofNat 63, []), 87) := rfl
theorem T_419_87 : hTab 419 87 = some ((3, 4, 0, []), 89) := rfl
theorem T_419_89 : hTab 419 89 = some ((26, 0, 0, []), 90) := rfl
theorem T_419_90 : hTab 419 90 = some ((22, 0, Int.ofNat 109, []), 93) := rfl
theorem T_419_93 : hTab 419 93 = some ((3, 3, 0, []), 94) := rfl
theorem T_419_94 : hTab 419 94 = some ((0, 0, 3, []), 95) := rfl
theorem T_419_95 : hTab 419 95 = some ((19, 1, Int.ofNat 107, []), 98) := rfl
theorem T_419_98 : hTab 419 98 = some ((3, 0, 2, []), 99) := rfl
theorem T_419_99 : hTab 419 99 = some ((3, 4, 0, []), 101) := rfl
theorem T_419_101 : hTab 419 101 = some ((31, 381, 0, []), 104) := rfl
theorem T_419_104 : hTab 419 104 = some ((22, 0, Int.ofNat 109, []), 107) := rfl
theorem T_419_107 : hTab 419 107 = some ((0, 0, (-100), []), 109) := rfl
theorem T_419_109 : hTab 419 109 = some ((33, 1, 0, []), 110) := rfl
theorem T_420_27 : hTab 420 27 = some ((0, 0, 2, []), 28) := rfl
theorem T_420_28 : hTab 420 28 = some ((4, 3, 0, []), 29) := rfl
theorem T_420_29 : hTab 420 29 = some ((0, 0, 0, []), 30) := rfl
theorem T_420_30 : hTab 420 30 = some ((4, 4, 0, []), 32) := rfl
theorem T_420_32 : hTab 420 32 = some ((3, 4, 0, []), 34) := rfl
theorem T_420_34 : hTab 420 34 = some ((0, 0, 8, []), 36) := rfl
theorem T_420_36 : hTab 420 36 = some ((19, 3, Int.ofNat 63, []), 39) := rfl
theorem T_420_39 : hTab 420 39 = some ((3, 0, 2, []), 40) := rfl
theorem T_420_40 : hTab 420 40 = some ((24, 17, Int.ofNat 50, []), 43) := rfl
theorem T_420_43 : hTab 420 43 = some ((3, 4, 0, []), 45) := rfl
theorem T_420_45 : hTab 420 45 = some ((26, 2, 0, []), 46) := rfl
theorem T_420_46 : hTab 420 46 = some ((18, 0, Int.ofNat 55, []), 49) := rfl
theorem T_420_49 : hTab 420 49 = some ((3, 3, 0, []), 50) := rfl
theorem T_420_50 : hTab 420 50 = some ((0, 0, 3, []), 51) := rfl
theorem T_420_51 : hTab 420 51 = some ((10, 0, 0, []), 52) := rfl
theorem T_420_52 : hTab 420 52 = some ((22, 0, Int.ofNat 56, []), 55) := rfl
theorem T_420_55 : hTab 420 55 = some ((3, 3, 0, []), 56) := rfl
theorem T_420_56 : hTab 420 56 = some ((4, 3, 0, []), 57) := rfl
theorem T_420_57 : hTab 420 57 = some ((5, 4, 1, []), 60) := rfl
theorem T_420_60 : hTab 420 60 = some ((22, 0, Int.ofNat 32, []), 63) := rfl
theorem T_420_63 : hTab 420 63 = some ((3, 2, 0, []), 64) := rfl
theorem T_420_64 : hTab 420 64 = some ((23, 137, 0, [96, 112, 128, 128]), 96) := rfl
theorem T_420_96 : hTab 420 96 = some ((3, 1, 0, []), 97) := rfl
theorem T_420_97 : hTab 420 97 = some ((0, 0, 2, []), 98) := rfl
theorem T_420_98 : hTab 420 98 = some ((19, 3, Int.ofNat 110, []), 101) := rfl
theorem T_420_101 : hTab 420 101 = some ((3, 0, 2, []), 102) := rfl
theorem T_420_102 : hTab 420 102 = some ((24, 17, Int.ofNat 26, []), 105) := rfl
theorem T_420_105 : hTab 420 105 = some ((3, 1, 0, []), 106) := rfl
theorem T_420_106 : hTab 420 106 = some ((26, 0, 0, []), 107) := rfl
theorem T_420_107 : hTab 420 107 = some ((22, 0, Int.ofNat 111, []), 110) := rfl
theorem T_420_110 : hTab 420 110 = some ((3, 3, 0, []), 111) := rfl
theorem T_420_111 : hTab 420 111 = some ((33, 1, 0, []), 112) := rfl
theorem T_420_112 : hTab 420 112 = some ((3, 1, 0, []), 113) := rfl
theorem T_420_113 : hTab 420 113 = some ((0, 0, 2, []), 114) := rfl
theorem T_420_114 : hTab 420 114 = some ((19, 3, Int.ofNat 126, []), 117) := rfl
theorem T_420_117 : hTab 420 117 = some ((3, 0, 2, []), 118) := rfl
theorem T_420_118 : hTab 420 118 = some ((24, 17, Int.ofNat 25, []), 121) := rfl
theorem T_420_121 : hTab 420 121 = some ((3, 1, 0, []), 122) := rfl
theorem T_420_122 : hTab 420 122 = some ((26, 0, 0, []), 123) := rfl
theorem T_420_123 : hTab 420 123 = some ((22, 0, Int.ofNat 127, []), 126) := rfl
theorem T_420_126 : hTab 420 126 = some ((0, 0, 0, []), 127) := rfl
theorem T_420_127 : hTab 420 127 = some ((33, 1, 0, []), 128) := rfl
theorem T_420_128 : hTab 420 128 = some ((3, 0, 2, []), 129) := rfl
theorem T_420_129 : hTab 420 129 = some ((3, 1, 0, []), 130) := rfl
theorem T_420_130 : hTab 420 130 = some ((3, 2, 0, []), 131) := rfl
theorem T_420_131 : hTab 420 131 = some ((0, 0, 2, []), 132) := rfl
theorem T_420_132 : hTab 420 132 = some ((10, 1, 0, []), 133) := rfl
theorem T_420_133 : hTab 420 133 = some ((31, 421, 0, []), 136) := rfl
theorem T_420_136 : hTab 420 136 = some ((33, 1, 0, []), 137) := rfl
theorem T_420_137 : hTab 420 137 = some ((3, 0, 2, []), 138) := rfl
theorem T_420_138 : hTab 420 138 = some ((24, 17, Int.ofNat 37, []), 141) := rfl
theorem T_420_141 : hTab 420 141 = some ((0, 0, 2, []), 142) := rfl
theorem T_420_142 : hTab 420 142 = some ((3, 1, 0, []), 143) := rfl
theorem T_420_143 : hTab 420 143 = some ((10, 2, 0, []), 144) := rfl
theorem T_420_144 : hTab 420 144 = some ((3, 2, 0, []), 145) := rfl
theorem T_420_145 : hTab 420 145 = some ((10, 0, 0, []), 146) := rfl
theorem T_420_146 : hTab 420 146 = some ((0, 0, 4, []), 147) := rfl
theorem T_420_147 : hTab 420 147 = some ((10, 1, 0, []), 148) := rfl
theorem T_420_148 : hTab 420 148 = some ((26, 0, 0, []), 149) := rfl
theorem T_420_149 : hTab 420 149 = some ((33, 1, 0, []), 150) := rfl
theorem T_422_33 : hTab 422 33 = some ((3, 3, 0, []), 34) := rfl
theorem T_422_34 : hTab 422 34 = some ((23, 100, 0, [60, 68, 76]), 60) := rfl
theorem T_422_60 : hTab 422 60 = some ((3, 0, 2, []), 61) := rfl
theorem T_422_61 : hTab 422 61 = some ((24, 17, Int.ofNat 31, []), 64) := rfl
theorem T_422_64 : hTab 422 64 = some ((3, 4, 0, []), 66) := rfl
theorem T_422_66 : hTab 422 66 = some ((26, 0, 0, []), 67) := rfl
theorem T_422_67 : hTab 422 67 = some ((33, 1, 0, []), 68) := rfl
theorem T_422_68 : hTab 422 68 = some ((3, 0, 2, []), 69) := rfl
theorem T_422_69 : hTab 422 69 = some ((24, 17, Int.ofNat 32, []), 72) := rfl
theorem T_422_72 : hTab 422 72 = some ((3, 4, 0, []), 74) := rfl
theorem T_422_74 : hTab 422 74 = some ((26, 0, 0, []), 75) := rfl
theorem T_422_75 : hTab 422 75 = some ((33, 1, 0, []), 76) := rfl
theorem T_422_76 : hTab 422 76 = some ((3, 0, 2, []), 77) := rfl
theorem T_422_77 : hTab 422 77 = some ((24, 17, Int.ofNat 33, []), 80) := rfl
theorem T_422_80 : hTab 422 80 = some ((3, 4, 0, []), 82) := rfl
theorem T_422_82 : hTab 422 82 = some ((26, 0, 0, []), 83) := rfl
theorem T_422_83 : hTab 422 83 = some ((18, 3, Int.ofNat 90, []), 86) := rfl
theorem T_422_86 : hTab 422 86 = some ((0, 0, (-1), []), 87) := rfl
theorem T_422_87 : hTab 422 87 = some ((22, 0, Int.ofNat 99, []), 90) := rfl
theorem T_422_90 : hTab 422 90 = some ((3, 0, 2, []), 91) := rfl
theorem T_422_91 : hTab 422 91 = some ((24, 17, Int.ofNat 33, []), 94) := rfl
theorem T_422_94 : hTab 422 94 = some ((3, 4, 0, []), 96) := rfl
theorem T_422_96 : hTab 422 96 = some ((26, 0, 0, []), 97) := rfl
theorem T_422_97 : hTab 422 97 = some ((0, 0, 3, []), 98) := rfl
theorem T_422_98 : hTab 422 98 = some ((10, 5, 0, []), 99) := rfl
theorem T_422_99 : hTab 422 99 = some ((33, 1, 0, []), 100) := rfl
theorem T_422_100 : hTab 422 100 = some ((0, 0, (-100), []), 102) := rfl
theorem T_422_102 : hTab 422 102 = some ((33, 1, 0, []), 103) := rfl
section MGET2
variable {fb : Bool} {d : Nat} {σ0 σ : hM} {P P1 Q0 R S S0 S1 S2 : qR} {T U s w g u p k e t z o n N v b c x i j f mu dn : Int} {l L tx tt sc src : List Int} {h : List Ch}
theorem fiN_rng : ∀ (m : Nat) (k n : Int), n ≤ fiN P m k n ∧ fiN P m k n ≤ n + 3 * m
  | 0, k, n => ⟨Int.le_refl _, by show n ≤ n + 3 * ((0 : Nat) : Int); omega⟩
  | m + 1, k, n => by
    unfold fiN
    split
    · have := fiN_rng m (k + 1) n
      omega
    · have := fiN_rng m (k + 1) (n + 3)
      omega
theorem m_enter_n (hP : PM σ0 P S σ) (hp : ¬ isPr P p) : CL fb (d + 2) 307 [vR (some 2281), vI p] σ (rP (-100) σ) := by
  refine CL_in mL_307 rfl ?_
  show WP fb _ 307 0 [some (vR (some 2281)), some (vI p), none] [] σ _
  refine x_lr (z := some 2281) T_307_0 rfl ?_
  refine x_li (z := p) T_307_1 rfl ?_
  refine x_cv2 T_307_2 mN_308 mL_308 (Nat.le_of_ble_eq_true rfl) mO_308 (PM.t hP) (Nat.le_of_ble_eq_true rfl) (hp_n hP hp) ?_
  rintro _ σ ⟨rfl, rfl⟩
  refine cI ?_
  refine x_if T_307_5 (fun h => absurd (show ¬ (0 : Int) = 0 from h) (by decide)) (fun _ => ?_)
  refine x_ic T_307_8 ?_
  refine x_ri T_307_10 ?_
  exact ⟨rfl, rfl⟩
theorem m_member (hP : PM σ0 P S σ) (hI : IV false T U P) : CL fb (d + 2) 418 [vR (some 2281), vI p, vI k, vI j, vI x] σ (rP (yMem P p k j x) σ) := by
  unfold yMem
  by_cases hp : isPr P p
  · have hg : 0 ≤ P 2323 p ∧ P 2323 p ≤ 7 := IV.a (k := p) hI 2323 0 8 rfl rfl rfl (by omega) (by omega)
    obtain ⟨g, hg0⟩ : ∃ g, P 2323 p = g := ⟨_, rfl⟩
    rw [hg0] at hg ⊢
    have h1 : 0 ≤ P 2334 g ∧ P 2334 g ≤ 8 := IV.a (k := g) hI 2334 0 8 rfl rfl rfl (by omega) (by omega)
    obtain ⟨n, hn⟩ : ∃ n, P 2334 g = n := ⟨_, rfl⟩
    rw [hn] at h1 ⊢
    by_cases q : 0 ≤ k ∧ k ≤ n - 1
    · rw [if_pos ⟨hp, q⟩]
      have h2 : 0 ≤ P 2337 (8 * g + k) ∧ P 2337 (8 * g + k) ≤ 6 := IV.a (k := 8 * g + k) hI 2337 0 64 rfl rfl rfl (by omega) (by omega)
      obtain ⟨z, hz⟩ : ∃ z, P 2337 (8 * g + k) = z := ⟨_, rfl⟩
      rw [hz] at h2 ⊢
      by_cases q2 : 0 ≤ j ∧ j ≤ z - 1
      · rw [if_pos q2]
        by_cases c0 : x = 0
        · rw [if_pos c0]
          subst c0
          refine CL_in mL_418 rfl ?_
          show WP fb _ 418 0 [some (vR (some 2281)), some (vI p), some (vI k), some (vI j), some (vI 0), none, none] [] σ _
          refine x_lr (z := some 2281) T_418_0 rfl ?_
          refine x_li (z := p) T_418_1 rfl ?_
          refine x_cv2 T_418_2 mN_308 mL_308 (Nat.le_of_ble_eq_true rfl) mO_308 (PM.t hP) (Nat.le_of_ble_eq_true rfl) (hp_y hP hp) ?_
          rintro _ σ ⟨rfl, rfl⟩
          refine cI ?_
          refine x_if T_418_5 (fun h => absurd (show (1 : Int) = 0 from h) (by decide)) (fun _ => ?_)
          refine x_li (z := k) T_418_8 rfl ?_
          refine x_i2l T_418_9 ?_
          refine x_lc T_418_10 ?_
          refine x_lr (z := some 2281) T_418_11 rfl ?_
          refine x_gR (z := some 2334) T_418_12 F_17_64 (PM.t hP) (PM.r hP 64 2334 rfl) ?_
          refine x_lr (z := some 2281) T_418_15 rfl ?_
          refine x_gR (z := some 2323) T_418_16 F_17_53 (PM.t hP) (PM.r hP 53 2323 rfl) ?_
          refine x_li (z := p) T_418_19 rfl ?_
          refine x_alI (z := g) T_418_20 (by decide) (PM.ta hP 2323 0 8 rfl rfl) (by omega) (by omega) (Eq.trans (PM.aP hP 2323 rfl rfl (by omega)) hg0) ?_
          refine x_alI (z := n) T_418_21 (by decide) (PM.ta hP 2334 0 8 rfl rfl) (by omega) (by omega) (Eq.trans (PM.aP hP 2334 rfl rfl (by omega)) hn) ?_
          refine x_ic T_418_22 ?_
          refine x_ib (w := (n - 1)) T_418_23 (fun h => absurd h.1 (by decide)) (w32_id (by omega) (by omega)) ?_
          refine x_i2l T_418_24 ?_
          refine x_cs3 T_418_25 mN_282 mL_282 (Nat.le_of_ble_eq_true rfl) mK_282 (Nat.le_of_ble_eq_true rfl) (m_in) ?_
          rintro _ σ ⟨rfl, rfl⟩
          refine cI ?_
          refine x_if T_418_28 (fun _ => ?_) (fun h => absurd (show ¬ (if 0 ≤ k ∧ k ≤ (n - 1) then (1 : Int) else 0) = 0 by rw [if_pos q]; decide) h)
          refine x_ic T_418_33 ?_
          refine x_lr (z := some 2281) T_418_35 rfl ?_
          refine x_gR (z := some 2323) T_418_36 F_17_53 (PM.t hP) (PM.r hP 53 2323 rfl) ?_
          refine x_li (z := p) T_418_39 rfl ?_
          refine x_alI (z := g) T_418_40 (by decide) (PM.ta hP 2323 0 8 rfl rfl) (by omega) (by omega) (Eq.trans (PM.aP hP 2323 rfl rfl (by omega)) hg0) ?_
          refine x_ib (w := (8 * g)) T_418_41 (fun h => absurd h.1 (by decide)) (w32_id (by omega) (by omega)) ?_
          refine x_li (z := k) T_418_42 rfl ?_
          refine x_ib (w := ((8 * g) + k)) T_418_43 (fun h => absurd h.1 (by decide)) (w32_id (by omega) (by omega)) ?_
          refine x_si (ls1 := [some (vR (some 2281)), some (vI p), some (vI k), some (vI j), some (vI 0), some (vI ((8 * g) + k)), none]) T_418_44 rfl ?_
          refine x_li (z := j) T_418_46 rfl ?_
          refine x_i2l T_418_47 ?_
          refine x_lc T_418_48 ?_
          refine x_lr (z := some 2281) T_418_49 rfl ?_
          refine x_gR (z := some 2337) T_418_50 F_17_67 (PM.t hP) (PM.r hP 67 2337 rfl) ?_
          refine x_li (z := ((8 * g) + k)) T_418_53 rfl ?_
          refine x_alI (z := z) T_418_55 (by decide) (PM.ta hP 2337 0 64 rfl rfl) (by omega) (by omega) (Eq.trans (PM.aP hP 2337 rfl rfl (by omega)) hz) ?_
          refine x_ic T_418_56 ?_
          refine x_ib (w := (z - 1)) T_418_57 (fun h => absurd h.1 (by decide)) (w32_id (by omega) (by omega)) ?_
          refine x_i2l T_418_58 ?_
          refine x_cs3 T_418_59 mN_282 mL_282 (Nat.le_of_ble_eq_true rfl) mK_282 (Nat.le_of_ble_eq_true rfl) (m_in) ?_
          rintro _ σ ⟨rfl, rfl⟩
          refine cI ?_
          refine x_if T_418_62 (fun _ => ?_) (fun h => absurd (show ¬ (if 0 ≤ j ∧ j ≤ (z - 1) then (1 : Int) else 0) = 0 by rw [if_pos q2]; decide) h)
          refine x_ic T_418_67 ?_
          refine x_li (z := ((8 * g) + k)) T_418_69 rfl ?_
          refine x_ib (w := (6 * ((8 * g) + k))) T_418_71 (fun h => absurd h.1 (by decide)) (w32_id (by omega) (by omega)) ?_
          refine x_li (z := j) T_418_72 rfl ?_
          refine x_ib (w := ((6 * ((8 * g) + k)) + j)) T_418_73 (fun h => absurd h.1 (by decide)) (w32_id (by omega) (by omega)) ?_
          refine x_si (ls1 := [some (vR (some 2281)), some (vI p), some (vI k), some (vI j), some (vI 0), some (vI ((8 * g) + k)), some (vI ((6 * ((8 * g) + k)) + j))]) T_418_74 rfl ?_
          refine x_li (z := 0) T_418_76 rfl ?_
          refine x_if T_418_78 (fun h => absurd (show ¬ (0 : Int) = 0 from h) (by decide)) (fun _ => ?_)
          refine x_lr (z := some 2281) T_418_81 rfl ?_
          refine x_gR (z := some 2338) T_418_82 F_17_68 (PM.t hP) (PM.r hP 68 2338 rfl) ?_
          refine x_li (z := ((6 * ((8 * g) + k)) + j)) T_418_85 rfl ?_
          have b1 : 0 ≤ P 2338 ((6 * ((8 * g) + k)) + j) ∧ P 2338 ((6 * ((8 * g) + k)) + j) ≤ 2 := IV.a hI 2338 0 384 rfl rfl rfl (by omega) (by omega)
          refine x_alI (z := P 2338 ((6 * ((8 * g) + k)) + j)) T_418_87 (by decide) (PM.ta hP 2338 0 384 rfl rfl) (by omega) (by omega) (PM.aP hP 2338 rfl rfl (by omega)) ?_
          refine x_goto T_418_88 ?_
          refine x_ri T_418_149 ?_
          exact ⟨rfl, rfl⟩
        rw [if_neg c0]
        by_cases c1 : x = 1
        · rw [if_pos c1]
          subst c1
          refine CL_in mL_418 rfl ?_
          show WP fb _ 418 0 [some (vR (some 2281)), some (vI p), some (vI k), some (vI j), some (vI 1), none, none] [] σ _
          refine x_lr (z := some 2281) T_418_0 rfl ?_
          refine x_li (z := p) T_418_1 rfl ?_
          refine x_cv2 T_418_2 mN_308 mL_308 (Nat.le_of_ble_eq_true rfl) mO_308 (PM.t hP) (Nat.le_of_ble_eq_true rfl) (hp_y hP hp) ?_
          rintro _ σ ⟨rfl, rfl⟩
          refine cI ?_
          refine x_if T_418_5 (fun h => absurd (show (1 : Int) = 0 from h) (by decide)) (fun _ => ?_)
          refine x_li (z := k) T_418_8 rfl ?_
          refine x_i2l T_418_9 ?_
          refine x_lc T_418_10 ?_
          refine x_lr (z := some 2281) T_418_11 rfl ?_
          refine x_gR (z := some 2334) T_418_12 F_17_64 (PM.t hP) (PM.r hP 64 2334 rfl) ?_
          refine x_lr (z := some 2281) T_418_15 rfl ?_
          refine x_gR (z := some 2323) T_418_16 F_17_53 (PM.t hP) (PM.r hP 53 2323 rfl) ?_
          refine x_li (z := p) T_418_19 rfl ?_
          refine x_alI (z := g) T_418_20 (by decide) (PM.ta hP 2323 0 8 rfl rfl) (by omega) (by omega) (Eq.trans (PM.aP hP 2323 rfl rfl (by omega)) hg0) ?_
          refine x_alI (z := n) T_418_21 (by decide) (PM.ta hP 2334 0 8 rfl rfl) (by omega) (by omega) (Eq.trans (PM.aP hP 2334 rfl rfl (by omega)) hn) ?_
          refine x_ic T_418_22 ?_
          refine x_ib (w := (n - 1)) T_418_23 (fun h => absurd h.1 (by decide)) (w32_id (by omega) (by omega)) ?_
          refine x_i2l T_418_24 ?_
          refine x_cs3 T_418_25 mN_282 mL_282 (Nat.le_of_ble_eq_true rfl) mK_282 (Nat.le_of_ble_eq_true rfl) (m_in) ?_
          rintro _ σ ⟨rfl, rfl⟩
          refine cI ?_
          refine x_if T_418_28 (fun _ => ?_) (fun h => absurd (show ¬ (if 0 ≤ k ∧ k ≤ (n - 1) then (1 : Int) else 0) = 0 by rw [if_pos q]; decide) h)
          refine x_ic T_418_33 ?_
          refine x_lr (z := some 2281) T_418_35 rfl ?_
          refine x_gR (z := some 2323) T_418_36 F_17_53 (PM.t hP) (PM.r hP 53 2323 rfl) ?_
          refine x_li (z := p) T_418_39 rfl ?_
          refine x_alI (z := g) T_418_40 (by decide) (PM.ta hP 2323 0 8 rfl rfl) (by omega) (by omega) (Eq.trans (PM.aP hP 2323 rfl rfl (by omega)) hg0) ?_
          refine x_ib (w := (8 * g)) T_418_41 (fun h => absurd h.1 (by decide)) (w32_id (by omega) (by omega)) ?_
          refine x_li (z := k) T_418_42 rfl ?_
          refine x_ib (w := ((8 * g) + k)) T_418_43 (fun h => absurd h.1 (by decide)) (w32_id (by omega) (by omega)) ?_
          refine x_si (ls1 := [some (vR (some 2281)), some (vI p), some (vI k), some (vI j), some (vI 1), some (vI ((8 * g) + k)), none]) T_418_44 rfl ?_
          refine x_li (z := j) T_418_46 rfl ?_
          refine x_i2l T_418_47 ?_
          refine x_lc T_418_48 ?_
          refine x_lr (z := some 2281) T_418_49 rfl ?_
          refine x_gR (z := some 2337) T_418_50 F_17_67 (PM.t hP) (PM.r hP 67 2337 rfl) ?_
          refine x_li (z := ((8 * g) + k)) T_418_53 rfl ?_
          refine x_alI (z := z) T_418_55 (by decide) (PM.ta hP 2337 0 64 rfl rfl) (by omega) (by omega) (Eq.trans (PM.aP hP 2337 rfl rfl (by omega)) hz) ?_
          refine x_ic T_418_56 ?_
          refine x_ib (w := (z - 1)) T_418_57 (fun h => absurd h.1 (by decide)) (w32_id (by omega) (by omega)) ?_
          refine x_i2l T_418_58 ?_
          refine x_cs3 T_418_59 mN_282 mL_282 (Nat.le_of_ble_eq_true rfl) mK_282 (Nat.le_of_ble_eq_true rfl) (m_in) ?_
          rintro _ σ ⟨rfl, rfl⟩
          refine cI ?_
          refine x_if T_418_62 (fun _ => ?_) (fun h => absurd (show ¬ (if 0 ≤ j ∧ j ≤ (z - 1) then (1 : Int) else 0) = 0 by rw [if_pos q2]; decide) h)
          refine x_ic T_418_67 ?_
          refine x_li (z := ((8 * g) + k)) T_418_69 rfl ?_
          refine x_ib (w := (6 * ((8 * g) + k))) T_418_71 (fun h => absurd h.1 (by decide)) (w32_id (by omega) (by omega)) ?_
          refine x_li (z := j) T_418_72 rfl ?_
          refine x_ib (w := ((6 * ((8 * g) + k)) + j)) T_418_73 (fun h => absurd h.1 (by decide)) (w32_id (by omega) (by omega)) ?_
          refine x_si (ls1 := [some (vR (some 2281)), some (vI p), some (vI k), some (vI j), some (vI 1), some (vI ((8 * g) + k)), some (vI ((6 * ((8 * g) + k)) + j))]) T_418_74 rfl ?_
          refine x_li (z := 1) T_418_76 rfl ?_
          refine x_if T_418_78 (fun _ => ?_) (fun h => absurd (show ¬ (1 : Int) = 0 by decide) h)
          refine x_li (z := 1) T_418_91 rfl ?_
          refine x_ic T_418_93 ?_
          refine x_ic2 T_418_94 (fun h => absurd (show ¬ (1 : Int) = 1 from h) (by decide)) (fun _ => ?_)
          refine x_lr (z := some 2281) T_418_97 rfl ?_
          refine x_gR (z := some 2339) T_418_98 F_17_69 (PM.t hP) (PM.r hP 69 2339 rfl) ?_
          refine x_li (z := ((6 * ((8 * g) + k)) + j)) T_418_101 rfl ?_
          have b1 : 0 ≤ P 2339 ((6 * ((8 * g) + k)) + j) ∧ P 2339 ((6 * ((8 * g) + k)) + j) ≤ 47 := IV.a hI 2339 0 384 rfl rfl rfl (by omega) (by omega)
          refine x_alI (z := P 2339 ((6 * ((8 * g) + k)) + j)) T_418_103 (by decide) (PM.ta hP 2339 0 384 rfl rfl) (by omega) (by omega) (PM.aP hP 2339 rfl rfl (by omega)) ?_
          refine x_goto T_418_104 ?_
          refine x_ri T_418_149 ?_
          exact ⟨rfl, rfl⟩
        rw [if_neg c1]
        by_cases c2 : x = 2
        · rw [if_pos c2]
          subst c2
          refine CL_in mL_418 rfl ?_
          show WP fb _ 418 0 [some (vR (some 2281)), some (vI p), some (vI k), some (vI j), some (vI 2), none, none] [] σ _
          refine x_lr (z := some 2281) T_418_0 rfl ?_
          refine x_li (z := p) T_418_1 rfl ?_
          refine x_cv2 T_418_2 mN_308 mL_308 (Nat.le_of_ble_eq_true rfl) mO_308 (PM.t hP) (Nat.le_of_ble_eq_true rfl) (hp_y hP hp) ?_
          rintro _ σ ⟨rfl, rfl⟩
          refine cI ?_
          refine x_if T_418_5 (fun h => absurd (show (1 : Int) = 0 from h) (by decide)) (fun _ => ?_)
          refine x_li (z := k) T_418_8 rfl ?_
          refine x_i2l T_418_9 ?_
          refine x_lc T_418_10 ?_
          refine x_lr (z := some 2281) T_418_11 rfl ?_
          refine x_gR (z := some 2334) T_418_12 F_17_64 (PM.t hP) (PM.r hP 64 2334 rfl) ?_
          refine x_lr (z := some 2281) T_418_15 rfl ?_
          refine x_gR (z := some 2323) T_418_16 F_17_53 (PM.t hP) (PM.r hP 53 2323 rfl) ?_
          refine x_li (z := p) T_418_19 rfl ?_
          refine x_alI (z := g) T_418_20 (by decide) (PM.ta hP 2323 0 8 rfl rfl) (by omega) (by omega) (Eq.trans (PM.aP hP 2323 rfl rfl (by omega)) hg0) ?_
          refine x_alI (z := n) T_418_21 (by decide) (PM.ta hP 2334 0 8 rfl rfl) (by omega) (by omega) (Eq.trans (PM.aP hP 2334 rfl rfl (by omega)) hn) ?_
          refine x_ic T_418_22 ?_
          refine x_ib (w := (n - 1)) T_418_23 (fun h => absurd h.1 (by decide)) (w32_id (by omega) (by omega)) ?_
          refine x_i2l T_418_24 ?_
          refine x_cs3 T_418_25 mN_282 mL_282 (Nat.le_of_ble_eq_true rfl) mK_282 (Nat.le_of_ble_eq_true rfl) (m_in) ?_
          rintro _ σ ⟨rfl, rfl⟩
          refine cI ?_
          refine x_if T_418_28 (fun _ => ?_) (fun h => absurd (show ¬ (if 0 ≤ k ∧ k ≤ (n - 1) then (1 : Int) else 0) = 0 by rw [if_pos q]; decide) h)
          refine x_ic T_418_33 ?_
          refine x_lr (z := some 2281) T_418_35 rfl ?_
          refine x_gR (z := some 2323) T_418_36 F_17_53 (PM.t hP) (PM.r hP 53 2323 rfl) ?_
          refine x_li (z := p) T_418_39 rfl ?_
          refine x_alI (z := g) T_418_40 (by decide) (PM.ta hP 2323 0 8 rfl rfl) (by omega) (by omega) (Eq.trans (PM.aP hP 2323 rfl rfl (by omega)) hg0) ?_
          refine x_ib (w := (8 * g)) T_418_41 (fun h => absurd h.1 (by decide)) (w32_id (by omega) (by omega)) ?_
          refine x_li (z := k) T_418_42 rfl ?_
          refine x_ib (w := ((8 * g) + k)) T_418_43 (fun h => absurd h.1 (by decide)) (w32_id (by omega) (by omega)) ?_
          refine x_si (ls1 := [some (vR (some 2281)), some (vI p), some (vI k), some (vI j), some (vI 2), some (vI ((8 * g) + k)), none]) T_418_44 rfl ?_
          refine x_li (z := j) T_418_46 rfl ?_
          refine x_i2l T_418_47 ?_
          refine x_lc T_418_48 ?_
          refine x_lr (z := some 2281) T_418_49 rfl ?_
          refine x_gR (z := some 2337) T_418_50 F_17_67 (PM.t hP) (PM.r hP 67 2337 rfl) ?_
          refine x_li (z := ((8 * g) + k)) T_418_53 rfl ?_
          refine x_alI (z := z) T_418_55 (by decide) (PM.ta hP 2337 0 64 rfl rfl) (by omega) (by omega) (Eq.trans (PM.aP hP 2337 rfl rfl (by omega)) hz) ?_
          refine x_ic T_418_56 ?_
          refine x_ib (w := (z - 1)) T_418_57 (fun h => absurd h.1 (by decide)) (w32_id (by omega) (by omega)) ?_
          refine x_i2l T_418_58 ?_
          refine x_cs3 T_418_59 mN_282 mL_282 (Nat.le_of_ble_eq_true rfl) mK_282 (Nat.le_of_ble_eq_true rfl) (m_in) ?_
          rintro _ σ ⟨rfl, rfl⟩
          refine cI ?_
          refine x_if T_418_62 (fun _ => ?_) (fun h => absurd (show ¬ (if 0 ≤ j ∧ j ≤ (z - 1) then (1 : Int) else 0) = 0 by rw [if_pos q2]; decide) h)
          refine x_ic T_418_67 ?_
          refine x_li (z := ((8 * g) + k)) T_418_69 rfl ?_
          refine x_ib (w := (6 * ((8 * g) + k))) T_418_71 (fun h => absurd h.1 (by decide)) (w32_id (by omega) (by omega)) ?_
          refine x_li (z := j) T_418_72 rfl ?_
          refine x_ib (w := ((6 * ((8 * g) + k)) + j)) T_418_73 (fun h => absurd h.1 (by decide)) (w32_id (by omega) (by omega)) ?_
          refine x_si (ls1 := [some (vR (some 2281)), some (vI p), some (vI k), some (vI j), some (vI 2), some (vI ((8 * g) + k)), some (vI ((6 * ((8 * g) + k)) + j))]) T_418_74 rfl ?_
          refine x_li (z := 2) T_418_76 rfl ?_
          refine x_if T_418_78 (fun _ => ?_) (fun h => absurd (show ¬ (2 : Int) = 0 by decide) h)
          refine x_li (z := 2) T_418_91 rfl ?_
          refine x_ic T_418_93 ?_
          refine x_ic2 T_418_94 (fun _ => ?_) (fun h => absurd (show ¬ (2 : Int) = 1 by decide) h)
          refine x_li (z := 2) T_418_107 rfl ?_
          refine x_ic T_418_109 ?_
          refine x_ic2 T_418_110 (fun h => absurd (show ¬ (2 : Int) = 2 from h) (by decide)) (fun _ => ?_)
          refine x_lr (z := some 2281) T_418_113 rfl ?_
          refine x_gR (z := some 2340) T_418_114 F_17_70 (PM.t hP) (PM.r hP 70 2340 rfl) ?_
          refine x_li (z := ((6 * ((8 * g) + k)) + j)) T_418_117 rfl ?_
          have b1 : 0 ≤ P 2340 ((6 * ((8 * g) + k)) + j) ∧ P 2340 ((6 * ((8 * g) + k)) + j) ≤ T + 200 := IV.a hI 2340 0 384 rfl rfl rfl (by omega) (by omega)
          refine x_alI (z := P 2340 ((6 * ((8 * g) + k)) + j)) T_418_119 (by decide) (PM.ta hP 2340 0 384 rfl rfl) (by omega) (by omega) (PM.aP hP 2340 rfl rfl (by omega)) ?_
          refine x_goto T_418_120 ?_
          refine x_ri T_418_149 ?_
          exact ⟨rfl, rfl⟩
        rw [if_neg c2]
        by_cases c3 : x = 3
        · rw [if_pos c3]
          subst c3
          have h3 : 0 ≤ P 2342 (6 * (8 * g + k) + j) ∧ P 2342 (6 * (8 * g + k) + j) ≤ 1 := IV.a (k := 6 * (8 * g + k) + j) hI 2342 2 384 rfl rfl rfl (by omega) (by omega)
          obtain ⟨y, hy⟩ : ∃ y, P 2342 (6 * (8 * g + k) + j) = y := ⟨_, rfl⟩
          rw [hy] at h3 ⊢
          by_cases q3 : y = 0
          · subst q3
            refine CL_in mL_418 rfl ?_
            show WP fb _ 418 0 [some (vR (some 2281)), some (vI p), some (vI k), some (vI j), some (vI 3), none, none] [] σ _
            refine x_lr (z := some 2281) T_418_0 rfl ?_
            refine x_li (z := p) T_418_1 rfl ?_
            refine x_cv2 T_418_2 mN_308 mL_308 (Nat.le_of_ble_eq_true rfl) mO_308 (PM.t hP) (Nat.le_of_ble_eq_true rfl) (hp_y hP hp) ?_
            rintro _ σ ⟨rfl, rfl⟩
            refine cI ?_
            refine x_if T_418_5 (fun h => absurd (show (1 : Int) = 0 from h) (by decide)) (fun _ => ?_)
            refine x_li (z := k) T_418_8 rfl ?_
            refine x_i2l T_418_9 ?_
            refine x_lc T_418_10 ?_
            refine x_lr (z := some 2281) T_418_11 rfl ?_
            refine x_gR (z := some 2334) T_418_12 F_17_64 (PM.t hP) (PM.r hP 64 2334 rfl) ?_
            refine x_lr (z := some 2281) T_418_15 rfl ?_
            refine x_gR (z := some 2323) T_418_16 F_17_53 (PM.t hP) (PM.r hP 53 2323 rfl) ?_
            refine x_li (z := p) T_418_19 rfl ?_
            refine x_alI (z := g) T_418_20 (by decide) (PM.ta hP 2323 0 8 rfl rfl) (by omega) (by omega) (Eq.trans (PM.aP hP 2323 rfl rfl (by omega)) hg0) ?_
            refine x_alI (z := n) T_418_21 (by decide) (PM.ta hP 2334 0 8 rfl rfl) (by omega) (by omega) (Eq.trans (PM.aP hP 2334 rfl rfl (by omega)) hn) ?_
            refine x_ic T_418_22 ?_
            refine x_ib (w := (n - 1)) T_418_23 (fun h => absurd h.1 (by decide)) (w32_id (by omega) (by omega)) ?_
            refine x_i2l T_418_24 ?_
            refine x_cs3 T_418_25 mN_282 mL_282 (Nat.le_of_ble_eq_true rfl) mK_282 (Nat.le_of_ble_eq_true rfl) (m_in) ?_
            rintro _ σ ⟨rfl, rfl⟩
            refine cI ?_
            refine x_if T_418_28 (fun _ => ?_) (fun h => absurd (show ¬ (if 0 ≤ k ∧ k ≤ (n - 1) then (1 : Int) else 0) = 0 by rw [if_pos q]; decide) h)
            refine x_ic T_418_33 ?_
            refine x_lr (z := some 2281) T_418_35 rfl ?_
            refine x_gR (z := some 2323) T_418_36 F_17_53 (PM.t hP) (PM.r hP 53 2323 rfl) ?_
            refine x_li (z := p) T_418_39 rfl ?_
            refine x_alI (z := g) T_418_40 (by decide) (PM.ta hP 2323 0 8 rfl rfl) (by omega) (by omega) (Eq.trans (PM.aP hP 2323 rfl rfl (by omega)) hg0) ?_
            refine x_ib (w := (8 * g)) T_418_41 (fun h => absurd h.1 (by decide)) (w32_id (by omega) (by omega)) ?_
            refine x_li (z := k) T_418_42 rfl ?_
            refine x_ib (w := ((8 * g) + k)) T_418_43 (fun h => absurd h.1 (by decide)) (w32_id (by omega) (by omega)) ?_
            refine x_si (ls1 := [some (vR (some 2281)), some (vI p), some (vI k), some (vI j), some (vI 3), some (vI ((8 * g) + k)), none]) T_418_44 rfl ?_
            refine x_li (z := j) T_418_46 rfl ?_
            refine x_i2l T_418_47 ?_
            refine x_lc T_418_48 ?_
            refine x_lr (z := some 2281) T_418_49 rfl ?_
            refine x_gR (z := some 2337) T_418_50 F_17_67 (PM.t hP) (PM.r hP 67 2337 rfl) ?_
            refine x_li (z := ((8 * g) + k)) T_418_53 rfl ?_
            refine x_alI (z := z) T_418_55 (by decide) (PM.ta hP 2337 0 64 rfl rfl) (by omega) (by omega) (Eq.trans (PM.aP hP 2337 rfl rfl (by omega)) hz) ?_
            refine x_ic T_418_56 ?_
            refine x_ib (w := (z - 1)) T_418_57 (fun h => absurd h.1 (by decide)) (w32_id (by omega) (by omega)) ?_
            refine x_i2l T_418_58 ?_
            refine x_cs3 T_418_59 mN_282 mL_282 (Nat.le_of_ble_eq_true rfl) mK_282 (Nat.le_of_ble_eq_true rfl) (m_in) ?_
            rintro _ σ ⟨rfl, rfl⟩
            refine cI ?_
            refine x_if T_418_62 (fun _ => ?_) (fun h => absurd (show ¬ (if 0 ≤ j ∧ j ≤ (z - 1) then (1 : Int) else 0) = 0 by rw [if_pos q2]; decide) h)
            refine x_ic T_418_67 ?_
            refine x_li (z := ((8 * g) + k)) T_418_69 rfl ?_
            refine x_ib (w := (6 * ((8 * g) + k))) T_418_71 (fun h => absurd h.1 (by decide)) (w32_id (by omega) (by omega)) ?_
            refine x_li (z := j) T_418_72 rfl ?_
            refine x_ib (w := ((6 * ((8 * g) + k)) + j)) T_418_73 (fun h => absurd h.1 (by decide)) (w32_id (by omega) (by omega)) ?_
            refine x_si (ls1 := [some (vR (some 2281)), some (vI p), some (vI k), some (vI j), some (vI 3), some (vI ((8 * g) + k)), some (vI ((6 * ((8 * g) + k)) + j))]) T_418_74 rfl ?_
            refine x_li (z := 3) T_418_76 rfl ?_
            refine x_if T_418_78 (fun _ => ?_) (fun h => absurd (show ¬ (3 : Int) = 0 by decide) h)
            refine x_li (z := 3) T_418_91 rfl ?_
            refine x_ic T_418_93 ?_
            refine x_ic2 T_418_94 (fun _ => ?_) (fun h => absurd (show ¬ (3 : Int) = 1 by decide) h)
            refine x_li (z := 3) T_418_107 rfl ?_
            refine x_ic T_418_109 ?_
            refine x_ic2 T_418_110 (fun _ => ?_) (fun h => absurd (show ¬ (3 : Int) = 2 by decide) h)
            refine x_li (z := 3) T_418_123 rfl ?_
            refine x_ic T_418_125 ?_
            refine x_ic2 T_418_126 (fun h => absurd (show ¬ (3 : Int) = 3 from h) (by decide)) (fun _ => ?_)
            refine x_lr (z := some 2281) T_418_129 rfl ?_
            refine x_gR (z := some 2342) T_418_130 F_17_72 (PM.t hP) (PM.r hP 72 2342 rfl) ?_
            refine x_li (z := ((6 * ((8 * g) + k)) + j)) T_418_133 rfl ?_
            refine x_alI (z := 0) T_418_135 (by decide) (PM.ta hP 2342 2 384 rfl rfl) (by omega) (by omega) (Eq.trans (PM.aP hP 2342 rfl rfl (by omega)) hy) ?_
            refine x_if T_418_136 (fun _ => ?_) (fun h => absurd (show (0 : Int) = 0 by decide) h)
            refine x_ic T_418_143 ?_
            refine x_goto T_418_144 ?_
            refine x_ri T_418_149 ?_
            exact ⟨rfl, rfl⟩
          · have q4 : y = 1 := by omega
            subst q4
            refine CL_in mL_418 rfl ?_
            show WP fb _ 418 0 [some (vR (some 2281)), some (vI p), some (vI k), some (vI j), some (vI 3), none, none] [] σ _
            refine x_lr (z := some 2281) T_418_0 rfl ?_
            refine x_li (z := p) T_418_1 rfl ?_
            refine x_cv2 T_418_2 mN_308 mL_308 (Nat.le_of_ble_eq_true rfl) mO_308 (PM.t hP) (Nat.le_of_ble_eq_true rfl) (hp_y hP hp) ?_
            rintro _ σ ⟨rfl, rfl⟩
            refine cI ?_
            refine x_if T_418_5 (fun h => absurd (show (1 : Int) = 0 from h) (by decide)) (fun _ => ?_)
            refine x_li (z := k) T_418_8 rfl ?_
            refine x_i2l T_418_9 ?_
            refine x_lc T_418_10 ?_
            refine x_lr (z := some 2281) T_418_11 rfl ?_
            refine x_gR (z := some 2334) T_418_12 F_17_64 (PM.t hP) (PM.r hP 64 2334 rfl) ?_
            refine x_lr (z := some 2281) T_418_15 rfl ?_
            refine x_gR (z := some 2323) T_418_16 F_17_53 (PM.t hP) (PM.r hP 53 2323 rfl) ?_
            refine x_li (z := p) T_418_19 rfl ?_
            refine x_alI (z := g) T_418_20 (by decide) (PM.ta hP 2323 0 8 rfl rfl) (by omega) (by omega) (Eq.trans (PM.aP hP 2323 rfl rfl (by omega)) hg0) ?_
            refine x_alI (z := n) T_418_21 (by decide) (PM.ta hP 2334 0 8 rfl rfl) (by omega) (by omega) (Eq.trans (PM.aP hP 2334 rfl rfl (by omega)) hn) ?_
            refine x_ic T_418_22 ?_
            refine x_ib (w := (n - 1)) T_418_23 (fun h => absurd h.1 (by decide)) (w32_id (by omega) (by omega)) ?_
            refine x_i2l T_418_24 ?_
            refine x_cs3 T_418_25 mN_282 mL_282 (Nat.le_of_ble_eq_true rfl) mK_282 (Nat.le_of_ble_eq_true rfl) (m_in) ?_
            rintro _ σ ⟨rfl, rfl⟩
            refine cI ?_
            refine x_if T_418_28 (fun _ => ?_) (fun h => absurd (show ¬ (if 0 ≤ k ∧ k ≤ (n - 1) then (1 : Int) else 0) = 0 by rw [if_pos q]; decide) h)
            refine x_ic T_418_33 ?_
            refine x_lr (z := some 2281) T_418_35 rfl ?_
            refine x_gR (z := some 2323) T_418_36 F_17_53 (PM.t hP) (PM.r hP 53 2323 rfl) ?_
            refine x_li (z := p) T_418_39 rfl ?_
            refine x_alI (z := g) T_418_40 (by decide) (PM.ta hP 2323 0 8 rfl rfl) (by omega) (by omega) (Eq.trans (PM.aP hP 2323 rfl rfl (by omega)) hg0) ?_
            refine x_ib (w := (8 * g)) T_418_41 (fun h => absurd h.1 (by decide)) (w32_id (by omega) (by omega)) ?_
            refine x_li (z := k) T_418_42 rfl ?_
            refine x_ib (w := ((8 * g) + k)) T_418_43 (fun h => absurd h.1 (by decide)) (w32_id (by omega) (by omega)) ?_
            refine x_si (ls1 := [some (vR (some 2281)), some (vI p), some (vI k), some (vI j), some (vI 3), some (vI ((8 * g) + k)), none]) T_418_44 rfl ?_
            refine x_li (z := j) T_418_46 rfl ?_
            refine x_i2l T_418_47 ?_
            refine x_lc T_418_48 ?_
            refine x_lr (z := some 2281) T_418_49 rfl ?_
            refine x_gR (z := some 2337) T_418_50 F_17_67 (PM.t hP) (PM.r hP 67 2337 rfl) ?_
            refine x_li (z := ((8 * g) + k)) T_418_53 rfl ?_
            refine x_alI (z := z) T_418_55 (by decide) (PM.ta hP 2337 0 64 rfl rfl) (by omega) (by omega) (Eq.trans (PM.aP hP 2337 rfl rfl (by omega)) hz) ?_
            refine x_ic T_418_56 ?_
            refine x_ib (w := (z - 1)) T_418_57 (fun h => absurd h.1 (by decide)) (w32_id (by omega) (by omega)) ?_
            refine x_i2l T_418_58 ?_
            refine x_cs3 T_418_59 mN_282 mL_282 (Nat.le_of_ble_eq_true rfl) mK_282 (Nat.le_of_ble_eq_true rfl) (m_in) ?_
            rintro _ σ ⟨rfl, rfl⟩
            refine cI ?_
            refine x_if T_418_62 (fun _ => ?_) (fun h => absurd (show ¬ (if 0 ≤ j ∧ j ≤ (z - 1) then (1 : Int) else 0) = 0 by rw [if_pos q2]; decide) h)
            refine x_ic T_418_67 ?_
            refine x_li (z := ((8 * g) + k)) T_418_69 rfl ?_
            refine x_ib (w := (6 * ((8 * g) + k))) T_418_71 (fun h => absurd h.1 (by decide)) (w32_id (by omega) (by omega)) ?_
            refine x_li (z := j) T_418_72 rfl ?_
            refine x_ib (w := ((6 * ((8 * g) + k)) + j)) T_418_73 (fun h => absurd h.1 (by decide)) (w32_id (by omega) (by omega)) ?_
            refine x_si (ls1 := [some (vR (some 2281)), some (vI p), some (vI k), some (vI j), some (vI 3), some (vI ((8 * g) + k)), some (vI ((6 * ((8 * g) + k)) + j))]) T_418_74 rfl ?_
            refine x_li (z := 3) T_418_76 rfl ?_
            refine x_if T_418_78 (fun _ => ?_) (fun h => absurd (show ¬ (3 : Int) = 0 by decide) h)
            refine x_li (z := 3) T_418_91 rfl ?_
            refine x_ic T_418_93 ?_
            refine x_ic2 T_418_94 (fun _ => ?_) (fun h => absurd (show ¬ (3 : Int) = 1 by decide) h)
            refine x_li (z := 3) T_418_107 rfl ?_
            refine x_ic T_418_109 ?_
            refine x_ic2 T_418_110 (fun _ => ?_) (fun h => absurd (show ¬ (3 : Int) = 2 by decide) h)
            refine x_li (z := 3) T_418_123 rfl ?_
            refine x_ic T_418_125 ?_
            refine x_ic2 T_418_126 (fun h => absurd (show ¬ (3 : Int) = 3 from h) (by decide)) (fun _ => ?_)
            refine x_lr (z := some 2281) T_418_129 rfl ?_
            refine x_gR (z := some 2342) T_418_130 F_17_72 (PM.t hP) (PM.r hP 72 2342 rfl) ?_
            refine x_li (z := ((6 * ((8 * g) + k)) + j)) T_418_133 rfl ?_
            refine x_alI (z := 1) T_418_135 (by decide) (PM.ta hP 2342 2 384 rfl rfl) (by omega) (by omega) (Eq.trans (PM.aP hP 2342 rfl rfl (by omega)) hy) ?_
            refine x_if T_418_136 (fun h => absurd (show (1 : Int) = 0 from h) (by decide)) (fun _ => ?_)
            refine x_ic T_418_139 ?_
            refine x_goto T_418_140 ?_
            refine x_ri T_418_149 ?_
            exact ⟨rfl, rfl⟩
        rw [if_neg c3]
        refine CL_in mL_418 rfl ?_
        show WP fb _ 418 0 [some (vR (some 2281)), some (vI p), some (vI k), some (vI j), some (vI x), none, none] [] σ _
        refine x_lr (z := some 2281) T_418_0 rfl ?_
        refine x_li (z := p) T_418_1 rfl ?_
        refine x_cv2 T_418_2 mN_308 mL_308 (Nat.le_of_ble_eq_true rfl) mO_308 (PM.t hP) (Nat.le_of_ble_eq_true rfl) (hp_y hP hp) ?_
        rintro _ σ ⟨rfl, rfl⟩
        refine cI ?_
        refine x_if T_418_5 (fun h => absurd (show (1 : Int) = 0 from h) (by decide)) (fun _ => ?_)
        refine x_li (z := k) T_418_8 rfl ?_
        refine x_i2l T_418_9 ?_
        refine x_lc T_418_10 ?_
        refine x_lr (z := some 2281) T_418_11 rfl ?_
        refine x_gR (z := some 2334) T_418_12 F_17_64 (PM.t hP) (PM.r hP 64 2334 rfl) ?_
        refine x_lr (z := some 2281) T_418_15 rfl ?_
        refine x_gR (z := some 2323) T_418_16 F_17_53 (PM.t hP) (PM.r hP 53 2323 rfl) ?_
        refine x_li (z := p) T_418_19 rfl ?_
        refine x_alI (z := g) T_418_20 (by decide) (PM.ta hP 2323 0 8 rfl rfl) (by omega) (by omega) (Eq.trans (PM.aP hP 2323 rfl rfl (by omega)) hg0) ?_
        refine x_alI (z := n) T_418_21 (by decide) (PM.ta hP 2334 0 8 rfl rfl) (by omega) (by omega) (Eq.trans (PM.aP hP 2334 rfl rfl (by omega)) hn) ?_
        refine x_ic T_418_22 ?_
        refine x_ib (w := (n - 1)) T_418_23 (fun h => absurd h.1 (by decide)) (w32_id (by omega) (by omega)) ?_
        refine x_i2l T_418_24 ?_
        refine x_cs3 T_418_25 mN_282 mL_282 (Nat.le_of_ble_eq_true rfl) mK_282 (Nat.le_of_ble_eq_true rfl) (m_in) ?_
        rintro _ σ ⟨rfl, rfl⟩
        refine cI ?_
        refine x_if T_418_28 (fun _ => ?_) (fun h => absurd (show ¬ (if 0 ≤ k ∧ k ≤ (n - 1) then (1 : Int) else 0) = 0 by rw [if_pos q]; decide) h)
        refine x_ic T_418_33 ?_
        refine x_lr (z := some 2281) T_418_35 rfl ?_
        refine x_gR (z := some 2323) T_418_36 F_17_53 (PM.t hP) (PM.r hP 53 2323 rfl) ?_
        refine x_li (z := p) T_418_39 rfl ?_
        refine x_alI (z := g) T_418_40 (by decide) (PM.ta hP 2323 0 8 rfl rfl) (by omega) (by omega) (Eq.trans (PM.aP hP 2323 rfl rfl (by omega)) hg0) ?_
        refine x_ib (w := (8 * g)) T_418_41 (fun h => absurd h.1 (by decide)) (w32_id (by omega) (by omega)) ?_
        refine x_li (z := k) T_418_42 rfl ?_
        refine x_ib (w := ((8 * g) + k)) T_418_43 (fun h => absurd h.1 (by decide)) (w32_id (by omega) (by omega)) ?_
        refine x_si (ls1 := [some (vR (some 2281)), some (vI p), some (vI k), some (vI j), some (vI x), some (vI ((8 * g) + k)), none]) T_418_44 rfl ?_
        refine x_li (z := j) T_418_46 rfl ?_
        refine x_i2l T_418_47 ?_
        refine x_lc T_418_48 ?_
        refine x_lr (z := some 2281) T_418_49 rfl ?_
        refine x_gR (z := some 2337) T_418_50 F_17_67 (PM.t hP) (PM.r hP 67 2337 rfl) ?_
        refine x_li (z := ((8 * g) + k)) T_418_53 rfl ?_
        refine x_alI (z := z) T_418_55 (by decide) (PM.ta hP 2337 0 64 rfl rfl) (by omega) (by omega) (Eq.trans (PM.aP hP 2337 rfl rfl (by omega)) hz) ?_
        refine x_ic T_418_56 ?_
        refine x_ib (w := (z - 1)) T_418_57 (fun h => absurd h.1 (by decide)) (w32_id (by omega) (by omega)) ?_
        refine x_i2l T_418_58 ?_
        refine x_cs3 T_418_59 mN_282 mL_282 (Nat.le_of_ble_eq_true rfl) mK_282 (Nat.le_of_ble_eq_true rfl) (m_in) ?_
        rintro _ σ ⟨rfl, rfl⟩
        refine cI ?_
        refine x_if T_418_62 (fun _ => ?_) (fun h => absurd (show ¬ (if 0 ≤ j ∧ j ≤ (z - 1) then (1 : Int) else 0) = 0 by rw [if_pos q2]; decide) h)
        refine x_ic T_418_67 ?_
        refine x_li (z := ((8 * g) + k)) T_418_69 rfl ?_
        refine x_ib (w := (6 * ((8 * g) + k))) T_418_71 (fun h => absurd h.1 (by decide)) (w32_id (by omega) (by omega)) ?_
        refine x_li (z := j) T_418_72 rfl ?_
        refine x_ib (w := ((6 * ((8 * g) + k)) + j)) T_418_73 (fun h => absurd h.1 (by decide)) (w32_id (by omega) (by omega)) ?_
        refine x_si (ls1 := [some (vR (some 2281)), some (vI p), some (vI k), some (vI j), some (vI x), some (vI ((8 * g) + k)), some (vI ((6 * ((8 * g) + k)) + j))]) T_418_74 rfl ?_
        refine x_li (z := x) T_418_76 rfl ?_
        refine x_if T_418_78 (fun _ => ?_) (fun h => absurd (show ¬ x = 0 by omega) h)
        refine x_li (z := x) T_418_91 rfl ?_
        refine x_ic T_418_93 ?_
        refine x_ic2 T_418_94 (fun _ => ?_) (fun h => absurd (show ¬ x = 1 by omega) h)
        refine x_li (z := x) T_418_107 rfl ?_
        refine x_ic T_418_109 ?_
        refine x_ic2 T_418_110 (fun _ => ?_) (fun h => absurd (show ¬ x = 2 by omega) h)
        refine x_li (z := x) T_418_123 rfl ?_
        refine x_ic T_418_125 ?_
        refine x_ic2 T_418_126 (fun _ => ?_) (fun h => absurd (show ¬ x = 3 by omega) h)
        refine x_ic T_418_147 ?_
        refine x_ri T_418_149 ?_
        exact ⟨rfl, rfl⟩
      · rw [if_neg q2]
        refine CL_in mL_418 rfl ?_
        show WP fb _ 418 0 [some (vR (some 2281)), some (vI p), some (vI k), some (vI j), some (vI x), none, none] [] σ _
        refine x_lr (z := some 2281) T_418_0 rfl ?_
        refine x_li (z := p) T_418_1 rfl ?_
        refine x_cv2 T_418_2 mN_308 mL_308 (Nat.le_of_ble_eq_true rfl) mO_308 (PM.t hP) (Nat.le_of_ble_eq_true rfl) (hp_y hP hp) ?_
        rintro _ σ ⟨rfl, rfl⟩
        refine cI ?_
        refine x_if T_418_5 (fun h => absurd (show (1 : Int) = 0 from h) (by decide)) (fun _ => ?_)
        refine x_li (z := k) T_418_8 rfl ?_
        refine x_i2l T_418_9 ?_
        refine x_lc T_418_10 ?_
        refine x_lr (z := some 2281) T_418_11 rfl ?_
        refine x_gR (z := some 2334) T_418_12 F_17_64 (PM.t hP) (PM.r hP 64 2334 rfl) ?_
        refine x_lr (z := some 2281) T_418_15 rfl ?_
        refine x_gR (z := some 2323) T_418_16 F_17_53 (PM.t hP) (PM.r hP 53 2323 rfl) ?_
        refine x_li (z := p) T_418_19 rfl ?_
        refine x_alI (z := g) T_418_20 (by decide) (PM.ta hP 2323 0 8 rfl rfl) (by omega) (by omega) (Eq.trans (PM.aP hP 2323 rfl rfl (by omega)) hg0) ?_
        refine x_alI (z := n) T_418_21 (by decide) (PM.ta hP 2334 0 8 rfl rfl) (by omega) (by omega) (Eq.trans (PM.aP hP 2334 rfl rfl (by omega)) hn) ?_
        refine x_ic T_418_22 ?_
        refine x_ib (w := (n - 1)) T_418_23 (fun h => absurd h.1 (by decide)) (w32_id (by omega) (by omega)) ?_
        refine x_i2l T_418_24 ?_
        refine x_cs3 T_418_25 mN_282 mL_282 (Nat.le_of_ble_eq_true rfl) mK_282 (Nat.le_of_ble_eq_true rfl) (m_in) ?_
        rintro _ σ ⟨rfl, rfl⟩
        refine cI ?_
        refine x_if T_418_28 (fun _ => ?_) (fun h => absurd (show ¬ (if 0 ≤ k ∧ k ≤ (n - 1) then (1 : Int) else 0) = 0 by rw [if_pos q]; decide) h)
        refine x_ic T_418_33 ?_
        refine x_lr (z := some 2281) T_418_35 rfl ?_
        refine x_gR (z := some 2323) T_418_36 F_17_53 (PM.t hP) (PM.r hP 53 2323 rfl) ?_
        refine x_li (z := p) T_418_39 rfl ?_
        refine x_alI (z := g) T_418_40 (by decide) (PM.ta hP 2323 0 8 rfl rfl) (by omega) (by omega) (Eq.trans (PM.aP hP 2323 rfl rfl (by omega)) hg0) ?_
        refine x_ib (w := (8 * g)) T_418_41 (fun h => absurd h.1 (by decide)) (w32_id (by omega) (by omega)) ?_
        refine x_li (z := k) T_418_42 rfl ?_
        refine x_ib (w := ((8 * g) + k)) T_418_43 (fun h => absurd h.1 (by decide)) (w32_id (by omega) (by omega)) ?_
        refine x_si (ls1 := [some (vR (some 2281)), some (vI p), some (vI k), some (vI j), some (vI x), some (vI ((8 * g) + k)), none]) T_418_44 rfl ?_
        refine x_li (z := j) T_418_46 rfl ?_
        refine x_i2l T_418_47 ?_
        refine x_lc T_418_48 ?_
        refine x_lr (z := some 2281) T_418_49 rfl ?_
        refine x_gR (z := some 2337) T_418_50 F_17_67 (PM.t hP) (PM.r hP 67 2337 rfl) ?_
        refine x_li (z := ((8 * g) + k)) T_418_53 rfl ?_
        refine x_alI (z := z) T_418_55 (by decide) (PM.ta hP 2337 0 64 rfl rfl) (by omega) (by omega) (Eq.trans (PM.aP hP 2337 rfl rfl (by omega)) hz) ?_
        refine x_ic T_418_56 ?_
        refine x_ib (w := (z - 1)) T_418_57 (fun h => absurd h.1 (by decide)) (w32_id (by omega) (by omega)) ?_
        refine x_i2l T_418_58 ?_
        refine x_cs3 T_418_59 mN_282 mL_282 (Nat.le_of_ble_eq_true rfl) mK_282 (Nat.le_of_ble_eq_true rfl) (m_in) ?_
        rintro _ σ ⟨rfl, rfl⟩
        refine cI ?_
        refine x_if T_418_62 (fun h => absurd (show ¬ (if 0 ≤ j ∧ j ≤ (z - 1) then (1 : Int) else 0) = 0 from h) (by rw [if_neg q2]; decide)) (fun _ => ?_)
        refine x_ic T_418_65 ?_
        refine x_ri T_418_66 ?_
        exact ⟨rfl, rfl⟩
    · rw [if_neg (fun c => q c.2)]
      refine CL_in mL_418 rfl ?_
      show WP fb _ 418 0 [some (vR (some 2281)), some (vI p), some (vI k), some (vI j), some (vI x), none, none] [] σ _
      refine x_lr (z := some 2281) T_418_0 rfl ?_
      refine x_li (z := p) T_418_1 rfl ?_
      refine x_cv2 T_418_2 mN_308 mL_308 (Nat.le_of_ble_eq_true rfl) mO_308 (PM.t hP) (Nat.le_of_ble_eq_true rfl) (hp_y hP hp) ?_
      rintro _ σ ⟨rfl, rfl⟩
      refine cI ?_
      refine x_if T_418_5 (fun h => absurd (show (1 : Int) = 0 from h) (by decide)) (fun _ => ?_)
      refine x_li (z := k) T_418_8 rfl ?_
      refine x_i2l T_418_9 ?_
      refine x_lc T_418_10 ?_
      refine x_lr (z := some 2281) T_418_11 rfl ?_
      refine x_gR (z := some 2334) T_418_12 F_17_64 (PM.t hP) (PM.r hP 64 2334 rfl) ?_
      refine x_lr (z := some 2281) T_418_15 rfl ?_
      refine x_gR (z := some 2323) T_418_16 F_17_53 (PM.t hP) (PM.r hP 53 2323 rfl) ?_
      refine x_li (z := p) T_418_19 rfl ?_
      refine x_alI (z := g) T_418_20 (by decide) (PM.ta hP 2323 0 8 rfl rfl) (by omega) (by omega) (Eq.trans (PM.aP hP 2323 rfl rfl (by omega)) hg0) ?_
      refine x_alI (z := n) T_418_21 (by decide) (PM.ta hP 2334 0 8 rfl rfl) (by omega) (by omega) (Eq.trans (PM.aP hP 2334 rfl rfl (by omega)) hn) ?_
      refine x_ic T_418_22 ?_
      refine x_ib (w := (n - 1)) T_418_23 (fun h => absurd h.1 (by decide)) (w32_id (by omega) (by omega)) ?_
      refine x_i2l T_418_24 ?_
      refine x_cs3 T_418_25 mN_282 mL_282 (Nat.le_of_ble_eq_true rfl) mK_282 (Nat.le_of_ble_eq_true rfl) (m_in) ?_
      rintro _ σ ⟨rfl, rfl⟩
      refine cI ?_
      refine x_if T_418_28 (fun h => absurd (show ¬ (if 0 ≤ k ∧ k ≤ (n - 1) then (1 : Int) else 0) = 0 from h) (by rw [if_neg q]; decide)) (fun _ => ?_)
      refine x_ic T_418_31 ?_
      refine x_ri T_418_32 ?_
      exact ⟨rfl, rfl⟩
  · rw [if_neg (fun c => hp c.1)]
    refine CL_in mL_418 rfl ?_
    show WP fb _ 418 0 [some (vR (some 2281)), some (vI p), some (vI k), some (vI j), some (vI x), none, none] [] σ _
    refine x_lr (z := some 2281) T_418_0 rfl ?_
    refine x_li (z := p) T_418_1 rfl ?_
    refine x_cv2 T_418_2 mN_308 mL_308 (Nat.le_of_ble_eq_true rfl) mO_308 (PM.t hP) (Nat.le_of_ble_eq_true rfl) (hp_n hP hp) ?_
    rintro _ σ ⟨rfl, rfl⟩
    refine cI ?_
    refine x_if T_418_5 (fun _ => ?_) (fun h => absurd (show (0 : Int) = 0 by decide) h)
    refine x_ic T_418_31 ?_
    refine x_ri T_418_32 ?_
    exact ⟨rfl, rfl⟩
theorem m_descriptor (hP : PM σ0 P S σ) (hI : IV false T U P) : CL fb (d + 2) 419 [vR (some 2281), vI p, vI e, vI x] σ (rP (yDes P p e x) σ) := by
  unfold yDes
  by_cases hp : isPr P p
  · by_cases q : 0 ≤ e ∧ e ≤ 7
    · have h1 : -1 ≤ P 2327 (8 * p + e) ∧ P 2327 (8 * p + e) ≤ 63 := IV.a (k := 8 * p + e) hI 2327 0 64 rfl rfl rfl (by omega) (by omega)
      obtain ⟨n, hn⟩ : ∃ n, P 2327 (8 * p + e) = n := ⟨_, rfl⟩
      rw [hn] at h1 ⊢
      by_cases q2 : 0 ≤ n
      · rw [if_pos ⟨hp, q, q2⟩]
        by_cases c0 : x = 0
        · rw [if_pos c0]
          subst c0
          refine CL_in mL_419 rfl ?_
          show WP fb _ 419 0 [some (vR (some 2281)), some (vI p), some (vI e), some (vI 0), none] [] σ _
          refine x_lr (z := some 2281) T_419_0 rfl ?_
          refine x_li (z := p) T_419_1 rfl ?_
          refine x_cv2 T_419_2 mN_308 mL_308 (Nat.le_of_ble_eq_true rfl) mO_308 (PM.t hP) (Nat.le_of_ble_eq_true rfl) (hp_y hP hp) ?_
          rintro _ σ ⟨rfl, rfl⟩
          refine cI ?_
          refine x_if T_419_5 (fun h => absurd (show (1 : Int) = 0 from h) (by decide)) (fun _ => ?_)
          refine x_li (z := e) T_419_8 rfl ?_
          refine x_i2l T_419_9 ?_
          refine x_lc T_419_10 ?_
          refine x_lc T_419_11 ?_
          refine x_cs3 T_419_14 mN_282 mL_282 (Nat.le_of_ble_eq_true rfl) mK_282 (Nat.le_of_ble_eq_true rfl) (m_in) ?_
          rintro _ σ ⟨rfl, rfl⟩
          refine cI ?_
          refine x_if T_419_17 (fun h => absurd (show (if 0 ≤ e ∧ e ≤ 7 then (1 : Int) else 0) = 0 from h) (by rw [if_pos q]; decide)) (fun _ => ?_)
          refine x_lr (z := some 2281) T_419_20 rfl ?_
          refine x_gR (z := some 2327) T_419_21 F_17_57 (PM.t hP) (PM.r hP 57 2327 rfl) ?_
          refine x_ic T_419_24 ?_
          refine x_li (z := p) T_419_26 rfl ?_
          refine x_ib (w := (8 * p)) T_419_27 (fun h => absurd h.1 (by decide)) (w32_id (by omega) (by omega)) ?_
          refine x_li (z := e) T_419_28 rfl ?_
          refine x_ib (w := ((8 * p) + e)) T_419_29 (fun h => absurd h.1 (by decide)) (w32_id (by omega) (by omega)) ?_
          refine x_alI (z := n) T_419_30 (by decide) (PM.ta hP 2327 0 64 rfl rfl) (by omega) (by omega) (Eq.trans (PM.aP hP 2327 rfl rfl (by omega)) hn) ?_
          refine x_if T_419_31 (fun _ => ?_) (fun h => absurd (show 0 ≤ n by omega) h)
          refine x_lr (z := some 2281) T_419_36 rfl ?_
          refine x_gR (z := some 2327) T_419_37 F_17_57 (PM.t hP) (PM.r hP 57 2327 rfl) ?_
          refine x_ic T_419_40 ?_
          refine x_li (z := p) T_419_42 rfl ?_
          refine x_ib (w := (8 * p)) T_419_43 (fun h => absurd h.1 (by decide)) (w32_id (by omega) (by omega)) ?_
          refine x_li (z := e) T_419_44 rfl ?_
          refine x_ib (w := ((8 * p) + e)) T_419_45 (fun h => absurd h.1 (by decide)) (w32_id (by omega) (by omega)) ?_
          refine x_alI (z := n) T_419_46 (by decide) (PM.ta hP 2327 0 64 rfl rfl) (by omega) (by omega) (Eq.trans (PM.aP hP 2327 rfl rfl (by omega)) hn) ?_
          refine x_si (ls1 := [some (vR (some 2281)), some (vI p), some (vI e), some (vI 0), some (vI n)]) T_419_47 rfl ?_
          refine x_li (z := 0) T_419_49 rfl ?_
          refine x_if T_419_50 (fun h => absurd (show ¬ (0 : Int) = 0 from h) (by decide)) (fun _ => ?_)
          refine x_lr (z := some 2281) T_419_53 rfl ?_
          refine x_gR (z := some 2331) T_419_54 F_17_61 (PM.t hP) (PM.r hP 61 2331 rfl) ?_
          refine x_li (z := n) T_419_57 rfl ?_
          have b1 : 0 ≤ P 2331 n ∧ P 2331 n ≤ 2 := IV.a hI 2331 0 64 rfl rfl rfl (by omega) (by omega)
          refine x_alI (z := P 2331 n) T_419_59 (by decide) (PM.ta hP 2331 0 64 rfl rfl) (by omega) (by omega) (PM.aP hP 2331 rfl rfl (by omega)) ?_
          refine x_goto T_419_60 ?_
          refine x_ri T_419_109 ?_
          exact ⟨rfl, rfl⟩
        rw [if_neg c0]
        by_cases c1 : x = 1
        · rw [if_pos c1]
          subst c1
          refine CL_in mL_419 rfl ?_
          show WP fb _ 419 0 [some (vR (some 2281)), some (vI p), some (vI e), some (vI 1), none] [] σ _
          refine x_lr (z := some 2281) T_419_0 rfl ?_
          refine x_li (z := p) T_419_1 rfl ?_
          refine x_cv2 T_419_2 mN_308 mL_308 (Nat.le_of_ble_eq_true rfl) mO_308 (PM.t hP) (Nat.le_of_ble_eq_true rfl) (hp_y hP hp) ?_
          rintro _ σ ⟨rfl, rfl⟩
          refine cI ?_
          refine x_if T_419_5 (fun h => absurd (show (1 : Int) = 0 from h) (by decide)) (fun _ => ?_)
          refine x_li (z := e) T_419_8 rfl ?_
          refine x_i2l T_419_9 ?_
          refine x_lc T_419_10 ?_
          refine x_lc T_419_11 ?_
          refine x_cs3 T_419_14 mN_282 mL_282 (Nat.le_of_ble_eq_true rfl) mK_282 (Nat.le_of_ble_eq_true rfl) (m_in) ?_
          rintro _ σ ⟨rfl, rfl⟩
          refine cI ?_
          refine x_if T_419_17 (fun h => absurd (show (if 0 ≤ e ∧ e ≤ 7 then (1 : Int) else 0) = 0 from h) (by rw [if_pos q]; decide)) (fun _ => ?_)
          refine x_lr (z := some 2281) T_419_20 rfl ?_
          refine x_gR (z := some 2327) T_419_21 F_17_57 (PM.t hP) (PM.r hP 57 2327 rfl) ?_
          refine x_ic T_419_24 ?_
          refine x_li (z := p) T_419_26 rfl ?_
          refine x_ib (w := (8 * p)) T_419_27 (fun h => absurd h.1 (by decide)) (w32_id (by omega) (by omega)) ?_
          refine x_li (z := e) T_419_28 rfl ?_
          refine x_ib (w := ((8 * p) + e)) T_419_29 (fun h => absurd h.1 (by decide)) (w32_id (by omega) (by omega)) ?_
          refine x_alI (z := n) T_419_30 (by decide) (PM.ta hP 2327 0 64 rfl rfl) (by omega) (by omega) (Eq.trans (PM.aP hP 2327 rfl rfl (by omega)) hn) ?_
          refine x_if T_419_31 (fun _ => ?_) (fun h => absurd (show 0 ≤ n by omega) h)
          refine x_lr (z := some 2281) T_419_36 rfl ?_
          refine x_gR (z := some 2327) T_419_37 F_17_57 (PM.t hP) (PM.r hP 57 2327 rfl) ?_
          refine x_ic T_419_40 ?_
          refine x_li (z := p) T_419_42 rfl ?_
          refine x_ib (w := (8 * p)) T_419_43 (fun h => absurd h.1 (by decide)) (w32_id (by omega) (by omega)) ?_
          refine x_li (z := e) T_419_44 rfl ?_
          refine x_ib (w := ((8 * p) + e)) T_419_45 (fun h => absurd h.1 (by decide)) (w32_id (by omega) (by omega)) ?_
          refine x_alI (z := n) T_419_46 (by decide) (PM.ta hP 2327 0 64 rfl rfl) (by omega) (by omega) (Eq.trans (PM.aP hP 2327 rfl rfl (by omega)) hn) ?_
          refine x_si (ls1 := [some (vR (some 2281)), some (vI p), some (vI e), some (vI 1), some (vI n)]) T_419_47 rfl ?_
          refine x_li (z := 1) T_419_49 rfl ?_
          refine x_if T_419_50 (fun _ => ?_) (fun h => absurd (show ¬ (1 : Int) = 0 by decide) h)
          refine x_li (z := 1) T_419_63 rfl ?_
          refine x_ic T_419_64 ?_
          refine x_ic2 T_419_65 (fun h => absurd (show ¬ (1 : Int) = 1 from h) (by decide)) (fun _ => ?_)
          refine x_lr (z := some 2281) T_419_68 rfl ?_
          refine x_gR (z := some 2332) T_419_69 F_17_62 (PM.t hP) (PM.r hP 62 2332 rfl) ?_
          refine x_li (z := n) T_419_72 rfl ?_
          have b1 : 0 ≤ P 2332 n ∧ P 2332 n ≤ 47 := IV.a hI 2332 0 64 rfl rfl rfl (by omega) (by omega)
          refine x_alI (z := P 2332 n) T_419_74 (by decide) (PM.ta hP 2332 0 64 rfl rfl) (by omega) (by omega) (PM.aP hP 2332 rfl rfl (by omega)) ?_
          refine x_goto T_419_75 ?_
          refine x_ri T_419_109 ?_
          exact ⟨rfl, rfl⟩
        rw [if_neg c1]
        by_cases c2 : x = 2
        · rw [if_pos c2]
          subst c2
          refine CL_in mL_419 rfl ?_
          show WP fb _ 419 0 [some (vR (some 2281)), some (vI p), some (vI e), some (vI 2), none] [] σ _
          refine x_lr (z := some 2281) T_419_0 rfl ?_
          refine x_li (z := p) T_419_1 rfl ?_
          refine x_cv2 T_419_2 mN_308 mL_308 (Nat.le_of_ble_eq_true rfl) mO_308 (PM.t hP) (Nat.le_of_ble_eq_true rfl) (hp_y hP hp) ?_
          rintro _ σ ⟨rfl, rfl⟩
          refine cI ?_
          refine x_if T_419_5 (fun h => absurd (show (1 : Int) = 0 from h) (by decide)) (fun _ => ?_)
          refine x_li (z := e) T_419_8 rfl ?_
          refine x_i2l T_419_9 ?_
          refine x_lc T_419_10 ?_
          refine x_lc T_419_11 ?_
          refine x_cs3 T_419_14 mN_282 mL_282 (Nat.le_of_ble_eq_true rfl) mK_282 (Nat.le_of_ble_eq_true rfl) (m_in) ?_
          rintro _ σ ⟨rfl, rfl⟩
          refine cI ?_
          refine x_if T_419_17 (fun h => absurd (show (if 0 ≤ e ∧ e ≤ 7 then (1 : Int) else 0) = 0 from h) (by rw [if_pos q]; decide)) (fun _ => ?_)
          refine x_lr (z := some 2281) T_419_20 rfl ?_
          refine x_gR (z := some 2327) T_419_21 F_17_57 (PM.t hP) (PM.r hP 57 2327 rfl) ?_
          refine x_ic T_419_24 ?_
          refine x_li (z := p) T_419_26 rfl ?_
          refine x_ib (w := (8 * p)) T_419_27 (fun h => absurd h.1 (by decide)) (w32_id (by omega) (by omega)) ?_
          refine x_li (z := e) T_419_28 rfl ?_
          refine x_ib (w := ((8 * p) + e)) T_419_29 (fun h => absurd h.1 (by decide)) (w32_id (by omega) (by omega)) ?_
          refine x_alI (z := n) T_419_30 (by decide) (PM.ta hP 2327 0 64 rfl rfl) (by omega) (by omega) (Eq.trans (PM.aP hP 2327 rfl rfl (by omega)) hn) ?_
          refine x_if T_419_31 (fun _ => ?_) (fun h => absurd (show 0 ≤ n by omega) h)
          refine x_lr (z := some 2281) T_419_36 rfl ?_
          refine x_gR (z := some 2327) T_419_37 F_17_57 (PM.t hP) (PM.r hP 57 2327 rfl) ?_
          refine x_ic T_419_40 ?_
          refine x_li (z := p) T_419_42 rfl ?_
          refine x_ib (w := (8 * p)) T_419_43 (fun h => absurd h.1 (by decide)) (w32_id (by omega) (by omega)) ?_
          refine x_li (z := e) T_419_44 rfl ?_
          refine x_ib (w := ((8 * p) + e)) T_419_45 (fun h => absurd h.1 (by decide)) (w32_id (by omega) (by omega)) ?_
          refine x_alI (z := n) T_419_46 (by decide) (PM.ta hP 2327 0 64 rfl rfl) (by omega) (by omega) (Eq.trans (PM.aP hP 2327 rfl rfl (by omega)) hn) ?_
          refine x_si (ls1 := [some (vR (some 2281)), some (vI p), some (vI e), some (vI 2), some (vI n)]) T_419_47 rfl ?_
          refine x_li (z := 2) T_419_49 rfl ?_
          refine x_if T_419_50 (fun _ => ?_) (fun h => absurd (show ¬ (2 : Int) = 0 by decide) h)
          refine x_li (z := 2) T_419_63 rfl ?_
          refine x_ic T_419_64 ?_
          refine x_ic2 T_419_65 (fun _ => ?_) (fun h => absurd (show ¬ (2 : Int) = 1 by decide) h)
          refine x_li (z := 2) T_419_78 rfl ?_
          refine x_ic T_419_79 ?_
          refine x_ic2 T_419_80 (fun h => absurd (show ¬ (2 : Int) = 2 from h) (by decide)) (fun _ => ?_)
          refine x_lr (z := some 2281) T_419_83 rfl ?_
          refine x_gR (z := some 2333) T_419_84 F_17_63 (PM.t hP) (PM.r hP 63 2333 rfl) ?_
          refine x_li (z := n) T_419_87 rfl ?_
          have b1 : 0 ≤ P 2333 n ∧ P 2333 n ≤ U := IV.a hI 2333 0 64 rfl rfl rfl (by omega) (by omega)
          refine x_alI (z := P 2333 n) T_419_89 (by decide) (PM.ta hP 2333 0 64 rfl rfl) (by omega) (by omega) (PM.aP hP 2333 rfl rfl (by omega)) ?_
          refine x_goto T_419_90 ?_
          refine x_ri T_419_109 ?_
          exact ⟨rfl, rfl⟩
        rw [if_neg c2]
        by_cases c3 : x = 3
        · rw [if_pos c3]
          subst c3
          refine CL_in mL_419 rfl ?_
          show WP fb _ 419 0 [some (vR (some 2281)), some (vI p), some (vI e), some (vI 3), none] [] σ _
          refine x_lr (z := some 2281) T_419_0 rfl ?_
          refine x_li (z := p) T_419_1 rfl ?_
          refine x_cv2 T_419_2 mN_308 mL_308 (Nat.le_of_ble_eq_true rfl) mO_308 (PM.t hP) (Nat.le_of_ble_eq_true rfl) (hp_y hP hp) ?_
          rintro _ σ ⟨rfl, rfl⟩
          refine cI ?_
          refine x_if T_419_5 (fun h => absurd (show (1 : Int) = 0 from h) (by decide)) (fun _ => ?_)
          refine x_li (z := e) T_419_8 rfl ?_
          refine x_i2l T_419_9 ?_
          refine x_lc T_419_10 ?_
          refine x_lc T_419_11 ?_
          refine x_cs3 T_419_14 mN_282 mL_282 (Nat.le_of_ble_eq_true rfl) mK_282 (Nat.le_of_ble_eq_true rfl) (m_in) ?_
          rintro _ σ ⟨rfl, rfl⟩
          refine cI ?_
          refine x_if T_419_17 (fun h => absurd (show (if 0 ≤ e ∧ e ≤ 7 then (1 : Int) else 0) = 0 from h) (by rw [if_pos q]; decide)) (fun _ => ?_)
          refine x_lr (z := some 2281) T_419_20 rfl ?_
          refine x_gR (z := some 2327) T_419_21 F_17_57 (PM.t hP) (PM.r hP 57 2327 rfl) ?_
          refine x_ic T_419_24 ?_
          refine x_li (z := p) T_419_26 rfl ?_
          refine x_ib (w := (8 * p)) T_419_27 (fun h => absurd h.1 (by decide)) (w32_id (by omega) (by omega)) ?_
          refine x_li (z := e) T_419_28 rfl ?_
          refine x_ib (w := ((8 * p) + e)) T_419_29 (fun h => absurd h.1 (by decide)) (w32_id (by omega) (by omega)) ?_
          refine x_alI (z := n) T_419_30 (by decide) (PM.ta hP 2327 0 64 rfl rfl) (by omega) (by omega) (Eq.trans (PM.aP hP 2327 rfl rfl (by omega)) hn) ?_
          refine x_if T_419_31 (fun _ => ?_) (fun h => absurd (show 0 ≤ n by omega) h)
          refine x_lr (z := some 2281) T_419_36 rfl ?_
          refine x_gR (z := some 2327) T_419_37 F_17_57 (PM.t hP) (PM.r hP 57 2327 rfl) ?_
          refine x_ic T_419_40 ?_
          refine x_li (z := p) T_419_42 rfl ?_
          refine x_ib (w := (8 * p)) T_419_43 (fun h => absurd h.1 (by decide)) (w32_id (by omega) (by omega)) ?_
          refine x_li (z := e) T_419_44 rfl ?_
          refine x_ib (w := ((8 * p) + e)) T_419_45 (fun h => absurd h.1 (by decide)) (w32_id (by omega) (by omega)) ?_
          refine x_alI (z := n) T_419_46 (by decide) (PM.ta hP 2327 0 64 rfl rfl) (by omega) (by omega) (Eq.trans (PM.aP hP 2327 rfl rfl (by omega)) hn) ?_
          refine x_si (ls1 := [some (vR (some 2281)), some (vI p), some (vI e), some (vI 3), some (vI n)]) T_419_47 rfl ?_
          refine x_li (z := 3) T_419_49 rfl ?_
          refine x_if T_419_50 (fun _ => ?_) (fun h => absurd (show ¬ (3 : Int) = 0 by decide) h)
          refine x_li (z := 3) T_419_63 rfl ?_
          refine x_ic T_419_64 ?_
          refine x_ic2 T_419_65 (fun _ => ?_) (fun h => absurd (show ¬ (3 : Int) = 1 by decide) h)
          refine x_li (z := 3) T_419_78 rfl ?_
          refine x_ic T_419_79 ?_
          refine x_ic2 T_419_80 (fun _ => ?_) (fun h => absurd (show ¬ (3 : Int) = 2 by decide) h)
          refine x_li (z := 3) T_419_93 rfl ?_
          refine x_ic T_419_94 ?_
          refine x_ic2 T_419_95 (fun h => absurd (show ¬ (3 : Int) = 3 from h) (by decide)) (fun _ => ?_)
          refine x_lr (z := some 2281) T_419_98 rfl ?_
          refine x_li (z := n) T_419_99 rfl ?_
          refine x_cv2 T_419_101 mN_381 mL_381 (Nat.le_of_ble_eq_true rfl) mO_381 (PM.t hP) (Nat.le_of_ble_eq_true rfl) (m_usersOf hP) ?_
          rintro _ σ ⟨rfl, rfl⟩
          refine cI ?_
          refine x_goto T_419_104 ?_
          refine x_ri T_419_109 ?_
          exact ⟨rfl, rfl⟩
        rw [if_neg c3]
        refine CL_in mL_419 rfl ?_
        show WP fb _ 419 0 [some (vR (some 2281)), some (vI p), some (vI e), some (vI x), none] [] σ _
        refine x_lr (z := some 2281) T_419_0 rfl ?_
        refine x_li (z := p) T_419_1 rfl ?_
        refine x_cv2 T_419_2 mN_308 mL_308 (Nat.le_of_ble_eq_true rfl) mO_308 (PM.t hP) (Nat.le_of_ble_eq_true rfl) (hp_y hP hp) ?_
        rintro _ σ ⟨rfl, rfl⟩
        refine cI ?_
        refine x_if T_419_5 (fun h => absurd (show (1 : Int) = 0 from h) (by decide)) (fun _ => ?_)
        refine x_li (z := e) T_419_8 rfl ?_
        refine x_i2l T_419_9 ?_
        refine x_lc T_419_10 ?_
        refine x_lc T_419_11 ?_
        refine x_cs3 T_419_14 mN_282 mL_282 (Nat.le_of_ble_eq_true rfl) mK_282 (Nat.le_of_ble_eq_true rfl) (m_in) ?_
        rintro _ σ ⟨rfl, rfl⟩
        refine cI ?_
        refine x_if T_419_17 (fun h => absurd (show (if 0 ≤ e ∧ e ≤ 7 then (1 : Int) else 0) = 0 from h) (by rw [if_pos q]; decide)) (fun _ => ?_)
        refine x_lr (z := some 2281) T_419_20 rfl ?_
        refine x_gR (z := some 2327) T_419_21 F_17_57 (PM.t hP) (PM.r hP 57 2327 rfl) ?_
        refine x_ic T_419_24 ?_
        refine x_li (z := p) T_419_26 rfl ?_
        refine x_ib (w := (8 * p)) T_419_27 (fun h => absurd h.1 (by decide)) (w32_id (by omega) (by omega)) ?_
        refine x_li (z := e) T_419_28 rfl ?_
        refine x_ib (w := ((8 * p) + e)) T_419_29 (fun h => absurd h.1 (by decide)) (w32_id (by omega) (by omega)) ?_
        refine x_alI (z := n) T_419_30 (by decide) (PM.ta hP 2327 0 64 rfl rfl) (by omega) (by omega) (Eq.trans (PM.aP hP 2327 rfl rfl (by omega)) hn) ?_
        refine x_if T_419_31 (fun _ => ?_) (fun h => absurd (show 0 ≤ n by omega) h)
        refine x_lr (z := some 2281) T_419_36 rfl ?_
        refine x_gR (z := some 2327) T_419_37 F_17_57 (PM.t hP) (PM.r hP 57 2327 rfl) ?_
        refine x_ic T_419_40 ?_
        refine x_li (z := p) T_419_42 rfl ?_
        refine x_ib (w := (8 * p)) T_419_43 (fun h => absurd h.1 (by decide)) (w32_id (by omega) (by omega)) ?_
        refine x_li (z := e) T_419_44 rfl ?_
        refine x_ib (w := ((8 * p) + e)) T_419_45 (fun h => absurd h.1 (by decide)) (w32_id (by omega) (by omega)) ?_
        refine x_alI (z := n) T_419_46 (by decide) (PM.ta hP 2327 0 64 rfl rfl) (by omega) (by omega) (Eq.trans (PM.aP hP 2327 rfl rfl (by omega)) hn) ?_
        refine x_si (ls1 := [some (vR (some 2281)), some (vI p), some (vI e), some (vI x), some (vI n)]) T_419_47 rfl ?_
        refine x_li (z := x) T_419_49 rfl ?_
        refine x_if T_419_50 (fun _ => ?_) (fun h => absurd (show ¬ x = 0 by omega) h)
        refine x_li (z := x) T_419_63 rfl ?_
        refine x_ic T_419_64 ?_
        refine x_ic2 T_419_65 (fun _ => ?_) (fun h => absurd (show ¬ x = 1 by omega) h)
        refine x_li (z := x) T_419_78 rfl ?_
        refine x_ic T_419_79 ?_
        refine x_ic2 T_419_80 (fun _ => ?_) (fun h => absurd (show ¬ x = 2 by omega) h)
        refine x_li (z := x) T_419_93 rfl ?_
        refine x_ic T_419_94 ?_
        refine x_ic2 T_419_95 (fun _ => ?_) (fun h => absurd (show ¬ x = 3 by omega) h)
        refine x_ic T_419_107 ?_
        refine x_ri T_419_109 ?_
        exact ⟨rfl, rfl⟩
      · rw [if_neg (fun c => q2 c.2.2)]
        refine CL_in mL_419 rfl ?_
        show WP fb _ 419 0 [some (vR (some 2281)), some (vI p), some (vI e), some (vI x), none] [] σ _
        refine x_lr (z := some 2281) T_419_0 rfl ?_
        refine x_li (z := p) T_419_1 rfl ?_
        refine x_cv2 T_419_2 mN_308 mL_308 (Nat.le_of_ble_eq_true rfl) mO_308 (PM.t hP) (Nat.le_of_ble_eq_true rfl) (hp_y hP hp) ?_
        rintro _ σ ⟨rfl, rfl⟩
        refine cI ?_
        refine x_if T_419_5 (fun h => absurd (show (1 : Int) = 0 from h) (by decide)) (fun _ => ?_)
        refine x_li (z := e) T_419_8 rfl ?_
        refine x_i2l T_419_9 ?_
        refine x_lc T_419_10 ?_
        refine x_lc T_419_11 ?_
        refine x_cs3 T_419_14 mN_282 mL_282 (Nat.le_of_ble_eq_true rfl) mK_282 (Nat.le_of_ble_eq_true rfl) (m_in) ?_
        rintro _ σ ⟨rfl, rfl⟩
        refine cI ?_
        refine x_if T_419_17 (fun h => absurd (show (if 0 ≤ e ∧ e ≤ 7 then (1 : Int) else 0) = 0 from h) (by rw [if_pos q]; decide)) (fun _ => ?_)
        refine x_lr (z := some 2281) T_419_20 rfl ?_
        refine x_gR (z := some 2327) T_419_21 F_17_57 (PM.t hP) (PM.r hP 57 2327 rfl) ?_
        refine x_ic T_419_24 ?_
        refine x_li (z := p) T_419_26 rfl ?_
        refine x_ib (w := (8 * p)) T_419_27 (fun h => absurd h.1 (by decide)) (w32_id (by omega) (by omega)) ?_
        refine x_li (z := e) T_419_28 rfl ?_
        refine x_ib (w := ((8 * p) + e)) T_419_29 (fun h => absurd h.1 (by decide)) (w32_id (by omega) (by omega)) ?_
        refine x_alI (z := n) T_419_30 (by decide) (PM.ta hP 2327 0 64 rfl rfl) (by omega) (by omega) (Eq.trans (PM.aP hP 2327 rfl rfl (by omega)) hn) ?_
        refine x_if T_419_31 (fun h => absurd (show 0 ≤ n from h) (by omega)) (fun _ => ?_)
        refine x_ic T_419_34 ?_
        refine x_ri T_419_35 ?_
        exact ⟨rfl, rfl⟩
    · rw [if_neg (fun c => q c.2.1)]
      refine CL_in mL_419 rfl ?_
      show WP fb _ 419 0 [some (vR (some 2281)), some (vI p), some (vI e), some (vI x), none] [] σ _
      refine x_lr (z := some 2281) T_419_0 rfl ?_
      refine x_li (z := p) T_419_1 rfl ?_
      refine x_cv2 T_419_2 mN_308 mL_308 (Nat.le_of_ble_eq_true rfl) mO_308 (PM.t hP) (Nat.le_of_ble_eq_true rfl) (hp_y hP hp) ?_
      rintro _ σ ⟨rfl, rfl⟩
      refine cI ?_
      refine x_if T_419_5 (fun h => absurd (show (1 : Int) = 0 from h) (by decide)) (fun _ => ?_)
      refine x_li (z := e) T_419_8 rfl ?_
      refine x_i2l T_419_9 ?_
      refine x_lc T_419_10 ?_
      refine x_lc T_419_11 ?_
      refine x_cs3 T_419_14 mN_282 mL_282 (Nat.le_of_ble_eq_true rfl) mK_282 (Nat.le_of_ble_eq_true rfl) (m_in) ?_
      rintro _ σ ⟨rfl, rfl⟩
      refine cI ?_
      refine x_if T_419_17 (fun _ => ?_) (fun h => absurd (show (if 0 ≤ e ∧ e ≤ 7 then (1 : Int) else 0) = 0 by rw [if_neg q]) h)
      refine x_ic T_419_34 ?_
      refine x_ri T_419_35 ?_
      exact ⟨rfl, rfl⟩
  · rw [if_neg (fun c => hp c.1)]
    refine CL_in mL_419 rfl ?_
    show WP fb _ 419 0 [some (vR (some 2281)), some (vI p), some (vI e), some (vI x), none] [] σ _
    refine x_lr (z := some 2281) T_419_0 rfl ?_
    refine x_li (z := p) T_419_1 rfl ?_
    refine x_cv2 T_419_2 mN_308 mL_308 (Nat.le_of_ble_eq_true rfl) mO_308 (PM.t hP) (Nat.le_of_ble_eq_true rfl) (hp_n hP hp) ?_
    rintro _ σ ⟨rfl, rfl⟩
    refine cI ?_
    refine x_if T_419_5 (fun _ => ?_) (fun h => absurd (show (0 : Int) = 0 by decide) h)
    refine x_ic T_419_34 ?_
    refine x_ri T_419_35 ?_
    exact ⟨rfl, rfl⟩
theorem m_server_loop (hP : PM σ0 P S σ) (hI : IV false T U P) {Q : Option AV → hM → Prop} (hQ : WP fb (d + 2) 420 63 [some (vR (some 2281)), some (vI s), some (vI x), some (vI (fiN P 8 0 2)), some (vI 8)] [] σ Q) : ∀ (m : Nat) (k n : Int), k + m = 8 → 0 ≤ k → 0 ≤ n → n ≤ 2 + 3 * k → fiN P m k n = fiN P 8 0 2 → WP fb (d + 2) 420 32 [some (vR (some 2281)), some (vI s), some (vI x), some (vI n), some (vI k)] [] σ Q := by
  intro m
  induction m with
  | zero =>
    intro k n h1 h2 h3 h4 h5
    have h1 : k + ((0 : Nat) : Int) = 8 := h1
    have hk : k = 8 := by omega
    subst hk
    have h5 : n = fiN P 8 0 2 := h5
    rw [← h5] at hQ
    refine x_li (z := 8) T_420_32 rfl ?_
    refine x_ic T_420_34 ?_
    refine x_ic2 T_420_36 (fun _ => ?_) (fun h => absurd (show 8 ≤ (8 : Int) by decide) h)
    exact hQ
  | succ m ih =>
    intro k n h1 h2 h3 h4 h5
    have h5 : fiN P m (k + 1) (if P 2320 k = 0 then n else n + 3) = fiN P 8 0 2 := h5
    have hb : 0 ≤ P 2320 k ∧ P 2320 k ≤ 1 := IV.a (k := k) hI 2320 2 8 rfl rfl rfl (by omega) (by omega)
    obtain ⟨y, hy⟩ : ∃ y, P 2320 k = y := ⟨_, rfl⟩
    rw [hy] at hb h5
    by_cases q : y = 0
    · rw [if_pos q] at h5
      have hgo := ih (k + 1) n (by omega) (by omega) h3 (by omega) h5
      refine x_li (z := k) T_420_32 rfl ?_
      refine x_ic T_420_34 ?_
      refine x_ic2 T_420_36 (fun h => absurd (show 8 ≤ k from h) (by omega)) (fun _ => ?_)
      refine x_lr (z := some 2281) T_420_39 rfl ?_
      refine x_gR (z := some 2320) T_420_40 F_17_50 (PM.t hP) (PM.r hP 50 2320 rfl) ?_
      refine x_li (z := k) T_420_43 rfl ?_
      refine x_alI (z := y) T_420_45 (by decide) (PM.ta hP 2320 2 8 rfl rfl) (by omega) (by omega) (Eq.trans (PM.aP hP 2320 rfl rfl (by omega)) hy) ?_
      refine x_if T_420_46 (fun _ => ?_) (fun h => absurd (show y = 0 by omega) h)
      refine x_li (z := n) T_420_55 rfl ?_
      refine x_si (ls1 := [some (vR (some 2281)), some (vI s), some (vI x), some (vI n), some (vI k)]) T_420_56 rfl ?_
      refine x_inc (w := (k + 1)) (ls1 := [some (vR (some 2281)), some (vI s), some (vI x), some (vI n), some (vI (k + 1))]) T_420_57 rfl (w32_id (by omega) (by omega)) rfl ?_
      refine x_goto T_420_60 ?_
      exact hgo
    · rw [if_neg q] at h5
      have hgo := ih (k + 1) (n + 3) (by omega) (by omega) (by omega) (by omega) h5
      refine x_li (z := k) T_420_32 rfl ?_
      refine x_ic T_420_34 ?_
      refine x_ic2 T_420_36 (fun h => absurd (show 8 ≤ k from h) (by omega)) (fun _ => ?_)
      refine x_lr (z := some 2281) T_420_39 rfl ?_
      refine x_gR (z := some 2320) T_420_40 F_17_50 (PM.t hP) (PM.r hP 50 2320 rfl) ?_
      refine x_li (z := k) T_420_43 rfl ?_
      refine x_alI (z := y) T_420_45 (by decide) (PM.ta hP 2320 2 8 rfl rfl) (by omega) (by omega) (Eq.trans (PM.aP hP 2320 rfl rfl (by omega)) hy) ?_
      refine x_if T_420_46 (fun h => absurd (show y = 0 from h) (by omega)) (fun _ => ?_)
      refine x_li (z := n) T_420_49 rfl ?_
      refine x_ic T_420_50 ?_
      refine x_ib (w := (n + 3)) T_420_51 (fun h => absurd h.1 (by decide)) (w32_id (by omega) (by omega)) ?_
      refine x_goto T_420_52 ?_
      refine x_si (ls1 := [some (vR (some 2281)), some (vI s), some (vI x), some (vI (n + 3)), some (vI k)]) T_420_56 rfl ?_
      refine x_inc (w := (k + 1)) (ls1 := [some (vR (some 2281)), some (vI s), some (vI x), some (vI (n + 3)), some (vI (k + 1))]) T_420_57 rfl (w32_id (by omega) (by omega)) rfl ?_
      refine x_goto T_420_60 ?_
      exact hgo
theorem m_server (hP : PM σ0 P S σ) (hI : IV false T U P) : CL fb (d + 2) 420 [vR (some 2281), vI s, vI x] σ (rP (ySrv P s x) σ) := by
  unfold ySrv
  have hr := fiN_rng (P := P) 8 0 2
  by_cases q : 0 ≤ s ∧ s ≤ 2
  · by_cases q2 : 0 ≤ x ∧ x ≤ 5
    · rw [if_pos ⟨q, q2⟩]
      have hlo := fun (x : Int) (hQ : WP fb (d + 2) 420 63 [some (vR (some 2281)), some (vI s), some (vI x), some (vI (fiN P 8 0 2)), some (vI 8)] [] σ (rP (ySrv P s x) σ)) => m_server_loop (x := x) hP hI hQ 8 0 2 (by decide) (by decide) (by decide) (by decide) rfl
      obtain ⟨n, hn⟩ : ∃ n, fiN P 8 0 2 = n := ⟨_, rfl⟩
      have hgo : ∀ v : Int, ySrv P s x = v → WP fb (d + 2) 420 63 [some (vR (some 2281)), some (vI s), some (vI x), some (vI n), some (vI 8)] [] σ (rP v σ) → CL fb (d + 2) 420 [vR (some 2281), vI s, vI x] σ (rP v σ) := fun v e1 e2 => by
        have hlo := hlo x (by rw [hn, e1]; exact e2)
        rw [e1] at hlo
        refine CL_in mL_420 rfl ?_
        show WP fb _ 420 0 [some (vR (some 2281)), some (vI s), some (vI x), none, none] [] σ _
        refine x_li (z := s) T_420_0 rfl ?_
        refine x_i2l T_420_1 ?_
        refine x_lc T_420_2 ?_
        refine x_lc T_420_3 ?_
        refine x_cs3 T_420_6 mN_282 mL_282 (Nat.le_of_ble_eq_true rfl) mK_282 (Nat.le_of_ble_eq_true rfl) (m_in) ?_
        rintro _ σ ⟨rfl, rfl⟩
        refine cI ?_
        refine x_if T_420_9 (fun h => absurd (show (if 0 ≤ s ∧ s ≤ 2 then (1 : Int) else 0) = 0 from h) (by rw [if_pos q]; decide)) (fun _ => ?_)
        refine x_li (z := x) T_420_12 rfl ?_
        refine x_i2l T_420_13 ?_
        refine x_lc T_420_14 ?_
        refine x_lc T_420_15 ?_
        refine x_cs3 T_420_18 mN_282 mL_282 (Nat.le_of_ble_eq_true rfl) mK_282 (Nat.le_of_ble_eq_true rfl) (m_in) ?_
        rintro _ σ ⟨rfl, rfl⟩
        refine cI ?_
        refine x_if T_420_21 (fun _ => ?_) (fun h => absurd (show ¬ (if 0 ≤ x ∧ x ≤ 5 then (1 : Int) else 0) = 0 by rw [if_pos q2]; decide) h)
        refine x_ic T_420_27 ?_
        refine x_si (ls1 := [some (vR (some 2281)), some (vI s), some (vI x), some (vI 2), none]) T_420_28 rfl ?_
        refine x_ic T_420_29 ?_
        refine x_si (ls1 := [some (vR (some 2281)), some (vI s), some (vI x), some (vI 2), some (vI 0)]) T_420_30 rfl ?_
        exact hlo
      have hs : ySrv P s x = if x = 0 then (if s < 2 then P 2302 s else fiN P 8 0 2) else if x = 1 then (if s < 2 then P 2301 s else 0) else if x = 2 then qFids P s 0 else if x = 3 then qFids P s 1 else P 2313 (2 * s + x - 4) := if_pos ⟨q, q2⟩
      refine hgo _ hs ?_
      clear hgo hs hlo
      rw [hn]
      by_cases c0 : x = 0
      · rw [if_pos c0]
        subst c0
        by_cases q3 : s < 2
        · rw [if_pos q3]
          refine x_li (z := 0) T_420_63 rfl ?_
          refine x_swIn T_420_64 (by decide) (by decide) rfl ?_
          refine x_li (z := s) T_420_96 rfl ?_
          refine x_ic T_420_97 ?_
          refine x_ic2 T_420_98 (fun h => absurd (show 2 ≤ s from h) (by omega)) (fun _ => ?_)
          refine x_lr (z := some 2281) T_420_101 rfl ?_
          refine x_gR (z := some 2302) T_420_102 F_17_26 (PM.t hP) (PM.r hP 26 2302 rfl) ?_
          refine x_li (z := s) T_420_105 rfl ?_
          have b1 : 0 ≤ P 2302 s ∧ P 2302 s ≤ 64 := IV.a hI 2302 0 2 rfl rfl rfl (by omega) (by omega)
          refine x_alI (z := P 2302 s) T_420_106 (by decide) (PM.ta hP 2302 0 2 rfl rfl) (by omega) (by omega) (PM.aP hP 2302 rfl rfl (by omega)) ?_
          refine x_goto T_420_107 ?_
          refine x_ri T_420_111 ?_
          exact ⟨rfl, rfl⟩
        · rw [if_neg q3]
          refine x_li (z := 0) T_420_63 rfl ?_
          refine x_swIn T_420_64 (by decide) (by decide) rfl ?_
          refine x_li (z := s) T_420_96 rfl ?_
          refine x_ic T_420_97 ?_
          refine x_ic2 T_420_98 (fun _ => ?_) (fun h => absurd (show 2 ≤ s by omega) h)
          refine x_li (z := n) T_420_110 rfl ?_
          refine x_ri T_420_111 ?_
          exact ⟨rfl, rfl⟩
      rw [if_neg c0]
      by_cases c1 : x = 1
      · rw [if_pos c1]
        subst c1
        by_cases q3 : s < 2
        · rw [if_pos q3]
          refine x_li (z := 1) T_420_63 rfl ?_
          refine x_swIn T_420_64 (by decide) (by decide) rfl ?_
          refine x_li (z := s) T_420_112 rfl ?_
          refine x_ic T_420_113 ?_
          refine x_ic2 T_420_114 (fun h => absurd (show 2 ≤ s from h) (by omega)) (fun _ => ?_)
          refine x_lr (z := some 2281) T_420_117 rfl ?_
          refine x_gR (z := some 2301) T_420_118 F_17_25 (PM.t hP) (PM.r hP 25 2301 rfl) ?_
          refine x_li (z := s) T_420_121 rfl ?_
          have b1 : 0 ≤ P 2301 s ∧ P 2301 s ≤ 8192 := IV.a hI 2301 0 2 rfl rfl rfl (by omega) (by omega)
          refine x_alI (z := P 2301 s) T_420_122 (by decide) (PM.ta hP 2301 0 2 rfl rfl) (by omega) (by omega) (PM.aP hP 2301 rfl rfl (by omega)) ?_
          refine x_goto T_420_123 ?_
          refine x_ri T_420_127 ?_
          exact ⟨rfl, rfl⟩
        · rw [if_neg q3]
          refine x_li (z := 1) T_420_63 rfl ?_
          refine x_swIn T_420_64 (by decide) (by decide) rfl ?_
          refine x_li (z := s) T_420_112 rfl ?_
          refine x_ic T_420_113 ?_
          refine x_ic2 T_420_114 (fun _ => ?_) (fun h => absurd (show 2 ≤ s by omega) h)
          refine x_ic T_420_126 ?_
          refine x_ri T_420_127 ?_
          exact ⟨rfl, rfl⟩
      rw [if_neg c1]
      by_cases c2 : x = 2
      · rw [if_pos c2]
        subst c2
        refine x_li (z := 2) T_420_63 rfl ?_
        refine x_swIn T_420_64 (by decide) (by decide) rfl ?_
        refine x_lr (z := some 2281) T_420_128 rfl ?_
        refine x_li (z := s) T_420_129 rfl ?_
        refine x_li (z := 2) T_420_130 rfl ?_
        refine x_ic T_420_131 ?_
        refine x_ib (w := 0) T_420_132 (fun h => absurd h.1 (by decide)) (by decide) ?_
        refine x_cv3 T_420_133 mN_421 mL_421 (Nat.le_of_ble_eq_true rfl) mO_421 (PM.t hP) (Nat.le_of_ble_eq_true rfl) (m_fidsOf hP (by omega) (by omega)) ?_
        rintro _ σ ⟨rfl, rfl⟩
        refine cI ?_
        refine x_ri T_420_136 ?_
        exact ⟨rfl, rfl⟩
      rw [if_neg c2]
      by_cases c3 : x = 3
      · rw [if_pos c3]
        subst c3
        refine x_li (z := 3) T_420_63 rfl ?_
        refine x_swIn T_420_64 (by decide) (by decide) rfl ?_
        refine x_lr (z := some 2281) T_420_128 rfl ?_
        refine x_li (z := s) T_420_129 rfl ?_
        refine x_li (z := 3) T_420_130 rfl ?_
        refine x_ic T_420_131 ?_
        refine x_ib (w := 1) T_420_132 (fun h => absurd h.1 (by decide)) (by decide) ?_
        refine x_cv3 T_420_133 mN_421 mL_421 (Nat.le_of_ble_eq_true rfl) mO_421 (PM.t hP) (Nat.le_of_ble_eq_true rfl) (m_fidsOf hP (by omega) (by omega)) ?_
        rintro _ σ ⟨rfl, rfl⟩
        refine cI ?_
        refine x_ri T_420_136 ?_
        exact ⟨rfl, rfl⟩
      rw [if_neg c3]
      refine x_li (z := x) T_420_63 rfl ?_
      refine x_swOut T_420_64  (by simp only [List.length]; omega) ?_
      refine x_lr (z := some 2281) T_420_137 rfl ?_
      refine x_gR (z := some 2313) T_420_138 F_17_37 (PM.t hP) (PM.r hP 37 2313 rfl) ?_
      refine x_ic T_420_141 ?_
      refine x_li (z := s) T_420_142 rfl ?_
      refine x_ib (w := (2 * s)) T_420_143 (fun h => absurd h.1 (by decide)) (w32_id (by omega) (by omega)) ?_
      refine x_li (z := x) T_420_144 rfl ?_
      refine x_ib (w := ((2 * s) + x)) T_420_145 (fun h => absurd h.1 (by decide)) (w32_id (by omega) (by omega)) ?_
      refine x_ic T_420_146 ?_
      refine x_ib (w := (((2 * s) + x) - 4)) T_420_147 (fun h => absurd h.1 (by decide)) (w32_id (by omega) (by omega)) ?_
      have b1 : 64 ≤ P 2313 (((2 * s) + x) - 4) ∧ P 2313 (((2 * s) + x) - 4) ≤ 300 := IV.a hI 2313 0 6 rfl rfl rfl (by omega) (by omega)
      refine x_alI (z := P 2313 (((2 * s) + x) - 4)) T_420_148 (by decide) (PM.ta hP 2313 0 6 rfl rfl) (by omega) (by omega) (PM.aP hP 2313 rfl rfl (by omega)) ?_
      refine x_ri T_420_149 ?_
      exact ⟨rfl, rfl⟩
    · rw [if_neg (fun c => q2 c.2)]
      refine CL_in mL_420 rfl ?_
      show WP fb _ 420 0 [some (vR (some 2281)), some (vI s), some (vI x), none, none] [] σ _
      refine x_li (z := s) T_420_0 rfl ?_
      refine x_i2l T_420_1 ?_
      refine x_lc T_420_2 ?_
      refine x_lc T_420_3 ?_
      refine x_cs3 T_420_6 mN_282 mL_282 (Nat.le_of_ble_eq_true rfl) mK_282 (Nat.le_of_ble_eq_true rfl) (m_in) ?_
      rintro _ σ ⟨rfl, rfl⟩
      refine cI ?_
      refine x_if T_420_9 (fun h => absurd (show (if 0 ≤ s ∧ s ≤ 2 then (1 : Int) else 0) = 0 from h) (by rw [if_pos q]; decide)) (fun _ => ?_)
      refine x_li (z := x) T_420_12 rfl ?_
      refine x_i2l T_420_13 ?_
      refine x_lc T_420_14 ?_
      refine x_lc T_420_15 ?_
      refine x_cs3 T_420_18 mN_282 mL_282 (Nat.le_of_ble_eq_true rfl) mK_282 (Nat.le_of_ble_eq_true rfl) (m_in) ?_
      rintro _ σ ⟨rfl, rfl⟩
      refine cI ?_
      refine x_if T_420_21 (fun h => absurd (show ¬ (if 0 ≤ x ∧ x ≤ 5 then (1 : Int) else 0) = 0 from h) (by rw [if_neg q2]; decide)) (fun _ => ?_)
      refine x_ic T_420_24 ?_
      refine x_ri T_420_26 ?_
      exact ⟨rfl, rfl⟩
  · rw [if_neg (fun c => q c.1)]
    refine CL_in mL_420 rfl ?_
    show WP fb _ 420 0 [some (vR (some 2281)), some (vI s), some (vI x), none, none] [] σ _
    refine x_li (z := s) T_420_0 rfl ?_
    refine x_i2l T_420_1 ?_
    refine x_lc T_420_2 ?_
    refine x_lc T_420_3 ?_
    refine x_cs3 T_420_6 mN_282 mL_282 (Nat.le_of_ble_eq_true rfl) mK_282 (Nat.le_of_ble_eq_true rfl) (m_in) ?_
    rintro _ σ ⟨rfl, rfl⟩
    refine cI ?_
    refine x_if T_420_9 (fun _ => ?_) (fun h => absurd (show (if 0 ≤ s ∧ s ≤ 2 then (1 : Int) else 0) = 0 by rw [if_neg q]) h)
    refine x_ic T_420_24 ?_
    refine x_ri T_420_26 ?_
    exact ⟨rfl, rfl⟩
theorem m_fid (hP : PM σ0 P S σ) (hI : IV false T U P) : CL fb (d + 2) 422 [vR (some 2281), vI s, vI f, vI x] σ (rP (yFid P s f x) σ) := by
  unfold yFid
  by_cases q : 0 ≤ s ∧ s ≤ 2
  · have hr := qFid_rng (P := P) (s := s) (c := 0) (v := f)
    obtain ⟨k, hk⟩ : ∃ k, qFid P s 0 f = k := ⟨_, rfl⟩
    have hf := CL_val (m_findFid (fb := fb) (d := d) (c := 0) (v := f) hP (by omega : 0 ≤ s ∧ s < 3) (by decide)) hk
    rw [hk] at hr ⊢
    by_cases q2 : 0 ≤ k
    · rw [if_pos ⟨q, q2⟩]
      have hm : -1 ≤ P 2309 k ∧ P 2309 k ≤ 255 := IV.a (k := k) hI 2309 0 288 rfl rfl rfl (by omega) (by omega)
      obtain ⟨md, hmd⟩ : ∃ y, P 2309 k = y := ⟨_, rfl⟩
      rw [hmd] at hm ⊢
      by_cases c0 : x = 0
      · rw [if_pos c0]
        subst c0
        refine CL_in mL_422 rfl ?_
        show WP fb _ 422 0 [some (vR (some 2281)), some (vI s), some (vI f), some (vI 0), none] [] σ _
        refine x_li (z := s) T_422_0 rfl ?_
        refine x_i2l T_422_1 ?_
        refine x_lc T_422_2 ?_
        refine x_lc T_422_3 ?_
        refine x_cs3 T_422_6 mN_282 mL_282 (Nat.le_of_ble_eq_true rfl) mK_282 (Nat.le_of_ble_eq_true rfl) (m_in) ?_
        rintro _ σ ⟨rfl, rfl⟩
        refine cI ?_
        refine x_if T_422_9 (fun h => absurd (show (if 0 ≤ s ∧ s ≤ 2 then (1 : Int) else 0) = 0 from h) (by rw [if_pos q]; decide)) (fun _ => ?_)
        refine x_lr (z := some 2281) T_422_12 rfl ?_
        refine x_li (z := s) T_422_13 rfl ?_
        refine x_ic T_422_14 ?_
        refine x_li (z := f) T_422_15 rfl ?_
        refine x_i2l T_422_16 ?_
        refine x_cv4 T_422_17 mN_261 mL_261 (Nat.le_of_ble_eq_true rfl) mO_261 (PM.t hP) (Nat.le_of_ble_eq_true rfl) (hf) ?_
        rintro _ σ ⟨rfl, rfl⟩
        refine cI ?_
        refine x_goto T_422_20 ?_
        refine x_si (ls1 := [some (vR (some 2281)), some (vI s), some (vI f), some (vI 0), some (vI k)]) T_422_24 rfl ?_
        refine x_li (z := k) T_422_26 rfl ?_
        refine x_if T_422_28 (fun _ => ?_) (fun h => absurd (show 0 ≤ k by omega) h)
        refine x_li (z := 0) T_422_33 rfl ?_
        refine x_swIn T_422_34 (by decide) (by decide) rfl ?_
        refine x_lr (z := some 2281) T_422_60 rfl ?_
        refine x_gR (z := some 2307) T_422_61 F_17_31 (PM.t hP) (PM.r hP 31 2307 rfl) ?_
        refine x_li (z := k) T_422_64 rfl ?_
        have b1 : 0 ≤ P 2307 k ∧ P 2307 k ≤ T + 200 := IV.a hI 2307 0 288 rfl rfl rfl (by omega) (by omega)
        refine x_alI (z := P 2307 k) T_422_66 (by decide) (PM.ta hP 2307 0 288 rfl rfl) (by omega) (by omega) (PM.aP hP 2307 rfl rfl (by omega)) ?_
        refine x_ri T_422_67 ?_
        exact ⟨rfl, rfl⟩
      rw [if_neg c0]
      by_cases c1 : x = 1
      · rw [if_pos c1]
        subst c1
        refine CL_in mL_422 rfl ?_
        show WP fb _ 422 0 [some (vR (some 2281)), some (vI s), some (vI f), some (vI 1), none] [] σ _
        refine x_li (z := s) T_422_0 rfl ?_
        refine x_i2l T_422_1 ?_
        refine x_lc T_422_2 ?_
        refine x_lc T_422_3 ?_
        refine x_cs3 T_422_6 mN_282 mL_282 (Nat.le_of_ble_eq_true rfl) mK_282 (Nat.le_of_ble_eq_true rfl) (m_in) ?_
        rintro _ σ ⟨rfl, rfl⟩
        refine cI ?_
        refine x_if T_422_9 (fun h => absurd (show (if 0 ≤ s ∧ s ≤ 2 then (1 : Int) else 0) = 0 from h) (by rw [if_pos q]; decide)) (fun _ => ?_)
        refine x_lr (z := some 2281) T_422_12 rfl ?_
        refine x_li (z := s) T_422_13 rfl ?_
        refine x_ic T_422_14 ?_
        refine x_li (z := f) T_422_15 rfl ?_
        refine x_i2l T_422_16 ?_
        refine x_cv4 T_422_17 mN_261 mL_261 (Nat.le_of_ble_eq_true rfl) mO_261 (PM.t hP) (Nat.le_of_ble_eq_true rfl) (hf) ?_
        rintro _ σ ⟨rfl, rfl⟩
        refine cI ?_
        refine x_goto T_422_20 ?_
        refine x_si (ls1 := [some (vR (some 2281)), some (vI s), some (vI f), some (vI 1), some (vI k)]) T_422_24 rfl ?_
        refine x_li (z := k) T_422_26 rfl ?_
        refine x_if T_422_28 (fun _ => ?_) (fun h => absurd (show 0 ≤ k by omega) h)
        refine x_li (z := 1) T_422_33 rfl ?_
        refine x_swIn T_422_34 (by decide) (by decide) rfl ?_
        refine x_lr (z := some 2281) T_422_68 rfl ?_
        refine x_gR (z := some 2308) T_422_69 F_17_32 (PM.t hP) (PM.r hP 32 2308 rfl) ?_
        refine x_li (z := k) T_422_72 rfl ?_
        have b1 : 0 ≤ P 2308 k ∧ P 2308 k ≤ 3 := IV.a hI 2308 0 288 rfl rfl rfl (by omega) (by omega)
        refine x_alI (z := P 2308 k) T_422_74 (by decide) (PM.ta hP 2308 0 288 rfl rfl) (by omega) (by omega) (PM.aP hP 2308 rfl rfl (by omega)) ?_
        refine x_ri T_422_75 ?_
        exact ⟨rfl, rfl⟩
      rw [if_neg c1]
      by_cases c2 : x = 2
      · rw [if_pos c2]
        subst c2
        by_cases q3 : md < 0
        · rw [if_pos q3]
          refine CL_in mL_422 rfl ?_
          show WP fb _ 422 0 [some (vR (some 2281)), some (vI s), some (vI f), some (vI 2), none] [] σ _
          refine x_li (z := s) T_422_0 rfl ?_
          refine x_i2l T_422_1 ?_
          refine x_lc T_422_2 ?_
          refine x_lc T_422_3 ?_
          refine x_cs3 T_422_6 mN_282 mL_282 (Nat.le_of_ble_eq_true rfl) mK_282 (Nat.le_of_ble_eq_true rfl) (m_in) ?_
          rintro _ σ ⟨rfl, rfl⟩
          refine cI ?_
          refine x_if T_422_9 (fun h => absurd (show (if 0 ≤ s ∧ s ≤ 2 then (1 : Int) else 0) = 0 from h) (by rw [if_pos q]; decide)) (fun _ => ?_)
          refine x_lr (z := some 2281) T_422_12 rfl ?_
          refine x_li (z := s) T_422_13 rfl ?_
          refine x_ic T_422_14 ?_
          refine x_li (z := f) T_422_15 rfl ?_
          refine x_i2l T_422_16 ?_
          refine x_cv4 T_422_17 mN_261 mL_261 (Nat.le_of_ble_eq_true rfl) mO_261 (PM.t hP) (Nat.le_of_ble_eq_true rfl) (hf) ?_
          rintro _ σ ⟨rfl, rfl⟩
          refine cI ?_
          refine x_goto T_422_20 ?_
          refine x_si (ls1 := [some (vR (some 2281)), some (vI s), some (vI f), some (vI 2), some (vI k)]) T_422_24 rfl ?_
          refine x_li (z := k) T_422_26 rfl ?_
          refine x_if T_422_28 (fun _ => ?_) (fun h => absurd (show 0 ≤ k by omega) h)
          refine x_li (z := 2) T_422_33 rfl ?_
          refine x_swIn T_422_34 (by decide) (by decide) rfl ?_
          refine x_lr (z := some 2281) T_422_76 rfl ?_
          refine x_gR (z := some 2309) T_422_77 F_17_33 (PM.t hP) (PM.r hP 33 2309 rfl) ?_
          refine x_li (z := k) T_422_80 rfl ?_
          refine x_alI (z := md) T_422_82 (by decide) (PM.ta hP 2309 0 288 rfl rfl) (by omega) (by omega) (Eq.trans (PM.aP hP 2309 rfl rfl (by omega)) hmd) ?_
          refine x_if T_422_83 (fun h => absurd (show 0 ≤ md from h) (by omega)) (fun _ => ?_)
          refine x_ic T_422_86 ?_
          refine x_goto T_422_87 ?_
          refine x_ri T_422_99 ?_
          exact ⟨rfl, rfl⟩
        · rw [if_neg q3]
          refine CL_in mL_422 rfl ?_
          show WP fb _ 422 0 [some (vR (some 2281)), some (vI s), some (vI f), some (vI 2), none] [] σ _
          refine x_li (z := s) T_422_0 rfl ?_
          refine x_i2l T_422_1 ?_
          refine x_lc T_422_2 ?_
          refine x_lc T_422_3 ?_
          refine x_cs3 T_422_6 mN_282 mL_282 (Nat.le_of_ble_eq_true rfl) mK_282 (Nat.le_of_ble_eq_true rfl) (m_in) ?_
          rintro _ σ ⟨rfl, rfl⟩
          refine cI ?_
          refine x_if T_422_9 (fun h => absurd (show (if 0 ≤ s ∧ s ≤ 2 then (1 : Int) else 0) = 0 from h) (by rw [if_pos q]; decide)) (fun _ => ?_)
          refine x_lr (z := some 2281) T_422_12 rfl ?_
          refine x_li (z := s) T_422_13 rfl ?_
          refine x_ic T_422_14 ?_
          refine x_li (z := f) T_422_15 rfl ?_
          refine x_i2l T_422_16 ?_
          refine x_cv4 T_422_17 mN_261 mL_261 (Nat.le_of_ble_eq_true rfl) mO_261 (PM.t hP) (Nat.le_of_ble_eq_true rfl) (hf) ?_
          rintro _ σ ⟨rfl, rfl⟩
          refine cI ?_
          refine x_goto T_422_20 ?_
          refine x_si (ls1 := [some (vR (some 2281)), some (vI s), some (vI f), some (vI 2), some (vI k)]) T_422_24 rfl ?_
          refine x_li (z := k) T_422_26 rfl ?_
          refine x_if T_422_28 (fun _ => ?_) (fun h => absurd (show 0 ≤ k by omega) h)
          refine x_li (z := 2) T_422_33 rfl ?_
          refine x_swIn T_422_34 (by decide) (by decide) rfl ?_
          refine x_lr (z := some 2281) T_422_76 rfl ?_
          refine x_gR (z := some 2309) T_422_77 F_17_33 (PM.t hP) (PM.r hP 33 2309 rfl) ?_
          refine x_li (z := k) T_422_80 rfl ?_
          refine x_alI (z := md) T_422_82 (by decide) (PM.ta hP 2309 0 288 rfl rfl) (by omega) (by omega) (Eq.trans (PM.aP hP 2309 rfl rfl (by omega)) hmd) ?_
          refine x_if T_422_83 (fun _ => ?_) (fun h => absurd (show 0 ≤ md by omega) h)
          refine x_lr (z := some 2281) T_422_90 rfl ?_
          refine x_gR (z := some 2309) T_422_91 F_17_33 (PM.t hP) (PM.r hP 33 2309 rfl) ?_
          refine x_li (z := k) T_422_94 rfl ?_
          refine x_alI (z := md) T_422_96 (by decide) (PM.ta hP 2309 0 288 rfl rfl) (by omega) (by omega) (Eq.trans (PM.aP hP 2309 rfl rfl (by omega)) hmd) ?_
          refine x_ic T_422_97 ?_
          refine x_ib (w := (and32 md 3)) T_422_98 (fun h => absurd h.1 (by decide)) rfl ?_
          refine x_ri T_422_99 ?_
          exact ⟨rfl, rfl⟩
      rw [if_neg c2]
      refine CL_in mL_422 rfl ?_
      show WP fb _ 422 0 [some (vR (some 2281)), some (vI s), some (vI f), some (vI x), none] [] σ _
      refine x_li (z := s) T_422_0 rfl ?_
      refine x_i2l T_422_1 ?_
      refine x_lc T_422_2 ?_
      refine x_lc T_422_3 ?_
      refine x_cs3 T_422_6 mN_282 mL_282 (Nat.le_of_ble_eq_true rfl) mK_282 (Nat.le_of_ble_eq_true rfl) (m_in) ?_
      rintro _ σ ⟨rfl, rfl⟩
      refine cI ?_
      refine x_if T_422_9 (fun h => absurd (show (if 0 ≤ s ∧ s ≤ 2 then (1 : Int) else 0) = 0 from h) (by rw [if_pos q]; decide)) (fun _ => ?_)
      refine x_lr (z := some 2281) T_422_12 rfl ?_
      refine x_li (z := s) T_422_13 rfl ?_
      refine x_ic T_422_14 ?_
      refine x_li (z := f) T_422_15 rfl ?_
      refine x_i2l T_422_16 ?_
      refine x_cv4 T_422_17 mN_261 mL_261 (Nat.le_of_ble_eq_true rfl) mO_261 (PM.t hP) (Nat.le_of_ble_eq_true rfl) (hf) ?_
      rintro _ σ ⟨rfl, rfl⟩
      refine cI ?_
      refine x_goto T_422_20 ?_
      refine x_si (ls1 := [some (vR (some 2281)), some (vI s), some (vI f), some (vI x), some (vI k)]) T_422_24 rfl ?_
      refine x_li (z := k) T_422_26 rfl ?_
      refine x_if T_422_28 (fun _ => ?_) (fun h => absurd (show 0 ≤ k by omega) h)
      refine x_li (z := x) T_422_33 rfl ?_
      refine x_swOut T_422_34  (by simp only [List.length]; omega) ?_
      refine x_ic T_422_100 ?_
      refine x_ri T_422_102 ?_
      exact ⟨rfl, rfl⟩
    · rw [if_neg (fun c => q2 c.2)]
      refine CL_in mL_422 rfl ?_
      show WP fb _ 422 0 [some (vR (some 2281)), some (vI s), some (vI f), some (vI x), none] [] σ _
      refine x_li (z := s) T_422_0 rfl ?_
      refine x_i2l T_422_1 ?_
      refine x_lc T_422_2 ?_
      refine x_lc T_422_3 ?_
      refine x_cs3 T_422_6 mN_282 mL_282 (Nat.le_of_ble_eq_true rfl) mK_282 (Nat.le_of_ble_eq_true rfl) (m_in) ?_
      rintro _ σ ⟨rfl, rfl⟩
      refine cI ?_
      refine x_if T_422_9 (fun h => absurd (show (if 0 ≤ s ∧ s ≤ 2 then (1 : Int) else 0) = 0 from h) (by rw [if_pos q]; decide)) (fun _ => ?_)
      refine x_lr (z := some 2281) T_422_12 rfl ?_
      refine x_li (z := s) T_422_13 rfl ?_
      refine x_ic T_422_14 ?_
      refine x_li (z := f) T_422_15 rfl ?_
      refine x_i2l T_422_16 ?_
      refine x_cv4 T_422_17 mN_261 mL_261 (Nat.le_of_ble_eq_true rfl) mO_261 (PM.t hP) (Nat.le_of_ble_eq_true rfl) (hf) ?_
      rintro _ σ ⟨rfl, rfl⟩
      refine cI ?_
      refine x_goto T_422_20 ?_
      refine x_si (ls1 := [some (vR (some 2281)), some (vI s), some (vI f), some (vI x), some (vI k)]) T_422_24 rfl ?_
      refine x_li (z := k) T_422_26 rfl ?_
      refine x_if T_422_28 (fun h => absurd (show 0 ≤ k from h) (by omega)) (fun _ => ?_)
      refine x_ic T_422_31 ?_
      refine x_ri T_422_32 ?_
      exact ⟨rfl, rfl⟩
  · rw [if_neg (fun c => q c.1)]
    refine CL_in mL_422 rfl ?_
    show WP fb _ 422 0 [some (vR (some 2281)), some (vI s), some (vI f), some (vI x), none] [] σ _
    refine x_li (z := s) T_422_0 rfl ?_
    refine x_i2l T_422_1 ?_
    refine x_lc T_422_2 ?_
    refine x_lc T_422_3 ?_
    refine x_cs3 T_422_6 mN_282 mL_282 (Nat.le_of_ble_eq_true rfl) mK_282 (Nat.le_of_ble_eq_true rfl) (m_in) ?_
    rintro _ σ ⟨rfl, rfl⟩
    refine cI ?_
    refine x_if T_422_9 (fun _ => ?_) (fun h => absurd (show (if 0 ≤ s ∧ s ≤ 2 then (1 : Int) else 0) = 0 by rw [if_neg q]) h)
    refine x_ic T_422_23 ?_
    refine x_si (ls1 := [some (vR (some 2281)), some (vI s), some (vI f), some (vI x), some (vI (-1))]) T_422_24 rfl ?_
    refine x_li (z := (-1)) T_422_26 rfl ?_
    refine x_if T_422_28 (fun h => absurd (show 0 ≤ ((-1) : Int) from h) (by decide)) (fun _ => ?_)
    refine x_ic T_422_31 ?_
    refine x_ri T_422_32 ?_
    exact ⟨rfl, rfl⟩
end MGET2
