/-! The reference's methods that look, and those that take a byte. -/
theorem T_404_8 : hTab 404 8 = some ((3, 2, 0, []), 9) := rfl
theorem T_404_9 : hTab 404 9 = some ((14, 0, 0, []), 10) := rfl
theorem T_404_10 : hTab 404 10 = some ((1, 0, 0, []), 11) := rfl
theorem T_404_11 : hTab 404 11 = some ((3, 0, 2, []), 12) := rfl
theorem T_404_12 : hTab 404 12 = some ((24, 17, Int.ofNat 59, []), 15) := rfl
theorem T_404_15 : hTab 404 15 = some ((3, 1, 0, []), 16) := rfl
theorem T_404_16 : hTab 404 16 = some ((26, 0, 0, []), 17) := rfl
theorem T_404_17 : hTab 404 17 = some ((0, 0, 1, []), 18) := rfl
theorem T_404_18 : hTab 404 18 = some ((10, 1, 0, []), 19) := rfl
theorem T_404_19 : hTab 404 19 = some ((14, 0, 0, []), 20) := rfl
theorem T_404_20 : hTab 404 20 = some ((31, 282, 0, []), 23) := rfl
theorem T_404_23 : hTab 404 23 = some ((18, 0, Int.ofNat 41, []), 26) := rfl
theorem T_404_26 : hTab 404 26 = some ((3, 0, 2, []), 27) := rfl
theorem T_404_27 : hTab 404 27 = some ((24, 17, Int.ofNat 58, []), 30) := rfl
theorem T_404_30 : hTab 404 30 = some ((0, 0, 1000, []), 33) := rfl
theorem T_404_33 : hTab 404 33 = some ((3, 1, 0, []), 34) := rfl
theorem T_404_34 : hTab 404 34 = some ((10, 2, 0, []), 35) := rfl
theorem T_404_35 : hTab 404 35 = some ((3, 2, 0, []), 36) := rfl
theorem T_404_36 : hTab 404 36 = some ((10, 0, 0, []), 37) := rfl
theorem T_404_37 : hTab 404 37 = some ((26, 0, 0, []), 38) := rfl
theorem T_404_38 : hTab 404 38 = some ((22, 0, Int.ofNat 42, []), 41) := rfl
theorem T_405_11 : hTab 405 11 = some ((3, 0, 2, []), 12) := rfl
theorem T_405_12 : hTab 405 12 = some ((24, 17, Int.ofNat 59, []), 15) := rfl
theorem T_405_15 : hTab 405 15 = some ((3, 1, 0, []), 16) := rfl
theorem T_405_16 : hTab 405 16 = some ((26, 0, 0, []), 17) := rfl
theorem T_405_17 : hTab 405 17 = some ((4, 2, 0, []), 18) := rfl
theorem T_405_18 : hTab 405 18 = some ((3, 0, 2, []), 19) := rfl
theorem T_405_19 : hTab 405 19 = some ((24, 17, Int.ofNat 59, []), 22) := rfl
theorem T_405_22 : hTab 405 22 = some ((3, 1, 0, []), 23) := rfl
theorem T_405_23 : hTab 405 23 = some ((0, 0, 0, []), 24) := rfl
theorem T_405_24 : hTab 405 24 = some ((27, 0, 0, []), 25) := rfl
theorem T_405_25 : hTab 405 25 = some ((3, 2, 0, []), 26) := rfl
theorem T_405_26 : hTab 405 26 = some ((33, 1, 0, []), 27) := rfl
theorem T_406_25 : hTab 406 25 = some ((0, 0, (-101), []), 27) := rfl
theorem T_406_27 : hTab 406 27 = some ((33, 1, 0, []), 28) := rfl
theorem T_409_54 : hTab 409 54 = some ((3, 0, 2, []), 55) := rfl
theorem T_409_55 : hTab 409 55 = some ((24, 17, Int.ofNat 43, []), 58) := rfl
theorem T_409_58 : hTab 409 58 = some ((0, 0, 420, []), 61) := rfl
theorem T_409_61 : hTab 409 61 = some ((3, 1, 0, []), 62) := rfl
theorem T_409_62 : hTab 409 62 = some ((0, 0, 40, []), 64) := rfl
theorem T_409_64 : hTab 409 64 = some ((10, 4, 0, []), 65) := rfl
theorem T_409_65 : hTab 409 65 = some ((10, 2, 0, []), 66) := rfl
theorem T_409_66 : hTab 409 66 = some ((3, 2, 0, []), 67) := rfl
theorem T_409_67 : hTab 409 67 = some ((10, 0, 0, []), 68) := rfl
theorem T_409_68 : hTab 409 68 = some ((26, 0, 0, []), 69) := rfl
theorem T_409_69 : hTab 409 69 = some ((22, 0, Int.ofNat 73, []), 72) := rfl
theorem T_411_25 : hTab 411 25 = some ((0, 0, (-101), []), 27) := rfl
theorem T_411_27 : hTab 411 27 = some ((33, 1, 0, []), 28) := rfl
theorem T_413_16 : hTab 413 16 = some ((3, 0, 2, []), 17) := rfl
theorem T_413_17 : hTab 413 17 = some ((24, 17, Int.ofNat 48, []), 20) := rfl
theorem T_413_20 : hTab 413 20 = some ((3, 1, 0, []), 21) := rfl
theorem T_413_21 : hTab 413 21 = some ((26, 0, 0, []), 22) := rfl
theorem T_413_22 : hTab 413 22 = some ((22, 0, Int.ofNat 26, []), 25) := rfl
theorem T_414_10 : hTab 414 10 = some ((3, 2, 0, []), 11) := rfl
theorem T_414_11 : hTab 414 11 = some ((14, 0, 0, []), 12) := rfl
theorem T_414_12 : hTab 414 12 = some ((1, 0, 7, []), 15) := rfl
theorem T_414_15 : hTab 414 15 = some ((1, 0, 32, []), 18) := rfl
theorem T_414_18 : hTab 414 18 = some ((31, 282, 0, []), 21) := rfl
theorem T_414_21 : hTab 414 21 = some ((18, 0, Int.ofNat 39, []), 24) := rfl
theorem T_414_24 : hTab 414 24 = some ((3, 0, 2, []), 25) := rfl
theorem T_414_25 : hTab 414 25 = some ((24, 17, Int.ofNat 101, []), 28) := rfl
theorem T_414_28 : hTab 414 28 = some ((0, 0, 26, []), 30) := rfl
theorem T_414_30 : hTab 414 30 = some ((3, 1, 0, []), 31) := rfl
theorem T_414_31 : hTab 414 31 = some ((10, 2, 0, []), 32) := rfl
theorem T_414_32 : hTab 414 32 = some ((3, 2, 0, []), 33) := rfl
theorem T_414_33 : hTab 414 33 = some ((10, 0, 0, []), 34) := rfl
theorem T_414_34 : hTab 414 34 = some ((0, 0, 7, []), 36) := rfl
theorem T_414_36 : hTab 414 36 = some ((10, 1, 0, []), 37) := rfl
theorem T_414_37 : hTab 414 37 = some ((26, 0, 0, []), 38) := rfl
theorem T_414_38 : hTab 414 38 = some ((33, 1, 0, []), 39) := rfl
theorem T_414_39 : hTab 414 39 = some ((3, 2, 0, []), 40) := rfl
theorem T_414_40 : hTab 414 40 = some ((23, 141, 0, [84, 91, 98, 104, 116, 127, 134]), 84) := rfl
theorem T_414_84 : hTab 414 84 = some ((3, 0, 2, []), 85) := rfl
theorem T_414_85 : hTab 414 85 = some ((24, 17, Int.ofNat 52, []), 88) := rfl
theorem T_414_88 : hTab 414 88 = some ((3, 1, 0, []), 89) := rfl
theorem T_414_89 : hTab 414 89 = some ((26, 0, 0, []), 90) := rfl
theorem T_414_90 : hTab 414 90 = some ((33, 1, 0, []), 91) := rfl
theorem T_414_91 : hTab 414 91 = some ((3, 0, 2, []), 92) := rfl
theorem T_414_92 : hTab 414 92 = some ((24, 17, Int.ofNat 59, []), 95) := rfl
theorem T_414_95 : hTab 414 95 = some ((3, 1, 0, []), 96) := rfl
theorem T_414_96 : hTab 414 96 = some ((26, 0, 0, []), 97) := rfl
theorem T_414_97 : hTab 414 97 = some ((33, 1, 0, []), 98) := rfl
theorem T_414_98 : hTab 414 98 = some ((3, 0, 2, []), 99) := rfl
theorem T_414_99 : hTab 414 99 = some ((3, 1, 0, []), 100) := rfl
theorem T_414_100 : hTab 414 100 = some ((31, 296, 0, []), 103) := rfl
theorem T_414_103 : hTab 414 103 = some ((33, 1, 0, []), 104) := rfl
theorem T_414_104 : hTab 414 104 = some ((3, 0, 2, []), 105) := rfl
theorem T_414_105 : hTab 414 105 = some ((24, 17, Int.ofNat 64, []), 108) := rfl
theorem T_414_108 : hTab 414 108 = some ((3, 0, 2, []), 109) := rfl
theorem T_414_109 : hTab 414 109 = some ((24, 17, Int.ofNat 53, []), 112) := rfl
theorem T_414_112 : hTab 414 112 = some ((3, 1, 0, []), 113) := rfl
theorem T_414_113 : hTab 414 113 = some ((26, 0, 0, []), 114) := rfl
theorem T_414_114 : hTab 414 114 = some ((26, 0, 0, []), 115) := rfl
theorem T_414_115 : hTab 414 115 = some ((33, 1, 0, []), 116) := rfl
theorem T_414_116 : hTab 414 116 = some ((3, 0, 2, []), 117) := rfl
theorem T_414_117 : hTab 414 117 = some ((3, 0, 2, []), 118) := rfl
theorem T_414_118 : hTab 414 118 = some ((24, 17, Int.ofNat 53, []), 121) := rfl
theorem T_414_121 : hTab 414 121 = some ((3, 1, 0, []), 122) := rfl
theorem T_414_122 : hTab 414 122 = some ((26, 0, 0, []), 123) := rfl
theorem T_414_123 : hTab 414 123 = some ((31, 385, 0, []), 126) := rfl
theorem T_414_126 : hTab 414 126 = some ((33, 1, 0, []), 127) := rfl
theorem T_414_127 : hTab 414 127 = some ((3, 0, 2, []), 128) := rfl
theorem T_414_128 : hTab 414 128 = some ((24, 17, Int.ofNat 54, []), 131) := rfl
theorem T_414_131 : hTab 414 131 = some ((3, 1, 0, []), 132) := rfl
theorem T_414_132 : hTab 414 132 = some ((26, 0, 0, []), 133) := rfl
theorem T_414_133 : hTab 414 133 = some ((33, 1, 0, []), 134) := rfl
theorem T_414_134 : hTab 414 134 = some ((3, 0, 2, []), 135) := rfl
theorem T_414_135 : hTab 414 135 = some ((24, 17, Int.ofNat 56, []), 138) := rfl
theorem T_414_138 : hTab 414 138 = some ((3, 1, 0, []), 139) := rfl
theorem T_414_139 : hTab 414 139 = some ((26, 0, 0, []), 140) := rfl
theorem T_414_140 : hTab 414 140 = some ((33, 1, 0, []), 141) := rfl
theorem T_414_141 : hTab 414 141 = some ((0, 0, (-100), []), 143) := rfl
theorem T_414_143 : hTab 414 143 = some ((33, 1, 0, []), 144) := rfl
theorem T_415_8 : hTab 415 8 = some ((3, 2, 0, []), 9) := rfl
theorem T_415_9 : hTab 415 9 = some ((14, 0, 0, []), 10) := rfl
theorem T_415_10 : hTab 415 10 = some ((1, 0, 0, []), 11) := rfl
theorem T_415_11 : hTab 415 11 = some ((1, 0, 25, []), 14) := rfl
theorem T_415_14 : hTab 415 14 = some ((31, 282, 0, []), 17) := rfl
theorem T_415_17 : hTab 415 17 = some ((18, 0, Int.ofNat 24, []), 20) := rfl
theorem T_415_20 : hTab 415 20 = some ((0, 0, 1, []), 21) := rfl
theorem T_415_21 : hTab 415 21 = some ((22, 0, Int.ofNat 25, []), 24) := rfl
theorem T_415_32 : hTab 415 32 = some ((3, 3, 0, []), 33) := rfl
theorem T_415_33 : hTab 415 33 = some ((14, 0, 0, []), 34) := rfl
theorem T_415_34 : hTab 415 34 = some ((1, 0, 0, []), 35) := rfl
theorem T_415_35 : hTab 415 35 = some ((3, 0, 2, []), 36) := rfl
theorem T_415_36 : hTab 415 36 = some ((24, 17, Int.ofNat 101, []), 39) := rfl
theorem T_415_39 : hTab 415 39 = some ((0, 0, 26, []), 41) := rfl
theorem T_415_41 : hTab 415 41 = some ((3, 1, 0, []), 42) := rfl
theorem T_415_42 : hTab 415 42 = some ((10, 2, 0, []), 43) := rfl
theorem T_415_43 : hTab 415 43 = some ((3, 2, 0, []), 44) := rfl
theorem T_415_44 : hTab 415 44 = some ((10, 0, 0, []), 45) := rfl
theorem T_415_45 : hTab 415 45 = some ((26, 0, 0, []), 46) := rfl
theorem T_415_46 : hTab 415 46 = some ((0, 0, 1, []), 47) := rfl
theorem T_415_47 : hTab 415 47 = some ((10, 1, 0, []), 48) := rfl
theorem T_415_48 : hTab 415 48 = some ((14, 0, 0, []), 49) := rfl
theorem T_415_49 : hTab 415 49 = some ((31, 282, 0, []), 52) := rfl
theorem T_415_52 : hTab 415 52 = some ((18, 0, Int.ofNat 74, []), 55) := rfl
theorem T_415_55 : hTab 415 55 = some ((3, 0, 2, []), 56) := rfl
theorem T_415_56 : hTab 415 56 = some ((24, 17, Int.ofNat 100, []), 59) := rfl
theorem T_415_59 : hTab 415 59 = some ((0, 0, 20, []), 61) := rfl
theorem T_415_61 : hTab 415 61 = some ((0, 0, 26, []), 63) := rfl
theorem T_415_63 : hTab 415 63 = some ((3, 1, 0, []), 64) := rfl
theorem T_415_64 : hTab 415 64 = some ((10, 2, 0, []), 65) := rfl
theorem T_415_65 : hTab 415 65 = some ((3, 2, 0, []), 66) := rfl
theorem T_415_66 : hTab 415 66 = some ((10, 0, 0, []), 67) := rfl
theorem T_415_67 : hTab 415 67 = some ((10, 2, 0, []), 68) := rfl
theorem T_415_68 : hTab 415 68 = some ((3, 3, 0, []), 69) := rfl
theorem T_415_69 : hTab 415 69 = some ((10, 0, 0, []), 70) := rfl
theorem T_415_70 : hTab 415 70 = some ((26, 0, 0, []), 71) := rfl
theorem T_415_71 : hTab 415 71 = some ((22, 0, Int.ofNat 75, []), 74) := rfl
theorem T_416_8 : hTab 416 8 = some ((3, 2, 0, []), 9) := rfl
theorem T_416_9 : hTab 416 9 = some ((14, 0, 0, []), 10) := rfl
theorem T_416_10 : hTab 416 10 = some ((1, 0, 0, []), 11) := rfl
theorem T_416_11 : hTab 416 11 = some ((3, 0, 2, []), 12) := rfl
theorem T_416_12 : hTab 416 12 = some ((24, 17, Int.ofNat 56, []), 15) := rfl
theorem T_416_15 : hTab 416 15 = some ((3, 1, 0, []), 16) := rfl
theorem T_416_16 : hTab 416 16 = some ((26, 0, 0, []), 17) := rfl
theorem T_416_17 : hTab 416 17 = some ((0, 0, 1, []), 18) := rfl
theorem T_416_18 : hTab 416 18 = some ((10, 1, 0, []), 19) := rfl
theorem T_416_19 : hTab 416 19 = some ((14, 0, 0, []), 20) := rfl
theorem T_416_20 : hTab 416 20 = some ((31, 282, 0, []), 23) := rfl
theorem T_416_23 : hTab 416 23 = some ((18, 0, Int.ofNat 40, []), 26) := rfl
theorem T_416_26 : hTab 416 26 = some ((3, 0, 2, []), 27) := rfl
theorem T_416_27 : hTab 416 27 = some ((24, 17, Int.ofNat 55, []), 30) := rfl
theorem T_416_30 : hTab 416 30 = some ((0, 0, 60, []), 32) := rfl
theorem T_416_32 : hTab 416 32 = some ((3, 1, 0, []), 33) := rfl
theorem T_416_33 : hTab 416 33 = some ((10, 2, 0, []), 34) := rfl
theorem T_416_34 : hTab 416 34 = some ((3, 2, 0, []), 35) := rfl
theorem T_416_35 : hTab 416 35 = some ((10, 0, 0, []), 36) := rfl
theorem T_416_36 : hTab 416 36 = some ((26, 0, 0, []), 37) := rfl
theorem T_416_37 : hTab 416 37 = some ((22, 0, Int.ofNat 41, []), 40) := rfl
theorem T_417_8 : hTab 417 8 = some ((3, 2, 0, []), 9) := rfl
theorem T_417_9 : hTab 417 9 = some ((14, 0, 0, []), 10) := rfl
theorem T_417_10 : hTab 417 10 = some ((1, 0, 0, []), 11) := rfl
theorem T_417_11 : hTab 417 11 = some ((3, 0, 2, []), 12) := rfl
theorem T_417_12 : hTab 417 12 = some ((24, 17, Int.ofNat 64, []), 15) := rfl
theorem T_417_15 : hTab 417 15 = some ((3, 0, 2, []), 16) := rfl
theorem T_417_16 : hTab 417 16 = some ((24, 17, Int.ofNat 53, []), 19) := rfl
theorem T_417_19 : hTab 417 19 = some ((3, 1, 0, []), 20) := rfl
theorem T_417_20 : hTab 417 20 = some ((26, 0, 0, []), 21) := rfl
theorem T_417_21 : hTab 417 21 = some ((26, 0, 0, []), 22) := rfl
theorem T_417_22 : hTab 417 22 = some ((0, 0, 1, []), 23) := rfl
theorem T_417_23 : hTab 417 23 = some ((10, 1, 0, []), 24) := rfl
theorem T_417_24 : hTab 417 24 = some ((14, 0, 0, []), 25) := rfl
theorem T_417_25 : hTab 417 25 = some ((31, 282, 0, []), 28) := rfl
theorem T_417_28 : hTab 417 28 = some ((18, 1, Int.ofNat 33, []), 31) := rfl
theorem T_417_33 : hTab 417 33 = some ((0, 0, 8, []), 35) := rfl
theorem T_417_35 : hTab 417 35 = some ((3, 0, 2, []), 36) := rfl
theorem T_417_36 : hTab 417 36 = some ((24, 17, Int.ofNat 53, []), 39) := rfl
theorem T_417_39 : hTab 417 39 = some ((3, 1, 0, []), 40) := rfl
theorem T_417_40 : hTab 417 40 = some ((26, 0, 0, []), 41) := rfl
theorem T_417_41 : hTab 417 41 = some ((10, 2, 0, []), 42) := rfl
theorem T_417_42 : hTab 417 42 = some ((3, 2, 0, []), 43) := rfl
theorem T_417_43 : hTab 417 43 = some ((10, 0, 0, []), 44) := rfl
theorem T_417_44 : hTab 417 44 = some ((4, 4, 0, []), 46) := rfl
theorem T_417_46 : hTab 417 46 = some ((3, 3, 0, []), 47) := rfl
theorem T_417_47 : hTab 417 47 = some ((18, 1, Int.ofNat 60, []), 50) := rfl
theorem T_417_50 : hTab 417 50 = some ((3, 0, 2, []), 51) := rfl
theorem T_417_51 : hTab 417 51 = some ((24, 17, Int.ofNat 65, []), 54) := rfl
theorem T_417_54 : hTab 417 54 = some ((3, 4, 0, []), 56) := rfl
theorem T_417_56 : hTab 417 56 = some ((26, 0, 0, []), 57) := rfl
theorem T_417_57 : hTab 417 57 = some ((22, 0, Int.ofNat 92, []), 60) := rfl
theorem T_417_60 : hTab 417 60 = some ((3, 3, 0, []), 61) := rfl
theorem T_417_61 : hTab 417 61 = some ((0, 0, 1, []), 62) := rfl
theorem T_417_62 : hTab 417 62 = some ((19, 1, Int.ofNat 75, []), 65) := rfl
theorem T_417_65 : hTab 417 65 = some ((3, 0, 2, []), 66) := rfl
theorem T_417_66 : hTab 417 66 = some ((24, 17, Int.ofNat 66, []), 69) := rfl
theorem T_417_69 : hTab 417 69 = some ((3, 4, 0, []), 71) := rfl
theorem T_417_71 : hTab 417 71 = some ((26, 0, 0, []), 72) := rfl
theorem T_417_72 : hTab 417 72 = some ((22, 0, Int.ofNat 92, []), 75) := rfl
theorem T_417_75 : hTab 417 75 = some ((3, 3, 0, []), 76) := rfl
theorem T_417_76 : hTab 417 76 = some ((0, 0, 2, []), 77) := rfl
theorem T_417_77 : hTab 417 77 = some ((19, 1, Int.ofNat 90, []), 80) := rfl
theorem T_417_80 : hTab 417 80 = some ((3, 0, 2, []), 81) := rfl
theorem T_417_81 : hTab 417 81 = some ((24, 17, Int.ofNat 67, []), 84) := rfl
theorem T_417_84 : hTab 417 84 = some ((3, 4, 0, []), 86) := rfl
theorem T_417_86 : hTab 417 86 = some ((26, 0, 0, []), 87) := rfl
theorem T_417_87 : hTab 417 87 = some ((22, 0, Int.ofNat 92, []), 90) := rfl
theorem T_417_90 : hTab 417 90 = some ((0, 0, (-100), []), 92) := rfl
theorem T_417_92 : hTab 417 92 = some ((33, 1, 0, []), 93) := rfl
theorem F_17_48 : (hFd 17 48).2.2.1 = 4 := rfl
abbrev isPr (P : qR) (p : Int) : Prop := (0 ≤ p ∧ p ≤ 7) ∧ ¬ P 2320 p = 0
def yOut (P : qR) (p i : Int) : Int := if isPr P p ∧ (0 ≤ i ∧ i ≤ P 2329 p - 1) then P 2328 (1000 * p + i) else -1
def yWip (P : qR) (p : Int) : Int × qR := if isPr P p then (P 2329 p, rU P 2329 p 0) else (-100, P)
def yIn (P : qR) (b : Int) : Int × qR := if ¬ (0 ≤ b ∧ b ≤ 255) then (-100, P) else if P 2281 39 = 200 then (-101, P) else (P 2281 39 + 1, rU (rU P 2314 (P 2281 39) b) 2281 39 (P 2281 39 + 1))
def yFee (P : qR) (b : Int) : Int × qR := if ¬ (0 ≤ b ∧ b ≤ 255) then (-100, P) else if P 2281 47 = 400 then (-101, P) else (P 2281 47 + 1, rU (rU P 2318 (P 2281 47) b) 2281 47 (P 2281 47 + 1))
def yMsg (P : qR) (k i : Int) : Int := if (0 ≤ k ∧ k < P 2281 42 ∧ P 2281 42 - 40 ≤ k) ∧ (0 ≤ i ∧ i ≤ P 2317 (k % 40) - 1) then P 2316 (420 * (k % 40) + i) else -1
def yAns (P : qR) (i : Int) : Int := if 0 ≤ i ∧ i ≤ P 2281 49 - 1 then P 2319 i else -1
def yPrc (P : qR) (p x : Int) : Int := if isPr P p then (if 7 ≤ x ∧ x ≤ 32 then P 2362 (26 * p + x - 7) else if x = 0 then P 2322 p else if x = 1 then P 2329 p else if x = 2 then qDesc P p else if x = 3 then P 2334 (P 2323 p) else if x = 4 then qPn P (P 2323 p) 8 0 else if x = 5 then P 2324 p else if x = 6 then P 2326 p else -100) else -1
def yVar (P : qR) (p x i : Int) : Int := if (isPr P p ∧ (0 ≤ x ∧ x ≤ 25)) ∧ (0 ≤ i ∧ i ≤ P 2362 (26 * p + x) - 1) then P 2361 (20 * (26 * p + x) + i) else -1
def yDot (P : qR) (p i : Int) : Int := if isPr P p ∧ (0 ≤ i ∧ i ≤ P 2326 p - 1) then P 2325 (60 * p + i) else -1
def yPt (P : qR) (p k x : Int) : Int := if isPr P p ∧ (0 ≤ k ∧ k ≤ P 2334 (P 2323 p) - 1) then (if x = 0 then P 2335 (8 * P 2323 p + k) else if x = 1 then P 2336 (8 * P 2323 p + k) else if x = 2 then P 2337 (8 * P 2323 p + k) else -100) else -1
def yMem (P : qR) (p k j x : Int) : Int := if isPr P p ∧ (0 ≤ k ∧ k ≤ P 2334 (P 2323 p) - 1) then (if 0 ≤ j ∧ j ≤ P 2337 (8 * P 2323 p + k) - 1 then (if x = 0 then P 2338 (6 * (8 * P 2323 p + k) + j) else if x = 1 then P 2339 (6 * (8 * P 2323 p + k) + j) else if x = 2 then P 2340 (6 * (8 * P 2323 p + k) + j) else if x = 3 then P 2342 (6 * (8 * P 2323 p + k) + j) else -100) else -1) else -1
def yDes (P : qR) (p e x : Int) : Int := if isPr P p ∧ (0 ≤ e ∧ e ≤ 7) ∧ 0 ≤ P 2327 (8 * p + e) then (if x = 0 then P 2331 (P 2327 (8 * p + e)) else if x = 1 then P 2332 (P 2327 (8 * p + e)) else if x = 2 then P 2333 (P 2327 (8 * p + e)) else if x = 3 then qUsers P (P 2327 (8 * p + e)) else -100) else -1
/-- how many files of server 2 there are -/
def fiN (P : qR) : Nat → Int → Int → Int
  | 0, _, n => n
  | m + 1, k, n => fiN P m (k + 1) (if P 2320 k = 0 then n else n + 3)
def ySrv (P : qR) (s x : Int) : Int := if (0 ≤ s ∧ s ≤ 2) ∧ (0 ≤ x ∧ x ≤ 5) then (if x = 0 then (if s < 2 then P 2302 s else fiN P 8 0 2) else if x = 1 then (if s < 2 then P 2301 s else 0) else if x = 2 then qFids P s 0 else if x = 3 then qFids P s 1 else P 2313 (2 * s + x - 4)) else -100
def yFid (P : qR) (s f x : Int) : Int := if (0 ≤ s ∧ s ≤ 2) ∧ 0 ≤ qFid P s 0 f then (if x = 0 then P 2307 (qFid P s 0 f) else if x = 1 then P 2308 (qFid P s 0 f) else if x = 2 then (if P 2309 (qFid P s 0 f) < 0 then -1 else and32 (P 2309 (qFid P s 0 f)) 3) else -100) else -1
section MGET
variable {fb : Bool} {d : Nat} {σ0 σ : hM} {P P1 Q0 R S S0 S1 S2 : qR} {T U s w g u p k e t z o n N v b c x i j mu dn : Int} {l L tx tt sc src : List Int} {h : List Ch}
theorem hp_y (hP : PM σ0 P S σ) (h : isPr P p) : CL fb (d + 1) 308 [vR (some 2281), vI p] σ (rP 1 σ) := by
  have a := m_hasProcess (fb := fb) (d := d) (p := p) hP
  rw [if_pos h] at a
  exact a
theorem hp_n (hP : PM σ0 P S σ) (h : ¬ isPr P p) : CL fb (d + 1) 308 [vR (some 2281), vI p] σ (rP 0 σ) := by
  have a := m_hasProcess (fb := fb) (d := d) (p := p) hP
  rw [if_neg h] at a
  exact a
theorem m_out (hP : PM σ0 P S σ) (hI : IV false T U P) : CL fb (d + 2) 404 [vR (some 2281), vI p, vI i] σ (rP (yOut P p i) σ) := by
  unfold yOut
  by_cases hp : isPr P p
  · have h1 : 0 ≤ P 2329 p ∧ P 2329 p ≤ 1000 := IV.a (k := p) hI 2329 0 8 rfl rfl rfl (by omega) (by omega)
    obtain ⟨n, hn⟩ : ∃ n, P 2329 p = n := ⟨_, rfl⟩
    rw [hn] at h1 ⊢
    by_cases q : 0 ≤ i ∧ i ≤ n - 1
    · rw [if_pos ⟨hp, q⟩]
      refine CL_in mL_404 rfl ?_
      show WP fb _ 404 0 [some (vR (some 2281)), some (vI p), some (vI i)] [] σ _
      refine x_lr (z := some 2281) T_404_0 rfl ?_
      refine x_li (z := p) T_404_1 rfl ?_
      refine x_cv2 T_404_2 mN_308 mL_308 (Nat.le_of_ble_eq_true rfl) mO_308 (PM.t hP) (Nat.le_of_ble_eq_true rfl) (hp_y hP hp) ?_
      rintro _ σ ⟨rfl, rfl⟩
      refine cI ?_
      refine x_if T_404_5 (fun h => absurd (show (1 : Int) = 0 from h) (by decide)) (fun _ => ?_)
      refine x_li (z := i) T_404_8 rfl ?_
      refine x_i2l T_404_9 ?_
      refine x_lc T_404_10 ?_
      refine x_lr (z := some 2281) T_404_11 rfl ?_
      refine x_gR (z := some 2329) T_404_12 F_17_59 (PM.t hP) (PM.r hP 59 2329 rfl) ?_
      refine x_li (z := p) T_404_15 rfl ?_
      refine x_alI (z := n) T_404_16 (by decide) (PM.ta hP 2329 0 8 rfl rfl) (by omega) (by omega) (Eq.trans (PM.aP hP 2329 rfl rfl (by omega)) hn) ?_
      refine x_ic T_404_17 ?_
      refine x_ib (w := (n - 1)) T_404_18 (fun h => absurd h.1 (by decide)) (w32_id (by omega) (by omega)) ?_
      refine x_i2l T_404_19 ?_
      refine x_cs3 T_404_20 mN_282 mL_282 (Nat.le_of_ble_eq_true rfl) mK_282 (Nat.le_of_ble_eq_true rfl) (m_in) ?_
      rintro _ σ ⟨rfl, rfl⟩
      refine cI ?_
      refine x_if T_404_23 (fun h => absurd (show (if 0 ≤ i ∧ i ≤ (n - 1) then (1 : Int) else 0) = 0 from h) (by rw [if_pos q]; decide)) (fun _ => ?_)
      refine x_lr (z := some 2281) T_404_26 rfl ?_
      refine x_gR (z := some 2328) T_404_27 F_17_58 (PM.t hP) (PM.r hP 58 2328 rfl) ?_
      refine x_ic T_404_30 ?_
      refine x_li (z := p) T_404_33 rfl ?_
      refine x_ib (w := (1000 * p)) T_404_34 (fun h => absurd h.1 (by decide)) (w32_id (by omega) (by omega)) ?_
      refine x_li (z := i) T_404_35 rfl ?_
      refine x_ib (w := ((1000 * p) + i)) T_404_36 (fun h => absurd h.1 (by decide)) (w32_id (by omega) (by omega)) ?_
      have b1 : 0 ≤ P 2328 ((1000 * p) + i) ∧ P 2328 ((1000 * p) + i) ≤ 255 := IV.a hI 2328 0 8000 rfl rfl rfl (by omega) (by omega)
      refine x_alI (z := P 2328 ((1000 * p) + i)) T_404_37 (by decide) (PM.ta hP 2328 0 8000 rfl rfl) (by omega) (by omega) (PM.aP hP 2328 rfl rfl (by omega)) ?_
      refine x_goto T_404_38 ?_
      refine x_ri T_404_42 ?_
      exact ⟨rfl, rfl⟩
    · rw [if_neg (fun c => q c.2)]
      refine CL_in mL_404 rfl ?_
      show WP fb _ 404 0 [some (vR (some 2281)), some (vI p), some (vI i)] [] σ _
      refine x_lr (z := some 2281) T_404_0 rfl ?_
      refine x_li (z := p) T_404_1 rfl ?_
      refine x_cv2 T_404_2 mN_308 mL_308 (Nat.le_of_ble_eq_true rfl) mO_308 (PM.t hP) (Nat.le_of_ble_eq_true rfl) (hp_y hP hp) ?_
      rintro _ σ ⟨rfl, rfl⟩
      refine cI ?_
      refine x_if T_404_5 (fun h => absurd (show (1 : Int) = 0 from h) (by decide)) (fun _ => ?_)
      refine x_li (z := i) T_404_8 rfl ?_
      refine x_i2l T_404_9 ?_
      refine x_lc T_404_10 ?_
      refine x_lr (z := some 2281) T_404_11 rfl ?_
      refine x_gR (z := some 2329) T_404_12 F_17_59 (PM.t hP) (PM.r hP 59 2329 rfl) ?_
      refine x_li (z := p) T_404_15 rfl ?_
      refine x_alI (z := n) T_404_16 (by decide) (PM.ta hP 2329 0 8 rfl rfl) (by omega) (by omega) (Eq.trans (PM.aP hP 2329 rfl rfl (by omega)) hn) ?_
      refine x_ic T_404_17 ?_
      refine x_ib (w := (n - 1)) T_404_18 (fun h => absurd h.1 (by decide)) (w32_id (by omega) (by omega)) ?_
      refine x_i2l T_404_19 ?_
      refine x_cs3 T_404_20 mN_282 mL_282 (Nat.le_of_ble_eq_true rfl) mK_282 (Nat.le_of_ble_eq_true rfl) (m_in) ?_
      rintro _ σ ⟨rfl, rfl⟩
      refine cI ?_
      refine x_if T_404_23 (fun _ => ?_) (fun h => absurd (show (if 0 ≤ i ∧ i ≤ (n - 1) then (1 : Int) else 0) = 0 by rw [if_neg q]) h)
      refine x_ic T_404_41 ?_
      refine x_ri T_404_42 ?_
      exact ⟨rfl, rfl⟩
  · rw [if_neg (fun c => hp c.1)]
    refine CL_in mL_404 rfl ?_
    show WP fb _ 404 0 [some (vR (some 2281)), some (vI p), some (vI i)] [] σ _
    refine x_lr (z := some 2281) T_404_0 rfl ?_
    refine x_li (z := p) T_404_1 rfl ?_
    refine x_cv2 T_404_2 mN_308 mL_308 (Nat.le_of_ble_eq_true rfl) mO_308 (PM.t hP) (Nat.le_of_ble_eq_true rfl) (hp_n hP hp) ?_
    rintro _ σ ⟨rfl, rfl⟩
    refine cI ?_
    refine x_if T_404_5 (fun _ => ?_) (fun h => absurd (show (0 : Int) = 0 by decide) h)
    refine x_ic T_404_41 ?_
    refine x_ri T_404_42 ?_
    exact ⟨rfl, rfl⟩
theorem m_dot (hP : PM σ0 P S σ) (hI : IV false T U P) : CL fb (d + 2) 416 [vR (some 2281), vI p, vI i] σ (rP (yDot P p i) σ) := by
  unfold yDot
  by_cases hp : isPr P p
  · have h1 : 0 ≤ P 2326 p ∧ P 2326 p ≤ 60 := IV.a (k := p) hI 2326 0 8 rfl rfl rfl (by omega) (by omega)
    obtain ⟨n, hn⟩ : ∃ n, P 2326 p = n := ⟨_, rfl⟩
    rw [hn] at h1 ⊢
    by_cases q : 0 ≤ i ∧ i ≤ n - 1
    · rw [if_pos ⟨hp, q⟩]
      refine CL_in mL_416 rfl ?_
      show WP fb _ 416 0 [some (vR (some 2281)), some (vI p), some (vI i)] [] σ _
      refine x_lr (z := some 2281) T_416_0 rfl ?_
      refine x_li (z := p) T_416_1 rfl ?_
      refine x_cv2 T_416_2 mN_308 mL_308 (Nat.le_of_ble_eq_true rfl) mO_308 (PM.t hP) (Nat.le_of_ble_eq_true rfl) (hp_y hP hp) ?_
      rintro _ σ ⟨rfl, rfl⟩
      refine cI ?_
      refine x_if T_416_5 (fun h => absurd (show (1 : Int) = 0 from h) (by decide)) (fun _ => ?_)
      refine x_li (z := i) T_416_8 rfl ?_
      refine x_i2l T_416_9 ?_
      refine x_lc T_416_10 ?_
      refine x_lr (z := some 2281) T_416_11 rfl ?_
      refine x_gR (z := some 2326) T_416_12 F_17_56 (PM.t hP) (PM.r hP 56 2326 rfl) ?_
      refine x_li (z := p) T_416_15 rfl ?_
      refine x_alI (z := n) T_416_16 (by decide) (PM.ta hP 2326 0 8 rfl rfl) (by omega) (by omega) (Eq.trans (PM.aP hP 2326 rfl rfl (by omega)) hn) ?_
      refine x_ic T_416_17 ?_
      refine x_ib (w := (n - 1)) T_416_18 (fun h => absurd h.1 (by decide)) (w32_id (by omega) (by omega)) ?_
      refine x_i2l T_416_19 ?_
      refine x_cs3 T_416_20 mN_282 mL_282 (Nat.le_of_ble_eq_true rfl) mK_282 (Nat.le_of_ble_eq_true rfl) (m_in) ?_
      rintro _ σ ⟨rfl, rfl⟩
      refine cI ?_
      refine x_if T_416_23 (fun h => absurd (show (if 0 ≤ i ∧ i ≤ (n - 1) then (1 : Int) else 0) = 0 from h) (by rw [if_pos q]; decide)) (fun _ => ?_)
      refine x_lr (z := some 2281) T_416_26 rfl ?_
      refine x_gR (z := some 2325) T_416_27 F_17_55 (PM.t hP) (PM.r hP 55 2325 rfl) ?_
      refine x_ic T_416_30 ?_
      refine x_li (z := p) T_416_32 rfl ?_
      refine x_ib (w := (60 * p)) T_416_33 (fun h => absurd h.1 (by decide)) (w32_id (by omega) (by omega)) ?_
      refine x_li (z := i) T_416_34 rfl ?_
      refine x_ib (w := ((60 * p) + i)) T_416_35 (fun h => absurd h.1 (by decide)) (w32_id (by omega) (by omega)) ?_
      have b1 : 0 ≤ P 2325 ((60 * p) + i) ∧ P 2325 ((60 * p) + i) ≤ 255 := IV.a hI 2325 0 480 rfl rfl rfl (by omega) (by omega)
      refine x_alI (z := P 2325 ((60 * p) + i)) T_416_36 (by decide) (PM.ta hP 2325 0 480 rfl rfl) (by omega) (by omega) (PM.aP hP 2325 rfl rfl (by omega)) ?_
      refine x_goto T_416_37 ?_
      refine x_ri T_416_41 ?_
      exact ⟨rfl, rfl⟩
    · rw [if_neg (fun c => q c.2)]
      refine CL_in mL_416 rfl ?_
      show WP fb _ 416 0 [some (vR (some 2281)), some (vI p), some (vI i)] [] σ _
      refine x_lr (z := some 2281) T_416_0 rfl ?_
      refine x_li (z := p) T_416_1 rfl ?_
      refine x_cv2 T_416_2 mN_308 mL_308 (Nat.le_of_ble_eq_true rfl) mO_308 (PM.t hP) (Nat.le_of_ble_eq_true rfl) (hp_y hP hp) ?_
      rintro _ σ ⟨rfl, rfl⟩
      refine cI ?_
      refine x_if T_416_5 (fun h => absurd (show (1 : Int) = 0 from h) (by decide)) (fun _ => ?_)
      refine x_li (z := i) T_416_8 rfl ?_
      refine x_i2l T_416_9 ?_
      refine x_lc T_416_10 ?_
      refine x_lr (z := some 2281) T_416_11 rfl ?_
      refine x_gR (z := some 2326) T_416_12 F_17_56 (PM.t hP) (PM.r hP 56 2326 rfl) ?_
      refine x_li (z := p) T_416_15 rfl ?_
      refine x_alI (z := n) T_416_16 (by decide) (PM.ta hP 2326 0 8 rfl rfl) (by omega) (by omega) (Eq.trans (PM.aP hP 2326 rfl rfl (by omega)) hn) ?_
      refine x_ic T_416_17 ?_
      refine x_ib (w := (n - 1)) T_416_18 (fun h => absurd h.1 (by decide)) (w32_id (by omega) (by omega)) ?_
      refine x_i2l T_416_19 ?_
      refine x_cs3 T_416_20 mN_282 mL_282 (Nat.le_of_ble_eq_true rfl) mK_282 (Nat.le_of_ble_eq_true rfl) (m_in) ?_
      rintro _ σ ⟨rfl, rfl⟩
      refine cI ?_
      refine x_if T_416_23 (fun _ => ?_) (fun h => absurd (show (if 0 ≤ i ∧ i ≤ (n - 1) then (1 : Int) else 0) = 0 by rw [if_neg q]) h)
      refine x_ic T_416_40 ?_
      refine x_ri T_416_41 ?_
      exact ⟨rfl, rfl⟩
  · rw [if_neg (fun c => hp c.1)]
    refine CL_in mL_416 rfl ?_
    show WP fb _ 416 0 [some (vR (some 2281)), some (vI p), some (vI i)] [] σ _
    refine x_lr (z := some 2281) T_416_0 rfl ?_
    refine x_li (z := p) T_416_1 rfl ?_
    refine x_cv2 T_416_2 mN_308 mL_308 (Nat.le_of_ble_eq_true rfl) mO_308 (PM.t hP) (Nat.le_of_ble_eq_true rfl) (hp_n hP hp) ?_
    rintro _ σ ⟨rfl, rfl⟩
    refine cI ?_
    refine x_if T_416_5 (fun _ => ?_) (fun h => absurd (show (0 : Int) = 0 by decide) h)
    refine x_ic T_416_40 ?_
    refine x_ri T_416_41 ?_
    exact ⟨rfl, rfl⟩
theorem m_wipe (hP : PM σ0 P S σ) (hI : IV false T U P) : CL fb (d + 2) 405 [vR (some 2281), vI p] σ (fun r σ' => r = some (vI (yWip P p).1) ∧ PM σ0 (yWip P p).2 S σ') := by
  unfold yWip
  by_cases hp : isPr P p
  · rw [if_pos hp]
    obtain ⟨n, hn⟩ : ∃ n, P 2329 p = n := ⟨_, rfl⟩
    rw [hn]
    refine CL_in mL_405 rfl ?_
    show WP fb _ 405 0 [some (vR (some 2281)), some (vI p), none] [] σ _
    refine x_lr (z := some 2281) T_405_0 rfl ?_
    refine x_li (z := p) T_405_1 rfl ?_
    refine x_cv2 T_405_2 mN_308 mL_308 (Nat.le_of_ble_eq_true rfl) mO_308 (PM.t hP) (Nat.le_of_ble_eq_true rfl) (hp_y hP hp) ?_
    rintro _ σ ⟨rfl, rfl⟩
    refine cI ?_
    refine x_if T_405_5 (fun _ => ?_) (fun h => absurd (show ¬ (1 : Int) = 0 by decide) h)
    refine x_lr (z := some 2281) T_405_11 rfl ?_
    refine x_gR (z := some 2329) T_405_12 F_17_59 (PM.t hP) (PM.r hP 59 2329 rfl) ?_
    refine x_li (z := p) T_405_15 rfl ?_
    refine x_alI (z := n) T_405_16 (by decide) (PM.ta hP 2329 0 8 rfl rfl) (by omega) (by omega) (Eq.trans (PM.aP hP 2329 rfl rfl (by omega)) hn) ?_
    refine x_si (ls1 := [some (vR (some 2281)), some (vI p), some (vI n)]) T_405_17 rfl ?_
    refine x_lr (z := some 2281) T_405_18 rfl ?_
    refine x_gR (z := some 2329) T_405_19 F_17_59 (PM.t hP) (PM.r hP 59 2329 rfl) ?_
    refine x_li (z := p) T_405_22 rfl ?_
    refine x_ic T_405_23 ?_
    refine y_aIP hP T_405_24 2329 8 rfl rfl rfl (by omega) (by omega) (fun σ hP => ?_)
    refine x_li (z := n) T_405_25 rfl ?_
    refine x_ri T_405_26 ?_
    exact ⟨rfl, hP⟩
  · rw [if_neg hp]
    refine CL_in mL_405 rfl ?_
    show WP fb _ 405 0 [some (vR (some 2281)), some (vI p), none] [] σ _
    refine x_lr (z := some 2281) T_405_0 rfl ?_
    refine x_li (z := p) T_405_1 rfl ?_
    refine x_cv2 T_405_2 mN_308 mL_308 (Nat.le_of_ble_eq_true rfl) mO_308 (PM.t hP) (Nat.le_of_ble_eq_true rfl) (hp_n hP hp) ?_
    rintro _ σ ⟨rfl, rfl⟩
    refine cI ?_
    refine x_if T_405_5 (fun h => absurd (show ¬ (0 : Int) = 0 from h) (by decide)) (fun _ => ?_)
    refine x_ic T_405_8 ?_
    refine x_ri T_405_10 ?_
    exact ⟨rfl, hP⟩
theorem m_input (hP : PM σ0 P S σ) (hI : IV false T U P) : CL fb (d + 2) 406 [vR (some 2281), vI b] σ (fun r σ' => r = some (vI (yIn P b).1) ∧ PM σ0 (yIn P b).2 S σ') := by
  unfold yIn
  by_cases q : 0 ≤ b ∧ b ≤ 255
  · rw [if_neg (fun c => c q)]
    have h1 : 0 ≤ P 2281 39 ∧ P 2281 39 ≤ 200 := IV.n hI 39 39 rfl rfl (by decide)
    obtain ⟨n, hn⟩ : ∃ n, P 2281 39 = n := ⟨_, rfl⟩
    rw [hn] at h1 ⊢
    by_cases q2 : n = 200
    · rw [if_pos q2]
      refine CL_in mL_406 rfl ?_
      show WP fb _ 406 0 [some (vR (some 2281)), some (vI b)] [] σ _
      refine x_li (z := b) T_406_0 rfl ?_
      refine x_i2l T_406_1 ?_
      refine x_lc T_406_2 ?_
      refine x_lc T_406_3 ?_
      refine x_cs3 T_406_6 mN_282 mL_282 (Nat.le_of_ble_eq_true rfl) mK_282 (Nat.le_of_ble_eq_true rfl) (m_in) ?_
      rintro _ σ ⟨rfl, rfl⟩
      refine cI ?_
      refine x_if T_406_9 (fun _ => ?_) (fun h => absurd (show ¬ (if 0 ≤ b ∧ b ≤ 255 then (1 : Int) else 0) = 0 by rw [if_pos q]; decide) h)
      refine x_lr (z := some 2281) T_406_15 rfl ?_
      refine x_gI (z := n) T_406_16 (Or.inl F_17_39) (PM.t hP) (Eq.trans (PM.nP hP 2281 39 39 rfl rfl rfl) hn) ?_
      refine x_ic T_406_19 ?_
      refine x_ic2 T_406_22 (fun h => absurd (show ¬ n = 200 from h) (by omega)) (fun _ => ?_)
      refine x_ic T_406_25 ?_
      refine x_ri T_406_27 ?_
      exact ⟨rfl, hP⟩
    · rw [if_neg q2]
      refine CL_in mL_406 rfl ?_
      show WP fb _ 406 0 [some (vR (some 2281)), some (vI b)] [] σ _
      refine x_li (z := b) T_406_0 rfl ?_
      refine x_i2l T_406_1 ?_
      refine x_lc T_406_2 ?_
      refine x_lc T_406_3 ?_
      refine x_cs3 T_406_6 mN_282 mL_282 (Nat.le_of_ble_eq_true rfl) mK_282 (Nat.le_of_ble_eq_true rfl) (m_in) ?_
      rintro _ σ ⟨rfl, rfl⟩
      refine cI ?_
      refine x_if T_406_9 (fun _ => ?_) (fun h => absurd (show ¬ (if 0 ≤ b ∧ b ≤ 255 then (1 : Int) else 0) = 0 by rw [if_pos q]; decide) h)
      refine x_lr (z := some 2281) T_406_15 rfl ?_
      refine x_gI (z := n) T_406_16 (Or.inl F_17_39) (PM.t hP) (Eq.trans (PM.nP hP 2281 39 39 rfl rfl rfl) hn) ?_
      refine x_ic T_406_19 ?_
      refine x_ic2 T_406_22 (fun _ => ?_) (fun h => absurd (show ¬ n = 200 by omega) h)
      refine x_lr (z := some 2281) T_406_28 rfl ?_
      refine x_gR (z := some 2314) T_406_29 F_17_38 (PM.t hP) (PM.r hP 38 2314 rfl) ?_
      refine x_lr (z := some 2281) T_406_32 rfl ?_
      refine x_gI (z := n) T_406_33 (Or.inl F_17_39) (PM.t hP) (Eq.trans (PM.nP hP 2281 39 39 rfl rfl rfl) hn) ?_
      refine x_li (z := b) T_406_36 rfl ?_
      refine y_aIP hP T_406_37 2314 200 rfl rfl rfl (by omega) (by omega) (fun σ hP => ?_)
      refine x_lr (z := some 2281) T_406_38 rfl ?_
      refine x_dupR T_406_39 ?_
      refine x_gI (z := n) T_406_40 (Or.inl F_17_39) (PM.t hP) (Eq.trans (Eq.trans (PM.nP hP 2281 39 39 rfl rfl rfl) (rU_f (Nat.ne_of_beq_eq_false rfl))) hn) ?_
      refine x_ic T_406_43 ?_
      refine x_ib (w := (n + 1)) T_406_44 (fun h => absurd h.1 (by decide)) (w32_id (by omega) (by omega)) ?_
      refine y_pIP hP T_406_45 F_17_39 39 rfl rfl (fun σ hP => ?_)
      refine x_lr (z := some 2281) T_406_48 rfl ?_
      refine x_gI (z := (n + 1)) T_406_49 (Or.inl F_17_39) (PM.t hP) (Eq.trans (PM.nP hP 2281 39 39 rfl rfl rfl) rU_s) ?_
      refine x_ri T_406_52 ?_
      exact ⟨rfl, hP⟩
  · rw [if_pos q]
    refine CL_in mL_406 rfl ?_
    show WP fb _ 406 0 [some (vR (some 2281)), some (vI b)] [] σ _
    refine x_li (z := b) T_406_0 rfl ?_
    refine x_i2l T_406_1 ?_
    refine x_lc T_406_2 ?_
    refine x_lc T_406_3 ?_
    refine x_cs3 T_406_6 mN_282 mL_282 (Nat.le_of_ble_eq_true rfl) mK_282 (Nat.le_of_ble_eq_true rfl) (m_in) ?_
    rintro _ σ ⟨rfl, rfl⟩
    refine cI ?_
    refine x_if T_406_9 (fun h => absurd (show ¬ (if 0 ≤ b ∧ b ≤ 255 then (1 : Int) else 0) = 0 from h) (by rw [if_neg q]; decide)) (fun _ => ?_)
    refine x_ic T_406_12 ?_
    refine x_ri T_406_14 ?_
    exact ⟨rfl, hP⟩
theorem m_feed (hP : PM σ0 P S σ) (hI : IV false T U P) : CL fb (d + 2) 411 [vR (some 2281), vI b] σ (fun r σ' => r = some (vI (yFee P b).1) ∧ PM σ0 (yFee P b).2 S σ') := by
  unfold yFee
  by_cases q : 0 ≤ b ∧ b ≤ 255
  · rw [if_neg (fun c => c q)]
    have h1 : 0 ≤ P 2281 47 ∧ P 2281 47 ≤ 400 := IV.n hI 47 47 rfl rfl (by decide)
    obtain ⟨n, hn⟩ : ∃ n, P 2281 47 = n := ⟨_, rfl⟩
    rw [hn] at h1 ⊢
    by_cases q2 : n = 400
    · rw [if_pos q2]
      refine CL_in mL_411 rfl ?_
      show WP fb _ 411 0 [some (vR (some 2281)), some (vI b)] [] σ _
      refine x_li (z := b) T_411_0 rfl ?_
      refine x_i2l T_411_1 ?_
      refine x_lc T_411_2 ?_
      refine x_lc T_411_3 ?_
      refine x_cs3 T_411_6 mN_282 mL_282 (Nat.le_of_ble_eq_true rfl) mK_282 (Nat.le_of_ble_eq_true rfl) (m_in) ?_
      rintro _ σ ⟨rfl, rfl⟩
      refine cI ?_
      refine x_if T_411_9 (fun _ => ?_) (fun h => absurd (show ¬ (if 0 ≤ b ∧ b ≤ 255 then (1 : Int) else 0) = 0 by rw [if_pos q]; decide) h)
      refine x_lr (z := some 2281) T_411_15 rfl ?_
      refine x_gI (z := n) T_411_16 (Or.inl F_17_47) (PM.t hP) (Eq.trans (PM.nP hP 2281 47 47 rfl rfl rfl) hn) ?_
      refine x_ic T_411_19 ?_
      refine x_ic2 T_411_22 (fun h => absurd (show ¬ n = 400 from h) (by omega)) (fun _ => ?_)
      refine x_ic T_411_25 ?_
      refine x_ri T_411_27 ?_
      exact ⟨rfl, hP⟩
    · rw [if_neg q2]
      refine CL_in mL_411 rfl ?_
      show WP fb _ 411 0 [some (vR (some 2281)), some (vI b)] [] σ _
      refine x_li (z := b) T_411_0 rfl ?_
      refine x_i2l T_411_1 ?_
      refine x_lc T_411_2 ?_
      refine x_lc T_411_3 ?_
      refine x_cs3 T_411_6 mN_282 mL_282 (Nat.le_of_ble_eq_true rfl) mK_282 (Nat.le_of_ble_eq_true rfl) (m_in) ?_
      rintro _ σ ⟨rfl, rfl⟩
      refine cI ?_
      refine x_if T_411_9 (fun _ => ?_) (fun h => absurd (show ¬ (if 0 ≤ b ∧ b ≤ 255 then (1 : Int) else 0) = 0 by rw [if_pos q]; decide) h)
      refine x_lr (z := some 2281) T_411_15 rfl ?_
      refine x_gI (z := n) T_411_16 (Or.inl F_17_47) (PM.t hP) (Eq.trans (PM.nP hP 2281 47 47 rfl rfl rfl) hn) ?_
      refine x_ic T_411_19 ?_
      refine x_ic2 T_411_22 (fun _ => ?_) (fun h => absurd (show ¬ n = 400 by omega) h)
      refine x_lr (z := some 2281) T_411_28 rfl ?_
      refine x_gR (z := some 2318) T_411_29 F_17_46 (PM.t hP) (PM.r hP 46 2318 rfl) ?_
      refine x_lr (z := some 2281) T_411_32 rfl ?_
      refine x_gI (z := n) T_411_33 (Or.inl F_17_47) (PM.t hP) (Eq.trans (PM.nP hP 2281 47 47 rfl rfl rfl) hn) ?_
      refine x_li (z := b) T_411_36 rfl ?_
      refine y_aIP hP T_411_37 2318 400 rfl rfl rfl (by omega) (by omega) (fun σ hP => ?_)
      refine x_lr (z := some 2281) T_411_38 rfl ?_
      refine x_dupR T_411_39 ?_
      refine x_gI (z := n) T_411_40 (Or.inl F_17_47) (PM.t hP) (Eq.trans (Eq.trans (PM.nP hP 2281 47 47 rfl rfl rfl) (rU_f (Nat.ne_of_beq_eq_false rfl))) hn) ?_
      refine x_ic T_411_43 ?_
      refine x_ib (w := (n + 1)) T_411_44 (fun h => absurd h.1 (by decide)) (w32_id (by omega) (by omega)) ?_
      refine y_pIP hP T_411_45 F_17_47 47 rfl rfl (fun σ hP => ?_)
      refine x_lr (z := some 2281) T_411_48 rfl ?_
      refine x_gI (z := (n + 1)) T_411_49 (Or.inl F_17_47) (PM.t hP) (Eq.trans (PM.nP hP 2281 47 47 rfl rfl rfl) rU_s) ?_
      refine x_ri T_411_52 ?_
      exact ⟨rfl, hP⟩
  · rw [if_pos q]
    refine CL_in mL_411 rfl ?_
    show WP fb _ 411 0 [some (vR (some 2281)), some (vI b)] [] σ _
    refine x_li (z := b) T_411_0 rfl ?_
    refine x_i2l T_411_1 ?_
    refine x_lc T_411_2 ?_
    refine x_lc T_411_3 ?_
    refine x_cs3 T_411_6 mN_282 mL_282 (Nat.le_of_ble_eq_true rfl) mK_282 (Nat.le_of_ble_eq_true rfl) (m_in) ?_
    rintro _ σ ⟨rfl, rfl⟩
    refine cI ?_
    refine x_if T_411_9 (fun h => absurd (show ¬ (if 0 ≤ b ∧ b ≤ 255 then (1 : Int) else 0) = 0 from h) (by rw [if_neg q]; decide)) (fun _ => ?_)
    refine x_ic T_411_12 ?_
    refine x_ri T_411_14 ?_
    exact ⟨rfl, hP⟩
theorem m_answer (hP : PM σ0 P S σ) (hI : IV false T U P) : CL fb (d + 1) 413 [vR (some 2281), vI i] σ (rP (yAns P i) σ) := by
  unfold yAns
  have h1 : 0 ≤ P 2281 49 ∧ P 2281 49 ≤ 512 := IV.n hI 49 49 rfl rfl (by decide)
  obtain ⟨n, hn⟩ : ∃ n, P 2281 49 = n := ⟨_, rfl⟩
  rw [hn] at h1 ⊢
  by_cases q : 0 ≤ i ∧ i ≤ n - 1
  · rw [if_pos q]
    refine CL_in mL_413 rfl ?_
    show WP fb _ 413 0 [some (vR (some 2281)), some (vI i)] [] σ _
    refine x_li (z := i) T_413_0 rfl ?_
    refine x_i2l T_413_1 ?_
    refine x_lc T_413_2 ?_
    refine x_lr (z := some 2281) T_413_3 rfl ?_
    refine x_gI (z := n) T_413_4 (Or.inl F_17_49) (PM.t hP) (Eq.trans (PM.nP hP 2281 49 49 rfl rfl rfl) hn) ?_
    refine x_ic T_413_7 ?_
    refine x_ib (w := (n - 1)) T_413_8 (fun h => absurd h.1 (by decide)) (w32_id (by omega) (by omega)) ?_
    refine x_i2l T_413_9 ?_
    refine x_cs3 T_413_10 mN_282 mL_282 (Nat.le_of_ble_eq_true rfl) mK_282 (Nat.le_of_ble_eq_true rfl) (m_in) ?_
    rintro _ σ ⟨rfl, rfl⟩
    refine cI ?_
    refine x_if T_413_13 (fun h => absurd (show (if 0 ≤ i ∧ i ≤ (n - 1) then (1 : Int) else 0) = 0 from h) (by rw [if_pos q]; decide)) (fun _ => ?_)
    refine x_lr (z := some 2281) T_413_16 rfl ?_
    refine x_gR (z := some 2319) T_413_17 F_17_48 (PM.t hP) (PM.r hP 48 2319 rfl) ?_
    refine x_li (z := i) T_413_20 rfl ?_
    have b1 : 0 ≤ P 2319 i ∧ P 2319 i ≤ 255 := IV.a hI 2319 0 512 rfl rfl rfl (by omega) (by omega)
    refine x_alI (z := P 2319 i) T_413_21 (by decide) (PM.ta hP 2319 0 512 rfl rfl) (by omega) (by omega) (PM.aP hP 2319 rfl rfl (by omega)) ?_
    refine x_goto T_413_22 ?_
    refine x_ri T_413_26 ?_
    exact ⟨rfl, rfl⟩
  · rw [if_neg q]
    refine CL_in mL_413 rfl ?_
    show WP fb _ 413 0 [some (vR (some 2281)), some (vI i)] [] σ _
    refine x_li (z := i) T_413_0 rfl ?_
    refine x_i2l T_413_1 ?_
    refine x_lc T_413_2 ?_
    refine x_lr (z := some 2281) T_413_3 rfl ?_
    refine x_gI (z := n) T_413_4 (Or.inl F_17_49) (PM.t hP) (Eq.trans (PM.nP hP 2281 49 49 rfl rfl rfl) hn) ?_
    refine x_ic T_413_7 ?_
    refine x_ib (w := (n - 1)) T_413_8 (fun h => absurd h.1 (by decide)) (w32_id (by omega) (by omega)) ?_
    refine x_i2l T_413_9 ?_
    refine x_cs3 T_413_10 mN_282 mL_282 (Nat.le_of_ble_eq_true rfl) mK_282 (Nat.le_of_ble_eq_true rfl) (m_in) ?_
    rintro _ σ ⟨rfl, rfl⟩
    refine cI ?_
    refine x_if T_413_13 (fun _ => ?_) (fun h => absurd (show (if 0 ≤ i ∧ i ≤ (n - 1) then (1 : Int) else 0) = 0 by rw [if_neg q]) h)
    refine x_ic T_413_25 ?_
    refine x_ri T_413_26 ?_
    exact ⟨rfl, rfl⟩
theorem m_message (hP : PM σ0 P S σ) (hI : IV false T U P) (hT : T ≤ 2147483000) : CL fb (d + 1) 409 [vR (some 2281), vI k, vI i] σ (rP (yMsg P k i) σ) := by
  unfold yMsg
  have h1 : 0 ≤ P 2281 42 ∧ P 2281 42 ≤ T := IV.n hI 42 42 rfl rfl (by decide)
  obtain ⟨n, hn⟩ : ∃ n, P 2281 42 = n := ⟨_, rfl⟩
  rw [hn] at h1 ⊢
  by_cases q1 : 0 ≤ k
  · by_cases q2 : k < n
    · by_cases q3 : n - 40 ≤ k
      · have h2 : 0 ≤ P 2317 (k % 40) ∧ P 2317 (k % 40) ≤ 420 := IV.a (k := k % 40) hI 2317 0 40 rfl rfl rfl (by omega) (by omega)
        obtain ⟨z, hz⟩ : ∃ z, P 2317 (k % 40) = z := ⟨_, rfl⟩
        rw [hz] at h2 ⊢
        by_cases q : 0 ≤ i ∧ i ≤ z - 1
        · rw [if_pos ⟨⟨q1, q2, q3⟩, q⟩]
          refine CL_in mL_409 rfl ?_
          show WP fb _ 409 0 [some (vR (some 2281)), some (vI k), some (vI i), none] [] σ _
          refine x_li (z := k) T_409_0 rfl ?_
          refine x_if T_409_1 (fun h => absurd (show k < 0 from h) (by omega)) (fun _ => ?_)
          refine x_li (z := k) T_409_4 rfl ?_
          refine x_lr (z := some 2281) T_409_5 rfl ?_
          refine x_gI (z := n) T_409_6 (Or.inl F_17_42) (PM.t hP) (Eq.trans (PM.nP hP 2281 42 42 rfl rfl rfl) hn) ?_
          refine x_ic2 T_409_9 (fun h => absurd (show n ≤ k from h) (by omega)) (fun _ => ?_)
          refine x_li (z := k) T_409_12 rfl ?_
          refine x_lr (z := some 2281) T_409_13 rfl ?_
          refine x_gI (z := n) T_409_14 (Or.inl F_17_42) (PM.t hP) (Eq.trans (PM.nP hP 2281 42 42 rfl rfl rfl) hn) ?_
          refine x_ic T_409_17 ?_
          refine x_ib (w := (n - 40)) T_409_19 (fun h => absurd h.1 (by decide)) (w32_id (by omega) (by omega)) ?_
          refine x_ic2 T_409_20 (fun h => absurd (show k < (n - 40) from h) (by omega)) (fun _ => ?_)
          refine x_ic T_409_23 ?_
          refine x_goto T_409_24 ?_
          refine x_si (ls1 := [some (vR (some 2281)), some (vI k), some (vI i), some (vI 1)]) T_409_28 rfl ?_
          refine x_li (z := 1) T_409_29 rfl ?_
          refine x_if T_409_30 (fun h => absurd (show (1 : Int) = 0 from h) (by decide)) (fun _ => ?_)
          refine x_li (z := i) T_409_33 rfl ?_
          refine x_i2l T_409_34 ?_
          refine x_lc T_409_35 ?_
          refine x_lr (z := some 2281) T_409_36 rfl ?_
          refine x_gR (z := some 2317) T_409_37 F_17_44 (PM.t hP) (PM.r hP 44 2317 rfl) ?_
          refine x_li (z := k) T_409_40 rfl ?_
          refine x_ic T_409_41 ?_
          refine x_ib (w := (k % 40)) T_409_43 (fun h => absurd h.2 (by decide)) (rem32_n (by omega) (by omega) (by decide)) ?_
          refine x_alI (z := z) T_409_44 (by decide) (PM.ta hP 2317 0 40 rfl rfl) (by omega) (by omega) (Eq.trans (PM.aP hP 2317 rfl rfl (by omega)) hz) ?_
          refine x_ic T_409_45 ?_
          refine x_ib (w := (z - 1)) T_409_46 (fun h => absurd h.1 (by decide)) (w32_id (by omega) (by omega)) ?_
          refine x_i2l T_409_47 ?_
          refine x_cs3 T_409_48 mN_282 mL_282 (Nat.le_of_ble_eq_true rfl) mK_282 (Nat.le_of_ble_eq_true rfl) (m_in) ?_
          rintro _ σ ⟨rfl, rfl⟩
          refine cI ?_
          refine x_if T_409_51 (fun h => absurd (show (if 0 ≤ i ∧ i ≤ (z - 1) then (1 : Int) else 0) = 0 from h) (by rw [if_pos q]; decide)) (fun _ => ?_)
          refine x_lr (z := some 2281) T_409_54 rfl ?_
          refine x_gR (z := some 2316) T_409_55 F_17_43 (PM.t hP) (PM.r hP 43 2316 rfl) ?_
          refine x_ic T_409_58 ?_
          refine x_li (z := k) T_409_61 rfl ?_
          refine x_ic T_409_62 ?_
          refine x_ib (w := (k % 40)) T_409_64 (fun h => absurd h.2 (by decide)) (rem32_n (by omega) (by omega) (by decide)) ?_
          refine x_ib (w := (420 * (k % 40))) T_409_65 (fun h => absurd h.1 (by decide)) (w32_id (by omega) (by omega)) ?_
          refine x_li (z := i) T_409_66 rfl ?_
          refine x_ib (w := ((420 * (k % 40)) + i)) T_409_67 (fun h => absurd h.1 (by decide)) (w32_id (by omega) (by omega)) ?_
          have b1 : 0 ≤ P 2316 ((420 * (k % 40)) + i) ∧ P 2316 ((420 * (k % 40)) + i) ≤ 255 := IV.a hI 2316 0 16800 rfl rfl rfl (by omega) (by omega)
          refine x_alI (z := P 2316 ((420 * (k % 40)) + i)) T_409_68 (by decide) (PM.ta hP 2316 0 16800 rfl rfl) (by omega) (by omega) (PM.aP hP 2316 rfl rfl (by omega)) ?_
          refine x_goto T_409_69 ?_
          refine x_ri T_409_73 ?_
          exact ⟨rfl, rfl⟩
        · rw [if_neg (fun c => q c.2)]
          refine CL_in mL_409 rfl ?_
          show WP fb _ 409 0 [some (vR (some 2281)), some (vI k), some (vI i), none] [] σ _
          refine x_li (z := k) T_409_0 rfl ?_
          refine x_if T_409_1 (fun h => absurd (show k < 0 from h) (by omega)) (fun _ => ?_)
          refine x_li (z := k) T_409_4 rfl ?_
          refine x_lr (z := some 2281) T_409_5 rfl ?_
          refine x_gI (z := n) T_409_6 (Or.inl F_17_42) (PM.t hP) (Eq.trans (PM.nP hP 2281 42 42 rfl rfl rfl) hn) ?_
          refine x_ic2 T_409_9 (fun h => absurd (show n ≤ k from h) (by omega)) (fun _ => ?_)
          refine x_li (z := k) T_409_12 rfl ?_
          refine x_lr (z := some 2281) T_409_13 rfl ?_
          refine x_gI (z := n) T_409_14 (Or.inl F_17_42) (PM.t hP) (Eq.trans (PM.nP hP 2281 42 42 rfl rfl rfl) hn) ?_
          refine x_ic T_409_17 ?_
          refine x_ib (w := (n - 40)) T_409_19 (fun h => absurd h.1 (by decide)) (w32_id (by omega) (by omega)) ?_
          refine x_ic2 T_409_20 (fun h => absurd (show k < (n - 40) from h) (by omega)) (fun _ => ?_)
          refine x_ic T_409_23 ?_
          refine x_goto T_409_24 ?_
          refine x_si (ls1 := [some (vR (some 2281)), some (vI k), some (vI i), some (vI 1)]) T_409_28 rfl ?_
          refine x_li (z := 1) T_409_29 rfl ?_
          refine x_if T_409_30 (fun h => absurd (show (1 : Int) = 0 from h) (by decide)) (fun _ => ?_)
          refine x_li (z := i) T_409_33 rfl ?_
          refine x_i2l T_409_34 ?_
          refine x_lc T_409_35 ?_
          refine x_lr (z := some 2281) T_409_36 rfl ?_
          refine x_gR (z := some 2317) T_409_37 F_17_44 (PM.t hP) (PM.r hP 44 2317 rfl) ?_
          refine x_li (z := k) T_409_40 rfl ?_
          refine x_ic T_409_41 ?_
          refine x_ib (w := (k % 40)) T_409_43 (fun h => absurd h.2 (by decide)) (rem32_n (by omega) (by omega) (by decide)) ?_
          refine x_alI (z := z) T_409_44 (by decide) (PM.ta hP 2317 0 40 rfl rfl) (by omega) (by omega) (Eq.trans (PM.aP hP 2317 rfl rfl (by omega)) hz) ?_
          refine x_ic T_409_45 ?_
          refine x_ib (w := (z - 1)) T_409_46 (fun h => absurd h.1 (by decide)) (w32_id (by omega) (by omega)) ?_
          refine x_i2l T_409_47 ?_
          refine x_cs3 T_409_48 mN_282 mL_282 (Nat.le_of_ble_eq_true rfl) mK_282 (Nat.le_of_ble_eq_true rfl) (m_in) ?_
          rintro _ σ ⟨rfl, rfl⟩
          refine cI ?_
          refine x_if T_409_51 (fun _ => ?_) (fun h => absurd (show (if 0 ≤ i ∧ i ≤ (z - 1) then (1 : Int) else 0) = 0 by rw [if_neg q]) h)
          refine x_ic T_409_72 ?_
          refine x_ri T_409_73 ?_
          exact ⟨rfl, rfl⟩
      · rw [if_neg (fun c => q3 c.1.2.2)]
        refine CL_in mL_409 rfl ?_
        show WP fb _ 409 0 [some (vR (some 2281)), some (vI k), some (vI i), none] [] σ _
        refine x_li (z := k) T_409_0 rfl ?_
        refine x_if T_409_1 (fun h => absurd (show k < 0 from h) (by omega)) (fun _ => ?_)
        refine x_li (z := k) T_409_4 rfl ?_
        refine x_lr (z := some 2281) T_409_5 rfl ?_
        refine x_gI (z := n) T_409_6 (Or.inl F_17_42) (PM.t hP) (Eq.trans (PM.nP hP 2281 42 42 rfl rfl rfl) hn) ?_
        refine x_ic2 T_409_9 (fun h => absurd (show n ≤ k from h) (by omega)) (fun _ => ?_)
        refine x_li (z := k) T_409_12 rfl ?_
        refine x_lr (z := some 2281) T_409_13 rfl ?_
        refine x_gI (z := n) T_409_14 (Or.inl F_17_42) (PM.t hP) (Eq.trans (PM.nP hP 2281 42 42 rfl rfl rfl) hn) ?_
        refine x_ic T_409_17 ?_
        refine x_ib (w := (n - 40)) T_409_19 (fun h => absurd h.1 (by decide)) (w32_id (by omega) (by omega)) ?_
        refine x_ic2 T_409_20 (fun _ => ?_) (fun h => absurd (show k < (n - 40) by omega) h)
        refine x_ic T_409_27 ?_
        refine x_si (ls1 := [some (vR (some 2281)), some (vI k), some (vI i), some (vI 0)]) T_409_28 rfl ?_
        refine x_li (z := 0) T_409_29 rfl ?_
        refine x_if T_409_30 (fun _ => ?_) (fun h => absurd (show (0 : Int) = 0 by decide) h)
        refine x_ic T_409_72 ?_
        refine x_ri T_409_73 ?_
        exact ⟨rfl, rfl⟩
    · rw [if_neg (fun c => q2 c.1.2.1)]
      refine CL_in mL_409 rfl ?_
      show WP fb _ 409 0 [some (vR (some 2281)), some (vI k), some (vI i), none] [] σ _
      refine x_li (z := k) T_409_0 rfl ?_
      refine x_if T_409_1 (fun h => absurd (show k < 0 from h) (by omega)) (fun _ => ?_)
      refine x_li (z := k) T_409_4 rfl ?_
      refine x_lr (z := some 2281) T_409_5 rfl ?_
      refine x_gI (z := n) T_409_6 (Or.inl F_17_42) (PM.t hP) (Eq.trans (PM.nP hP 2281 42 42 rfl rfl rfl) hn) ?_
      refine x_ic2 T_409_9 (fun _ => ?_) (fun h => absurd (show n ≤ k by omega) h)
      refine x_ic T_409_27 ?_
      refine x_si (ls1 := [some (vR (some 2281)), some (vI k), some (vI i), some (vI 0)]) T_409_28 rfl ?_
      refine x_li (z := 0) T_409_29 rfl ?_
      refine x_if T_409_30 (fun _ => ?_) (fun h => absurd (show (0 : Int) = 0 by decide) h)
      refine x_ic T_409_72 ?_
      refine x_ri T_409_73 ?_
      exact ⟨rfl, rfl⟩
  · rw [if_neg (fun c => q1 c.1.1)]
    refine CL_in mL_409 rfl ?_
    show WP fb _ 409 0 [some (vR (some 2281)), some (vI k), some (vI i), none] [] σ _
    refine x_li (z := k) T_409_0 rfl ?_
    refine x_if T_409_1 (fun _ => ?_) (fun h => absurd (show k < 0 by omega) h)
    refine x_ic T_409_27 ?_
    refine x_si (ls1 := [some (vR (some 2281)), some (vI k), some (vI i), some (vI 0)]) T_409_28 rfl ?_
    refine x_li (z := 0) T_409_29 rfl ?_
    refine x_if T_409_30 (fun _ => ?_) (fun h => absurd (show (0 : Int) = 0 by decide) h)
    refine x_ic T_409_72 ?_
    refine x_ri T_409_73 ?_
    exact ⟨rfl, rfl⟩
theorem m_variable (hP : PM σ0 P S σ) (hI : IV false T U P) : CL fb (d + 2) 415 [vR (some 2281), vI p, vI x, vI i] σ (rP (yVar P p x i) σ) := by
  unfold yVar
  by_cases hp : isPr P p
  · by_cases q1 : 0 ≤ x ∧ x ≤ 25
    · have h1 : 0 ≤ P 2362 (26 * p + x) ∧ P 2362 (26 * p + x) ≤ 20 := IV.a (k := 26 * p + x) hI 2362 0 208 rfl rfl rfl (by omega) (by omega)
      obtain ⟨n, hn⟩ : ∃ n, P 2362 (26 * p + x) = n := ⟨_, rfl⟩
      rw [hn] at h1 ⊢
      by_cases q : 0 ≤ i ∧ i ≤ n - 1
      · rw [if_pos ⟨⟨hp, q1⟩, q⟩]
        refine CL_in mL_415 rfl ?_
        show WP fb _ 415 0 [some (vR (some 2281)), some (vI p), some (vI x), some (vI i), none] [] σ _
        refine x_lr (z := some 2281) T_415_0 rfl ?_
        refine x_li (z := p) T_415_1 rfl ?_
        refine x_cv2 T_415_2 mN_308 mL_308 (Nat.le_of_ble_eq_true rfl) mO_308 (PM.t hP) (Nat.le_of_ble_eq_true rfl) (hp_y hP hp) ?_
        rintro _ σ ⟨rfl, rfl⟩
        refine cI ?_
        refine x_if T_415_5 (fun h => absurd (show (1 : Int) = 0 from h) (by decide)) (fun _ => ?_)
        refine x_li (z := x) T_415_8 rfl ?_
        refine x_i2l T_415_9 ?_
        refine x_lc T_415_10 ?_
        refine x_lc T_415_11 ?_
        refine x_cs3 T_415_14 mN_282 mL_282 (Nat.le_of_ble_eq_true rfl) mK_282 (Nat.le_of_ble_eq_true rfl) (m_in) ?_
        rintro _ σ ⟨rfl, rfl⟩
        refine cI ?_
        refine x_if T_415_17 (fun h => absurd (show (if 0 ≤ x ∧ x ≤ 25 then (1 : Int) else 0) = 0 from h) (by rw [if_pos q1]; decide)) (fun _ => ?_)
        refine x_ic T_415_20 ?_
        refine x_goto T_415_21 ?_
        refine x_si (ls1 := [some (vR (some 2281)), some (vI p), some (vI x), some (vI i), some (vI 1)]) T_415_25 rfl ?_
        refine x_li (z := 1) T_415_27 rfl ?_
        refine x_if T_415_29 (fun h => absurd (show (1 : Int) = 0 from h) (by decide)) (fun _ => ?_)
        refine x_li (z := i) T_415_32 rfl ?_
        refine x_i2l T_415_33 ?_
        refine x_lc T_415_34 ?_
        refine x_lr (z := some 2281) T_415_35 rfl ?_
        refine x_gR (z := some 2362) T_415_36 F_17_101 (PM.t hP) (PM.r hP 101 2362 rfl) ?_
        refine x_ic T_415_39 ?_
        refine x_li (z := p) T_415_41 rfl ?_
        refine x_ib (w := (26 * p)) T_415_42 (fun h => absurd h.1 (by decide)) (w32_id (by omega) (by omega)) ?_
        refine x_li (z := x) T_415_43 rfl ?_
        refine x_ib (w := ((26 * p) + x)) T_415_44 (fun h => absurd h.1 (by decide)) (w32_id (by omega) (by omega)) ?_
        refine x_alI (z := n) T_415_45 (by decide) (PM.ta hP 2362 0 208 rfl rfl) (by omega) (by omega) (Eq.trans (PM.aP hP 2362 rfl rfl (by omega)) hn) ?_
        refine x_ic T_415_46 ?_
        refine x_ib (w := (n - 1)) T_415_47 (fun h => absurd h.1 (by decide)) (w32_id (by omega) (by omega)) ?_
        refine x_i2l T_415_48 ?_
        refine x_cs3 T_415_49 mN_282 mL_282 (Nat.le_of_ble_eq_true rfl) mK_282 (Nat.le_of_ble_eq_true rfl) (m_in) ?_
        rintro _ σ ⟨rfl, rfl⟩
        refine cI ?_
        refine x_if T_415_52 (fun h => absurd (show (if 0 ≤ i ∧ i ≤ (n - 1) then (1 : Int) else 0) = 0 from h) (by rw [if_pos q]; decide)) (fun _ => ?_)
        refine x_lr (z := some 2281) T_415_55 rfl ?_
        refine x_gR (z := some 2361) T_415_56 F_17_100 (PM.t hP) (PM.r hP 100 2361 rfl) ?_
        refine x_ic T_415_59 ?_
        refine x_ic T_415_61 ?_
        refine x_li (z := p) T_415_63 rfl ?_
        refine x_ib (w := (26 * p)) T_415_64 (fun h => absurd h.1 (by decide)) (w32_id (by omega) (by omega)) ?_
        refine x_li (z := x) T_415_65 rfl ?_
        refine x_ib (w := ((26 * p) + x)) T_415_66 (fun h => absurd h.1 (by decide)) (w32_id (by omega) (by omega)) ?_
        refine x_ib (w := (20 * ((26 * p) + x))) T_415_67 (fun h => absurd h.1 (by decide)) (w32_id (by omega) (by omega)) ?_
        refine x_li (z := i) T_415_68 rfl ?_
        refine x_ib (w := ((20 * ((26 * p) + x)) + i)) T_415_69 (fun h => absurd h.1 (by decide)) (w32_id (by omega) (by omega)) ?_
        have b1 : 0 ≤ P 2361 ((20 * ((26 * p) + x)) + i) ∧ P 2361 ((20 * ((26 * p) + x)) + i) ≤ 255 := IV.a hI 2361 0 4160 rfl rfl rfl (by omega) (by omega)
        refine x_alI (z := P 2361 ((20 * ((26 * p) + x)) + i)) T_415_70 (by decide) (PM.ta hP 2361 0 4160 rfl rfl) (by omega) (by omega) (PM.aP hP 2361 rfl rfl (by omega)) ?_
        refine x_goto T_415_71 ?_
        refine x_ri T_415_75 ?_
        exact ⟨rfl, rfl⟩
      · rw [if_neg (fun c => q c.2)]
        refine CL_in mL_415 rfl ?_
        show WP fb _ 415 0 [some (vR (some 2281)), some (vI p), some (vI x), some (vI i), none] [] σ _
        refine x_lr (z := some 2281) T_415_0 rfl ?_
        refine x_li (z := p) T_415_1 rfl ?_
        refine x_cv2 T_415_2 mN_308 mL_308 (Nat.le_of_ble_eq_true rfl) mO_308 (PM.t hP) (Nat.le_of_ble_eq_true rfl) (hp_y hP hp) ?_
        rintro _ σ ⟨rfl, rfl⟩
        refine cI ?_
        refine x_if T_415_5 (fun h => absurd (show (1 : Int) = 0 from h) (by decide)) (fun _ => ?_)
        refine x_li (z := x) T_415_8 rfl ?_
        refine x_i2l T_415_9 ?_
        refine x_lc T_415_10 ?_
        refine x_lc T_415_11 ?_
        refine x_cs3 T_415_14 mN_282 mL_282 (Nat.le_of_ble_eq_true rfl) mK_282 (Nat.le_of_ble_eq_true rfl) (m_in) ?_
        rintro _ σ ⟨rfl, rfl⟩
        refine cI ?_
        refine x_if T_415_17 (fun h => absurd (show (if 0 ≤ x ∧ x ≤ 25 then (1 : Int) else 0) = 0 from h) (by rw [if_pos q1]; decide)) (fun _ => ?_)
        refine x_ic T_415_20 ?_
        refine x_goto T_415_21 ?_
        refine x_si (ls1 := [some (vR (some 2281)), some (vI p), some (vI x), some (vI i), some (vI 1)]) T_415_25 rfl ?_
        refine x_li (z := 1) T_415_27 rfl ?_
        refine x_if T_415_29 (fun h => absurd (show (1 : Int) = 0 from h) (by decide)) (fun _ => ?_)
        refine x_li (z := i) T_415_32 rfl ?_
        refine x_i2l T_415_33 ?_
        refine x_lc T_415_34 ?_
        refine x_lr (z := some 2281) T_415_35 rfl ?_
        refine x_gR (z := some 2362) T_415_36 F_17_101 (PM.t hP) (PM.r hP 101 2362 rfl) ?_
        refine x_ic T_415_39 ?_
        refine x_li (z := p) T_415_41 rfl ?_
        refine x_ib (w := (26 * p)) T_415_42 (fun h => absurd h.1 (by decide)) (w32_id (by omega) (by omega)) ?_
        refine x_li (z := x) T_415_43 rfl ?_
        refine x_ib (w := ((26 * p) + x)) T_415_44 (fun h => absurd h.1 (by decide)) (w32_id (by omega) (by omega)) ?_
        refine x_alI (z := n) T_415_45 (by decide) (PM.ta hP 2362 0 208 rfl rfl) (by omega) (by omega) (Eq.trans (PM.aP hP 2362 rfl rfl (by omega)) hn) ?_
        refine x_ic T_415_46 ?_
        refine x_ib (w := (n - 1)) T_415_47 (fun h => absurd h.1 (by decide)) (w32_id (by omega) (by omega)) ?_
        refine x_i2l T_415_48 ?_
        refine x_cs3 T_415_49 mN_282 mL_282 (Nat.le_of_ble_eq_true rfl) mK_282 (Nat.le_of_ble_eq_true rfl) (m_in) ?_
        rintro _ σ ⟨rfl, rfl⟩
        refine cI ?_
        refine x_if T_415_52 (fun _ => ?_) (fun h => absurd (show (if 0 ≤ i ∧ i ≤ (n - 1) then (1 : Int) else 0) = 0 by rw [if_neg q]) h)
        refine x_ic T_415_74 ?_
        refine x_ri T_415_75 ?_
        exact ⟨rfl, rfl⟩
    · rw [if_neg (fun c => q1 c.1.2)]
      refine CL_in mL_415 rfl ?_
      show WP fb _ 415 0 [some (vR (some 2281)), some (vI p), some (vI x), some (vI i), none] [] σ _
      refine x_lr (z := some 2281) T_415_0 rfl ?_
      refine x_li (z := p) T_415_1 rfl ?_
      refine x_cv2 T_415_2 mN_308 mL_308 (Nat.le_of_ble_eq_true rfl) mO_308 (PM.t hP) (Nat.le_of_ble_eq_true rfl) (hp_y hP hp) ?_
      rintro _ σ ⟨rfl, rfl⟩
      refine cI ?_
      refine x_if T_415_5 (fun h => absurd (show (1 : Int) = 0 from h) (by decide)) (fun _ => ?_)
      refine x_li (z := x) T_415_8 rfl ?_
      refine x_i2l T_415_9 ?_
      refine x_lc T_415_10 ?_
      refine x_lc T_415_11 ?_
      refine x_cs3 T_415_14 mN_282 mL_282 (Nat.le_of_ble_eq_true rfl) mK_282 (Nat.le_of_ble_eq_true rfl) (m_in) ?_
      rintro _ σ ⟨rfl, rfl⟩
      refine cI ?_
      refine x_if T_415_17 (fun _ => ?_) (fun h => absurd (show (if 0 ≤ x ∧ x ≤ 25 then (1 : Int) else 0) = 0 by rw [if_neg q1]) h)
      refine x_ic T_415_24 ?_
      refine x_si (ls1 := [some (vR (some 2281)), some (vI p), some (vI x), some (vI i), some (vI 0)]) T_415_25 rfl ?_
      refine x_li (z := 0) T_415_27 rfl ?_
      refine x_if T_415_29 (fun _ => ?_) (fun h => absurd (show (0 : Int) = 0 by decide) h)
      refine x_ic T_415_74 ?_
      refine x_ri T_415_75 ?_
      exact ⟨rfl, rfl⟩
  · rw [if_neg (fun c => hp c.1.1)]
    refine CL_in mL_415 rfl ?_
    show WP fb _ 415 0 [some (vR (some 2281)), some (vI p), some (vI x), some (vI i), none] [] σ _
    refine x_lr (z := some 2281) T_415_0 rfl ?_
    refine x_li (z := p) T_415_1 rfl ?_
    refine x_cv2 T_415_2 mN_308 mL_308 (Nat.le_of_ble_eq_true rfl) mO_308 (PM.t hP) (Nat.le_of_ble_eq_true rfl) (hp_n hP hp) ?_
    rintro _ σ ⟨rfl, rfl⟩
    refine cI ?_
    refine x_if T_415_5 (fun _ => ?_) (fun h => absurd (show (0 : Int) = 0 by decide) h)
    refine x_ic T_415_24 ?_
    refine x_si (ls1 := [some (vR (some 2281)), some (vI p), some (vI x), some (vI i), some (vI 0)]) T_415_25 rfl ?_
    refine x_li (z := 0) T_415_27 rfl ?_
    refine x_if T_415_29 (fun _ => ?_) (fun h => absurd (show (0 : Int) = 0 by decide) h)
    refine x_ic T_415_74 ?_
    refine x_ri T_415_75 ?_
    exact ⟨rfl, rfl⟩
theorem m_process (hP : PM σ0 P S σ) (hI : IV false T U P) : CL fb (d + 2) 414 [vR (some 2281), vI p, vI x] σ (rP (yPrc P p x) σ) := by
  unfold yPrc
  by_cases hp : isPr P p
  · rw [if_pos hp]
    have hg : 0 ≤ P 2323 p ∧ P 2323 p ≤ 7 := IV.a (k := p) hI 2323 0 8 rfl rfl rfl (by omega) (by omega)
    obtain ⟨g, hg0⟩ : ∃ g, P 2323 p = g := ⟨_, rfl⟩
    rw [hg0] at hg ⊢
    by_cases q : 7 ≤ x ∧ x ≤ 32
    · rw [if_pos q]
      refine CL_in mL_414 rfl ?_
      show WP fb _ 414 0 [some (vR (some 2281)), some (vI p), some (vI x)] [] σ _
      refine x_lr (z := some 2281) T_414_0 rfl ?_
      refine x_li (z := p) T_414_1 rfl ?_
      refine x_cv2 T_414_2 mN_308 mL_308 (Nat.le_of_ble_eq_true rfl) mO_308 (PM.t hP) (Nat.le_of_ble_eq_true rfl) (hp_y hP hp) ?_
      rintro _ σ ⟨rfl, rfl⟩
      refine cI ?_
      refine x_if T_414_5 (fun _ => ?_) (fun h => absurd (show ¬ (1 : Int) = 0 by decide) h)
      refine x_li (z := x) T_414_10 rfl ?_
      refine x_i2l T_414_11 ?_
      refine x_lc T_414_12 ?_
      refine x_lc T_414_15 ?_
      refine x_cs3 T_414_18 mN_282 mL_282 (Nat.le_of_ble_eq_true rfl) mK_282 (Nat.le_of_ble_eq_true rfl) (m_in) ?_
      rintro _ σ ⟨rfl, rfl⟩
      refine cI ?_
      refine x_if T_414_21 (fun h => absurd (show (if 7 ≤ x ∧ x ≤ 32 then (1 : Int) else 0) = 0 from h) (by rw [if_pos q]; decide)) (fun _ => ?_)
      refine x_lr (z := some 2281) T_414_24 rfl ?_
      refine x_gR (z := some 2362) T_414_25 F_17_101 (PM.t hP) (PM.r hP 101 2362 rfl) ?_
      refine x_ic T_414_28 ?_
      refine x_li (z := p) T_414_30 rfl ?_
      refine x_ib (w := (26 * p)) T_414_31 (fun h => absurd h.1 (by decide)) (w32_id (by omega) (by omega)) ?_
      refine x_li (z := x) T_414_32 rfl ?_
      refine x_ib (w := ((26 * p) + x)) T_414_33 (fun h => absurd h.1 (by decide)) (w32_id (by omega) (by omega)) ?_
      refine x_ic T_414_34 ?_
      refine x_ib (w := (((26 * p) + x) - 7)) T_414_36 (fun h => absurd h.1 (by decide)) (w32_id (by omega) (by omega)) ?_
      have b1 : 0 ≤ P 2362 (((26 * p) + x) - 7) ∧ P 2362 (((26 * p) + x) - 7) ≤ 20 := IV.a hI 2362 0 208 rfl rfl rfl (by omega) (by omega)
      refine x_alI (z := P 2362 (((26 * p) + x) - 7)) T_414_37 (by decide) (PM.ta hP 2362 0 208 rfl rfl) (by omega) (by omega) (PM.aP hP 2362 rfl rfl (by omega)) ?_
      refine x_ri T_414_38 ?_
      exact ⟨rfl, rfl⟩
    · rw [if_neg q]
      have hq0 : ¬ ((7 : Int) ≤ x ∧ x ≤ 32) := q
      by_cases c0 : x = 0
      · rw [if_pos c0]
        subst c0
        refine CL_in mL_414 rfl ?_
        show WP fb _ 414 0 [some (vR (some 2281)), some (vI p), some (vI 0)] [] σ _
        refine x_lr (z := some 2281) T_414_0 rfl ?_
        refine x_li (z := p) T_414_1 rfl ?_
        refine x_cv2 T_414_2 mN_308 mL_308 (Nat.le_of_ble_eq_true rfl) mO_308 (PM.t hP) (Nat.le_of_ble_eq_true rfl) (hp_y hP hp) ?_
        rintro _ σ ⟨rfl, rfl⟩
        refine cI ?_
        refine x_if T_414_5 (fun _ => ?_) (fun h => absurd (show ¬ (1 : Int) = 0 by decide) h)
        refine x_li (z := 0) T_414_10 rfl ?_
        refine x_i2l T_414_11 ?_
        refine x_lc T_414_12 ?_
        refine x_lc T_414_15 ?_
        refine x_cs3 T_414_18 mN_282 mL_282 (Nat.le_of_ble_eq_true rfl) mK_282 (Nat.le_of_ble_eq_true rfl) (m_in) ?_
        rintro _ σ ⟨rfl, rfl⟩
        refine cI ?_
        refine x_if T_414_21 (fun _ => ?_) (fun h => absurd (show (if 7 ≤ 0 ∧ 0 ≤ 32 then (1 : Int) else 0) = 0 by decide) h)
        refine x_li (z := 0) T_414_39 rfl ?_
        refine x_swIn T_414_40 (by decide) (by decide) rfl ?_
        refine x_lr (z := some 2281) T_414_84 rfl ?_
        refine x_gR (z := some 2322) T_414_85 F_17_52 (PM.t hP) (PM.r hP 52 2322 rfl) ?_
        refine x_li (z := p) T_414_88 rfl ?_
        have b1 : 0 ≤ P 2322 p ∧ P 2322 p ≤ 3 := IV.a hI 2322 0 8 rfl rfl rfl (by omega) (by omega)
        refine x_alI (z := P 2322 p) T_414_89 (by decide) (PM.ta hP 2322 0 8 rfl rfl) (by omega) (by omega) (PM.aP hP 2322 rfl rfl (by omega)) ?_
        refine x_ri T_414_90 ?_
        exact ⟨rfl, rfl⟩
      rw [if_neg c0]
      by_cases c1 : x = 1
      · rw [if_pos c1]
        subst c1
        refine CL_in mL_414 rfl ?_
        show WP fb _ 414 0 [some (vR (some 2281)), some (vI p), some (vI 1)] [] σ _
        refine x_lr (z := some 2281) T_414_0 rfl ?_
        refine x_li (z := p) T_414_1 rfl ?_
        refine x_cv2 T_414_2 mN_308 mL_308 (Nat.le_of_ble_eq_true rfl) mO_308 (PM.t hP) (Nat.le_of_ble_eq_true rfl) (hp_y hP hp) ?_
        rintro _ σ ⟨rfl, rfl⟩
        refine cI ?_
        refine x_if T_414_5 (fun _ => ?_) (fun h => absurd (show ¬ (1 : Int) = 0 by decide) h)
        refine x_li (z := 1) T_414_10 rfl ?_
        refine x_i2l T_414_11 ?_
        refine x_lc T_414_12 ?_
        refine x_lc T_414_15 ?_
        refine x_cs3 T_414_18 mN_282 mL_282 (Nat.le_of_ble_eq_true rfl) mK_282 (Nat.le_of_ble_eq_true rfl) (m_in) ?_
        rintro _ σ ⟨rfl, rfl⟩
        refine cI ?_
        refine x_if T_414_21 (fun _ => ?_) (fun h => absurd (show (if 7 ≤ 1 ∧ 1 ≤ 32 then (1 : Int) else 0) = 0 by decide) h)
        refine x_li (z := 1) T_414_39 rfl ?_
        refine x_swIn T_414_40 (by decide) (by decide) rfl ?_
        refine x_lr (z := some 2281) T_414_91 rfl ?_
        refine x_gR (z := some 2329) T_414_92 F_17_59 (PM.t hP) (PM.r hP 59 2329 rfl) ?_
        refine x_li (z := p) T_414_95 rfl ?_
        have b1 : 0 ≤ P 2329 p ∧ P 2329 p ≤ 1000 := IV.a hI 2329 0 8 rfl rfl rfl (by omega) (by omega)
        refine x_alI (z := P 2329 p) T_414_96 (by decide) (PM.ta hP 2329 0 8 rfl rfl) (by omega) (by omega) (PM.aP hP 2329 rfl rfl (by omega)) ?_
        refine x_ri T_414_97 ?_
        exact ⟨rfl, rfl⟩
      rw [if_neg c1]
      by_cases c2 : x = 2
      · rw [if_pos c2]
        subst c2
        refine CL_in mL_414 rfl ?_
        show WP fb _ 414 0 [some (vR (some 2281)), some (vI p), some (vI 2)] [] σ _
        refine x_lr (z := some 2281) T_414_0 rfl ?_
        refine x_li (z := p) T_414_1 rfl ?_
        refine x_cv2 T_414_2 mN_308 mL_308 (Nat.le_of_ble_eq_true rfl) mO_308 (PM.t hP) (Nat.le_of_ble_eq_true rfl) (hp_y hP hp) ?_
        rintro _ σ ⟨rfl, rfl⟩
        refine cI ?_
        refine x_if T_414_5 (fun _ => ?_) (fun h => absurd (show ¬ (1 : Int) = 0 by decide) h)
        refine x_li (z := 2) T_414_10 rfl ?_
        refine x_i2l T_414_11 ?_
        refine x_lc T_414_12 ?_
        refine x_lc T_414_15 ?_
        refine x_cs3 T_414_18 mN_282 mL_282 (Nat.le_of_ble_eq_true rfl) mK_282 (Nat.le_of_ble_eq_true rfl) (m_in) ?_
        rintro _ σ ⟨rfl, rfl⟩
        refine cI ?_
        refine x_if T_414_21 (fun _ => ?_) (fun h => absurd (show (if 7 ≤ 2 ∧ 2 ≤ 32 then (1 : Int) else 0) = 0 by decide) h)
        refine x_li (z := 2) T_414_39 rfl ?_
        refine x_swIn T_414_40 (by decide) (by decide) rfl ?_
        refine x_lr (z := some 2281) T_414_98 rfl ?_
        refine x_li (z := p) T_414_99 rfl ?_
        refine x_cv2 T_414_100 mN_296 mL_296 (Nat.le_of_ble_eq_true rfl) mO_296 (PM.t hP) (Nat.le_of_ble_eq_true rfl) (m_descriptorsOf hP (by omega)) ?_
        rintro _ σ ⟨rfl, rfl⟩
        refine cI ?_
        refine x_ri T_414_103 ?_
        exact ⟨rfl, rfl⟩
      rw [if_neg c2]
      by_cases c3 : x = 3
      · rw [if_pos c3]
        subst c3
        refine CL_in mL_414 rfl ?_
        show WP fb _ 414 0 [some (vR (some 2281)), some (vI p), some (vI 3)] [] σ _
        refine x_lr (z := some 2281) T_414_0 rfl ?_
        refine x_li (z := p) T_414_1 rfl ?_
        refine x_cv2 T_414_2 mN_308 mL_308 (Nat.le_of_ble_eq_true rfl) mO_308 (PM.t hP) (Nat.le_of_ble_eq_true rfl) (hp_y hP hp) ?_
        rintro _ σ ⟨rfl, rfl⟩
        refine cI ?_
        refine x_if T_414_5 (fun _ => ?_) (fun h => absurd (show ¬ (1 : Int) = 0 by decide) h)
        refine x_li (z := 3) T_414_10 rfl ?_
        refine x_i2l T_414_11 ?_
        refine x_lc T_414_12 ?_
        refine x_lc T_414_15 ?_
        refine x_cs3 T_414_18 mN_282 mL_282 (Nat.le_of_ble_eq_true rfl) mK_282 (Nat.le_of_ble_eq_true rfl) (m_in) ?_
        rintro _ σ ⟨rfl, rfl⟩
        refine cI ?_
        refine x_if T_414_21 (fun _ => ?_) (fun h => absurd (show (if 7 ≤ 3 ∧ 3 ≤ 32 then (1 : Int) else 0) = 0 by decide) h)
        refine x_li (z := 3) T_414_39 rfl ?_
        refine x_swIn T_414_40 (by decide) (by decide) rfl ?_
        refine x_lr (z := some 2281) T_414_104 rfl ?_
        refine x_gR (z := some 2334) T_414_105 F_17_64 (PM.t hP) (PM.r hP 64 2334 rfl) ?_
        refine x_lr (z := some 2281) T_414_108 rfl ?_
        refine x_gR (z := some 2323) T_414_109 F_17_53 (PM.t hP) (PM.r hP 53 2323 rfl) ?_
        refine x_li (z := p) T_414_112 rfl ?_
        refine x_alI (z := g) T_414_113 (by decide) (PM.ta hP 2323 0 8 rfl rfl) (by omega) (by omega) (Eq.trans (PM.aP hP 2323 rfl rfl (by omega)) hg0) ?_
        have b1 : 0 ≤ P 2334 g ∧ P 2334 g ≤ 8 := IV.a hI 2334 0 8 rfl rfl rfl (by omega) (by omega)
        refine x_alI (z := P 2334 g) T_414_114 (by decide) (PM.ta hP 2334 0 8 rfl rfl) (by omega) (by omega) (PM.aP hP 2334 rfl rfl (by omega)) ?_
        refine x_ri T_414_115 ?_
        exact ⟨rfl, rfl⟩
      rw [if_neg c3]
      by_cases c4 : x = 4
      · rw [if_pos c4]
        subst c4
        refine CL_in mL_414 rfl ?_
        show WP fb _ 414 0 [some (vR (some 2281)), some (vI p), some (vI 4)] [] σ _
        refine x_lr (z := some 2281) T_414_0 rfl ?_
        refine x_li (z := p) T_414_1 rfl ?_
        refine x_cv2 T_414_2 mN_308 mL_308 (Nat.le_of_ble_eq_true rfl) mO_308 (PM.t hP) (Nat.le_of_ble_eq_true rfl) (hp_y hP hp) ?_
        rintro _ σ ⟨rfl, rfl⟩
        refine cI ?_
        refine x_if T_414_5 (fun _ => ?_) (fun h => absurd (show ¬ (1 : Int) = 0 by decide) h)
        refine x_li (z := 4) T_414_10 rfl ?_
        refine x_i2l T_414_11 ?_
        refine x_lc T_414_12 ?_
        refine x_lc T_414_15 ?_
        refine x_cs3 T_414_18 mN_282 mL_282 (Nat.le_of_ble_eq_true rfl) mK_282 (Nat.le_of_ble_eq_true rfl) (m_in) ?_
        rintro _ σ ⟨rfl, rfl⟩
        refine cI ?_
        refine x_if T_414_21 (fun _ => ?_) (fun h => absurd (show (if 7 ≤ 4 ∧ 4 ≤ 32 then (1 : Int) else 0) = 0 by decide) h)
        refine x_li (z := 4) T_414_39 rfl ?_
        refine x_swIn T_414_40 (by decide) (by decide) rfl ?_
        refine x_lr (z := some 2281) T_414_116 rfl ?_
        refine x_lr (z := some 2281) T_414_117 rfl ?_
        refine x_gR (z := some 2323) T_414_118 F_17_53 (PM.t hP) (PM.r hP 53 2323 rfl) ?_
        refine x_li (z := p) T_414_121 rfl ?_
        refine x_alI (z := g) T_414_122 (by decide) (PM.ta hP 2323 0 8 rfl rfl) (by omega) (by omega) (Eq.trans (PM.aP hP 2323 rfl rfl (by omega)) hg0) ?_
        refine x_cv2 T_414_123 mN_385 mL_385 (Nat.le_of_ble_eq_true rfl) mO_385 (PM.t hP) (Nat.le_of_ble_eq_true rfl) (m_processesOf hP) ?_
        rintro _ σ ⟨rfl, rfl⟩
        refine cI ?_
        refine x_ri T_414_126 ?_
        exact ⟨rfl, rfl⟩
      rw [if_neg c4]
      by_cases c5 : x = 5
      · rw [if_pos c5]
        subst c5
        refine CL_in mL_414 rfl ?_
        show WP fb _ 414 0 [some (vR (some 2281)), some (vI p), some (vI 5)] [] σ _
        refine x_lr (z := some 2281) T_414_0 rfl ?_
        refine x_li (z := p) T_414_1 rfl ?_
        refine x_cv2 T_414_2 mN_308 mL_308 (Nat.le_of_ble_eq_true rfl) mO_308 (PM.t hP) (Nat.le_of_ble_eq_true rfl) (hp_y hP hp) ?_
        rintro _ σ ⟨rfl, rfl⟩
        refine cI ?_
        refine x_if T_414_5 (fun _ => ?_) (fun h => absurd (show ¬ (1 : Int) = 0 by decide) h)
        refine x_li (z := 5) T_414_10 rfl ?_
        refine x_i2l T_414_11 ?_
        refine x_lc T_414_12 ?_
        refine x_lc T_414_15 ?_
        refine x_cs3 T_414_18 mN_282 mL_282 (Nat.le_of_ble_eq_true rfl) mK_282 (Nat.le_of_ble_eq_true rfl) (m_in) ?_
        rintro _ σ ⟨rfl, rfl⟩
        refine cI ?_
        refine x_if T_414_21 (fun _ => ?_) (fun h => absurd (show (if 7 ≤ 5 ∧ 5 ≤ 32 then (1 : Int) else 0) = 0 by decide) h)
        refine x_li (z := 5) T_414_39 rfl ?_
        refine x_swIn T_414_40 (by decide) (by decide) rfl ?_
        refine x_lr (z := some 2281) T_414_127 rfl ?_
        refine x_gR (z := some 2324) T_414_128 F_17_54 (PM.t hP) (PM.r hP 54 2324 rfl) ?_
        refine x_li (z := p) T_414_131 rfl ?_
        have b1 : 0 ≤ P 2324 p ∧ P 2324 p ≤ 47 := IV.a hI 2324 0 8 rfl rfl rfl (by omega) (by omega)
        refine x_alI (z := P 2324 p) T_414_132 (by decide) (PM.ta hP 2324 0 8 rfl rfl) (by omega) (by omega) (PM.aP hP 2324 rfl rfl (by omega)) ?_
        refine x_ri T_414_133 ?_
        exact ⟨rfl, rfl⟩
      rw [if_neg c5]
      by_cases c6 : x = 6
      · rw [if_pos c6]
        subst c6
        refine CL_in mL_414 rfl ?_
        show WP fb _ 414 0 [some (vR (some 2281)), some (vI p), some (vI 6)] [] σ _
        refine x_lr (z := some 2281) T_414_0 rfl ?_
        refine x_li (z := p) T_414_1 rfl ?_
        refine x_cv2 T_414_2 mN_308 mL_308 (Nat.le_of_ble_eq_true rfl) mO_308 (PM.t hP) (Nat.le_of_ble_eq_true rfl) (hp_y hP hp) ?_
        rintro _ σ ⟨rfl, rfl⟩
        refine cI ?_
        refine x_if T_414_5 (fun _ => ?_) (fun h => absurd (show ¬ (1 : Int) = 0 by decide) h)
        refine x_li (z := 6) T_414_10 rfl ?_
        refine x_i2l T_414_11 ?_
        refine x_lc T_414_12 ?_
        refine x_lc T_414_15 ?_
        refine x_cs3 T_414_18 mN_282 mL_282 (Nat.le_of_ble_eq_true rfl) mK_282 (Nat.le_of_ble_eq_true rfl) (m_in) ?_
        rintro _ σ ⟨rfl, rfl⟩
        refine cI ?_
        refine x_if T_414_21 (fun _ => ?_) (fun h => absurd (show (if 7 ≤ 6 ∧ 6 ≤ 32 then (1 : Int) else 0) = 0 by decide) h)
        refine x_li (z := 6) T_414_39 rfl ?_
        refine x_swIn T_414_40 (by decide) (by decide) rfl ?_
        refine x_lr (z := some 2281) T_414_134 rfl ?_
        refine x_gR (z := some 2326) T_414_135 F_17_56 (PM.t hP) (PM.r hP 56 2326 rfl) ?_
        refine x_li (z := p) T_414_138 rfl ?_
        have b1 : 0 ≤ P 2326 p ∧ P 2326 p ≤ 60 := IV.a hI 2326 0 8 rfl rfl rfl (by omega) (by omega)
        refine x_alI (z := P 2326 p) T_414_139 (by decide) (PM.ta hP 2326 0 8 rfl rfl) (by omega) (by omega) (PM.aP hP 2326 rfl rfl (by omega)) ?_
        refine x_ri T_414_140 ?_
        exact ⟨rfl, rfl⟩
      rw [if_neg c6]
      refine CL_in mL_414 rfl ?_
      show WP fb _ 414 0 [some (vR (some 2281)), some (vI p), some (vI x)] [] σ _
      refine x_lr (z := some 2281) T_414_0 rfl ?_
      refine x_li (z := p) T_414_1 rfl ?_
      refine x_cv2 T_414_2 mN_308 mL_308 (Nat.le_of_ble_eq_true rfl) mO_308 (PM.t hP) (Nat.le_of_ble_eq_true rfl) (hp_y hP hp) ?_
      rintro _ σ ⟨rfl, rfl⟩
      refine cI ?_
      refine x_if T_414_5 (fun _ => ?_) (fun h => absurd (show ¬ (1 : Int) = 0 by decide) h)
      refine x_li (z := x) T_414_10 rfl ?_
      refine x_i2l T_414_11 ?_
      refine x_lc T_414_12 ?_
      refine x_lc T_414_15 ?_
      refine x_cs3 T_414_18 mN_282 mL_282 (Nat.le_of_ble_eq_true rfl) mK_282 (Nat.le_of_ble_eq_true rfl) (m_in) ?_
      rintro _ σ ⟨rfl, rfl⟩
      refine cI ?_
      refine x_if T_414_21 (fun _ => ?_) (fun h => absurd (show (if 7 ≤ x ∧ x ≤ 32 then (1 : Int) else 0) = 0 by rw [if_neg q]) h)
      refine x_li (z := x) T_414_39 rfl ?_
      refine x_swOut T_414_40  (by simp only [List.length]; omega) ?_
      refine x_ic T_414_141 ?_
      refine x_ri T_414_143 ?_
      exact ⟨rfl, rfl⟩
  · rw [if_neg hp]
    refine CL_in mL_414 rfl ?_
    show WP fb _ 414 0 [some (vR (some 2281)), some (vI p), some (vI x)] [] σ _
    refine x_lr (z := some 2281) T_414_0 rfl ?_
    refine x_li (z := p) T_414_1 rfl ?_
    refine x_cv2 T_414_2 mN_308 mL_308 (Nat.le_of_ble_eq_true rfl) mO_308 (PM.t hP) (Nat.le_of_ble_eq_true rfl) (hp_n hP hp) ?_
    rintro _ σ ⟨rfl, rfl⟩
    refine cI ?_
    refine x_if T_414_5 (fun h => absurd (show ¬ (0 : Int) = 0 from h) (by decide)) (fun _ => ?_)
    refine x_ic T_414_8 ?_
    refine x_ri T_414_9 ?_
    exact ⟨rfl, rfl⟩
theorem m_point (hP : PM σ0 P S σ) (hI : IV false T U P) : CL fb (d + 2) 417 [vR (some 2281), vI p, vI k, vI x] σ (rP (yPt P p k x) σ) := by
  unfold yPt
  by_cases hp : isPr P p
  · have hg : 0 ≤ P 2323 p ∧ P 2323 p ≤ 7 := IV.a (k := p) hI 2323 0 8 rfl rfl rfl (by omega) (by omega)
    obtain ⟨g, hg0⟩ : ∃ g, P 2323 p = g := ⟨_, rfl⟩
    rw [hg0] at hg ⊢
    have h1 : 0 ≤ P 2334 g ∧ P 2334 g ≤ 8 := IV.a (k := g) hI 2334 0 8 rfl rfl rfl (by omega) (by omega)
    obtain ⟨n, hn⟩ : ∃ n, P 2334 g = n := ⟨_, rfl⟩
    rw [hn] at h1 ⊢
    by_cases q : 0 ≤ k ∧ k ≤ n - 1
    · rw [if_pos ⟨hp, q⟩]
      by_cases c0 : x = 0
      · rw [if_pos c0]
        subst c0
        refine CL_in mL_417 rfl ?_
        show WP fb _ 417 0 [some (vR (some 2281)), some (vI p), some (vI k), some (vI 0), none] [] σ _
        refine x_lr (z := some 2281) T_417_0 rfl ?_
        refine x_li (z := p) T_417_1 rfl ?_
        refine x_cv2 T_417_2 mN_308 mL_308 (Nat.le_of_ble_eq_true rfl) mO_308 (PM.t hP) (Nat.le_of_ble_eq_true rfl) (hp_y hP hp) ?_
        rintro _ σ ⟨rfl, rfl⟩
        refine cI ?_
        refine x_if T_417_5 (fun h => absurd (show (1 : Int) = 0 from h) (by decide)) (fun _ => ?_)
        refine x_li (z := k) T_417_8 rfl ?_
        refine x_i2l T_417_9 ?_
        refine x_lc T_417_10 ?_
        refine x_lr (z := some 2281) T_417_11 rfl ?_
        refine x_gR (z := some 2334) T_417_12 F_17_64 (PM.t hP) (PM.r hP 64 2334 rfl) ?_
        refine x_lr (z := some 2281) T_417_15 rfl ?_
        refine x_gR (z := some 2323) T_417_16 F_17_53 (PM.t hP) (PM.r hP 53 2323 rfl) ?_
        refine x_li (z := p) T_417_19 rfl ?_
        refine x_alI (z := g) T_417_20 (by decide) (PM.ta hP 2323 0 8 rfl rfl) (by omega) (by omega) (Eq.trans (PM.aP hP 2323 rfl rfl (by omega)) hg0) ?_
        refine x_alI (z := n) T_417_21 (by decide) (PM.ta hP 2334 0 8 rfl rfl) (by omega) (by omega) (Eq.trans (PM.aP hP 2334 rfl rfl (by omega)) hn) ?_
        refine x_ic T_417_22 ?_
        refine x_ib (w := (n - 1)) T_417_23 (fun h => absurd h.1 (by decide)) (w32_id (by omega) (by omega)) ?_
        refine x_i2l T_417_24 ?_
        refine x_cs3 T_417_25 mN_282 mL_282 (Nat.le_of_ble_eq_true rfl) mK_282 (Nat.le_of_ble_eq_true rfl) (m_in) ?_
        rintro _ σ ⟨rfl, rfl⟩
        refine cI ?_
        refine x_if T_417_28 (fun _ => ?_) (fun h => absurd (show ¬ (if 0 ≤ k ∧ k ≤ (n - 1) then (1 : Int) else 0) = 0 by rw [if_pos q]; decide) h)
        refine x_ic T_417_33 ?_
        refine x_lr (z := some 2281) T_417_35 rfl ?_
        refine x_gR (z := some 2323) T_417_36 F_17_53 (PM.t hP) (PM.r hP 53 2323 rfl) ?_
        refine x_li (z := p) T_417_39 rfl ?_
        refine x_alI (z := g) T_417_40 (by decide) (PM.ta hP 2323 0 8 rfl rfl) (by omega) (by omega) (Eq.trans (PM.aP hP 2323 rfl rfl (by omega)) hg0) ?_
        refine x_ib (w := (8 * g)) T_417_41 (fun h => absurd h.1 (by decide)) (w32_id (by omega) (by omega)) ?_
        refine x_li (z := k) T_417_42 rfl ?_
        refine x_ib (w := ((8 * g) + k)) T_417_43 (fun h => absurd h.1 (by decide)) (w32_id (by omega) (by omega)) ?_
        refine x_si (ls1 := [some (vR (some 2281)), some (vI p), some (vI k), some (vI 0), some (vI ((8 * g) + k))]) T_417_44 rfl ?_
        refine x_li (z := 0) T_417_46 rfl ?_
        refine x_if T_417_47 (fun h => absurd (show ¬ (0 : Int) = 0 from h) (by decide)) (fun _ => ?_)
        refine x_lr (z := some 2281) T_417_50 rfl ?_
        refine x_gR (z := some 2335) T_417_51 F_17_65 (PM.t hP) (PM.r hP 65 2335 rfl) ?_
        refine x_li (z := ((8 * g) + k)) T_417_54 rfl ?_
        have b1 : 0 ≤ P 2335 ((8 * g) + k) ∧ P 2335 ((8 * g) + k) ≤ 2 := IV.a hI 2335 0 64 rfl rfl rfl (by omega) (by omega)
        refine x_alI (z := P 2335 ((8 * g) + k)) T_417_56 (by decide) (PM.ta hP 2335 0 64 rfl rfl) (by omega) (by omega) (PM.aP hP 2335 rfl rfl (by omega)) ?_
        refine x_goto T_417_57 ?_
        refine x_ri T_417_92 ?_
        exact ⟨rfl, rfl⟩
      rw [if_neg c0]
      by_cases c1 : x = 1
      · rw [if_pos c1]
        subst c1
        refine CL_in mL_417 rfl ?_
        show WP fb _ 417 0 [some (vR (some 2281)), some (vI p), some (vI k), some (vI 1), none] [] σ _
        refine x_lr (z := some 2281) T_417_0 rfl ?_
        refine x_li (z := p) T_417_1 rfl ?_
        refine x_cv2 T_417_2 mN_308 mL_308 (Nat.le_of_ble_eq_true rfl) mO_308 (PM.t hP) (Nat.le_of_ble_eq_true rfl) (hp_y hP hp) ?_
        rintro _ σ ⟨rfl, rfl⟩
        refine cI ?_
        refine x_if T_417_5 (fun h => absurd (show (1 : Int) = 0 from h) (by decide)) (fun _ => ?_)
        refine x_li (z := k) T_417_8 rfl ?_
        refine x_i2l T_417_9 ?_
        refine x_lc T_417_10 ?_
        refine x_lr (z := some 2281) T_417_11 rfl ?_
        refine x_gR (z := some 2334) T_417_12 F_17_64 (PM.t hP) (PM.r hP 64 2334 rfl) ?_
        refine x_lr (z := some 2281) T_417_15 rfl ?_
        refine x_gR (z := some 2323) T_417_16 F_17_53 (PM.t hP) (PM.r hP 53 2323 rfl) ?_
        refine x_li (z := p) T_417_19 rfl ?_
        refine x_alI (z := g) T_417_20 (by decide) (PM.ta hP 2323 0 8 rfl rfl) (by omega) (by omega) (Eq.trans (PM.aP hP 2323 rfl rfl (by omega)) hg0) ?_
        refine x_alI (z := n) T_417_21 (by decide) (PM.ta hP 2334 0 8 rfl rfl) (by omega) (by omega) (Eq.trans (PM.aP hP 2334 rfl rfl (by omega)) hn) ?_
        refine x_ic T_417_22 ?_
        refine x_ib (w := (n - 1)) T_417_23 (fun h => absurd h.1 (by decide)) (w32_id (by omega) (by omega)) ?_
        refine x_i2l T_417_24 ?_
        refine x_cs3 T_417_25 mN_282 mL_282 (Nat.le_of_ble_eq_true rfl) mK_282 (Nat.le_of_ble_eq_true rfl) (m_in) ?_
        rintro _ σ ⟨rfl, rfl⟩
        refine cI ?_
        refine x_if T_417_28 (fun _ => ?_) (fun h => absurd (show ¬ (if 0 ≤ k ∧ k ≤ (n - 1) then (1 : Int) else 0) = 0 by rw [if_pos q]; decide) h)
        refine x_ic T_417_33 ?_
        refine x_lr (z := some 2281) T_417_35 rfl ?_
        refine x_gR (z := some 2323) T_417_36 F_17_53 (PM.t hP) (PM.r hP 53 2323 rfl) ?_
        refine x_li (z := p) T_417_39 rfl ?_
        refine x_alI (z := g) T_417_40 (by decide) (PM.ta hP 2323 0 8 rfl rfl) (by omega) (by omega) (Eq.trans (PM.aP hP 2323 rfl rfl (by omega)) hg0) ?_
        refine x_ib (w := (8 * g)) T_417_41 (fun h => absurd h.1 (by decide)) (w32_id (by omega) (by omega)) ?_
        refine x_li (z := k) T_417_42 rfl ?_
        refine x_ib (w := ((8 * g) + k)) T_417_43 (fun h => absurd h.1 (by decide)) (w32_id (by omega) (by omega)) ?_
        refine x_si (ls1 := [some (vR (some 2281)), some (vI p), some (vI k), some (vI 1), some (vI ((8 * g) + k))]) T_417_44 rfl ?_
        refine x_li (z := 1) T_417_46 rfl ?_
        refine x_if T_417_47 (fun _ => ?_) (fun h => absurd (show ¬ (1 : Int) = 0 by decide) h)
        refine x_li (z := 1) T_417_60 rfl ?_
        refine x_ic T_417_61 ?_
        refine x_ic2 T_417_62 (fun h => absurd (show ¬ (1 : Int) = 1 from h) (by decide)) (fun _ => ?_)
        refine x_lr (z := some 2281) T_417_65 rfl ?_
        refine x_gR (z := some 2336) T_417_66 F_17_66 (PM.t hP) (PM.r hP 66 2336 rfl) ?_
        refine x_li (z := ((8 * g) + k)) T_417_69 rfl ?_
        have b1 : 0 ≤ P 2336 ((8 * g) + k) ∧ P 2336 ((8 * g) + k) ≤ T + 200 := IV.a hI 2336 0 64 rfl rfl rfl (by omega) (by omega)
        refine x_alI (z := P 2336 ((8 * g) + k)) T_417_71 (by decide) (PM.ta hP 2336 0 64 rfl rfl) (by omega) (by omega) (PM.aP hP 2336 rfl rfl (by omega)) ?_
        refine x_goto T_417_72 ?_
        refine x_ri T_417_92 ?_
        exact ⟨rfl, rfl⟩
      rw [if_neg c1]
      by_cases c2 : x = 2
      · rw [if_pos c2]
        subst c2
        refine CL_in mL_417 rfl ?_
        show WP fb _ 417 0 [some (vR (some 2281)), some (vI p), some (vI k), some (vI 2), none] [] σ _
        refine x_lr (z := some 2281) T_417_0 rfl ?_
        refine x_li (z := p) T_417_1 rfl ?_
        refine x_cv2 T_417_2 mN_308 mL_308 (Nat.le_of_ble_eq_true rfl) mO_308 (PM.t hP) (Nat.le_of_ble_eq_true rfl) (hp_y hP hp) ?_
        rintro _ σ ⟨rfl, rfl⟩
        refine cI ?_
        refine x_if T_417_5 (fun h => absurd (show (1 : Int) = 0 from h) (by decide)) (fun _ => ?_)
        refine x_li (z := k) T_417_8 rfl ?_
        refine x_i2l T_417_9 ?_
        refine x_lc T_417_10 ?_
        refine x_lr (z := some 2281) T_417_11 rfl ?_
        refine x_gR (z := some 2334) T_417_12 F_17_64 (PM.t hP) (PM.r hP 64 2334 rfl) ?_
        refine x_lr (z := some 2281) T_417_15 rfl ?_
        refine x_gR (z := some 2323) T_417_16 F_17_53 (PM.t hP) (PM.r hP 53 2323 rfl) ?_
        refine x_li (z := p) T_417_19 rfl ?_
        refine x_alI (z := g) T_417_20 (by decide) (PM.ta hP 2323 0 8 rfl rfl) (by omega) (by omega) (Eq.trans (PM.aP hP 2323 rfl rfl (by omega)) hg0) ?_
        refine x_alI (z := n) T_417_21 (by decide) (PM.ta hP 2334 0 8 rfl rfl) (by omega) (by omega) (Eq.trans (PM.aP hP 2334 rfl rfl (by omega)) hn) ?_
        refine x_ic T_417_22 ?_
        refine x_ib (w := (n - 1)) T_417_23 (fun h => absurd h.1 (by decide)) (w32_id (by omega) (by omega)) ?_
        refine x_i2l T_417_24 ?_
        refine x_cs3 T_417_25 mN_282 mL_282 (Nat.le_of_ble_eq_true rfl) mK_282 (Nat.le_of_ble_eq_true rfl) (m_in) ?_
        rintro _ σ ⟨rfl, rfl⟩
        refine cI ?_
        refine x_if T_417_28 (fun _ => ?_) (fun h => absurd (show ¬ (if 0 ≤ k ∧ k ≤ (n - 1) then (1 : Int) else 0) = 0 by rw [if_pos q]; decide) h)
        refine x_ic T_417_33 ?_
        refine x_lr (z := some 2281) T_417_35 rfl ?_
        refine x_gR (z := some 2323) T_417_36 F_17_53 (PM.t hP) (PM.r hP 53 2323 rfl) ?_
        refine x_li (z := p) T_417_39 rfl ?_
        refine x_alI (z := g) T_417_40 (by decide) (PM.ta hP 2323 0 8 rfl rfl) (by omega) (by omega) (Eq.trans (PM.aP hP 2323 rfl rfl (by omega)) hg0) ?_
        refine x_ib (w := (8 * g)) T_417_41 (fun h => absurd h.1 (by decide)) (w32_id (by omega) (by omega)) ?_
        refine x_li (z := k) T_417_42 rfl ?_
        refine x_ib (w := ((8 * g) + k)) T_417_43 (fun h => absurd h.1 (by decide)) (w32_id (by omega) (by omega)) ?_
        refine x_si (ls1 := [some (vR (some 2281)), some (vI p), some (vI k), some (vI 2), some (vI ((8 * g) + k))]) T_417_44 rfl ?_
        refine x_li (z := 2) T_417_46 rfl ?_
        refine x_if T_417_47 (fun _ => ?_) (fun h => absurd (show ¬ (2 : Int) = 0 by decide) h)
        refine x_li (z := 2) T_417_60 rfl ?_
        refine x_ic T_417_61 ?_
        refine x_ic2 T_417_62 (fun _ => ?_) (fun h => absurd (show ¬ (2 : Int) = 1 by decide) h)
        refine x_li (z := 2) T_417_75 rfl ?_
        refine x_ic T_417_76 ?_
        refine x_ic2 T_417_77 (fun h => absurd (show ¬ (2 : Int) = 2 from h) (by decide)) (fun _ => ?_)
        refine x_lr (z := some 2281) T_417_80 rfl ?_
        refine x_gR (z := some 2337) T_417_81 F_17_67 (PM.t hP) (PM.r hP 67 2337 rfl) ?_
        refine x_li (z := ((8 * g) + k)) T_417_84 rfl ?_
        have b1 : 0 ≤ P 2337 ((8 * g) + k) ∧ P 2337 ((8 * g) + k) ≤ 6 := IV.a hI 2337 0 64 rfl rfl rfl (by omega) (by omega)
        refine x_alI (z := P 2337 ((8 * g) + k)) T_417_86 (by decide) (PM.ta hP 2337 0 64 rfl rfl) (by omega) (by omega) (PM.aP hP 2337 rfl rfl (by omega)) ?_
        refine x_goto T_417_87 ?_
        refine x_ri T_417_92 ?_
        exact ⟨rfl, rfl⟩
      rw [if_neg c2]
      refine CL_in mL_417 rfl ?_
      show WP fb _ 417 0 [some (vR (some 2281)), some (vI p), some (vI k), some (vI x), none] [] σ _
      refine x_lr (z := some 2281) T_417_0 rfl ?_
      refine x_li (z := p) T_417_1 rfl ?_
      refine x_cv2 T_417_2 mN_308 mL_308 (Nat.le_of_ble_eq_true rfl) mO_308 (PM.t hP) (Nat.le_of_ble_eq_true rfl) (hp_y hP hp) ?_
      rintro _ σ ⟨rfl, rfl⟩
      refine cI ?_
      refine x_if T_417_5 (fun h => absurd (show (1 : Int) = 0 from h) (by decide)) (fun _ => ?_)
      refine x_li (z := k) T_417_8 rfl ?_
      refine x_i2l T_417_9 ?_
      refine x_lc T_417_10 ?_
      refine x_lr (z := some 2281) T_417_11 rfl ?_
      refine x_gR (z := some 2334) T_417_12 F_17_64 (PM.t hP) (PM.r hP 64 2334 rfl) ?_
      refine x_lr (z := some 2281) T_417_15 rfl ?_
      refine x_gR (z := some 2323) T_417_16 F_17_53 (PM.t hP) (PM.r hP 53 2323 rfl) ?_
      refine x_li (z := p) T_417_19 rfl ?_
      refine x_alI (z := g) T_417_20 (by decide) (PM.ta hP 2323 0 8 rfl rfl) (by omega) (by omega) (Eq.trans (PM.aP hP 2323 rfl rfl (by omega)) hg0) ?_
      refine x_alI (z := n) T_417_21 (by decide) (PM.ta hP 2334 0 8 rfl rfl) (by omega) (by omega) (Eq.trans (PM.aP hP 2334 rfl rfl (by omega)) hn) ?_
      refine x_ic T_417_22 ?_
      refine x_ib (w := (n - 1)) T_417_23 (fun h => absurd h.1 (by decide)) (w32_id (by omega) (by omega)) ?_
      refine x_i2l T_417_24 ?_
      refine x_cs3 T_417_25 mN_282 mL_282 (Nat.le_of_ble_eq_true rfl) mK_282 (Nat.le_of_ble_eq_true rfl) (m_in) ?_
      rintro _ σ ⟨rfl, rfl⟩
      refine cI ?_
      refine x_if T_417_28 (fun _ => ?_) (fun h => absurd (show ¬ (if 0 ≤ k ∧ k ≤ (n - 1) then (1 : Int) else 0) = 0 by rw [if_pos q]; decide) h)
      refine x_ic T_417_33 ?_
      refine x_lr (z := some 2281) T_417_35 rfl ?_
      refine x_gR (z := some 2323) T_417_36 F_17_53 (PM.t hP) (PM.r hP 53 2323 rfl) ?_
      refine x_li (z := p) T_417_39 rfl ?_
      refine x_alI (z := g) T_417_40 (by decide) (PM.ta hP 2323 0 8 rfl rfl) (by omega) (by omega) (Eq.trans (PM.aP hP 2323 rfl rfl (by omega)) hg0) ?_
      refine x_ib (w := (8 * g)) T_417_41 (fun h => absurd h.1 (by decide)) (w32_id (by omega) (by omega)) ?_
      refine x_li (z := k) T_417_42 rfl ?_
      refine x_ib (w := ((8 * g) + k)) T_417_43 (fun h => absurd h.1 (by decide)) (w32_id (by omega) (by omega)) ?_
      refine x_si (ls1 := [some (vR (some 2281)), some (vI p), some (vI k), some (vI x), some (vI ((8 * g) + k))]) T_417_44 rfl ?_
      refine x_li (z := x) T_417_46 rfl ?_
      refine x_if T_417_47 (fun _ => ?_) (fun h => absurd (show ¬ x = 0 by omega) h)
      refine x_li (z := x) T_417_60 rfl ?_
      refine x_ic T_417_61 ?_
      refine x_ic2 T_417_62 (fun _ => ?_) (fun h => absurd (show ¬ x = 1 by omega) h)
      refine x_li (z := x) T_417_75 rfl ?_
      refine x_ic T_417_76 ?_
      refine x_ic2 T_417_77 (fun _ => ?_) (fun h => absurd (show ¬ x = 2 by omega) h)
      refine x_ic T_417_90 ?_
      refine x_ri T_417_92 ?_
      exact ⟨rfl, rfl⟩
    · rw [if_neg (fun c => q c.2)]
      refine CL_in mL_417 rfl ?_
      show WP fb _ 417 0 [some (vR (some 2281)), some (vI p), some (vI k), some (vI x), none] [] σ _
      refine x_lr (z := some 2281) T_417_0 rfl ?_
      refine x_li (z := p) T_417_1 rfl ?_
      refine x_cv2 T_417_2 mN_308 mL_308 (Nat.le_of_ble_eq_true rfl) mO_308 (PM.t hP) (Nat.le_of_ble_eq_true rfl) (hp_y hP hp) ?_
      rintro _ σ ⟨rfl, rfl⟩
      refine cI ?_
      refine x_if T_417_5 (fun h => absurd (show (1 : Int) = 0 from h) (by decide)) (fun _ => ?_)
      refine x_li (z := k) T_417_8 rfl ?_
      refine x_i2l T_417_9 ?_
      refine x_lc T_417_10 ?_
      refine x_lr (z := some 2281) T_417_11 rfl ?_
      refine x_gR (z := some 2334) T_417_12 F_17_64 (PM.t hP) (PM.r hP 64 2334 rfl) ?_
      refine x_lr (z := some 2281) T_417_15 rfl ?_
      refine x_gR (z := some 2323) T_417_16 F_17_53 (PM.t hP) (PM.r hP 53 2323 rfl) ?_
      refine x_li (z := p) T_417_19 rfl ?_
      refine x_alI (z := g) T_417_20 (by decide) (PM.ta hP 2323 0 8 rfl rfl) (by omega) (by omega) (Eq.trans (PM.aP hP 2323 rfl rfl (by omega)) hg0) ?_
      refine x_alI (z := n) T_417_21 (by decide) (PM.ta hP 2334 0 8 rfl rfl) (by omega) (by omega) (Eq.trans (PM.aP hP 2334 rfl rfl (by omega)) hn) ?_
      refine x_ic T_417_22 ?_
      refine x_ib (w := (n - 1)) T_417_23 (fun h => absurd h.1 (by decide)) (w32_id (by omega) (by omega)) ?_
      refine x_i2l T_417_24 ?_
      refine x_cs3 T_417_25 mN_282 mL_282 (Nat.le_of_ble_eq_true rfl) mK_282 (Nat.le_of_ble_eq_true rfl) (m_in) ?_
      rintro _ σ ⟨rfl, rfl⟩
      refine cI ?_
      refine x_if T_417_28 (fun h => absurd (show ¬ (if 0 ≤ k ∧ k ≤ (n - 1) then (1 : Int) else 0) = 0 from h) (by rw [if_neg q]; decide)) (fun _ => ?_)
      refine x_ic T_417_31 ?_
      refine x_ri T_417_32 ?_
      exact ⟨rfl, rfl⟩
  · rw [if_neg (fun c => hp c.1)]
    refine CL_in mL_417 rfl ?_
    show WP fb _ 417 0 [some (vR (some 2281)), some (vI p), some (vI k), some (vI x), none] [] σ _
    refine x_lr (z := some 2281) T_417_0 rfl ?_
    refine x_li (z := p) T_417_1 rfl ?_
    refine x_cv2 T_417_2 mN_308 mL_308 (Nat.le_of_ble_eq_true rfl) mO_308 (PM.t hP) (Nat.le_of_ble_eq_true rfl) (hp_n hP hp) ?_
    rintro _ σ ⟨rfl, rfl⟩
    refine cI ?_
    refine x_if T_417_5 (fun _ => ?_) (fun h => absurd (show (0 : Int) = 0 by decide) h)
    refine x_ic T_417_31 ?_
    refine x_ri T_417_32 ?_
    exact ⟨rfl, rfl⟩
end MGET
