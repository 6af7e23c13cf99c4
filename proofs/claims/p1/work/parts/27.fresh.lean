/-! One call on a fresh object: what holds of the memory that the constructors leave, and what the small methods answer there. -/
theorem T_28_0 : hTab 28 0 = some ((3, 0, 2, []), 1) := rfl
theorem T_28_1 : hTab 28 1 = some ((24, 2, Int.ofNat 1, []), 4) := rfl
theorem T_28_4 : hTab 28 4 = some ((33, 1, 0, []), 5) := rfl
theorem T_33_0 : hTab 33 0 = some ((3, 1, 0, []), 1) := rfl
theorem T_33_1 : hTab 33 1 = some ((18, 2, Int.ofNat 21, []), 4) := rfl
theorem T_33_4 : hTab 33 4 = some ((3, 1, 0, []), 5) := rfl
theorem T_33_5 : hTab 33 5 = some ((3, 0, 2, []), 6) := rfl
theorem T_33_6 : hTab 33 6 = some ((24, 2, Int.ofNat 1, []), 9) := rfl
theorem T_33_9 : hTab 33 9 = some ((19, 3, Int.ofNat 21, []), 12) := rfl
theorem T_33_21 : hTab 33 21 = some ((0, 0, (-1), []), 22) := rfl
theorem T_33_22 : hTab 33 22 = some ((22, 0, Int.ofNat 35, []), 25) := rfl
theorem T_33_35 : hTab 33 35 = some ((33, 1, 0, []), 36) := rfl
theorem T_39_0 : hTab 39 0 = some ((3, 1, 0, []), 1) := rfl
theorem T_39_1 : hTab 39 1 = some ((18, 1, Int.ofNat 8, []), 4) := rfl
theorem T_39_4 : hTab 39 4 = some ((0, 0, 0, []), 5) := rfl
theorem T_39_5 : hTab 39 5 = some ((22, 0, Int.ofNat 10, []), 8) := rfl
theorem T_39_10 : hTab 39 10 = some ((4, 4, 0, []), 12) := rfl
theorem T_39_12 : hTab 39 12 = some ((3, 4, 0, []), 14) := rfl
theorem T_39_14 : hTab 39 14 = some ((4, 5, 0, []), 16) := rfl
theorem T_39_16 : hTab 39 16 = some ((3, 5, 0, []), 18) := rfl
theorem T_39_18 : hTab 39 18 = some ((3, 4, 0, []), 20) := rfl
theorem T_39_20 : hTab 39 20 = some ((0, 0, 48, []), 22) := rfl
theorem T_39_22 : hTab 39 22 = some ((10, 0, 0, []), 23) := rfl
theorem T_39_23 : hTab 39 23 = some ((19, 3, Int.ofNat 68, []), 26) := rfl
theorem T_39_26 : hTab 39 26 = some ((3, 0, 2, []), 27) := rfl
theorem T_39_27 : hTab 39 27 = some ((24, 7, Int.ofNat 3, []), 30) := rfl
theorem T_39_30 : hTab 39 30 = some ((3, 5, 0, []), 32) := rfl
theorem T_39_32 : hTab 39 32 = some ((26, 10, 0, []), 33) := rfl
theorem T_39_33 : hTab 39 33 = some ((24, 9, Int.ofNat 0, []), 36) := rfl
theorem T_39_36 : hTab 39 36 = some ((18, 0, Int.ofNat 62, []), 39) := rfl
theorem T_39_62 : hTab 39 62 = some ((5, 5, 1, []), 65) := rfl
theorem T_39_65 : hTab 39 65 = some ((22, 0, Int.ofNat 16, []), 68) := rfl
theorem T_39_68 : hTab 39 68 = some ((2, 0, 0, []), 69) := rfl
theorem T_39_69 : hTab 39 69 = some ((33, 4, 0, []), 70) := rfl
theorem T_73_0 : hTab 73 0 = some ((3, 0, 2, []), 1) := rfl
theorem T_73_1 : hTab 73 1 = some ((24, 2, Int.ofNat 1, []), 4) := rfl
theorem T_73_4 : hTab 73 4 = some ((3, 0, 2, []), 5) := rfl
theorem T_73_5 : hTab 73 5 = some ((24, 2, Int.ofNat 0, []), 8) := rfl
theorem T_73_8 : hTab 73 8 = some ((28, 0, 0, []), 9) := rfl
theorem T_73_9 : hTab 73 9 = some ((19, 2, Int.ofNat 14, []), 12) := rfl
theorem T_73_14 : hTab 73 14 = some ((3, 0, 2, []), 15) := rfl
theorem T_73_15 : hTab 73 15 = some ((24, 2, Int.ofNat 0, []), 18) := rfl
theorem T_73_18 : hTab 73 18 = some ((3, 0, 2, []), 19) := rfl
theorem T_73_19 : hTab 73 19 = some ((24, 2, Int.ofNat 1, []), 22) := rfl
theorem T_73_22 : hTab 73 22 = some ((3, 1, 0, []), 23) := rfl
theorem T_73_23 : hTab 73 23 = some ((16, 0, 0, []), 24) := rfl
theorem T_73_24 : hTab 73 24 = some ((27, 1, 0, []), 25) := rfl
theorem T_73_25 : hTab 73 25 = some ((3, 0, 2, []), 26) := rfl
theorem T_73_26 : hTab 73 26 = some ((6, 0, 0, []), 27) := rfl
theorem T_73_27 : hTab 73 27 = some ((24, 2, Int.ofNat 1, []), 30) := rfl
theorem T_73_30 : hTab 73 30 = some ((0, 0, 1, []), 31) := rfl
theorem T_73_31 : hTab 73 31 = some ((10, 0, 0, []), 32) := rfl
theorem T_73_32 : hTab 73 32 = some ((25, 2, Int.ofNat 1, []), 35) := rfl
theorem T_73_35 : hTab 73 35 = some ((0, 0, 1, []), 36) := rfl
theorem T_73_36 : hTab 73 36 = some ((33, 2, 0, []), 37) := rfl
theorem T_96_0 : hTab 96 0 = some ((3, 0, 2, []), 1) := rfl
theorem T_96_1 : hTab 96 1 = some ((24, 0, Int.ofNat 0, []), 4) := rfl
theorem T_96_4 : hTab 96 4 = some ((3, 1, 0, []), 5) := rfl
theorem T_96_5 : hTab 96 5 = some ((31, 97, 0, []), 8) := rfl
theorem T_96_8 : hTab 96 8 = some ((4, 2, 2, []), 9) := rfl
theorem T_96_9 : hTab 96 9 = some ((3, 2, 2, []), 10) := rfl
theorem T_96_10 : hTab 96 10 = some ((20, 1, Int.ofNat 16, []), 13) := rfl
theorem T_96_13 : hTab 96 13 = some ((0, 0, (-100), []), 15) := rfl
theorem T_96_15 : hTab 96 15 = some ((33, 1, 0, []), 16) := rfl
theorem T_97_0 : hTab 97 0 = some ((3, 1, 0, []), 1) := rfl
theorem T_97_1 : hTab 97 1 = some ((18, 2, Int.ofNat 26, []), 4) := rfl
theorem T_97_4 : hTab 97 4 = some ((3, 1, 0, []), 5) := rfl
theorem T_97_5 : hTab 97 5 = some ((0, 0, 8, []), 7) := rfl
theorem T_97_7 : hTab 97 7 = some ((19, 3, Int.ofNat 26, []), 10) := rfl
theorem T_97_10 : hTab 97 10 = some ((3, 0, 2, []), 11) := rfl
theorem T_97_11 : hTab 97 11 = some ((24, 1, Int.ofNat 11, []), 14) := rfl
theorem T_97_14 : hTab 97 14 = some ((3, 1, 0, []), 15) := rfl
theorem T_97_15 : hTab 97 15 = some ((26, 10, 0, []), 16) := rfl
theorem T_97_16 : hTab 97 16 = some ((24, 6, Int.ofNat 5, []), 19) := rfl
theorem T_97_19 : hTab 97 19 = some ((18, 0, Int.ofNat 26, []), 22) := rfl
theorem T_97_26 : hTab 97 26 = some ((0, 0, 0, []), 27) := rfl
theorem T_97_27 : hTab 97 27 = some ((4, 2, 0, []), 28) := rfl
theorem T_97_28 : hTab 97 28 = some ((3, 2, 0, []), 29) := rfl
theorem T_97_29 : hTab 97 29 = some ((18, 0, Int.ofNat 41, []), 32) := rfl
theorem T_97_41 : hTab 97 41 = some ((2, 0, 0, []), 42) := rfl
theorem T_97_42 : hTab 97 42 = some ((33, 4, 0, []), 43) := rfl
theorem T_122_0 : hTab 122 0 = some ((3, 0, 2, []), 1) := rfl
theorem T_122_1 : hTab 122 1 = some ((24, 1, Int.ofNat 10, []), 4) := rfl
theorem T_122_4 : hTab 122 4 = some ((3, 1, 0, []), 5) := rfl
theorem T_122_5 : hTab 122 5 = some ((18, 2, Int.ofNat 13, []), 8) := rfl
theorem T_122_8 : hTab 122 8 = some ((3, 1, 0, []), 9) := rfl
theorem T_122_9 : hTab 122 9 = some ((0, 0, 3, []), 10) := rfl
theorem T_122_10 : hTab 122 10 = some ((19, 2, Int.ofNat 17, []), 13) := rfl
theorem T_122_17 : hTab 122 17 = some ((3, 1, 0, []), 18) := rfl
theorem T_122_18 : hTab 122 18 = some ((26, 10, 0, []), 19) := rfl
theorem T_122_19 : hTab 122 19 = some ((33, 4, 0, []), 20) := rfl
theorem T_204_0 : hTab 204 0 = some ((3, 1, 0, []), 1) := rfl
theorem T_204_1 : hTab 204 1 = some ((18, 2, Int.ofNat 9, []), 4) := rfl
theorem T_204_4 : hTab 204 4 = some ((3, 1, 0, []), 5) := rfl
theorem T_204_5 : hTab 204 5 = some ((0, 0, 4, []), 6) := rfl
theorem T_204_6 : hTab 204 6 = some ((19, 2, Int.ofNat 14, []), 9) := rfl
theorem T_204_9 : hTab 204 9 = some ((0, 0, (-100), []), 11) := rfl
theorem T_204_11 : hTab 204 11 = some ((22, 0, Int.ofNat 22, []), 14) := rfl
theorem T_204_22 : hTab 204 22 = some ((33, 1, 0, []), 23) := rfl
theorem T_206_0 : hTab 206 0 = some ((3, 0, 2, []), 1) := rfl
theorem T_206_1 : hTab 206 1 = some ((24, 0, Int.ofNat 0, []), 4) := rfl
theorem T_206_4 : hTab 206 4 = some ((3, 1, 0, []), 5) := rfl
theorem T_206_5 : hTab 206 5 = some ((31, 97, 0, []), 8) := rfl
theorem T_206_8 : hTab 206 8 = some ((4, 3, 2, []), 9) := rfl
theorem T_206_9 : hTab 206 9 = some ((3, 3, 2, []), 10) := rfl
theorem T_206_10 : hTab 206 10 = some ((20, 1, Int.ofNat 17, []), 13) := rfl
theorem T_206_13 : hTab 206 13 = some ((0, 0, (-1), []), 14) := rfl
theorem T_206_14 : hTab 206 14 = some ((22, 0, Int.ofNat 25, []), 17) := rfl
theorem T_206_25 : hTab 206 25 = some ((33, 1, 0, []), 26) := rfl
theorem T_207_0 : hTab 207 0 = some ((3, 0, 2, []), 1) := rfl
theorem T_207_1 : hTab 207 1 = some ((24, 0, Int.ofNat 0, []), 4) := rfl
theorem T_207_4 : hTab 207 4 = some ((3, 1, 0, []), 5) := rfl
theorem T_207_5 : hTab 207 5 = some ((31, 97, 0, []), 8) := rfl
theorem T_207_8 : hTab 207 8 = some ((4, 2, 2, []), 9) := rfl
theorem T_207_9 : hTab 207 9 = some ((3, 2, 2, []), 10) := rfl
theorem T_207_10 : hTab 207 10 = some ((20, 1, Int.ofNat 16, []), 13) := rfl
theorem T_207_13 : hTab 207 13 = some ((0, 0, (-100), []), 15) := rfl
theorem T_207_15 : hTab 207 15 = some ((33, 1, 0, []), 16) := rfl
theorem T_208_0 : hTab 208 0 = some ((3, 0, 2, []), 1) := rfl
theorem T_208_1 : hTab 208 1 = some ((24, 0, Int.ofNat 0, []), 4) := rfl
theorem T_208_4 : hTab 208 4 = some ((24, 1, Int.ofNat 0, []), 7) := rfl
theorem T_208_7 : hTab 208 7 = some ((3, 1, 0, []), 8) := rfl
theorem T_208_8 : hTab 208 8 = some ((31, 209, 0, []), 11) := rfl
theorem T_208_11 : hTab 208 11 = some ((33, 1, 0, []), 12) := rfl
theorem T_209_0 : hTab 209 0 = some ((3, 1, 0, []), 1) := rfl
theorem T_209_1 : hTab 209 1 = some ((18, 2, Int.ofNat 11, []), 4) := rfl
theorem T_209_4 : hTab 209 4 = some ((3, 1, 0, []), 5) := rfl
theorem T_209_5 : hTab 209 5 = some ((0, 0, 255, []), 8) := rfl
theorem T_209_8 : hTab 209 8 = some ((19, 5, Int.ofNat 14, []), 11) := rfl
theorem T_209_11 : hTab 209 11 = some ((0, 0, (-100), []), 13) := rfl
theorem T_209_13 : hTab 209 13 = some ((33, 1, 0, []), 14) := rfl
theorem T_209_14 : hTab 209 14 = some ((3, 0, 2, []), 15) := rfl
theorem T_209_15 : hTab 209 15 = some ((3, 1, 0, []), 16) := rfl
theorem T_209_16 : hTab 209 16 = some ((31, 73, 0, []), 19) := rfl
theorem T_209_19 : hTab 209 19 = some ((18, 0, Int.ofNat 29, []), 22) := rfl
theorem T_209_22 : hTab 209 22 = some ((3, 0, 2, []), 23) := rfl
theorem T_209_23 : hTab 209 23 = some ((31, 28, 0, []), 26) := rfl
theorem T_209_26 : hTab 209 26 = some ((22, 0, Int.ofNat 31, []), 29) := rfl
theorem T_209_31 : hTab 209 31 = some ((33, 1, 0, []), 32) := rfl
theorem T_210_0 : hTab 210 0 = some ((3, 0, 2, []), 1) := rfl
theorem T_210_1 : hTab 210 1 = some ((24, 0, Int.ofNat 0, []), 4) := rfl
theorem T_210_4 : hTab 210 4 = some ((24, 1, Int.ofNat 1, []), 7) := rfl
theorem T_210_7 : hTab 210 7 = some ((3, 1, 0, []), 8) := rfl
theorem T_210_8 : hTab 210 8 = some ((31, 33, 0, []), 11) := rfl
theorem T_210_11 : hTab 210 11 = some ((33, 1, 0, []), 12) := rfl
theorem T_212_0 : hTab 212 0 = some ((3, 0, 2, []), 1) := rfl
theorem T_212_1 : hTab 212 1 = some ((24, 0, Int.ofNat 0, []), 4) := rfl
theorem T_212_4 : hTab 212 4 = some ((3, 1, 0, []), 5) := rfl
theorem T_212_5 : hTab 212 5 = some ((31, 213, 0, []), 8) := rfl
theorem T_212_8 : hTab 212 8 = some ((4, 3, 2, []), 9) := rfl
theorem T_212_9 : hTab 212 9 = some ((3, 3, 2, []), 10) := rfl
theorem T_212_10 : hTab 212 10 = some ((20, 1, Int.ofNat 17, []), 13) := rfl
theorem T_212_13 : hTab 212 13 = some ((0, 0, (-1), []), 14) := rfl
theorem T_212_14 : hTab 212 14 = some ((22, 0, Int.ofNat 22, []), 17) := rfl
theorem T_212_17 : hTab 212 17 = some ((3, 3, 2, []), 18) := rfl
theorem T_212_18 : hTab 212 18 = some ((3, 2, 0, []), 19) := rfl
theorem T_212_19 : hTab 212 19 = some ((31, 33, 0, []), 22) := rfl
theorem T_212_22 : hTab 212 22 = some ((33, 1, 0, []), 23) := rfl
theorem T_213_0 : hTab 213 0 = some ((3, 1, 0, []), 1) := rfl
theorem T_213_1 : hTab 213 1 = some ((18, 2, Int.ofNat 23, []), 4) := rfl
theorem T_213_4 : hTab 213 4 = some ((3, 1, 0, []), 5) := rfl
theorem T_213_5 : hTab 213 5 = some ((3, 0, 2, []), 6) := rfl
theorem T_213_6 : hTab 213 6 = some ((24, 1, Int.ofNat 3, []), 9) := rfl
theorem T_213_9 : hTab 213 9 = some ((19, 3, Int.ofNat 23, []), 12) := rfl
theorem T_213_12 : hTab 213 12 = some ((3, 1, 0, []), 13) := rfl
theorem T_213_13 : hTab 213 13 = some ((3, 0, 2, []), 14) := rfl
theorem T_213_14 : hTab 213 14 = some ((24, 1, Int.ofNat 3, []), 17) := rfl
theorem T_213_17 : hTab 213 17 = some ((0, 0, 40, []), 19) := rfl
theorem T_213_19 : hTab 213 19 = some ((10, 1, 0, []), 20) := rfl
theorem T_213_20 : hTab 213 20 = some ((19, 3, Int.ofNat 27, []), 23) := rfl
theorem T_213_23 : hTab 213 23 = some ((2, 0, 0, []), 24) := rfl
theorem T_213_24 : hTab 213 24 = some ((22, 0, Int.ofNat 36, []), 27) := rfl
theorem T_213_27 : hTab 213 27 = some ((3, 0, 2, []), 28) := rfl
theorem T_213_28 : hTab 213 28 = some ((24, 1, Int.ofNat 9, []), 31) := rfl
theorem T_213_31 : hTab 213 31 = some ((3, 1, 0, []), 32) := rfl
theorem T_213_32 : hTab 213 32 = some ((0, 0, 40, []), 34) := rfl
theorem T_213_34 : hTab 213 34 = some ((10, 4, 0, []), 35) := rfl
theorem T_213_35 : hTab 213 35 = some ((26, 10, 0, []), 36) := rfl
theorem T_213_36 : hTab 213 36 = some ((33, 4, 0, []), 37) := rfl
theorem T_214_0 : hTab 214 0 = some ((3, 0, 2, []), 1) := rfl
theorem T_214_1 : hTab 214 1 = some ((24, 0, Int.ofNat 0, []), 4) := rfl
theorem T_214_4 : hTab 214 4 = some ((24, 1, Int.ofNat 4, []), 7) := rfl
theorem T_214_7 : hTab 214 7 = some ((33, 3, 0, []), 8) := rfl
theorem T_215_0 : hTab 215 0 = some ((3, 0, 2, []), 1) := rfl
theorem T_215_1 : hTab 215 1 = some ((24, 0, Int.ofNat 4, []), 4) := rfl
theorem T_215_4 : hTab 215 4 = some ((3, 1, 0, []), 5) := rfl
theorem T_215_5 : hTab 215 5 = some ((31, 209, 0, []), 8) := rfl
theorem T_215_8 : hTab 215 8 = some ((33, 1, 0, []), 9) := rfl
theorem T_216_0 : hTab 216 0 = some ((3, 1, 0, []), 1) := rfl
theorem T_216_1 : hTab 216 1 = some ((18, 2, Int.ofNat 9, []), 4) := rfl
theorem T_216_4 : hTab 216 4 = some ((3, 1, 0, []), 5) := rfl
theorem T_216_5 : hTab 216 5 = some ((0, 0, 3, []), 6) := rfl
theorem T_216_6 : hTab 216 6 = some ((19, 2, Int.ofNat 12, []), 9) := rfl
theorem T_216_9 : hTab 216 9 = some ((0, 0, (-100), []), 11) := rfl
theorem T_216_11 : hTab 216 11 = some ((33, 1, 0, []), 12) := rfl
theorem T_217_0 : hTab 217 0 = some ((3, 0, 2, []), 1) := rfl
theorem T_217_1 : hTab 217 1 = some ((24, 0, Int.ofNat 5, []), 4) := rfl
theorem T_217_4 : hTab 217 4 = some ((3, 1, 0, []), 5) := rfl
theorem T_217_5 : hTab 217 5 = some ((31, 33, 0, []), 8) := rfl
theorem T_217_8 : hTab 217 8 = some ((33, 1, 0, []), 9) := rfl
theorem T_218_0 : hTab 218 0 = some ((3, 0, 2, []), 1) := rfl
theorem T_218_1 : hTab 218 1 = some ((24, 0, Int.ofNat 0, []), 4) := rfl
theorem T_218_4 : hTab 218 4 = some ((3, 1, 0, []), 5) := rfl
theorem T_218_5 : hTab 218 5 = some ((31, 97, 0, []), 8) := rfl
theorem T_218_8 : hTab 218 8 = some ((4, 3, 2, []), 9) := rfl
theorem T_218_9 : hTab 218 9 = some ((3, 3, 2, []), 10) := rfl
theorem T_218_10 : hTab 218 10 = some ((20, 1, Int.ofNat 15, []), 13) := rfl
theorem T_218_13 : hTab 218 13 = some ((0, 0, (-1), []), 14) := rfl
theorem T_218_14 : hTab 218 14 = some ((33, 1, 0, []), 15) := rfl
theorem T_219_0 : hTab 219 0 = some ((3, 0, 2, []), 1) := rfl
theorem T_219_1 : hTab 219 1 = some ((24, 0, Int.ofNat 0, []), 4) := rfl
theorem T_219_4 : hTab 219 4 = some ((3, 1, 0, []), 5) := rfl
theorem T_219_5 : hTab 219 5 = some ((31, 97, 0, []), 8) := rfl
theorem T_219_8 : hTab 219 8 = some ((4, 4, 2, []), 10) := rfl
theorem T_219_10 : hTab 219 10 = some ((3, 4, 2, []), 12) := rfl
theorem T_219_12 : hTab 219 12 = some ((20, 1, Int.ofNat 19, []), 15) := rfl
theorem T_219_15 : hTab 219 15 = some ((2, 0, 0, []), 16) := rfl
theorem T_219_16 : hTab 219 16 = some ((22, 0, Int.ofNat 25, []), 19) := rfl
theorem T_219_25 : hTab 219 25 = some ((4, 5, 2, []), 27) := rfl
theorem T_219_27 : hTab 219 27 = some ((3, 5, 2, []), 29) := rfl
theorem T_219_29 : hTab 219 29 = some ((20, 1, Int.ofNat 36, []), 32) := rfl
theorem T_219_32 : hTab 219 32 = some ((0, 0, (-1), []), 33) := rfl
theorem T_219_33 : hTab 219 33 = some ((22, 0, Int.ofNat 42, []), 36) := rfl
theorem T_219_42 : hTab 219 42 = some ((33, 1, 0, []), 43) := rfl
theorem T_220_0 : hTab 220 0 = some ((3, 0, 2, []), 1) := rfl
theorem T_220_1 : hTab 220 1 = some ((24, 0, Int.ofNat 0, []), 4) := rfl
theorem T_220_4 : hTab 220 4 = some ((3, 1, 0, []), 5) := rfl
theorem T_220_5 : hTab 220 5 = some ((31, 97, 0, []), 8) := rfl
theorem T_220_8 : hTab 220 8 = some ((4, 3, 2, []), 9) := rfl
theorem T_220_9 : hTab 220 9 = some ((3, 3, 2, []), 10) := rfl
theorem T_220_10 : hTab 220 10 = some ((20, 1, Int.ofNat 17, []), 13) := rfl
theorem T_220_13 : hTab 220 13 = some ((0, 0, (-1), []), 14) := rfl
theorem T_220_14 : hTab 220 14 = some ((22, 0, Int.ofNat 25, []), 17) := rfl
theorem T_220_25 : hTab 220 25 = some ((33, 1, 0, []), 26) := rfl
theorem T_221_0 : hTab 221 0 = some ((3, 0, 2, []), 1) := rfl
theorem T_221_1 : hTab 221 1 = some ((24, 0, Int.ofNat 0, []), 4) := rfl
theorem T_221_4 : hTab 221 4 = some ((3, 1, 0, []), 5) := rfl
theorem T_221_5 : hTab 221 5 = some ((31, 97, 0, []), 8) := rfl
theorem T_221_8 : hTab 221 8 = some ((4, 4, 2, []), 10) := rfl
theorem T_221_10 : hTab 221 10 = some ((3, 4, 2, []), 12) := rfl
theorem T_221_12 : hTab 221 12 = some ((20, 1, Int.ofNat 19, []), 15) := rfl
theorem T_221_15 : hTab 221 15 = some ((2, 0, 0, []), 16) := rfl
theorem T_221_16 : hTab 221 16 = some ((22, 0, Int.ofNat 28, []), 19) := rfl
theorem T_221_28 : hTab 221 28 = some ((4, 5, 2, []), 30) := rfl
theorem T_221_30 : hTab 221 30 = some ((3, 5, 2, []), 32) := rfl
theorem T_221_32 : hTab 221 32 = some ((20, 1, Int.ofNat 37, []), 35) := rfl
theorem T_221_35 : hTab 221 35 = some ((0, 0, (-1), []), 36) := rfl
theorem T_221_36 : hTab 221 36 = some ((33, 1, 0, []), 37) := rfl
theorem T_222_0 : hTab 222 0 = some ((3, 0, 2, []), 1) := rfl
theorem T_222_1 : hTab 222 1 = some ((24, 0, Int.ofNat 0, []), 4) := rfl
theorem T_222_4 : hTab 222 4 = some ((3, 1, 0, []), 5) := rfl
theorem T_222_5 : hTab 222 5 = some ((31, 97, 0, []), 8) := rfl
theorem T_222_8 : hTab 222 8 = some ((4, 5, 2, []), 10) := rfl
theorem T_222_10 : hTab 222 10 = some ((3, 5, 2, []), 12) := rfl
theorem T_222_12 : hTab 222 12 = some ((20, 1, Int.ofNat 19, []), 15) := rfl
theorem T_222_15 : hTab 222 15 = some ((2, 0, 0, []), 16) := rfl
theorem T_222_16 : hTab 222 16 = some ((22, 0, Int.ofNat 28, []), 19) := rfl
theorem T_222_28 : hTab 222 28 = some ((4, 6, 2, []), 30) := rfl
theorem T_222_30 : hTab 222 30 = some ((3, 6, 2, []), 32) := rfl
theorem T_222_32 : hTab 222 32 = some ((20, 1, Int.ofNat 39, []), 35) := rfl
theorem T_222_35 : hTab 222 35 = some ((2, 0, 0, []), 36) := rfl
theorem T_222_36 : hTab 222 36 = some ((22, 0, Int.ofNat 45, []), 39) := rfl
theorem T_222_45 : hTab 222 45 = some ((4, 7, 2, []), 47) := rfl
theorem T_222_47 : hTab 222 47 = some ((3, 7, 2, []), 49) := rfl
theorem T_222_49 : hTab 222 49 = some ((20, 1, Int.ofNat 54, []), 52) := rfl
theorem T_222_52 : hTab 222 52 = some ((0, 0, (-1), []), 53) := rfl
theorem T_222_53 : hTab 222 53 = some ((33, 1, 0, []), 54) := rfl
theorem T_223_0 : hTab 223 0 = some ((3, 0, 2, []), 1) := rfl
theorem T_223_1 : hTab 223 1 = some ((24, 0, Int.ofNat 0, []), 4) := rfl
theorem T_223_4 : hTab 223 4 = some ((3, 1, 0, []), 5) := rfl
theorem T_223_5 : hTab 223 5 = some ((31, 97, 0, []), 8) := rfl
theorem T_223_8 : hTab 223 8 = some ((4, 4, 2, []), 10) := rfl
theorem T_223_10 : hTab 223 10 = some ((3, 4, 2, []), 12) := rfl
theorem T_223_12 : hTab 223 12 = some ((20, 1, Int.ofNat 19, []), 15) := rfl
theorem T_223_15 : hTab 223 15 = some ((2, 0, 0, []), 16) := rfl
theorem T_223_16 : hTab 223 16 = some ((22, 0, Int.ofNat 25, []), 19) := rfl
theorem T_223_25 : hTab 223 25 = some ((4, 5, 2, []), 27) := rfl
theorem T_223_27 : hTab 223 27 = some ((3, 5, 2, []), 29) := rfl
theorem T_223_29 : hTab 223 29 = some ((20, 1, Int.ofNat 34, []), 32) := rfl
theorem T_223_32 : hTab 223 32 = some ((0, 0, (-1), []), 33) := rfl
theorem T_223_33 : hTab 223 33 = some ((33, 1, 0, []), 34) := rfl
theorem T_224_0 : hTab 224 0 = some ((3, 1, 0, []), 1) := rfl
theorem T_224_1 : hTab 224 1 = some ((18, 2, Int.ofNat 9, []), 4) := rfl
theorem T_224_4 : hTab 224 4 = some ((3, 1, 0, []), 5) := rfl
theorem T_224_5 : hTab 224 5 = some ((0, 0, 3, []), 6) := rfl
theorem T_224_6 : hTab 224 6 = some ((19, 2, Int.ofNat 12, []), 9) := rfl
theorem T_224_9 : hTab 224 9 = some ((0, 0, (-100), []), 11) := rfl
theorem T_224_11 : hTab 224 11 = some ((33, 1, 0, []), 12) := rfl
theorem T_224_12 : hTab 224 12 = some ((3, 0, 2, []), 13) := rfl
theorem T_224_13 : hTab 224 13 = some ((24, 0, Int.ofNat 0, []), 16) := rfl
theorem T_224_16 : hTab 224 16 = some ((3, 1, 0, []), 17) := rfl
theorem T_224_17 : hTab 224 17 = some ((31, 122, 0, []), 20) := rfl
theorem T_224_20 : hTab 224 20 = some ((4, 3, 2, []), 21) := rfl
theorem T_224_21 : hTab 224 21 = some ((3, 2, 0, []), 22) := rfl
theorem T_224_22 : hTab 224 22 = some ((23, 94, 0, [60, 65, 70, 76, 82, 88]), 60) := rfl
theorem T_224_94 : hTab 224 94 = some ((0, 0, (-100), []), 96) := rfl
theorem T_224_96 : hTab 224 96 = some ((33, 1, 0, []), 97) := rfl
theorem T_226_0 : hTab 226 0 = some ((3, 1, 0, []), 1) := rfl
theorem T_226_1 : hTab 226 1 = some ((18, 2, Int.ofNat 9, []), 4) := rfl
theorem T_226_4 : hTab 226 4 = some ((3, 1, 0, []), 5) := rfl
theorem T_226_5 : hTab 226 5 = some ((0, 0, 3, []), 6) := rfl
theorem T_226_6 : hTab 226 6 = some ((19, 2, Int.ofNat 13, []), 9) := rfl
theorem T_226_9 : hTab 226 9 = some ((2, 0, 0, []), 10) := rfl
theorem T_226_10 : hTab 226 10 = some ((22, 0, Int.ofNat 27, []), 13) := rfl
theorem T_226_13 : hTab 226 13 = some ((3, 0, 2, []), 14) := rfl
theorem T_226_14 : hTab 226 14 = some ((24, 0, Int.ofNat 0, []), 17) := rfl
theorem T_226_17 : hTab 226 17 = some ((3, 1, 0, []), 18) := rfl
theorem T_226_18 : hTab 226 18 = some ((31, 122, 0, []), 21) := rfl
theorem T_226_21 : hTab 226 21 = some ((0, 0, 0, []), 22) := rfl
theorem T_226_22 : hTab 226 22 = some ((3, 2, 0, []), 23) := rfl
theorem T_226_23 : hTab 226 23 = some ((14, 0, 0, []), 24) := rfl
theorem T_226_24 : hTab 226 24 = some ((31, 39, 0, []), 27) := rfl
theorem T_226_27 : hTab 226 27 = some ((4, 4, 2, []), 29) := rfl
theorem T_226_29 : hTab 226 29 = some ((3, 4, 2, []), 31) := rfl
theorem T_226_31 : hTab 226 31 = some ((20, 1, Int.ofNat 36, []), 34) := rfl
theorem T_226_34 : hTab 226 34 = some ((0, 0, (-1), []), 35) := rfl
theorem T_226_35 : hTab 226 35 = some ((33, 1, 0, []), 36) := rfl
theorem T_243_0 : hTab 243 0 = some ((0, 0, 48, []), 2) := rfl
theorem T_243_2 : hTab 243 2 = some ((0, 0, 2, []), 3) := rfl
theorem T_243_3 : hTab 243 3 = some ((3, 0, 0, []), 4) := rfl
theorem T_243_4 : hTab 243 4 = some ((10, 2, 0, []), 5) := rfl
theorem T_243_5 : hTab 243 5 = some ((3, 1, 0, []), 6) := rfl
theorem T_243_6 : hTab 243 6 = some ((10, 0, 0, []), 7) := rfl
theorem T_243_7 : hTab 243 7 = some ((10, 2, 0, []), 8) := rfl
theorem T_243_8 : hTab 243 8 = some ((33, 1, 0, []), 9) := rfl
theorem T_261_0 : hTab 261 0 = some ((3, 1, 0, []), 1) := rfl
theorem T_261_1 : hTab 261 1 = some ((3, 2, 0, []), 2) := rfl
theorem T_261_2 : hTab 261 2 = some ((31, 243, 0, []), 5) := rfl
theorem T_261_5 : hTab 261 5 = some ((4, 5, 0, []), 7) := rfl
theorem T_261_7 : hTab 261 7 = some ((3, 5, 0, []), 9) := rfl
theorem T_261_9 : hTab 261 9 = some ((3, 1, 0, []), 10) := rfl
theorem T_261_10 : hTab 261 10 = some ((3, 2, 0, []), 11) := rfl
theorem T_261_11 : hTab 261 11 = some ((31, 243, 0, []), 14) := rfl
theorem T_261_14 : hTab 261 14 = some ((0, 0, 48, []), 16) := rfl
theorem T_261_16 : hTab 261 16 = some ((10, 0, 0, []), 17) := rfl
theorem T_261_17 : hTab 261 17 = some ((19, 3, Int.ofNat 51, []), 20) := rfl
theorem T_261_20 : hTab 261 20 = some ((3, 0, 2, []), 21) := rfl
theorem T_261_21 : hTab 261 21 = some ((24, 17, Int.ofNat 28, []), 24) := rfl
theorem T_261_24 : hTab 261 24 = some ((3, 5, 0, []), 26) := rfl
theorem T_261_26 : hTab 261 26 = some ((26, 2, 0, []), 27) := rfl
theorem T_261_27 : hTab 261 27 = some ((18, 0, Int.ofNat 45, []), 30) := rfl
theorem T_261_45 : hTab 261 45 = some ((5, 5, 1, []), 48) := rfl
theorem T_261_48 : hTab 261 48 = some ((22, 0, Int.ofNat 7, []), 51) := rfl
theorem T_261_51 : hTab 261 51 = some ((0, 0, (-1), []), 52) := rfl
theorem T_261_52 : hTab 261 52 = some ((33, 1, 0, []), 53) := rfl
theorem T_282_0 : hTab 282 0 = some ((3, 0, 1, []), 1) := rfl
theorem T_282_1 : hTab 282 1 = some ((3, 2, 1, []), 2) := rfl
theorem T_282_2 : hTab 282 2 = some ((17, 0, 0, []), 3) := rfl
theorem T_282_3 : hTab 282 3 = some ((18, 2, Int.ofNat 17, []), 6) := rfl
theorem T_282_6 : hTab 282 6 = some ((3, 0, 1, []), 7) := rfl
theorem T_282_7 : hTab 282 7 = some ((3, 4, 1, []), 9) := rfl
theorem T_282_9 : hTab 282 9 = some ((17, 0, 0, []), 10) := rfl
theorem T_282_10 : hTab 282 10 = some ((18, 4, Int.ofNat 17, []), 13) := rfl
theorem T_282_13 : hTab 282 13 = some ((0, 0, 1, []), 14) := rfl
theorem T_282_14 : hTab 282 14 = some ((22, 0, Int.ofNat 18, []), 17) := rfl
theorem T_282_17 : hTab 282 17 = some ((0, 0, 0, []), 18) := rfl
theorem T_282_18 : hTab 282 18 = some ((33, 2, 0, []), 19) := rfl
theorem T_307_0 : hTab 307 0 = some ((3, 0, 2, []), 1) := rfl
theorem T_307_1 : hTab 307 1 = some ((3, 1, 0, []), 2) := rfl
theorem T_307_2 : hTab 307 2 = some ((31, 308, 0, []), 5) := rfl
theorem T_307_5 : hTab 307 5 = some ((18, 1, Int.ofNat 11, []), 8) := rfl
theorem T_307_8 : hTab 307 8 = some ((0, 0, (-100), []), 10) := rfl
theorem T_307_10 : hTab 307 10 = some ((33, 1, 0, []), 11) := rfl
theorem T_308_0 : hTab 308 0 = some ((3, 1, 0, []), 1) := rfl
theorem T_308_1 : hTab 308 1 = some ((14, 0, 0, []), 2) := rfl
theorem T_308_2 : hTab 308 2 = some ((1, 0, 0, []), 3) := rfl
theorem T_308_3 : hTab 308 3 = some ((1, 0, 7, []), 6) := rfl
theorem T_308_6 : hTab 308 6 = some ((31, 282, 0, []), 9) := rfl
theorem T_308_9 : hTab 308 9 = some ((18, 0, Int.ofNat 25, []), 12) := rfl
theorem T_308_12 : hTab 308 12 = some ((3, 0, 2, []), 13) := rfl
theorem T_308_13 : hTab 308 13 = some ((24, 17, Int.ofNat 50, []), 16) := rfl
theorem T_308_16 : hTab 308 16 = some ((3, 1, 0, []), 17) := rfl
theorem T_308_17 : hTab 308 17 = some ((26, 2, 0, []), 18) := rfl
theorem T_308_18 : hTab 308 18 = some ((18, 0, Int.ofNat 25, []), 21) := rfl
theorem T_308_25 : hTab 308 25 = some ((0, 0, 0, []), 26) := rfl
theorem T_308_26 : hTab 308 26 = some ((33, 2, 0, []), 27) := rfl
theorem T_403_0 : hTab 403 0 = some ((3, 1, 0, []), 1) := rfl
theorem T_403_1 : hTab 403 1 = some ((14, 0, 0, []), 2) := rfl
theorem T_403_2 : hTab 403 2 = some ((1, 0, 0, []), 3) := rfl
theorem T_403_3 : hTab 403 3 = some ((1, 0, 3, []), 6) := rfl
theorem T_403_6 : hTab 403 6 = some ((31, 282, 0, []), 9) := rfl
theorem T_403_9 : hTab 403 9 = some ((18, 1, Int.ofNat 15, []), 12) := rfl
theorem T_403_12 : hTab 403 12 = some ((0, 0, (-100), []), 14) := rfl
theorem T_403_14 : hTab 403 14 = some ((33, 1, 0, []), 15) := rfl
theorem T_404_0 : hTab 404 0 = some ((3, 0, 2, []), 1) := rfl
theorem T_404_1 : hTab 404 1 = some ((3, 1, 0, []), 2) := rfl
theorem T_404_2 : hTab 404 2 = some ((31, 308, 0, []), 5) := rfl
theorem T_404_5 : hTab 404 5 = some ((18, 0, Int.ofNat 41, []), 8) := rfl
theorem T_404_41 : hTab 404 41 = some ((0, 0, (-1), []), 42) := rfl
theorem T_404_42 : hTab 404 42 = some ((33, 1, 0, []), 43) := rfl
theorem T_405_0 : hTab 405 0 = some ((3, 0, 2, []), 1) := rfl
theorem T_405_1 : hTab 405 1 = some ((3, 1, 0, []), 2) := rfl
theorem T_405_2 : hTab 405 2 = some ((31, 308, 0, []), 5) := rfl
theorem T_405_5 : hTab 405 5 = some ((18, 1, Int.ofNat 11, []), 8) := rfl
theorem T_405_8 : hTab 405 8 = some ((0, 0, (-100), []), 10) := rfl
theorem T_405_10 : hTab 405 10 = some ((33, 1, 0, []), 11) := rfl
theorem T_406_0 : hTab 406 0 = some ((3, 1, 0, []), 1) := rfl
theorem T_406_1 : hTab 406 1 = some ((14, 0, 0, []), 2) := rfl
theorem T_406_2 : hTab 406 2 = some ((1, 0, 0, []), 3) := rfl
theorem T_406_3 : hTab 406 3 = some ((1, 0, 255, []), 6) := rfl
theorem T_406_6 : hTab 406 6 = some ((31, 282, 0, []), 9) := rfl
theorem T_406_9 : hTab 406 9 = some ((18, 1, Int.ofNat 15, []), 12) := rfl
theorem T_406_12 : hTab 406 12 = some ((0, 0, (-100), []), 14) := rfl
theorem T_406_14 : hTab 406 14 = some ((33, 1, 0, []), 15) := rfl
theorem T_406_15 : hTab 406 15 = some ((3, 0, 2, []), 16) := rfl
theorem T_406_16 : hTab 406 16 = some ((24, 17, Int.ofNat 39, []), 19) := rfl
theorem T_406_19 : hTab 406 19 = some ((0, 0, 200, []), 22) := rfl
theorem T_406_22 : hTab 406 22 = some ((19, 1, Int.ofNat 28, []), 25) := rfl
theorem T_406_28 : hTab 406 28 = some ((3, 0, 2, []), 29) := rfl
theorem T_406_29 : hTab 406 29 = some ((24, 17, Int.ofNat 38, []), 32) := rfl
theorem T_406_32 : hTab 406 32 = some ((3, 0, 2, []), 33) := rfl
theorem T_406_33 : hTab 406 33 = some ((24, 17, Int.ofNat 39, []), 36) := rfl
theorem T_406_36 : hTab 406 36 = some ((3, 1, 0, []), 37) := rfl
theorem T_406_37 : hTab 406 37 = some ((27, 0, 0, []), 38) := rfl
theorem T_406_38 : hTab 406 38 = some ((3, 0, 2, []), 39) := rfl
theorem T_406_39 : hTab 406 39 = some ((6, 0, 0, []), 40) := rfl
theorem T_406_40 : hTab 406 40 = some ((24, 17, Int.ofNat 39, []), 43) := rfl
theorem T_406_43 : hTab 406 43 = some ((0, 0, 1, []), 44) := rfl
theorem T_406_44 : hTab 406 44 = some ((10, 0, 0, []), 45) := rfl
theorem T_406_45 : hTab 406 45 = some ((25, 17, Int.ofNat 39, []), 48) := rfl
theorem T_406_48 : hTab 406 48 = some ((3, 0, 2, []), 49) := rfl
theorem T_406_49 : hTab 406 49 = some ((24, 17, Int.ofNat 39, []), 52) := rfl
theorem T_406_52 : hTab 406 52 = some ((33, 1, 0, []), 53) := rfl
theorem T_407_0 : hTab 407 0 = some ((3, 1, 0, []), 1) := rfl
theorem T_407_1 : hTab 407 1 = some ((14, 0, 0, []), 2) := rfl
theorem T_407_2 : hTab 407 2 = some ((1, 0, 0, []), 3) := rfl
theorem T_407_3 : hTab 407 3 = some ((3, 0, 2, []), 4) := rfl
theorem T_407_4 : hTab 407 4 = some ((24, 17, Int.ofNat 41, []), 7) := rfl
theorem T_407_7 : hTab 407 7 = some ((0, 0, 1, []), 8) := rfl
theorem T_407_8 : hTab 407 8 = some ((10, 1, 0, []), 9) := rfl
theorem T_407_9 : hTab 407 9 = some ((14, 0, 0, []), 10) := rfl
theorem T_407_10 : hTab 407 10 = some ((31, 282, 0, []), 13) := rfl
theorem T_407_13 : hTab 407 13 = some ((18, 0, Int.ofNat 25, []), 16) := rfl
theorem T_407_25 : hTab 407 25 = some ((0, 0, (-1), []), 26) := rfl
theorem T_407_26 : hTab 407 26 = some ((33, 1, 0, []), 27) := rfl
theorem T_409_0 : hTab 409 0 = some ((3, 1, 0, []), 1) := rfl
theorem T_409_1 : hTab 409 1 = some ((18, 2, Int.ofNat 27, []), 4) := rfl
theorem T_409_4 : hTab 409 4 = some ((3, 1, 0, []), 5) := rfl
theorem T_409_5 : hTab 409 5 = some ((3, 0, 2, []), 6) := rfl
theorem T_409_6 : hTab 409 6 = some ((24, 17, Int.ofNat 42, []), 9) := rfl
theorem T_409_9 : hTab 409 9 = some ((19, 3, Int.ofNat 27, []), 12) := rfl
theorem T_409_12 : hTab 409 12 = some ((3, 1, 0, []), 13) := rfl
theorem T_409_13 : hTab 409 13 = some ((3, 0, 2, []), 14) := rfl
theorem T_409_14 : hTab 409 14 = some ((24, 17, Int.ofNat 42, []), 17) := rfl
theorem T_409_17 : hTab 409 17 = some ((0, 0, 40, []), 19) := rfl
theorem T_409_19 : hTab 409 19 = some ((10, 1, 0, []), 20) := rfl
theorem T_409_20 : hTab 409 20 = some ((19, 2, Int.ofNat 27, []), 23) := rfl
theorem T_409_23 : hTab 409 23 = some ((0, 0, 1, []), 24) := rfl
theorem T_409_24 : hTab 409 24 = some ((22, 0, Int.ofNat 28, []), 27) := rfl
theorem T_409_27 : hTab 409 27 = some ((0, 0, 0, []), 28) := rfl
theorem T_409_28 : hTab 409 28 = some ((4, 3, 0, []), 29) := rfl
theorem T_409_29 : hTab 409 29 = some ((3, 3, 0, []), 30) := rfl
theorem T_409_30 : hTab 409 30 = some ((18, 0, Int.ofNat 72, []), 33) := rfl
theorem T_409_33 : hTab 409 33 = some ((3, 2, 0, []), 34) := rfl
theorem T_409_34 : hTab 409 34 = some ((14, 0, 0, []), 35) := rfl
theorem T_409_35 : hTab 409 35 = some ((1, 0, 0, []), 36) := rfl
theorem T_409_36 : hTab 409 36 = some ((3, 0, 2, []), 37) := rfl
theorem T_409_37 : hTab 409 37 = some ((24, 17, Int.ofNat 44, []), 40) := rfl
theorem T_409_40 : hTab 409 40 = some ((3, 1, 0, []), 41) := rfl
theorem T_409_41 : hTab 409 41 = some ((0, 0, 40, []), 43) := rfl
theorem T_409_43 : hTab 409 43 = some ((10, 4, 0, []), 44) := rfl
theorem T_409_44 : hTab 409 44 = some ((26, 0, 0, []), 45) := rfl
theorem T_409_45 : hTab 409 45 = some ((0, 0, 1, []), 46) := rfl
theorem T_409_46 : hTab 409 46 = some ((10, 1, 0, []), 47) := rfl
theorem T_409_47 : hTab 409 47 = some ((14, 0, 0, []), 48) := rfl
theorem T_409_48 : hTab 409 48 = some ((31, 282, 0, []), 51) := rfl
theorem T_409_51 : hTab 409 51 = some ((18, 0, Int.ofNat 72, []), 54) := rfl
theorem T_409_72 : hTab 409 72 = some ((0, 0, (-1), []), 73) := rfl
theorem T_409_73 : hTab 409 73 = some ((33, 1, 0, []), 74) := rfl
theorem T_410_0 : hTab 410 0 = some ((3, 0, 2, []), 1) := rfl
theorem T_410_1 : hTab 410 1 = some ((24, 17, Int.ofNat 45, []), 4) := rfl
theorem T_410_4 : hTab 410 4 = some ((33, 3, 0, []), 5) := rfl
theorem T_411_0 : hTab 411 0 = some ((3, 1, 0, []), 1) := rfl
theorem T_411_1 : hTab 411 1 = some ((14, 0, 0, []), 2) := rfl
theorem T_411_2 : hTab 411 2 = some ((1, 0, 0, []), 3) := rfl
theorem T_411_3 : hTab 411 3 = some ((1, 0, 255, []), 6) := rfl
theorem T_411_6 : hTab 411 6 = some ((31, 282, 0, []), 9) := rfl
theorem T_411_9 : hTab 411 9 = some ((18, 1, Int.ofNat 15, []), 12) := rfl
theorem T_411_12 : hTab 411 12 = some ((0, 0, (-100), []), 14) := rfl
theorem T_411_14 : hTab 411 14 = some ((33, 1, 0, []), 15) := rfl
theorem T_411_15 : hTab 411 15 = some ((3, 0, 2, []), 16) := rfl
theorem T_411_16 : hTab 411 16 = some ((24, 17, Int.ofNat 47, []), 19) := rfl
theorem T_411_19 : hTab 411 19 = some ((0, 0, 400, []), 22) := rfl
theorem T_411_22 : hTab 411 22 = some ((19, 1, Int.ofNat 28, []), 25) := rfl
theorem T_411_28 : hTab 411 28 = some ((3, 0, 2, []), 29) := rfl
theorem T_411_29 : hTab 411 29 = some ((24, 17, Int.ofNat 46, []), 32) := rfl
theorem T_411_32 : hTab 411 32 = some ((3, 0, 2, []), 33) := rfl
theorem T_411_33 : hTab 411 33 = some ((24, 17, Int.ofNat 47, []), 36) := rfl
theorem T_411_36 : hTab 411 36 = some ((3, 1, 0, []), 37) := rfl
theorem T_411_37 : hTab 411 37 = some ((27, 0, 0, []), 38) := rfl
theorem T_411_38 : hTab 411 38 = some ((3, 0, 2, []), 39) := rfl
theorem T_411_39 : hTab 411 39 = some ((6, 0, 0, []), 40) := rfl
theorem T_411_40 : hTab 411 40 = some ((24, 17, Int.ofNat 47, []), 43) := rfl
theorem T_411_43 : hTab 411 43 = some ((0, 0, 1, []), 44) := rfl
theorem T_411_44 : hTab 411 44 = some ((10, 0, 0, []), 45) := rfl
theorem T_411_45 : hTab 411 45 = some ((25, 17, Int.ofNat 47, []), 48) := rfl
theorem T_411_48 : hTab 411 48 = some ((3, 0, 2, []), 49) := rfl
theorem T_411_49 : hTab 411 49 = some ((24, 17, Int.ofNat 47, []), 52) := rfl
theorem T_411_52 : hTab 411 52 = some ((33, 1, 0, []), 53) := rfl
theorem T_412_0 : hTab 412 0 = some ((3, 1, 0, []), 1) := rfl
theorem T_412_1 : hTab 412 1 = some ((14, 0, 0, []), 2) := rfl
theorem T_412_2 : hTab 412 2 = some ((1, 0, 0, []), 3) := rfl
theorem T_412_3 : hTab 412 3 = some ((1, 0, 2, []), 6) := rfl
theorem T_412_6 : hTab 412 6 = some ((31, 282, 0, []), 9) := rfl
theorem T_412_9 : hTab 412 9 = some ((18, 1, Int.ofNat 15, []), 12) := rfl
theorem T_412_12 : hTab 412 12 = some ((0, 0, (-100), []), 14) := rfl
theorem T_412_14 : hTab 412 14 = some ((33, 1, 0, []), 15) := rfl
theorem T_413_0 : hTab 413 0 = some ((3, 1, 0, []), 1) := rfl
theorem T_413_1 : hTab 413 1 = some ((14, 0, 0, []), 2) := rfl
theorem T_413_2 : hTab 413 2 = some ((1, 0, 0, []), 3) := rfl
theorem T_413_3 : hTab 413 3 = some ((3, 0, 2, []), 4) := rfl
theorem T_413_4 : hTab 413 4 = some ((24, 17, Int.ofNat 49, []), 7) := rfl
theorem T_413_7 : hTab 413 7 = some ((0, 0, 1, []), 8) := rfl
theorem T_413_8 : hTab 413 8 = some ((10, 1, 0, []), 9) := rfl
theorem T_413_9 : hTab 413 9 = some ((14, 0, 0, []), 10) := rfl
theorem T_413_10 : hTab 413 10 = some ((31, 282, 0, []), 13) := rfl
theorem T_413_13 : hTab 413 13 = some ((18, 0, Int.ofNat 25, []), 16) := rfl
theorem T_413_25 : hTab 413 25 = some ((0, 0, (-1), []), 26) := rfl
theorem T_413_26 : hTab 413 26 = some ((33, 1, 0, []), 27) := rfl
theorem T_414_0 : hTab 414 0 = some ((3, 0, 2, []), 1) := rfl
theorem T_414_1 : hTab 414 1 = some ((3, 1, 0, []), 2) := rfl
theorem T_414_2 : hTab 414 2 = some ((31, 308, 0, []), 5) := rfl
theorem T_414_5 : hTab 414 5 = some ((18, 1, Int.ofNat 10, []), 8) := rfl
theorem T_414_8 : hTab 414 8 = some ((0, 0, (-1), []), 9) := rfl
theorem T_414_9 : hTab 414 9 = some ((33, 1, 0, []), 10) := rfl
theorem T_415_0 : hTab 415 0 = some ((3, 0, 2, []), 1) := rfl
theorem T_415_1 : hTab 415 1 = some ((3, 1, 0, []), 2) := rfl
theorem T_415_2 : hTab 415 2 = some ((31, 308, 0, []), 5) := rfl
theorem T_415_5 : hTab 415 5 = some ((18, 0, Int.ofNat 24, []), 8) := rfl
theorem T_415_24 : hTab 415 24 = some ((0, 0, 0, []), 25) := rfl
theorem T_415_25 : hTab 415 25 = some ((4, 4, 0, []), 27) := rfl
theorem T_415_27 : hTab 415 27 = some ((3, 4, 0, []), 29) := rfl
theorem T_415_29 : hTab 415 29 = some ((18, 0, Int.ofNat 74, []), 32) := rfl
theorem T_415_74 : hTab 415 74 = some ((0, 0, (-1), []), 75) := rfl
theorem T_415_75 : hTab 415 75 = some ((33, 1, 0, []), 76) := rfl
theorem T_416_0 : hTab 416 0 = some ((3, 0, 2, []), 1) := rfl
theorem T_416_1 : hTab 416 1 = some ((3, 1, 0, []), 2) := rfl
theorem T_416_2 : hTab 416 2 = some ((31, 308, 0, []), 5) := rfl
theorem T_416_5 : hTab 416 5 = some ((18, 0, Int.ofNat 40, []), 8) := rfl
theorem T_416_40 : hTab 416 40 = some ((0, 0, (-1), []), 41) := rfl
theorem T_416_41 : hTab 416 41 = some ((33, 1, 0, []), 42) := rfl
theorem T_417_0 : hTab 417 0 = some ((3, 0, 2, []), 1) := rfl
theorem T_417_1 : hTab 417 1 = some ((3, 1, 0, []), 2) := rfl
theorem T_417_2 : hTab 417 2 = some ((31, 308, 0, []), 5) := rfl
theorem T_417_5 : hTab 417 5 = some ((18, 0, Int.ofNat 31, []), 8) := rfl
theorem T_417_31 : hTab 417 31 = some ((0, 0, (-1), []), 32) := rfl
theorem T_417_32 : hTab 417 32 = some ((33, 1, 0, []), 33) := rfl
theorem T_418_0 : hTab 418 0 = some ((3, 0, 2, []), 1) := rfl
theorem T_418_1 : hTab 418 1 = some ((3, 1, 0, []), 2) := rfl
theorem T_418_2 : hTab 418 2 = some ((31, 308, 0, []), 5) := rfl
theorem T_418_5 : hTab 418 5 = some ((18, 0, Int.ofNat 31, []), 8) := rfl
theorem T_418_31 : hTab 418 31 = some ((0, 0, (-1), []), 32) := rfl
theorem T_418_32 : hTab 418 32 = some ((33, 1, 0, []), 33) := rfl
theorem T_419_0 : hTab 419 0 = some ((3, 0, 2, []), 1) := rfl
theorem T_419_1 : hTab 419 1 = some ((3, 1, 0, []), 2) := rfl
theorem T_419_2 : hTab 419 2 = some ((31, 308, 0, []), 5) := rfl
theorem T_419_5 : hTab 419 5 = some ((18, 0, Int.ofNat 34, []), 8) := rfl
theorem T_419_34 : hTab 419 34 = some ((0, 0, (-1), []), 35) := rfl
theorem T_419_35 : hTab 419 35 = some ((33, 1, 0, []), 36) := rfl
theorem T_420_0 : hTab 420 0 = some ((3, 1, 0, []), 1) := rfl
theorem T_420_1 : hTab 420 1 = some ((14, 0, 0, []), 2) := rfl
theorem T_420_2 : hTab 420 2 = some ((1, 0, 0, []), 3) := rfl
theorem T_420_3 : hTab 420 3 = some ((1, 0, 2, []), 6) := rfl
theorem T_420_6 : hTab 420 6 = some ((31, 282, 0, []), 9) := rfl
theorem T_420_9 : hTab 420 9 = some ((18, 0, Int.ofNat 24, []), 12) := rfl
theorem T_420_12 : hTab 420 12 = some ((3, 2, 0, []), 13) := rfl
theorem T_420_13 : hTab 420 13 = some ((14, 0, 0, []), 14) := rfl
theorem T_420_14 : hTab 420 14 = some ((1, 0, 0, []), 15) := rfl
theorem T_420_15 : hTab 420 15 = some ((1, 0, 5, []), 18) := rfl
theorem T_420_18 : hTab 420 18 = some ((31, 282, 0, []), 21) := rfl
theorem T_420_21 : hTab 420 21 = some ((18, 1, Int.ofNat 27, []), 24) := rfl
theorem T_420_24 : hTab 420 24 = some ((0, 0, (-100), []), 26) := rfl
theorem T_420_26 : hTab 420 26 = some ((33, 1, 0, []), 27) := rfl
theorem T_422_0 : hTab 422 0 = some ((3, 1, 0, []), 1) := rfl
theorem T_422_1 : hTab 422 1 = some ((14, 0, 0, []), 2) := rfl
theorem T_422_2 : hTab 422 2 = some ((1, 0, 0, []), 3) := rfl
theorem T_422_3 : hTab 422 3 = some ((1, 0, 2, []), 6) := rfl
theorem T_422_6 : hTab 422 6 = some ((31, 282, 0, []), 9) := rfl
theorem T_422_9 : hTab 422 9 = some ((18, 0, Int.ofNat 23, []), 12) := rfl
theorem T_422_12 : hTab 422 12 = some ((3, 0, 2, []), 13) := rfl
theorem T_422_13 : hTab 422 13 = some ((3, 1, 0, []), 14) := rfl
theorem T_422_14 : hTab 422 14 = some ((0, 0, 0, []), 15) := rfl
theorem T_422_15 : hTab 422 15 = some ((3, 2, 0, []), 16) := rfl
theorem T_422_16 : hTab 422 16 = some ((14, 0, 0, []), 17) := rfl
theorem T_422_17 : hTab 422 17 = some ((31, 261, 0, []), 20) := rfl
theorem T_422_20 : hTab 422 20 = some ((22, 0, Int.ofNat 24, []), 23) := rfl
theorem T_422_23 : hTab 422 23 = some ((0, 0, (-1), []), 24) := rfl
theorem T_422_24 : hTab 422 24 = some ((4, 4, 0, []), 26) := rfl
theorem T_422_26 : hTab 422 26 = some ((3, 4, 0, []), 28) := rfl
theorem T_422_28 : hTab 422 28 = some ((18, 3, Int.ofNat 33, []), 31) := rfl
theorem T_422_31 : hTab 422 31 = some ((0, 0, (-1), []), 32) := rfl
theorem T_422_32 : hTab 422 32 = some ((33, 1, 0, []), 33) := rfl
theorem F_0_0 : (hFd 0 0).2.2.1 = 4 := rfl
theorem F_0_4 : (hFd 0 4).2.2.1 = 4 := rfl
theorem F_0_5 : (hFd 0 5).2.2.1 = 4 := rfl
theorem F_1_0 : (hFd 1 0).2.2.1 = 4 := rfl
theorem F_1_1 : (hFd 1 1).2.2.1 = 4 := rfl
theorem F_1_3 : (hFd 1 3).2.2.1 = 0 := rfl
theorem F_1_4 : (hFd 1 4).2.2.1 = 3 := rfl
theorem F_1_9 : (hFd 1 9).2.2.1 = 4 := rfl
theorem F_1_10 : (hFd 1 10).2.2.1 = 4 := rfl
theorem F_1_11 : (hFd 1 11).2.2.1 = 4 := rfl
theorem F_2_0 : (hFd 2 0).2.2.1 = 4 := rfl
theorem F_2_1 : (hFd 2 1).2.2.1 = 0 := rfl
theorem F_6_5 : (hFd 6 5).2.2.1 = 2 := rfl
theorem F_7_3 : (hFd 7 3).2.2.1 = 4 := rfl
theorem F_9_0 : (hFd 9 0).2.2.1 = 2 := rfl
theorem F_17_28 : (hFd 17 28).2.2.1 = 4 := rfl
theorem F_17_38 : (hFd 17 38).2.2.1 = 4 := rfl
theorem F_17_39 : (hFd 17 39).2.2.1 = 0 := rfl
theorem F_17_41 : (hFd 17 41).2.2.1 = 0 := rfl
theorem F_17_42 : (hFd 17 42).2.2.1 = 0 := rfl
theorem F_17_44 : (hFd 17 44).2.2.1 = 4 := rfl
theorem F_17_45 : (hFd 17 45).2.2.1 = 3 := rfl
theorem F_17_46 : (hFd 17 46).2.2.1 = 4 := rfl
theorem F_17_47 : (hFd 17 47).2.2.1 = 0 := rfl
theorem F_17_49 : (hFd 17 49).2.2.1 = 0 := rfl
theorem F_17_50 : (hFd 17 50).2.2.1 = 4 := rfl
theorem mN_28 : hmN 28 = 1 := by decide +kernel
theorem mL_28 : hmL 28 = 1 := by decide +kernel
theorem mK_28 : hmK 28 = 1 := by decide +kernel
theorem mO_28 : hmO 28 = 2 := by decide +kernel
theorem mN_33 : hmN 33 = 2 := by decide +kernel
theorem mL_33 : hmL 33 = 2 := by decide +kernel
theorem mK_33 : hmK 33 = 1 := by decide +kernel
theorem mO_33 : hmO 33 = 2 := by decide +kernel
theorem mN_39 : hmN 39 = 3 := by decide +kernel
theorem mL_39 : hmL 39 = 6 := by decide +kernel
theorem mK_39 : hmK 39 = 1 := by decide +kernel
theorem mO_39 : hmO 39 = 7 := by decide +kernel
theorem mN_73 : hmN 73 = 2 := by decide +kernel
theorem mL_73 : hmL 73 = 2 := by decide +kernel
theorem mK_73 : hmK 73 = 1 := by decide +kernel
theorem mO_73 : hmO 73 = 2 := by decide +kernel
theorem mN_97 : hmN 97 = 2 := by decide +kernel
theorem mL_97 : hmL 97 = 3 := by decide +kernel
theorem mK_97 : hmK 97 = 1 := by decide +kernel
theorem mO_97 : hmO 97 = 1 := by decide +kernel
theorem mN_122 : hmN 122 = 2 := by decide +kernel
theorem mL_122 : hmL 122 = 2 := by decide +kernel
theorem mK_122 : hmK 122 = 1 := by decide +kernel
theorem mO_122 : hmO 122 = 1 := by decide +kernel
theorem mN_209 : hmN 209 = 2 := by decide +kernel
theorem mL_209 : hmL 209 = 2 := by decide +kernel
theorem mK_209 : hmK 209 = 0 := by decide +kernel
theorem mO_209 : hmO 209 = 0 := by decide +kernel
theorem mN_213 : hmN 213 = 2 := by decide +kernel
theorem mL_213 : hmL 213 = 2 := by decide +kernel
theorem mK_213 : hmK 213 = 1 := by decide +kernel
theorem mO_213 : hmO 213 = 1 := by decide +kernel
theorem mN_243 : hmN 243 = 2 := by decide +kernel
theorem mL_243 : hmL 243 = 2 := by decide +kernel
theorem mK_243 : hmK 243 = 0 := by decide +kernel
theorem mO_243 : hmO 243 = 17 := by decide +kernel
theorem mN_261 : hmN 261 = 4 := by decide +kernel
theorem mL_261 : hmL 261 = 6 := by decide +kernel
theorem mK_261 : hmK 261 = 1 := by decide +kernel
theorem mO_261 : hmO 261 = 17 := by decide +kernel
theorem mN_282 : hmN 282 = 3 := by decide +kernel
theorem mL_282 : hmL 282 = 6 := by decide +kernel
theorem mK_282 : hmK 282 = 0 := by decide +kernel
theorem mO_282 : hmO 282 = 17 := by decide +kernel
theorem mN_308 : hmN 308 = 2 := by decide +kernel
theorem mL_308 : hmL 308 = 2 := by decide +kernel
theorem mK_308 : hmK 308 = 1 := by decide +kernel
theorem mO_308 : hmO 308 = 17 := by decide +kernel
abbrev S2 (L : Nat) (xs : Nat → Int) : hM := ws L xs (den hτ2)
section FRESH
variable {fb : Bool} {d L : Nat} {xs : Nat → Int} {σ : hM}
theorem fT {a : Nat} {sh : Nat ⊕ (Nat × Nat)} (h : (Nat.ble 1 a && decide ((tget hτ2.2.2 a).1 = some sh)) = true) : mT (S2 L xs) a = some sh := by
  rw [Bool.and_eq_true, decide_eq_true_eq] at h
  exact (ws_T (by have := Nat.le_of_ble_eq_true h.1; omega)).trans h.2
theorem fI {a k : Nat} {z : Int} (h : (Nat.ble 1 a && decide (aget 0 (tget hτ2.2.2 a).2.1 k = z)) = true) : mI (S2 L xs) a k = z := by
  rw [Bool.and_eq_true, decide_eq_true_eq] at h
  exact (ws_I (by have := Nat.le_of_ble_eq_true h.1; omega)).trans h.2
theorem fR {a k : Nat} {z : Option Nat} (h : decide (aget none (tget hτ2.2.2 a).2.2 k = z) = true) : mR (S2 L xs) a k = z := of_decide_eq_true h
theorem fProc {j : Nat} (h : j < 8) : mR (S2 L xs) 142 j = some (295 + 125 * j) ∧ mT (S2 L xs) (295 + 125 * j) = some (Sum.inl 6) ∧ mI (S2 L xs) (295 + 125 * j) 5 = 0 := by
  have h1 : (List.range 8).all (fun j => decide (aget none (tget hτ2.2.2 142).2.2 j = some (295 + 125 * j)) && (decide ((tget hτ2.2.2 (295 + 125 * j)).1 = some (Sum.inl 6)) && decide (aget 0 (tget hτ2.2.2 (295 + 125 * j)).2.1 5 = 0))) = true := by decide +kernel
  have h2 := List.all_eq_true.mp h1 j (List.mem_range.mpr h)
  simp only [Bool.and_eq_true, decide_eq_true_eq] at h2
  exact ⟨h2.1, (ws_T (by omega)).trans h2.2.1, (ws_I (by omega)).trans h2.2.2⟩
theorem fIsP {j : Nat} (h : j < 8) : mI (S2 L xs) 2320 j = 0 := by
  have h1 : (List.range 8).all (fun j => decide (aget 0 (tget hτ2.2.2 2320).2.1 j = 0)) = true := by decide +kernel
  exact (ws_I (by decide)).trans (of_decide_eq_true (List.all_eq_true.mp h1 j (List.mem_range.mpr h)))
theorem c_living {n : Int} : CL fb d 97 [vR (some 129), vI n] (S2 L xs) (fun r σ' => r = some (vR none) ∧ σ' = S2 L xs) := by
  refine CL_in mL_97 rfl ?_
  show WP fb d 97 0 [some (vR (some 129)), some (vI n), none] [] (S2 L xs) _
  refine x_li T_97_0 rfl ?_
  refine x_if T_97_1 (fun h1 => ?_) (fun h1 => ?_)
  · replace h1 : (_ : Int) < _ := h1
    refine x_ic T_97_26 ?_
    refine x_si T_97_27 rfl ?_
    refine x_li T_97_28 rfl ?_
    refine x_if T_97_29 (fun _ => ?_) (fun h => absurd (show (_ : Int) = _ by rfl) h)
    refine x_nu T_97_41 ?_
    refine x_rr T_97_42 ?_
    exact ⟨rfl, rfl⟩
  · replace h1 : ¬ ((_ : Int) < _) := h1
    refine x_li T_97_4 rfl ?_
    refine x_ic T_97_5 ?_
    refine x_ic2 T_97_7 (fun h7 => ?_) (fun h7 => ?_)
    · replace h7 : (_ : Int) ≤ _ := h7
      refine x_ic T_97_26 ?_
      refine x_si T_97_27 rfl ?_
      refine x_li T_97_28 rfl ?_
      refine x_if T_97_29 (fun _ => ?_) (fun h => absurd (show (_ : Int) = _ by rfl) h)
      refine x_nu T_97_41 ?_
      refine x_rr T_97_42 ?_
      exact ⟨rfl, rfl⟩
    · replace h7 : ¬ ((_ : Int) ≤ _) := h7
      refine x_lr T_97_10 rfl ?_
      refine x_gR T_97_11 F_1_11 (fT (by decide +kernel)) (z := some 142) (fR (by decide +kernel)) ?_
      refine x_li T_97_14 rfl ?_
      refine x_alR T_97_15 (fT (sh := Sum.inr (16, 8)) (by decide +kernel)) (by decide) (by omega) (by omega) (fProc (by omega)).1 ?_
      refine x_gI T_97_16 (Or.inr (Or.inl F_6_5)) (fProc (by omega)).2.1 (fProc (by omega)).2.2 ?_
      refine x_if T_97_19 (fun _ => ?_) (fun h => absurd (show (_ : Int) = _ by rfl) h)
      refine x_ic T_97_26 ?_
      refine x_si T_97_27 rfl ?_
      refine x_li T_97_28 rfl ?_
      refine x_if T_97_29 (fun _ => ?_) (fun h => absurd (show (_ : Int) = _ by rfl) h)
      refine x_nu T_97_41 ?_
      refine x_rr T_97_42 ?_
      exact ⟨rfl, rfl⟩
theorem m_in {v lo hi : Int} : CL fb d 282 [vL v, vL lo, vL hi] σ (fun r σ' => r = some (vI (if lo ≤ v ∧ v ≤ hi then 1 else 0)) ∧ σ' = σ) := by
  refine CL_in mL_282 rfl ?_
  show WP fb d 282 0 [some (vL v), none, some (vL lo), none, some (vL hi), none] [] σ _
  refine x_ll T_282_0 rfl ?_
  refine x_ll T_282_1 rfl ?_
  refine x_lif T_282_2 T_282_3 (fun h3 => ?_) (fun h3 => ?_)
  · replace h3 : (_ : Int) < _ := h3
    refine x_ic T_282_17 ?_
    refine x_rz T_282_18 rfl ?_
    first | (rw [if_pos (by omega)]; exact ⟨rfl, rfl⟩) | (rw [if_neg (by omega)]; exact ⟨rfl, rfl⟩)
  · replace h3 : ¬ ((_ : Int) < _) := h3
    refine x_ll T_282_6 rfl ?_
    refine x_ll T_282_7 rfl ?_
    refine x_lif T_282_9 T_282_10 (fun h10 => ?_) (fun h10 => ?_)
    · replace h10 : (_ : Int) < _ := h10
      refine x_ic T_282_17 ?_
      refine x_rz T_282_18 rfl ?_
      first | (rw [if_pos (by omega)]; exact ⟨rfl, rfl⟩) | (rw [if_neg (by omega)]; exact ⟨rfl, rfl⟩)
    · replace h10 : ¬ ((_ : Int) < _) := h10
      refine x_ic T_282_13 ?_
      refine x_goto T_282_14 ?_
      refine x_rz T_282_18 rfl ?_
      first | (rw [if_pos (by omega)]; exact ⟨rfl, rfl⟩) | (rw [if_neg (by omega)]; exact ⟨rfl, rfl⟩)
theorem m_has {n : Int} : CL fb (d + 1) 308 [vR (some 2281), vI n] (S2 L xs) (fun r σ' => r = some (vI 0) ∧ σ' = S2 L xs) := by
  refine CL_in mL_308 rfl ?_
  show WP fb (d + 1) 308 0 [some (vR (some 2281)), some (vI n)] [] (S2 L xs) _
  by_cases hn : 0 ≤ n ∧ n ≤ 7
  · skip
    refine x_li T_308_0 rfl ?_
    refine x_i2l T_308_1 ?_
    refine x_lc T_308_2 ?_
    refine x_lc T_308_3 ?_
    refine x_cs3 T_308_6 mN_282 mL_282 (Nat.le_of_ble_eq_true rfl) mK_282 (Nat.le_of_ble_eq_true rfl) (m_in) ?_
    rintro _ _ ⟨rfl, rfl⟩
    rw [if_pos hn]
    refine cI ?_
    refine x_if T_308_9 (fun h => absurd (show (_ : Int) = _ from h) (by decide)) (fun _ => ?_)
    refine x_lr T_308_12 rfl ?_
    refine x_gR T_308_13 F_17_50 (fT (by decide +kernel)) (z := some 2320) (fR (by decide +kernel)) ?_
    refine x_li T_308_16 rfl ?_
    refine x_alI T_308_17 (by decide) (fT (sh := Sum.inr (2, 8)) (by decide +kernel)) (by omega) (by omega) (fIsP (by omega)) ?_
    refine x_if T_308_18 (fun _ => ?_) (fun h => absurd (show (_ : Int) = _ by rfl) h)
    refine x_ic T_308_25 ?_
    refine x_rz T_308_26 rfl ?_
    exact ⟨rfl, rfl⟩
  · skip
    refine x_li T_308_0 rfl ?_
    refine x_i2l T_308_1 ?_
    refine x_lc T_308_2 ?_
    refine x_lc T_308_3 ?_
    refine x_cs3 T_308_6 mN_282 mL_282 (Nat.le_of_ble_eq_true rfl) mK_282 (Nat.le_of_ble_eq_true rfl) (m_in) ?_
    rintro _ _ ⟨rfl, rfl⟩
    rw [if_neg hn]
    refine cI ?_
    refine x_if T_308_9 (fun _ => ?_) (fun h => absurd (show (_ : Int) = _ by rfl) h)
    refine x_ic T_308_25 ?_
    refine x_rz T_308_26 rfl ?_
    exact ⟨rfl, rfl⟩
theorem q_x_out {n i : Int} : CL fb (d + 3) 206 [vR (some 128), vI n, vI i] (S2 L xs) (fun r σ' => r = some (vI (-1)) ∧ σ' = S2 L xs) := by
  refine CL_in mL_206 rfl ?_
  show WP fb (d + 3) 206 0 [some (vR (some 128)), some (vI n), some (vI i), none] [] (S2 L xs) _
  refine x_lr T_206_0 rfl ?_
  refine x_gR T_206_1 F_0_0 (fT (by decide +kernel)) (z := some 129) (fR (by decide +kernel)) ?_
  refine x_li T_206_4 rfl ?_
  refine x_cv2 T_206_5 mN_97 mL_97 (Nat.le_of_ble_eq_true rfl) mO_97 (by first | assumption | exact fT (by decide +kernel)) (Nat.le_of_ble_eq_true rfl) (c_living) ?_
  rintro _ _ ⟨rfl, rfl⟩
  refine cR ?_
  refine x_sr T_206_8 rfl ?_
  refine x_lr T_206_9 rfl ?_
  refine x_nnul T_206_10 (fun _ h => by cases h) (fun _ => ?_)
  refine x_ic T_206_13 ?_
  refine x_goto T_206_14 ?_
  refine x_ri T_206_25 ?_
  exact ⟨rfl, rfl⟩
theorem q_m_out {n i : Int} : CL fb (d + 3) 404 [vR (some 2281), vI n, vI i] (S2 L xs) (fun r σ' => r = some (vI (-1)) ∧ σ' = S2 L xs) := by
  refine CL_in mL_404 rfl ?_
  show WP fb (d + 3) 404 0 [some (vR (some 2281)), some (vI n), some (vI i)] [] (S2 L xs) _
  refine x_lr T_404_0 rfl ?_
  refine x_li T_404_1 rfl ?_
  refine x_cv2 T_404_2 mN_308 mL_308 (Nat.le_of_ble_eq_true rfl) mO_308 (by first | assumption | exact fT (by decide +kernel)) (Nat.le_of_ble_eq_true rfl) (m_has) ?_
  rintro _ _ ⟨rfl, rfl⟩
  refine cI ?_
  refine x_if T_404_5 (fun _ => ?_) (fun h => absurd (show (_ : Int) = _ by rfl) h)
  refine x_ic T_404_41 ?_
  refine x_ri T_404_42 ?_
  exact ⟨rfl, rfl⟩
theorem q_x_enter {n : Int} : CL fb (d + 3) 96 [vR (some 128), vI n] (S2 L xs) (fun r σ' => r = some (vI (-100)) ∧ σ' = S2 L xs) := by
  refine CL_in mL_96 rfl ?_
  show WP fb (d + 3) 96 0 [some (vR (some 128)), some (vI n), none, none, none, none] [] (S2 L xs) _
  refine x_lr T_96_0 rfl ?_
  refine x_gR T_96_1 F_0_0 (fT (by decide +kernel)) (z := some 129) (fR (by decide +kernel)) ?_
  refine x_li T_96_4 rfl ?_
  refine x_cv2 T_96_5 mN_97 mL_97 (Nat.le_of_ble_eq_true rfl) mO_97 (by first | assumption | exact fT (by decide +kernel)) (Nat.le_of_ble_eq_true rfl) (c_living) ?_
  rintro _ _ ⟨rfl, rfl⟩
  refine cR ?_
  refine x_sr T_96_8 rfl ?_
  refine x_lr T_96_9 rfl ?_
  refine x_nnul T_96_10 (fun _ h => by cases h) (fun _ => ?_)
  refine x_ic T_96_13 ?_
  refine x_ri T_96_15 ?_
  exact ⟨rfl, rfl⟩
theorem q_m_enter {n : Int} : CL fb (d + 3) 307 [vR (some 2281), vI n] (S2 L xs) (fun r σ' => r = some (vI (-100)) ∧ σ' = S2 L xs) := by
  refine CL_in mL_307 rfl ?_
  show WP fb (d + 3) 307 0 [some (vR (some 2281)), some (vI n), none] [] (S2 L xs) _
  refine x_lr T_307_0 rfl ?_
  refine x_li T_307_1 rfl ?_
  refine x_cv2 T_307_2 mN_308 mL_308 (Nat.le_of_ble_eq_true rfl) mO_308 (by first | assumption | exact fT (by decide +kernel)) (Nat.le_of_ble_eq_true rfl) (m_has) ?_
  rintro _ _ ⟨rfl, rfl⟩
  refine cI ?_
  refine x_if T_307_5 (fun h => absurd (show ¬ (_ : Int) = _ from h) (by decide)) (fun _ => ?_)
  refine x_ic T_307_8 ?_
  refine x_ri T_307_10 ?_
  exact ⟨rfl, rfl⟩
theorem q_x_wipe {n : Int} : CL fb (d + 3) 207 [vR (some 128), vI n] (S2 L xs) (fun r σ' => r = some (vI (-100)) ∧ σ' = S2 L xs) := by
  refine CL_in mL_207 rfl ?_
  show WP fb (d + 3) 207 0 [some (vR (some 128)), some (vI n), none, none] [] (S2 L xs) _
  refine x_lr T_207_0 rfl ?_
  refine x_gR T_207_1 F_0_0 (fT (by decide +kernel)) (z := some 129) (fR (by decide +kernel)) ?_
  refine x_li T_207_4 rfl ?_
  refine x_cv2 T_207_5 mN_97 mL_97 (Nat.le_of_ble_eq_true rfl) mO_97 (by first | assumption | exact fT (by decide +kernel)) (Nat.le_of_ble_eq_true rfl) (c_living) ?_
  rintro _ _ ⟨rfl, rfl⟩
  refine cR ?_
  refine x_sr T_207_8 rfl ?_
  refine x_lr T_207_9 rfl ?_
  refine x_nnul T_207_10 (fun _ h => by cases h) (fun _ => ?_)
  refine x_ic T_207_13 ?_
  refine x_ri T_207_15 ?_
  exact ⟨rfl, rfl⟩
theorem q_m_wipe {n : Int} : CL fb (d + 3) 405 [vR (some 2281), vI n] (S2 L xs) (fun r σ' => r = some (vI (-100)) ∧ σ' = S2 L xs) := by
  refine CL_in mL_405 rfl ?_
  show WP fb (d + 3) 405 0 [some (vR (some 2281)), some (vI n), none] [] (S2 L xs) _
  refine x_lr T_405_0 rfl ?_
  refine x_li T_405_1 rfl ?_
  refine x_cv2 T_405_2 mN_308 mL_308 (Nat.le_of_ble_eq_true rfl) mO_308 (by first | assumption | exact fT (by decide +kernel)) (Nat.le_of_ble_eq_true rfl) (m_has) ?_
  rintro _ _ ⟨rfl, rfl⟩
  refine cI ?_
  refine x_if T_405_5 (fun h => absurd (show ¬ (_ : Int) = _ from h) (by decide)) (fun _ => ?_)
  refine x_ic T_405_8 ?_
  refine x_ri T_405_10 ?_
  exact ⟨rfl, rfl⟩
theorem q_x_process {n i : Int} : CL fb (d + 3) 218 [vR (some 128), vI n, vI i] (S2 L xs) (fun r σ' => r = some (vI (-1)) ∧ σ' = S2 L xs) := by
  refine CL_in mL_218 rfl ?_
  show WP fb (d + 3) 218 0 [some (vR (some 128)), some (vI n), some (vI i), none, none] [] (S2 L xs) _
  refine x_lr T_218_0 rfl ?_
  refine x_gR T_218_1 F_0_0 (fT (by decide +kernel)) (z := some 129) (fR (by decide +kernel)) ?_
  refine x_li T_218_4 rfl ?_
  refine x_cv2 T_218_5 mN_97 mL_97 (Nat.le_of_ble_eq_true rfl) mO_97 (by first | assumption | exact fT (by decide +kernel)) (Nat.le_of_ble_eq_true rfl) (c_living) ?_
  rintro _ _ ⟨rfl, rfl⟩
  refine cR ?_
  refine x_sr T_218_8 rfl ?_
  refine x_lr T_218_9 rfl ?_
  refine x_nnul T_218_10 (fun _ h => by cases h) (fun _ => ?_)
  refine x_ic T_218_13 ?_
  refine x_ri T_218_14 ?_
  exact ⟨rfl, rfl⟩
theorem q_m_process {n i : Int} : CL fb (d + 3) 414 [vR (some 2281), vI n, vI i] (S2 L xs) (fun r σ' => r = some (vI (-1)) ∧ σ' = S2 L xs) := by
  refine CL_in mL_414 rfl ?_
  show WP fb (d + 3) 414 0 [some (vR (some 2281)), some (vI n), some (vI i)] [] (S2 L xs) _
  refine x_lr T_414_0 rfl ?_
  refine x_li T_414_1 rfl ?_
  refine x_cv2 T_414_2 mN_308 mL_308 (Nat.le_of_ble_eq_true rfl) mO_308 (by first | assumption | exact fT (by decide +kernel)) (Nat.le_of_ble_eq_true rfl) (m_has) ?_
  rintro _ _ ⟨rfl, rfl⟩
  refine cI ?_
  refine x_if T_414_5 (fun h => absurd (show ¬ (_ : Int) = _ from h) (by decide)) (fun _ => ?_)
  refine x_ic T_414_8 ?_
  refine x_ri T_414_9 ?_
  exact ⟨rfl, rfl⟩
theorem q_x_variable {n x i : Int} : CL fb (d + 3) 219 [vR (some 128), vI n, vI x, vI i] (S2 L xs) (fun r σ' => r = some (vI (-1)) ∧ σ' = S2 L xs) := by
  refine CL_in mL_219 rfl ?_
  show WP fb (d + 3) 219 0 [some (vR (some 128)), some (vI n), some (vI x), some (vI i), none, none] [] (S2 L xs) _
  refine x_lr T_219_0 rfl ?_
  refine x_gR T_219_1 F_0_0 (fT (by decide +kernel)) (z := some 129) (fR (by decide +kernel)) ?_
  refine x_li T_219_4 rfl ?_
  refine x_cv2 T_219_5 mN_97 mL_97 (Nat.le_of_ble_eq_true rfl) mO_97 (by first | assumption | exact fT (by decide +kernel)) (Nat.le_of_ble_eq_true rfl) (c_living) ?_
  rintro _ _ ⟨rfl, rfl⟩
  refine cR ?_
  refine x_sr T_219_8 rfl ?_
  refine x_lr T_219_10 rfl ?_
  refine x_nnul T_219_12 (fun _ h => by cases h) (fun _ => ?_)
  refine x_nu T_219_15 ?_
  refine x_goto T_219_16 ?_
  refine x_sr T_219_25 rfl ?_
  refine x_lr T_219_27 rfl ?_
  refine x_nnul T_219_29 (fun _ h => by cases h) (fun _ => ?_)
  refine x_ic T_219_32 ?_
  refine x_goto T_219_33 ?_
  refine x_ri T_219_42 ?_
  exact ⟨rfl, rfl⟩
theorem q_m_variable {n x i : Int} : CL fb (d + 3) 415 [vR (some 2281), vI n, vI x, vI i] (S2 L xs) (fun r σ' => r = some (vI (-1)) ∧ σ' = S2 L xs) := by
  refine CL_in mL_415 rfl ?_
  show WP fb (d + 3) 415 0 [some (vR (some 2281)), some (vI n), some (vI x), some (vI i), none] [] (S2 L xs) _
  refine x_lr T_415_0 rfl ?_
  refine x_li T_415_1 rfl ?_
  refine x_cv2 T_415_2 mN_308 mL_308 (Nat.le_of_ble_eq_true rfl) mO_308 (by first | assumption | exact fT (by decide +kernel)) (Nat.le_of_ble_eq_true rfl) (m_has) ?_
  rintro _ _ ⟨rfl, rfl⟩
  refine cI ?_
  refine x_if T_415_5 (fun _ => ?_) (fun h => absurd (show (_ : Int) = _ by rfl) h)
  refine x_ic T_415_24 ?_
  refine x_si T_415_25 rfl ?_
  refine x_li T_415_27 rfl ?_
  refine x_if T_415_29 (fun _ => ?_) (fun h => absurd (show (_ : Int) = _ by rfl) h)
  refine x_ic T_415_74 ?_
  refine x_ri T_415_75 ?_
  exact ⟨rfl, rfl⟩
theorem q_x_dot {n i : Int} : CL fb (d + 3) 220 [vR (some 128), vI n, vI i] (S2 L xs) (fun r σ' => r = some (vI (-1)) ∧ σ' = S2 L xs) := by
  refine CL_in mL_220 rfl ?_
  show WP fb (d + 3) 220 0 [some (vR (some 128)), some (vI n), some (vI i), none] [] (S2 L xs) _
  refine x_lr T_220_0 rfl ?_
  refine x_gR T_220_1 F_0_0 (fT (by decide +kernel)) (z := some 129) (fR (by decide +kernel)) ?_
  refine x_li T_220_4 rfl ?_
  refine x_cv2 T_220_5 mN_97 mL_97 (Nat.le_of_ble_eq_true rfl) mO_97 (by first | assumption | exact fT (by decide +kernel)) (Nat.le_of_ble_eq_true rfl) (c_living) ?_
  rintro _ _ ⟨rfl, rfl⟩
  refine cR ?_
  refine x_sr T_220_8 rfl ?_
  refine x_lr T_220_9 rfl ?_
  refine x_nnul T_220_10 (fun _ h => by cases h) (fun _ => ?_)
  refine x_ic T_220_13 ?_
  refine x_goto T_220_14 ?_
  refine x_ri T_220_25 ?_
  exact ⟨rfl, rfl⟩
theorem q_m_dot {n i : Int} : CL fb (d + 3) 416 [vR (some 2281), vI n, vI i] (S2 L xs) (fun r σ' => r = some (vI (-1)) ∧ σ' = S2 L xs) := by
  refine CL_in mL_416 rfl ?_
  show WP fb (d + 3) 416 0 [some (vR (some 2281)), some (vI n), some (vI i)] [] (S2 L xs) _
  refine x_lr T_416_0 rfl ?_
  refine x_li T_416_1 rfl ?_
  refine x_cv2 T_416_2 mN_308 mL_308 (Nat.le_of_ble_eq_true rfl) mO_308 (by first | assumption | exact fT (by decide +kernel)) (Nat.le_of_ble_eq_true rfl) (m_has) ?_
  rintro _ _ ⟨rfl, rfl⟩
  refine cI ?_
  refine x_if T_416_5 (fun _ => ?_) (fun h => absurd (show (_ : Int) = _ by rfl) h)
  refine x_ic T_416_40 ?_
  refine x_ri T_416_41 ?_
  exact ⟨rfl, rfl⟩
theorem q_x_point {n k w : Int} : CL fb (d + 3) 221 [vR (some 128), vI n, vI k, vI w] (S2 L xs) (fun r σ' => r = some (vI (-1)) ∧ σ' = S2 L xs) := by
  refine CL_in mL_221 rfl ?_
  show WP fb (d + 3) 221 0 [some (vR (some 128)), some (vI n), some (vI k), some (vI w), none, none] [] (S2 L xs) _
  refine x_lr T_221_0 rfl ?_
  refine x_gR T_221_1 F_0_0 (fT (by decide +kernel)) (z := some 129) (fR (by decide +kernel)) ?_
  refine x_li T_221_4 rfl ?_
  refine x_cv2 T_221_5 mN_97 mL_97 (Nat.le_of_ble_eq_true rfl) mO_97 (by first | assumption | exact fT (by decide +kernel)) (Nat.le_of_ble_eq_true rfl) (c_living) ?_
  rintro _ _ ⟨rfl, rfl⟩
  refine cR ?_
  refine x_sr T_221_8 rfl ?_
  refine x_lr T_221_10 rfl ?_
  refine x_nnul T_221_12 (fun _ h => by cases h) (fun _ => ?_)
  refine x_nu T_221_15 ?_
  refine x_goto T_221_16 ?_
  refine x_sr T_221_28 rfl ?_
  refine x_lr T_221_30 rfl ?_
  refine x_nnul T_221_32 (fun _ h => by cases h) (fun _ => ?_)
  refine x_ic T_221_35 ?_
  refine x_ri T_221_36 ?_
  exact ⟨rfl, rfl⟩
theorem q_m_point {n k w : Int} : CL fb (d + 3) 417 [vR (some 2281), vI n, vI k, vI w] (S2 L xs) (fun r σ' => r = some (vI (-1)) ∧ σ' = S2 L xs) := by
  refine CL_in mL_417 rfl ?_
  show WP fb (d + 3) 417 0 [some (vR (some 2281)), some (vI n), some (vI k), some (vI w), none] [] (S2 L xs) _
  refine x_lr T_417_0 rfl ?_
  refine x_li T_417_1 rfl ?_
  refine x_cv2 T_417_2 mN_308 mL_308 (Nat.le_of_ble_eq_true rfl) mO_308 (by first | assumption | exact fT (by decide +kernel)) (Nat.le_of_ble_eq_true rfl) (m_has) ?_
  rintro _ _ ⟨rfl, rfl⟩
  refine cI ?_
  refine x_if T_417_5 (fun _ => ?_) (fun h => absurd (show (_ : Int) = _ by rfl) h)
  refine x_ic T_417_31 ?_
  refine x_ri T_417_32 ?_
  exact ⟨rfl, rfl⟩
theorem q_x_member {n k j w : Int} : CL fb (d + 3) 222 [vR (some 128), vI n, vI k, vI j, vI w] (S2 L xs) (fun r σ' => r = some (vI (-1)) ∧ σ' = S2 L xs) := by
  refine CL_in mL_222 rfl ?_
  show WP fb (d + 3) 222 0 [some (vR (some 128)), some (vI n), some (vI k), some (vI j), some (vI w), none, none, none] [] (S2 L xs) _
  refine x_lr T_222_0 rfl ?_
  refine x_gR T_222_1 F_0_0 (fT (by decide +kernel)) (z := some 129) (fR (by decide +kernel)) ?_
  refine x_li T_222_4 rfl ?_
  refine x_cv2 T_222_5 mN_97 mL_97 (Nat.le_of_ble_eq_true rfl) mO_97 (by first | assumption | exact fT (by decide +kernel)) (Nat.le_of_ble_eq_true rfl) (c_living) ?_
  rintro _ _ ⟨rfl, rfl⟩
  refine cR ?_
  refine x_sr T_222_8 rfl ?_
  refine x_lr T_222_10 rfl ?_
  refine x_nnul T_222_12 (fun _ h => by cases h) (fun _ => ?_)
  refine x_nu T_222_15 ?_
  refine x_goto T_222_16 ?_
  refine x_sr T_222_28 rfl ?_
  refine x_lr T_222_30 rfl ?_
  refine x_nnul T_222_32 (fun _ h => by cases h) (fun _ => ?_)
  refine x_nu T_222_35 ?_
  refine x_goto T_222_36 ?_
  refine x_sr T_222_45 rfl ?_
  refine x_lr T_222_47 rfl ?_
  refine x_nnul T_222_49 (fun _ h => by cases h) (fun _ => ?_)
  refine x_ic T_222_52 ?_
  refine x_ri T_222_53 ?_
  exact ⟨rfl, rfl⟩
theorem q_m_member {n k j w : Int} : CL fb (d + 3) 418 [vR (some 2281), vI n, vI k, vI j, vI w] (S2 L xs) (fun r σ' => r = some (vI (-1)) ∧ σ' = S2 L xs) := by
  refine CL_in mL_418 rfl ?_
  show WP fb (d + 3) 418 0 [some (vR (some 2281)), some (vI n), some (vI k), some (vI j), some (vI w), none, none] [] (S2 L xs) _
  refine x_lr T_418_0 rfl ?_
  refine x_li T_418_1 rfl ?_
  refine x_cv2 T_418_2 mN_308 mL_308 (Nat.le_of_ble_eq_true rfl) mO_308 (by first | assumption | exact fT (by decide +kernel)) (Nat.le_of_ble_eq_true rfl) (m_has) ?_
  rintro _ _ ⟨rfl, rfl⟩
  refine cI ?_
  refine x_if T_418_5 (fun _ => ?_) (fun h => absurd (show (_ : Int) = _ by rfl) h)
  refine x_ic T_418_31 ?_
  refine x_ri T_418_32 ?_
  exact ⟨rfl, rfl⟩
theorem q_x_descriptor {n k w : Int} : CL fb (d + 3) 223 [vR (some 128), vI n, vI k, vI w] (S2 L xs) (fun r σ' => r = some (vI (-1)) ∧ σ' = S2 L xs) := by
  refine CL_in mL_223 rfl ?_
  show WP fb (d + 3) 223 0 [some (vR (some 128)), some (vI n), some (vI k), some (vI w), none, none] [] (S2 L xs) _
  refine x_lr T_223_0 rfl ?_
  refine x_gR T_223_1 F_0_0 (fT (by decide +kernel)) (z := some 129) (fR (by decide +kernel)) ?_
  refine x_li T_223_4 rfl ?_
  refine x_cv2 T_223_5 mN_97 mL_97 (Nat.le_of_ble_eq_true rfl) mO_97 (by first | assumption | exact fT (by decide +kernel)) (Nat.le_of_ble_eq_true rfl) (c_living) ?_
  rintro _ _ ⟨rfl, rfl⟩
  refine cR ?_
  refine x_sr T_223_8 rfl ?_
  refine x_lr T_223_10 rfl ?_
  refine x_nnul T_223_12 (fun _ h => by cases h) (fun _ => ?_)
  refine x_nu T_223_15 ?_
  refine x_goto T_223_16 ?_
  refine x_sr T_223_25 rfl ?_
  refine x_lr T_223_27 rfl ?_
  refine x_nnul T_223_29 (fun _ h => by cases h) (fun _ => ?_)
  refine x_ic T_223_32 ?_
  refine x_ri T_223_33 ?_
  exact ⟨rfl, rfl⟩
theorem q_m_descriptor {n k w : Int} : CL fb (d + 3) 419 [vR (some 2281), vI n, vI k, vI w] (S2 L xs) (fun r σ' => r = some (vI (-1)) ∧ σ' = S2 L xs) := by
  refine CL_in mL_419 rfl ?_
  show WP fb (d + 3) 419 0 [some (vR (some 2281)), some (vI n), some (vI k), some (vI w), none] [] (S2 L xs) _
  refine x_lr T_419_0 rfl ?_
  refine x_li T_419_1 rfl ?_
  refine x_cv2 T_419_2 mN_308 mL_308 (Nat.le_of_ble_eq_true rfl) mO_308 (by first | assumption | exact fT (by decide +kernel)) (Nat.le_of_ble_eq_true rfl) (m_has) ?_
  rintro _ _ ⟨rfl, rfl⟩
  refine cI ?_
  refine x_if T_419_5 (fun _ => ?_) (fun h => absurd (show (_ : Int) = _ by rfl) h)
  refine x_ic T_419_34 ?_
  refine x_ri T_419_35 ?_
  exact ⟨rfl, rfl⟩
theorem c_at_out {a : Nat} {s i : Int} (ho : mT σ a = some (Sum.inl 2)) (hs : mI σ a 1 = s) (hi : i < 0 ∨ s ≤ i) : CL fb d 33 [vR (some a), vI i] σ (fun r σ' => r = some (vI (-1)) ∧ σ' = σ) := by
  refine CL_in mL_33 rfl ?_
  show WP fb d 33 0 [some (vR (some a)), some (vI i)] [] σ _
  by_cases h0 : i < 0
  · skip
    refine x_li T_33_0 rfl ?_
    refine x_if T_33_1 (fun _ => ?_) (fun h => absurd (show (_ : Int) < _ by omega) h)
    refine x_ic T_33_21 ?_
    refine x_goto T_33_22 ?_
    refine x_ri T_33_35 ?_
    exact ⟨rfl, rfl⟩
  · skip
    refine x_li T_33_0 rfl ?_
    refine x_if T_33_1 (fun h => absurd (show (_ : Int) < _ from h) (by omega)) (fun _ => ?_)
    refine x_li T_33_4 rfl ?_
    refine x_lr T_33_5 rfl ?_
    refine x_gI T_33_6 (Or.inl F_2_1) ho hs ?_
    refine x_ic2 T_33_9 (fun _ => ?_) (fun h => absurd (show (_ : Int) ≤ _ by omega) h)
    refine x_ic T_33_21 ?_
    refine x_goto T_33_22 ?_
    refine x_ri T_33_35 ?_
    exact ⟨rfl, rfl⟩
theorem q_x_console {i : Int} : CL fb (d + 3) 210 [vR (some 128), vI i] (S2 L xs) (fun r σ' => r = some (vI (-1)) ∧ σ' = S2 L xs) := by
  refine CL_in mL_210 rfl ?_
  show WP fb (d + 3) 210 0 [some (vR (some 128)), some (vI i)] [] (S2 L xs) _
  refine x_lr T_210_0 rfl ?_
  refine x_gR T_210_1 F_0_0 (fT (by decide +kernel)) (z := some 129) (fR (by decide +kernel)) ?_
  refine x_gR T_210_4 F_1_1 (fT (by decide +kernel)) (z := some 132) (fR (by decide +kernel)) ?_
  refine x_li T_210_7 rfl ?_
  refine x_cv2 T_210_8 mN_33 mL_33 (Nat.le_of_ble_eq_true rfl) mO_33 (fT (by decide +kernel)) (Nat.le_of_ble_eq_true rfl) (c_at_out (fT (by decide +kernel)) (fI (z := 0) (by decide +kernel)) (by omega)) ?_
  rintro _ _ ⟨rfl, rfl⟩
  refine cI ?_
  refine x_ri T_210_11 ?_
  exact ⟨rfl, rfl⟩
theorem q_x_answer {i : Int} : CL fb (d + 3) 217 [vR (some 128), vI i] (S2 L xs) (fun r σ' => r = some (vI (-1)) ∧ σ' = S2 L xs) := by
  refine CL_in mL_217 rfl ?_
  show WP fb (d + 3) 217 0 [some (vR (some 128)), some (vI i)] [] (S2 L xs) _
  refine x_lr T_217_0 rfl ?_
  refine x_gR T_217_1 F_0_5 (fT (by decide +kernel)) (z := some 2279) (fR (by decide +kernel)) ?_
  refine x_li T_217_4 rfl ?_
  refine x_cv2 T_217_5 mN_33 mL_33 (Nat.le_of_ble_eq_true rfl) mO_33 (fT (by decide +kernel)) (Nat.le_of_ble_eq_true rfl) (c_at_out (fT (by decide +kernel)) (fI (z := 0) (by decide +kernel)) (by omega)) ?_
  rintro _ _ ⟨rfl, rfl⟩
  refine cI ?_
  refine x_ri T_217_8 ?_
  exact ⟨rfl, rfl⟩
theorem q_m_console {i : Int} : CL fb (d + 3) 407 [vR (some 2281), vI i] (S2 L xs) (fun r σ' => r = some (vI (-1)) ∧ σ' = S2 L xs) := by
  refine CL_in mL_407 rfl ?_
  show WP fb (d + 3) 407 0 [some (vR (some 2281)), some (vI i)] [] (S2 L xs) _
  refine x_li T_407_0 rfl ?_
  refine x_i2l T_407_1 ?_
  refine x_lc T_407_2 ?_
  refine x_lr T_407_3 rfl ?_
  refine x_gI T_407_4 (Or.inl F_17_41) (fT (by decide +kernel)) (z := 0) (fI (by decide +kernel)) ?_
  refine x_ic T_407_7 ?_
  refine x_ib T_407_8 (fun h => absurd h.1 (by decide)) (w := -1) rfl ?_
  refine x_i2l T_407_9 ?_
  refine x_cs3 T_407_10 mN_282 mL_282 (Nat.le_of_ble_eq_true rfl) mK_282 (Nat.le_of_ble_eq_true rfl) (m_in) ?_
  rintro _ _ ⟨rfl, rfl⟩
  rw [if_neg (by omega)]
  refine cI ?_
  refine x_if T_407_13 (fun _ => ?_) (fun h => absurd (show (_ : Int) = _ by rfl) h)
  refine x_ic T_407_25 ?_
  refine x_ri T_407_26 ?_
  exact ⟨rfl, rfl⟩
theorem q_m_answer {i : Int} : CL fb (d + 3) 413 [vR (some 2281), vI i] (S2 L xs) (fun r σ' => r = some (vI (-1)) ∧ σ' = S2 L xs) := by
  refine CL_in mL_413 rfl ?_
  show WP fb (d + 3) 413 0 [some (vR (some 2281)), some (vI i)] [] (S2 L xs) _
  refine x_li T_413_0 rfl ?_
  refine x_i2l T_413_1 ?_
  refine x_lc T_413_2 ?_
  refine x_lr T_413_3 rfl ?_
  refine x_gI T_413_4 (Or.inl F_17_49) (fT (by decide +kernel)) (z := 0) (fI (by decide +kernel)) ?_
  refine x_ic T_413_7 ?_
  refine x_ib T_413_8 (fun h => absurd h.1 (by decide)) (w := -1) rfl ?_
  refine x_i2l T_413_9 ?_
  refine x_cs3 T_413_10 mN_282 mL_282 (Nat.le_of_ble_eq_true rfl) mK_282 (Nat.le_of_ble_eq_true rfl) (m_in) ?_
  rintro _ _ ⟨rfl, rfl⟩
  rw [if_neg (by omega)]
  refine cI ?_
  refine x_if T_413_13 (fun _ => ?_) (fun h => absurd (show (_ : Int) = _ by rfl) h)
  refine x_ic T_413_25 ?_
  refine x_ri T_413_26 ?_
  exact ⟨rfl, rfl⟩
theorem q_x_sum : CL fb (d + 3) 214 [vR (some 128)] (S2 L xs) (fun r σ' => r = some (vL (-6872574482966283076)) ∧ σ' = S2 L xs) := by
  refine CL_in mL_214 rfl ?_
  show WP fb (d + 3) 214 0 [some (vR (some 128))] [] (S2 L xs) _
  refine x_lr T_214_0 rfl ?_
  refine x_gR T_214_1 F_0_0 (fT (by decide +kernel)) (z := some 129) (fR (by decide +kernel)) ?_
  refine x_gL T_214_4 F_1_4 (fT (by decide +kernel)) (z := -6872574482966283076) (fI (by decide +kernel)) ?_
  refine x_rl T_214_7 ?_
  exact ⟨rfl, rfl⟩
theorem q_m_sum : CL fb (d + 3) 410 [vR (some 2281)] (S2 L xs) (fun r σ' => r = some (vL (-6872574482966283076)) ∧ σ' = S2 L xs) := by
  refine CL_in mL_410 rfl ?_
  show WP fb (d + 3) 410 0 [some (vR (some 2281))] [] (S2 L xs) _
  refine x_lr T_410_0 rfl ?_
  refine x_gL T_410_1 F_17_45 (fT (by decide +kernel)) (z := -6872574482966283076) (fI (by decide +kernel)) ?_
  refine x_rl T_410_4 ?_
  exact ⟨rfl, rfl⟩
theorem fKept {j : Nat} (h : j < 6) : mR (S2 L xs) 140 j = some (149 + 2 * j) ∧ mT (S2 L xs) (149 + 2 * j) = some (Sum.inl 2) ∧ mI (S2 L xs) (149 + 2 * j) 1 = 19 ∧ mI (S2 L xs) 2317 j = 19 := by
  have h1 : (List.range 6).all (fun j => decide (aget none (tget hτ2.2.2 140).2.2 j = some (149 + 2 * j)) && (decide ((tget hτ2.2.2 (149 + 2 * j)).1 = some (Sum.inl 2)) && (decide (aget 0 (tget hτ2.2.2 (149 + 2 * j)).2.1 1 = 19) && decide (aget 0 (tget hτ2.2.2 2317).2.1 j = 19)))) = true := by decide +kernel
  have h2 := List.all_eq_true.mp h1 j (List.mem_range.mpr h)
  simp only [Bool.and_eq_true, decide_eq_true_eq] at h2
  exact ⟨h2.1, (ws_T (by omega)).trans h2.2.1, (ws_I (by omega)).trans h2.2.2.1, (ws_I (by omega)).trans h2.2.2.2⟩
theorem fSrv {j : Nat} (h : j < 3) : mR (S2 L xs) 141 j = some (1293 + 294 * j) ∧ mT (S2 L xs) (1293 + 294 * j) = some (Sum.inl 7) ∧ mR (S2 L xs) (1293 + 294 * j) 3 = some (1295 + 294 * j) ∧ mT (S2 L xs) (1295 + 294 * j) = some (Sum.inr (19, 96)) := by
  have h1 : (List.range 3).all (fun j => decide (aget none (tget hτ2.2.2 141).2.2 j = some (1293 + 294 * j)) && (decide ((tget hτ2.2.2 (1293 + 294 * j)).1 = some (Sum.inl 7)) && (decide (aget none (tget hτ2.2.2 (1293 + 294 * j)).2.2 3 = some (1295 + 294 * j)) && decide ((tget hτ2.2.2 (1295 + 294 * j)).1 = some (Sum.inr (19, 96)))))) = true := by decide +kernel
  have h2 := List.all_eq_true.mp h1 j (List.mem_range.mpr h)
  simp only [Bool.and_eq_true, decide_eq_true_eq] at h2
  exact ⟨h2.1, (ws_T (by omega)).trans h2.2.1, h2.2.2.1, (ws_T (by omega)).trans h2.2.2.2⟩
theorem fFid {j i : Nat} (h : j < 3) (hi : i < 48) : mR (S2 L xs) (1295 + 294 * j) i = some (1491 + 294 * j + i) ∧ mT (S2 L xs) (1491 + 294 * j + i) = some (Sum.inl 9) ∧ mI (S2 L xs) (1491 + 294 * j + i) 0 = 0 := by
  have h1 : (List.range 3).all (fun j => (List.range 48).all (fun i => decide (aget none (tget hτ2.2.2 (1295 + 294 * j)).2.2 i = some (1491 + 294 * j + i)) && (decide ((tget hτ2.2.2 (1491 + 294 * j + i)).1 = some (Sum.inl 9)) && decide (aget 0 (tget hτ2.2.2 (1491 + 294 * j + i)).2.1 0 = 0)))) = true := by decide +kernel
  have h2 := List.all_eq_true.mp (List.all_eq_true.mp h1 j (List.mem_range.mpr h)) i (List.mem_range.mpr hi)
  simp only [Bool.and_eq_true, decide_eq_true_eq] at h2
  exact ⟨h2.1, (ws_T (by omega)).trans h2.2.1, (ws_I (by omega)).trans h2.2.2⟩
theorem fIsF {k : Nat} : mI (S2 L xs) 2304 k = 0 := by
  have h1 : (tget hτ2.2.2 2304).2.1 = [] := by decide +kernel
  refine (ws_I (by decide)).trans ?_
  show aget 0 (tget hτ2.2.2 2304).2.1 k = 0
  rw [h1]
  rfl
theorem rem40 {k : Int} (h : 0 ≤ k ∧ k < 6) : hIB 4 k 40 = k := by
  rcases (show k = 0 ∨ k = 1 ∨ k = 2 ∨ k = 3 ∨ k = 4 ∨ k = 5 by omega) with rfl | rfl | rfl | rfl | rfl | rfl <;> decide
theorem c_kept_null {k : Int} (h : ¬ (0 ≤ k ∧ k < 6)) : CL fb d 213 [vR (some 129), vI k] (S2 L xs) (fun r σ' => r = some (vR none) ∧ σ' = S2 L xs) := by
  refine CL_in mL_213 rfl ?_
  show WP fb d 213 0 [some (vR (some 129)), some (vI k)] [] (S2 L xs) _
  by_cases h0 : k < 0
  · skip
    refine x_li T_213_0 rfl ?_
    refine x_if T_213_1 (fun _ => ?_) (fun h => absurd (show (_ : Int) < _ by omega) h)
    refine x_nu T_213_23 ?_
    refine x_goto T_213_24 ?_
    refine x_rr T_213_36 ?_
    exact ⟨rfl, rfl⟩
  · skip
    refine x_li T_213_0 rfl ?_
    refine x_if T_213_1 (fun h => absurd (show (_ : Int) < _ from h) (by omega)) (fun _ => ?_)
    refine x_li T_213_4 rfl ?_
    refine x_lr T_213_5 rfl ?_
    refine x_gI T_213_6 (Or.inl F_1_3) (fT (by decide +kernel)) (z := 6) (fI (by decide +kernel)) ?_
    refine x_ic2 T_213_9 (fun _ => ?_) (fun h => absurd (show (_ : Int) ≤ _ by omega) h)
    refine x_nu T_213_23 ?_
    refine x_goto T_213_24 ?_
    refine x_rr T_213_36 ?_
    exact ⟨rfl, rfl⟩
theorem c_kept_some {k : Int} (h : 0 ≤ k ∧ k < 6) : CL fb d 213 [vR (some 129), vI k] (S2 L xs) (fun r σ' => r = some (vR (some (149 + 2 * k.toNat))) ∧ σ' = S2 L xs) := by
  refine CL_in mL_213 rfl ?_
  show WP fb d 213 0 [some (vR (some 129)), some (vI k)] [] (S2 L xs) _
  refine x_li T_213_0 rfl ?_
  refine x_if T_213_1 (fun h => absurd (show (_ : Int) < _ from h) (by omega)) (fun _ => ?_)
  refine x_li T_213_4 rfl ?_
  refine x_lr T_213_5 rfl ?_
  refine x_gI T_213_6 (Or.inl F_1_3) (fT (by decide +kernel)) (z := 6) (fI (by decide +kernel)) ?_
  refine x_ic2 T_213_9 (fun h => absurd (show (_ : Int) ≤ _ from h) (by omega)) (fun _ => ?_)
  refine x_li T_213_12 rfl ?_
  refine x_lr T_213_13 rfl ?_
  refine x_gI T_213_14 (Or.inl F_1_3) (fT (by decide +kernel)) (z := 6) (fI (by decide +kernel)) ?_
  refine x_ic T_213_17 ?_
  refine x_ib T_213_19 (fun h => absurd h.1 (by decide)) (w := -34) rfl ?_
  refine x_ic2 T_213_20 (fun _ => ?_) (fun h => absurd (show (_ : Int) ≤ _ by omega) h)
  refine x_lr T_213_27 rfl ?_
  refine x_gR T_213_28 F_1_9 (fT (by decide +kernel)) (z := some 140) (fR (by decide +kernel)) ?_
  refine x_li T_213_31 rfl ?_
  refine x_ic T_213_32 ?_
  refine x_ib T_213_34 (by omega) (rem40 h) ?_
  refine x_alR T_213_35 (fT (sh := Sum.inr (12, 40)) (by decide +kernel)) (by decide) (by omega) (by omega) (fKept (by omega)).1 ?_
  refine x_rr T_213_36 ?_
  exact ⟨rfl, rfl⟩
theorem q_x_message {k i : Int} (h : ¬ (0 ≤ k ∧ k < 6) ∨ (i < 0 ∨ 19 ≤ i)) : CL fb (d + 3) 212 [vR (some 128), vI k, vI i] (S2 L xs) (fun r σ' => r = some (vI (-1)) ∧ σ' = S2 L xs) := by
  refine CL_in mL_212 rfl ?_
  show WP fb (d + 3) 212 0 [some (vR (some 128)), some (vI k), some (vI i), none] [] (S2 L xs) _
  by_cases hk : 0 ≤ k ∧ k < 6
  · have h := h.resolve_left (fun e => e hk)
    refine x_lr T_212_0 rfl ?_
    refine x_gR T_212_1 F_0_0 (fT (by decide +kernel)) (z := some 129) (fR (by decide +kernel)) ?_
    refine x_li T_212_4 rfl ?_
    refine x_cv2 T_212_5 mN_213 mL_213 (Nat.le_of_ble_eq_true rfl) mO_213 (fT (by decide +kernel)) (Nat.le_of_ble_eq_true rfl) (c_kept_some hk) ?_
    rintro _ _ ⟨rfl, rfl⟩
    refine cR ?_
    refine x_sr T_212_8 rfl ?_
    refine x_lr T_212_9 rfl ?_
    refine x_nnul T_212_10 (fun _ _ => ?_) (fun h => by cases h)
    refine x_lr T_212_17 rfl ?_
    refine x_li T_212_18 rfl ?_
    refine x_cv2 T_212_19 mN_33 mL_33 (Nat.le_of_ble_eq_true rfl) mO_33 (fKept (by omega)).2.1 (Nat.le_of_ble_eq_true rfl) (c_at_out (fKept (by omega)).2.1 (fKept (by omega)).2.2.1 h) ?_
    rintro _ _ ⟨rfl, rfl⟩
    refine cI ?_
    refine x_ri T_212_22 ?_
    exact ⟨rfl, rfl⟩
  · skip
    refine x_lr T_212_0 rfl ?_
    refine x_gR T_212_1 F_0_0 (fT (by decide +kernel)) (z := some 129) (fR (by decide +kernel)) ?_
    refine x_li T_212_4 rfl ?_
    refine x_cv2 T_212_5 mN_213 mL_213 (Nat.le_of_ble_eq_true rfl) mO_213 (fT (by decide +kernel)) (Nat.le_of_ble_eq_true rfl) (c_kept_null hk) ?_
    rintro _ _ ⟨rfl, rfl⟩
    refine cR ?_
    refine x_sr T_212_8 rfl ?_
    refine x_lr T_212_9 rfl ?_
    refine x_nnul T_212_10 (fun _ h => by cases h) (fun _ => ?_)
    refine x_ic T_212_13 ?_
    refine x_goto T_212_14 ?_
    refine x_ri T_212_22 ?_
    exact ⟨rfl, rfl⟩
theorem q_m_message {k i : Int} (h : ¬ (0 ≤ k ∧ k < 6) ∨ (i < 0 ∨ 19 ≤ i)) : CL fb (d + 3) 409 [vR (some 2281), vI k, vI i] (S2 L xs) (fun r σ' => r = some (vI (-1)) ∧ σ' = S2 L xs) := by
  refine CL_in mL_409 rfl ?_
  show WP fb (d + 3) 409 0 [some (vR (some 2281)), some (vI k), some (vI i), none] [] (S2 L xs) _
  by_cases hk : 0 ≤ k ∧ k < 6
  · have h := h.resolve_left (fun e => e hk)
    refine x_li T_409_0 rfl ?_
    refine x_if T_409_1 (fun h => absurd (show (_ : Int) < _ from h) (by omega)) (fun _ => ?_)
    refine x_li T_409_4 rfl ?_
    refine x_lr T_409_5 rfl ?_
    refine x_gI T_409_6 (Or.inl F_17_42) (fT (by decide +kernel)) (z := 6) (fI (by decide +kernel)) ?_
    refine x_ic2 T_409_9 (fun h => absurd (show (_ : Int) ≤ _ from h) (by omega)) (fun _ => ?_)
    refine x_li T_409_12 rfl ?_
    refine x_lr T_409_13 rfl ?_
    refine x_gI T_409_14 (Or.inl F_17_42) (fT (by decide +kernel)) (z := 6) (fI (by decide +kernel)) ?_
    refine x_ic T_409_17 ?_
    refine x_ib T_409_19 (fun h => absurd h.1 (by decide)) (w := -34) rfl ?_
    refine x_ic2 T_409_20 (fun h => absurd (show (_ : Int) < _ from h) (by omega)) (fun _ => ?_)
    refine x_ic T_409_23 ?_
    refine x_goto T_409_24 ?_
    refine x_si T_409_28 rfl ?_
    refine x_li T_409_29 rfl ?_
    refine x_if T_409_30 (fun h => absurd (show (_ : Int) = _ from h) (by decide)) (fun _ => ?_)
    refine x_li T_409_33 rfl ?_
    refine x_i2l T_409_34 ?_
    refine x_lc T_409_35 ?_
    refine x_lr T_409_36 rfl ?_
    refine x_gR T_409_37 F_17_44 (fT (by decide +kernel)) (z := some 2317) (fR (by decide +kernel)) ?_
    refine x_li T_409_40 rfl ?_
    refine x_ic T_409_41 ?_
    refine x_ib T_409_43 (by omega) (rem40 hk) ?_
    refine x_alI T_409_44 (by decide) (fT (sh := Sum.inr (0, 40)) (by decide +kernel)) (by omega) (by omega) (fKept (by omega)).2.2.2 ?_
    refine x_ic T_409_45 ?_
    refine x_ib T_409_46 (fun h => absurd h.1 (by decide)) (w := 18) rfl ?_
    refine x_i2l T_409_47 ?_
    refine x_cs3 T_409_48 mN_282 mL_282 (Nat.le_of_ble_eq_true rfl) mK_282 (Nat.le_of_ble_eq_true rfl) (m_in) ?_
    rintro _ _ ⟨rfl, rfl⟩
    rw [if_neg (by omega)]
    refine cI ?_
    refine x_if T_409_51 (fun _ => ?_) (fun h => absurd (show (_ : Int) = _ by rfl) h)
    refine x_ic T_409_72 ?_
    refine x_ri T_409_73 ?_
    exact ⟨rfl, rfl⟩
  · by_cases h0 : k < 0
    · skip
      refine x_li T_409_0 rfl ?_
      refine x_if T_409_1 (fun _ => ?_) (fun h => absurd (show (_ : Int) < _ by omega) h)
      refine x_ic T_409_27 ?_
      refine x_si T_409_28 rfl ?_
      refine x_li T_409_29 rfl ?_
      refine x_if T_409_30 (fun _ => ?_) (fun h => absurd (show (_ : Int) = _ by rfl) h)
      refine x_ic T_409_72 ?_
      refine x_ri T_409_73 ?_
      exact ⟨rfl, rfl⟩
    · skip
      refine x_li T_409_0 rfl ?_
      refine x_if T_409_1 (fun h => absurd (show (_ : Int) < _ from h) (by omega)) (fun _ => ?_)
      refine x_li T_409_4 rfl ?_
      refine x_lr T_409_5 rfl ?_
      refine x_gI T_409_6 (Or.inl F_17_42) (fT (by decide +kernel)) (z := 6) (fI (by decide +kernel)) ?_
      refine x_ic2 T_409_9 (fun _ => ?_) (fun h => absurd (show (_ : Int) ≤ _ by omega) h)
      refine x_ic T_409_27 ?_
      refine x_si T_409_28 rfl ?_
      refine x_li T_409_29 rfl ?_
      refine x_if T_409_30 (fun _ => ?_) (fun h => absurd (show (_ : Int) = _ by rfl) h)
      refine x_ic T_409_72 ?_
      refine x_ri T_409_73 ?_
      exact ⟨rfl, rfl⟩
theorem q_x_login {n : Int} (h : ¬ (0 ≤ n ∧ n < 4)) : CL fb (d + 3) 204 [vR (some 128), vI n] (S2 L xs) (fun r σ' => r = some (vI (-100)) ∧ σ' = S2 L xs) := by
  refine CL_in mL_204 rfl ?_
  show WP fb (d + 3) 204 0 [some (vR (some 128)), some (vI n)] [] (S2 L xs) _
  by_cases h0 : n < 0
  · skip
    refine x_li T_204_0 rfl ?_
    refine x_if T_204_1 (fun _ => ?_) (fun h => absurd (show (_ : Int) < _ by omega) h)
    refine x_ic T_204_9 ?_
    refine x_goto T_204_11 ?_
    refine x_ri T_204_22 ?_
    exact ⟨rfl, rfl⟩
  · skip
    refine x_li T_204_0 rfl ?_
    refine x_if T_204_1 (fun h => absurd (show (_ : Int) < _ from h) (by omega)) (fun _ => ?_)
    refine x_li T_204_4 rfl ?_
    refine x_ic T_204_5 ?_
    refine x_ic2 T_204_6 (fun h => absurd (show (_ : Int) < _ from h) (by omega)) (fun _ => ?_)
    refine x_ic T_204_9 ?_
    refine x_goto T_204_11 ?_
    refine x_ri T_204_22 ?_
    exact ⟨rfl, rfl⟩
theorem q_m_login {n : Int} (h : ¬ (0 ≤ n ∧ n < 4)) : CL fb (d + 3) 403 [vR (some 2281), vI n] (S2 L xs) (fun r σ' => r = some (vI (-100)) ∧ σ' = S2 L xs) := by
  refine CL_in mL_403 rfl ?_
  show WP fb (d + 3) 403 0 [some (vR (some 2281)), some (vI n), none, none] [] (S2 L xs) _
  refine x_li T_403_0 rfl ?_
  refine x_i2l T_403_1 ?_
  refine x_lc T_403_2 ?_
  refine x_lc T_403_3 ?_
  refine x_cs3 T_403_6 mN_282 mL_282 (Nat.le_of_ble_eq_true rfl) mK_282 (Nat.le_of_ble_eq_true rfl) (m_in) ?_
  rintro _ _ ⟨rfl, rfl⟩
  rw [if_neg (by omega)]
  refine cI ?_
  refine x_if T_403_9 (fun h => absurd (show ¬ (_ : Int) = _ from h) (by decide)) (fun _ => ?_)
  refine x_ic T_403_12 ?_
  refine x_ri T_403_14 ?_
  exact ⟨rfl, rfl⟩
theorem q_x_ask {n : Int} (h : ¬ (0 ≤ n ∧ n < 3)) : CL fb (d + 3) 216 [vR (some 128), vI n] (S2 L xs) (fun r σ' => r = some (vI (-100)) ∧ σ' = S2 L xs) := by
  refine CL_in mL_216 rfl ?_
  show WP fb (d + 3) 216 0 [some (vR (some 128)), some (vI n)] [] (S2 L xs) _
  by_cases h0 : n < 0
  · skip
    refine x_li T_216_0 rfl ?_
    refine x_if T_216_1 (fun _ => ?_) (fun h => absurd (show (_ : Int) < _ by omega) h)
    refine x_ic T_216_9 ?_
    refine x_ri T_216_11 ?_
    exact ⟨rfl, rfl⟩
  · skip
    refine x_li T_216_0 rfl ?_
    refine x_if T_216_1 (fun h => absurd (show (_ : Int) < _ from h) (by omega)) (fun _ => ?_)
    refine x_li T_216_4 rfl ?_
    refine x_ic T_216_5 ?_
    refine x_ic2 T_216_6 (fun h => absurd (show (_ : Int) < _ from h) (by omega)) (fun _ => ?_)
    refine x_ic T_216_9 ?_
    refine x_ri T_216_11 ?_
    exact ⟨rfl, rfl⟩
theorem q_m_ask {n : Int} (h : ¬ (0 ≤ n ∧ n < 3)) : CL fb (d + 3) 412 [vR (some 2281), vI n] (S2 L xs) (fun r σ' => r = some (vI (-100)) ∧ σ' = S2 L xs) := by
  refine CL_in mL_412 rfl ?_
  show WP fb (d + 3) 412 0 [some (vR (some 2281)), some (vI n), none] [] (S2 L xs) _
  refine x_li T_412_0 rfl ?_
  refine x_i2l T_412_1 ?_
  refine x_lc T_412_2 ?_
  refine x_lc T_412_3 ?_
  refine x_cs3 T_412_6 mN_282 mL_282 (Nat.le_of_ble_eq_true rfl) mK_282 (Nat.le_of_ble_eq_true rfl) (m_in) ?_
  rintro _ _ ⟨rfl, rfl⟩
  rw [if_neg (by omega)]
  refine cI ?_
  refine x_if T_412_9 (fun h => absurd (show ¬ (_ : Int) = _ from h) (by decide)) (fun _ => ?_)
  refine x_ic T_412_12 ?_
  refine x_ri T_412_14 ?_
  exact ⟨rfl, rfl⟩
theorem c_host {s : Int} (h : 0 ≤ s ∧ s < 3) : CL fb d 122 [vR (some 129), vI s] (S2 L xs) (fun r σ' => r = some (vR (some (1293 + 294 * s.toNat))) ∧ σ' = S2 L xs) := by
  refine CL_in mL_122 rfl ?_
  show WP fb d 122 0 [some (vR (some 129)), some (vI s)] [] (S2 L xs) _
  refine x_lr T_122_0 rfl ?_
  refine x_gR T_122_1 F_1_10 (fT (by decide +kernel)) (z := some 141) (fR (by decide +kernel)) ?_
  refine x_li T_122_4 rfl ?_
  refine x_if T_122_5 (fun h => absurd (show (_ : Int) < _ from h) (by omega)) (fun _ => ?_)
  refine x_li T_122_8 rfl ?_
  refine x_ic T_122_9 ?_
  refine x_ic2 T_122_10 (fun _ => ?_) (fun h => absurd (show (_ : Int) < _ by omega) h)
  refine x_li T_122_17 rfl ?_
  refine x_alR T_122_18 (fT (sh := Sum.inr (17, 3)) (by decide +kernel)) (by decide) (by omega) (by omega) (fSrv (by omega)).1 ?_
  refine x_rr T_122_19 ?_
  exact ⟨rfl, rfl⟩
theorem q_x_server {s w : Int} (h : ¬ ((0 ≤ s ∧ s < 3) ∧ (0 ≤ w ∧ w < 6))) : CL fb (d + 3) 224 [vR (some 128), vI s, vI w] (S2 L xs) (fun r σ' => r = some (vI (-100)) ∧ σ' = S2 L xs) := by
  refine CL_in mL_224 rfl ?_
  show WP fb (d + 3) 224 0 [some (vR (some 128)), some (vI s), some (vI w), none] [] (S2 L xs) _
  by_cases h0 : s < 0
  · skip
    refine x_li T_224_0 rfl ?_
    refine x_if T_224_1 (fun _ => ?_) (fun h => absurd (show (_ : Int) < _ by omega) h)
    refine x_ic T_224_9 ?_
    refine x_ri T_224_11 ?_
    exact ⟨rfl, rfl⟩
  · by_cases h1 : 3 ≤ s
    · skip
      refine x_li T_224_0 rfl ?_
      refine x_if T_224_1 (fun h => absurd (show (_ : Int) < _ from h) (by omega)) (fun _ => ?_)
      refine x_li T_224_4 rfl ?_
      refine x_ic T_224_5 ?_
      refine x_ic2 T_224_6 (fun h => absurd (show (_ : Int) < _ from h) (by omega)) (fun _ => ?_)
      refine x_ic T_224_9 ?_
      refine x_ri T_224_11 ?_
      exact ⟨rfl, rfl⟩
    · skip
      refine x_li T_224_0 rfl ?_
      refine x_if T_224_1 (fun h => absurd (show (_ : Int) < _ from h) (by omega)) (fun _ => ?_)
      refine x_li T_224_4 rfl ?_
      refine x_ic T_224_5 ?_
      refine x_ic2 T_224_6 (fun _ => ?_) (fun h => absurd (show (_ : Int) < _ by omega) h)
      refine x_lr T_224_12 rfl ?_
      refine x_gR T_224_13 F_0_0 (fT (by decide +kernel)) (z := some 129) (fR (by decide +kernel)) ?_
      refine x_li T_224_16 rfl ?_
      refine x_cv2 T_224_17 mN_122 mL_122 (Nat.le_of_ble_eq_true rfl) mO_122 (fT (by decide +kernel)) (Nat.le_of_ble_eq_true rfl) (c_host (by omega)) ?_
      rintro _ _ ⟨rfl, rfl⟩
      refine cR ?_
      refine x_sr T_224_20 rfl ?_
      refine x_li T_224_21 rfl ?_
      refine x_swOut T_224_22  (by show w < 0 ∨ (0 : Int) + 6 ≤ w; omega) ?_
      refine x_ic T_224_94 ?_
      refine x_ri T_224_96 ?_
      exact ⟨rfl, rfl⟩
theorem q_m_server {s w : Int} (h : ¬ ((0 ≤ s ∧ s < 3) ∧ (0 ≤ w ∧ w < 6))) : CL fb (d + 3) 420 [vR (some 2281), vI s, vI w] (S2 L xs) (fun r σ' => r = some (vI (-100)) ∧ σ' = S2 L xs) := by
  refine CL_in mL_420 rfl ?_
  show WP fb (d + 3) 420 0 [some (vR (some 2281)), some (vI s), some (vI w), none, none] [] (S2 L xs) _
  by_cases h0 : 0 ≤ s ∧ s < 3
  · skip
    refine x_li T_420_0 rfl ?_
    refine x_i2l T_420_1 ?_
    refine x_lc T_420_2 ?_
    refine x_lc T_420_3 ?_
    refine x_cs3 T_420_6 mN_282 mL_282 (Nat.le_of_ble_eq_true rfl) mK_282 (Nat.le_of_ble_eq_true rfl) (m_in) ?_
    rintro _ _ ⟨rfl, rfl⟩
    rw [if_pos (by omega)]
    refine cI ?_
    refine x_if T_420_9 (fun h => absurd (show (_ : Int) = _ from h) (by decide)) (fun _ => ?_)
    refine x_li T_420_12 rfl ?_
    refine x_i2l T_420_13 ?_
    refine x_lc T_420_14 ?_
    refine x_lc T_420_15 ?_
    refine x_cs3 T_420_18 mN_282 mL_282 (Nat.le_of_ble_eq_true rfl) mK_282 (Nat.le_of_ble_eq_true rfl) (m_in) ?_
    rintro _ _ ⟨rfl, rfl⟩
    rw [if_neg (by omega)]
    refine cI ?_
    refine x_if T_420_21 (fun h => absurd (show ¬ (_ : Int) = _ from h) (by decide)) (fun _ => ?_)
    refine x_ic T_420_24 ?_
    refine x_ri T_420_26 ?_
    exact ⟨rfl, rfl⟩
  · skip
    refine x_li T_420_0 rfl ?_
    refine x_i2l T_420_1 ?_
    refine x_lc T_420_2 ?_
    refine x_lc T_420_3 ?_
    refine x_cs3 T_420_6 mN_282 mL_282 (Nat.le_of_ble_eq_true rfl) mK_282 (Nat.le_of_ble_eq_true rfl) (m_in) ?_
    rintro _ _ ⟨rfl, rfl⟩
    rw [if_neg (by omega)]
    refine cI ?_
    refine x_if T_420_9 (fun _ => ?_) (fun h => absurd (show (_ : Int) = _ by rfl) h)
    refine x_ic T_420_24 ?_
    refine x_ri T_420_26 ?_
    exact ⟨rfl, rfl⟩
theorem c_find_loop {j : Nat} (hj : j < 3) {f : Int} {Q : Option AV → hM → Prop} (hQ : Q (some (vR none)) (S2 L xs)) : ∀ (m i : Nat), i + m = 48 → WP fb d 39 16 [some (vR (some (1293 + 294 * j))), some (vI 0), some (vL f), none, some (vI 0), some (vI (i : Int))] [] (S2 L xs) Q := by
  intro m
  induction m with
  | zero =>
    intro i hi
    refine x_li T_39_16 rfl ?_
    refine x_li T_39_18 rfl ?_
    refine x_ic T_39_20 ?_
    refine x_ib T_39_22 (fun h => absurd h.1 (by decide)) (w := 48) rfl ?_
    refine x_ic2 T_39_23 (fun _ => ?_) (fun h => absurd (show (_ : Int) ≤ _ by omega) h)
    refine x_nu T_39_68 ?_
    refine x_rr T_39_69 ?_
    exact hQ
  | succ m ih =>
    intro i hi
    refine x_li T_39_16 rfl ?_
    refine x_li T_39_18 rfl ?_
    refine x_ic T_39_20 ?_
    refine x_ib T_39_22 (fun h => absurd h.1 (by decide)) (w := 48) rfl ?_
    refine x_ic2 T_39_23 (fun h => absurd (show (_ : Int) ≤ _ from h) (by omega)) (fun _ => ?_)
    refine x_lr T_39_26 rfl ?_
    refine x_gR T_39_27 F_7_3 (fSrv hj).2.1 (fSrv hj).2.2.1 ?_
    refine x_li T_39_30 rfl ?_
    refine x_alR T_39_32 (fSrv hj).2.2.2 (by decide) (by omega) (by omega) (fFid hj (by omega)).1 ?_
    refine x_gI T_39_33 (Or.inr (Or.inl F_9_0)) (fFid hj (by omega)).2.1 (fFid hj (by omega)).2.2 ?_
    refine x_if T_39_36 (fun _ => ?_) (fun h => absurd (show (_ : Int) = _ by rfl) h)
    refine x_inc T_39_62 rfl (w32_id (by omega) (by omega)) rfl ?_
    refine x_goto T_39_65 ?_
    exact ih (i + 1) (by omega)
theorem c_find {j : Nat} (hj : j < 3) {f : Int} : CL fb d 39 [vR (some (1293 + 294 * j)), vI 0, vL f] (S2 L xs) (fun r σ' => r = some (vR none) ∧ σ' = S2 L xs) := by
  refine CL_in mL_39 rfl ?_
  show WP fb d 39 0 [some (vR (some (1293 + 294 * j))), some (vI 0), some (vL f), none, none, none] [] (S2 L xs) _
  refine x_li T_39_0 rfl ?_
  refine x_if T_39_1 (fun h => absurd (show ¬ (_ : Int) = _ from h) (by decide)) (fun _ => ?_)
  refine x_ic T_39_4 ?_
  refine x_goto T_39_5 ?_
  refine x_si T_39_10 rfl ?_
  refine x_li T_39_12 rfl ?_
  refine x_si T_39_14 rfl ?_
  exact c_find_loop hj ⟨rfl, rfl⟩ 48 0 rfl
theorem m_base {s c : Int} (h : 0 ≤ s ∧ s < 3) (hc : 0 ≤ c ∧ c < 2) : CL fb d 243 [vI s, vI c] σ (fun r σ' => r = some (vI (48 * (2 * s + c))) ∧ σ' = σ) := by
  refine CL_in mL_243 rfl ?_
  show WP fb d 243 0 [some (vI s), some (vI c)] [] σ _
  refine x_ic T_243_0 ?_
  refine x_ic T_243_2 ?_
  refine x_li T_243_3 rfl ?_
  refine x_ib T_243_4 (fun h => absurd h.1 (by decide)) (w32_id (by omega) (by omega)) ?_
  refine x_li T_243_5 rfl ?_
  refine x_ib T_243_6 (fun h => absurd h.1 (by decide)) (w32_id (by omega) (by omega)) ?_
  refine x_ib T_243_7 (fun h => absurd h.1 (by decide)) (w32_id (by omega) (by omega)) ?_
  refine x_ri T_243_8 ?_
  exact ⟨rfl, rfl⟩
theorem m_find_loop {s f : Int} (hs : 0 ≤ s ∧ s < 3) {Q : Option AV → hM → Prop} (hQ : Q (some (vI (-1))) (S2 L xs)) : ∀ (m : Nat) (i : Int), i + m = 48 * (2 * s + 0) + 48 → 0 ≤ i → WP fb (d + 1) 261 7 [some (vR (some 2281)), some (vI s), some (vI 0), some (vL f), none, some (vI i)] [] (S2 L xs) Q := by
  intro m
  induction m with
  | zero =>
    intro i hi h0
    refine x_li T_261_7 rfl ?_
    refine x_li T_261_9 rfl ?_
    refine x_li T_261_10 rfl ?_
    refine x_cs2 T_261_11 mN_243 mL_243 (Nat.le_of_ble_eq_true rfl) mK_243 (Nat.le_of_ble_eq_true rfl) (m_base hs (by decide)) ?_
    rintro _ _ ⟨rfl, rfl⟩
    refine cI ?_
    refine x_ic T_261_14 ?_
    refine x_ib T_261_16 (fun h => absurd h.1 (by decide)) (w32_id (by omega) (by omega)) ?_
    refine x_ic2 T_261_17 (fun _ => ?_) (fun h => absurd (show (_ : Int) ≤ _ by omega) h)
    refine x_ic T_261_51 ?_
    refine x_ri T_261_52 ?_
    exact hQ
  | succ m ih =>
    intro i hi h0
    refine x_li T_261_7 rfl ?_
    refine x_li T_261_9 rfl ?_
    refine x_li T_261_10 rfl ?_
    refine x_cs2 T_261_11 mN_243 mL_243 (Nat.le_of_ble_eq_true rfl) mK_243 (Nat.le_of_ble_eq_true rfl) (m_base hs (by decide)) ?_
    rintro _ _ ⟨rfl, rfl⟩
    refine cI ?_
    refine x_ic T_261_14 ?_
    refine x_ib T_261_16 (fun h => absurd h.1 (by decide)) (w32_id (by omega) (by omega)) ?_
    refine x_ic2 T_261_17 (fun h => absurd (show (_ : Int) ≤ _ from h) (by omega)) (fun _ => ?_)
    refine x_lr T_261_20 rfl ?_
    refine x_gR T_261_21 F_17_28 (fT (by decide +kernel)) (z := some 2304) (fR (by decide +kernel)) ?_
    refine x_li T_261_24 rfl ?_
    refine x_alI T_261_26 (by decide) (fT (sh := Sum.inr (2, 288)) (by decide +kernel)) (by omega) (by omega) fIsF ?_
    refine x_if T_261_27 (fun _ => ?_) (fun h => absurd (show (_ : Int) = _ by rfl) h)
    refine x_inc T_261_45 rfl (w32_id (by omega) (by omega)) rfl ?_
    refine x_goto T_261_48 ?_
    exact ih (i + 1) (by omega) (by omega)
theorem m_find {s f : Int} (hs : 0 ≤ s ∧ s < 3) : CL fb (d + 1) 261 [vR (some 2281), vI s, vI 0, vL f] (S2 L xs) (fun r σ' => r = some (vI (-1)) ∧ σ' = S2 L xs) := by
  refine CL_in mL_261 rfl ?_
  show WP fb (d + 1) 261 0 [some (vR (some 2281)), some (vI s), some (vI 0), some (vL f), none, none] [] (S2 L xs) _
  refine x_li T_261_0 rfl ?_
  refine x_li T_261_1 rfl ?_
  refine x_cs2 T_261_2 mN_243 mL_243 (Nat.le_of_ble_eq_true rfl) mK_243 (Nat.le_of_ble_eq_true rfl) (m_base hs (by decide)) ?_
  rintro _ _ ⟨rfl, rfl⟩
  refine cI ?_
  refine x_si T_261_5 rfl ?_
  exact m_find_loop hs ⟨rfl, rfl⟩ 48 _ (by omega) (by omega)
theorem q_x_fid {s f w : Int} : CL fb (d + 3) 226 [vR (some 128), vI s, vI f, vI w] (S2 L xs) (fun r σ' => r = some (vI (-1)) ∧ σ' = S2 L xs) := by
  refine CL_in mL_226 rfl ?_
  show WP fb (d + 3) 226 0 [some (vR (some 128)), some (vI s), some (vI f), some (vI w), none] [] (S2 L xs) _
  by_cases h0 : s < 0
  · skip
    refine x_li T_226_0 rfl ?_
    refine x_if T_226_1 (fun _ => ?_) (fun h => absurd (show (_ : Int) < _ by omega) h)
    refine x_nu T_226_9 ?_
    refine x_goto T_226_10 ?_
    refine x_sr T_226_27 rfl ?_
    refine x_lr T_226_29 rfl ?_
    refine x_nnul T_226_31 (fun _ h => by cases h) (fun _ => ?_)
    refine x_ic T_226_34 ?_
    refine x_ri T_226_35 ?_
    exact ⟨rfl, rfl⟩
  · by_cases h1 : 3 ≤ s
    · skip
      refine x_li T_226_0 rfl ?_
      refine x_if T_226_1 (fun h => absurd (show (_ : Int) < _ from h) (by omega)) (fun _ => ?_)
      refine x_li T_226_4 rfl ?_
      refine x_ic T_226_5 ?_
      refine x_ic2 T_226_6 (fun h => absurd (show (_ : Int) < _ from h) (by omega)) (fun _ => ?_)
      refine x_nu T_226_9 ?_
      refine x_goto T_226_10 ?_
      refine x_sr T_226_27 rfl ?_
      refine x_lr T_226_29 rfl ?_
      refine x_nnul T_226_31 (fun _ h => by cases h) (fun _ => ?_)
      refine x_ic T_226_34 ?_
      refine x_ri T_226_35 ?_
      exact ⟨rfl, rfl⟩
    · skip
      refine x_li T_226_0 rfl ?_
      refine x_if T_226_1 (fun h => absurd (show (_ : Int) < _ from h) (by omega)) (fun _ => ?_)
      refine x_li T_226_4 rfl ?_
      refine x_ic T_226_5 ?_
      refine x_ic2 T_226_6 (fun _ => ?_) (fun h => absurd (show (_ : Int) < _ by omega) h)
      refine x_lr T_226_13 rfl ?_
      refine x_gR T_226_14 F_0_0 (fT (by decide +kernel)) (z := some 129) (fR (by decide +kernel)) ?_
      refine x_li T_226_17 rfl ?_
      refine x_cv2 T_226_18 mN_122 mL_122 (Nat.le_of_ble_eq_true rfl) mO_122 (fT (by decide +kernel)) (Nat.le_of_ble_eq_true rfl) (c_host (by omega)) ?_
      rintro _ _ ⟨rfl, rfl⟩
      refine cR ?_
      refine x_ic T_226_21 ?_
      refine x_li T_226_22 rfl ?_
      refine x_i2l T_226_23 ?_
      refine x_cv3 T_226_24 mN_39 mL_39 (Nat.le_of_ble_eq_true rfl) mO_39 (fSrv (by omega)).2.1 (Nat.le_of_ble_eq_true rfl) (c_find (by omega)) ?_
      rintro _ _ ⟨rfl, rfl⟩
      refine cR ?_
      refine x_sr T_226_27 rfl ?_
      refine x_lr T_226_29 rfl ?_
      refine x_nnul T_226_31 (fun _ h => by cases h) (fun _ => ?_)
      refine x_ic T_226_34 ?_
      refine x_ri T_226_35 ?_
      exact ⟨rfl, rfl⟩
theorem q_m_fid {s f w : Int} : CL fb (d + 3) 422 [vR (some 2281), vI s, vI f, vI w] (S2 L xs) (fun r σ' => r = some (vI (-1)) ∧ σ' = S2 L xs) := by
  refine CL_in mL_422 rfl ?_
  show WP fb (d + 3) 422 0 [some (vR (some 2281)), some (vI s), some (vI f), some (vI w), none] [] (S2 L xs) _
  by_cases h0 : 0 ≤ s ∧ s < 3
  · skip
    refine x_li T_422_0 rfl ?_
    refine x_i2l T_422_1 ?_
    refine x_lc T_422_2 ?_
    refine x_lc T_422_3 ?_
    refine x_cs3 T_422_6 mN_282 mL_282 (Nat.le_of_ble_eq_true rfl) mK_282 (Nat.le_of_ble_eq_true rfl) (m_in) ?_
    rintro _ _ ⟨rfl, rfl⟩
    rw [if_pos (by omega)]
    refine cI ?_
    refine x_if T_422_9 (fun h => absurd (show (_ : Int) = _ from h) (by decide)) (fun _ => ?_)
    refine x_lr T_422_12 rfl ?_
    refine x_li T_422_13 rfl ?_
    refine x_ic T_422_14 ?_
    refine x_li T_422_15 rfl ?_
    refine x_i2l T_422_16 ?_
    refine x_cv4 T_422_17 mN_261 mL_261 (Nat.le_of_ble_eq_true rfl) mO_261 (fT (by decide +kernel)) (Nat.le_of_ble_eq_true rfl) (m_find h0) ?_
    rintro _ _ ⟨rfl, rfl⟩
    refine cI ?_
    refine x_goto T_422_20 ?_
    refine x_si T_422_24 rfl ?_
    refine x_li T_422_26 rfl ?_
    refine x_if T_422_28 (fun h => absurd (show (_ : Int) ≤ _ from h) (by omega)) (fun _ => ?_)
    refine x_ic T_422_31 ?_
    refine x_ri T_422_32 ?_
    exact ⟨rfl, rfl⟩
  · skip
    refine x_li T_422_0 rfl ?_
    refine x_i2l T_422_1 ?_
    refine x_lc T_422_2 ?_
    refine x_lc T_422_3 ?_
    refine x_cs3 T_422_6 mN_282 mL_282 (Nat.le_of_ble_eq_true rfl) mK_282 (Nat.le_of_ble_eq_true rfl) (m_in) ?_
    rintro _ _ ⟨rfl, rfl⟩
    rw [if_neg (by omega)]
    refine cI ?_
    refine x_if T_422_9 (fun _ => ?_) (fun h => absurd (show (_ : Int) = _ by rfl) h)
    refine x_ic T_422_23 ?_
    refine x_si T_422_24 rfl ?_
    refine x_li T_422_26 rfl ?_
    refine x_if T_422_28 (fun h => absurd (show (_ : Int) ≤ _ from h) (by omega)) (fun _ => ?_)
    refine x_ic T_422_31 ?_
    refine x_ri T_422_32 ?_
    exact ⟨rfl, rfl⟩
theorem sb8_sb8 (z : Int) : sb8 (sb8 z) = sb8 z := by unfold sb8; rw [Int32.ofInt_toInt, Int8.toInt8_toInt32]
/-- a row of bytes grows by one -/
theorem c_add {a ra n : Nat} {s b : Int} (ho : mT σ a = some (Sum.inl 2)) (hr : mR σ a 0 = some ra) (hra : mT σ ra = some (Sum.inr (1, n))) (hs : mI σ a 1 = s) (ha : hK ≤ a) (hb : hK ≤ ra) (hne : a ≠ ra) (h0 : 0 ≤ s) (h1 : s < n) (hn : n ≤ 1000) : CL fb d 73 [vR (some a), vI b] σ (fun r σ' => r = some (vI 1) ∧ σ' = sI (sI σ ra s.toNat (sb8 b)) a 1 (s + 1)) := by
  refine CL_in mL_73 rfl ?_
  show WP fb d 73 0 [some (vR (some a)), some (vI b)] [] σ _
  refine x_lr T_73_0 rfl ?_
  refine x_gI T_73_1 (Or.inl F_2_1) ho hs ?_
  refine x_lr T_73_4 rfl ?_
  refine x_gR T_73_5 F_2_0 ho hr ?_
  refine x_len T_73_8 hra ?_
  refine x_ic2 T_73_9 (fun _ => ?_) (fun h => absurd (show (_ : Int) < _ by omega) h)
  refine x_lr T_73_14 rfl ?_
  refine x_gR T_73_15 F_2_0 ho hr ?_
  refine x_lr T_73_18 rfl ?_
  refine x_gI T_73_19 (Or.inl F_2_1) ho hs ?_
  refine x_li T_73_22 rfl ?_
  refine x_i2b T_73_23 rfl ?_
  refine x_asB T_73_24 hra (by assumption) (by omega) (by omega) (sb8_sb8 b) ?_
  refine x_lr T_73_25 rfl ?_
  refine x_dupR T_73_26 ?_
  refine x_gI T_73_27 (Or.inl F_2_1) ho (show mI (sI σ ra s.toNat (sb8 b)) a 1 = s by rw [mI_sI, if_neg (fun e => hne e.1)]; exact hs) ?_
  refine x_ic T_73_30 ?_
  refine x_ib T_73_31 (fun h => absurd h.1 (by decide)) (w32_id (by omega) (by omega)) ?_
  refine x_pI T_73_32 F_2_1 ho (by assumption) ?_
  refine x_ic T_73_35 ?_
  refine x_rz T_73_36 rfl ?_
  exact ⟨rfl, rfl⟩
theorem c_size {a : Nat} {s : Int} (ho : mT σ a = some (Sum.inl 2)) (hs : mI σ a 1 = s) : CL fb d 28 [vR (some a)] σ (fun r σ' => r = some (vI s) ∧ σ' = σ) := by
  refine CL_in mL_28 rfl ?_
  show WP fb d 28 0 [some (vR (some a))] [] σ _
  refine x_lr T_28_0 rfl ?_
  refine x_gI T_28_1 (Or.inl F_2_1) ho hs ?_
  refine x_ri T_28_4 ?_
  exact ⟨rfl, rfl⟩
theorem c_append {a ra n : Nat} {s b : Int} (ho : mT σ a = some (Sum.inl 2)) (hr : mR σ a 0 = some ra) (hra : mT σ ra = some (Sum.inr (1, n))) (hs : mI σ a 1 = s) (ha : hK ≤ a) (hb : hK ≤ ra) (hne : a ≠ ra) (h0 : 0 ≤ s) (h1 : s < n) (hn : n ≤ 1000) (hb2 : 0 ≤ b ∧ b ≤ 255) : CL fb (d + 1) 209 [vR (some a), vI b] σ (fun r σ' => r = some (vI (s + 1)) ∧ σ' = sI (sI σ ra s.toNat (sb8 b)) a 1 (s + 1)) := by
  refine CL_in mL_209 rfl ?_
  show WP fb (d + 1) 209 0 [some (vR (some a)), some (vI b)] [] σ _
  refine x_li T_209_0 rfl ?_
  refine x_if T_209_1 (fun h => absurd (show (_ : Int) < _ from h) (by omega)) (fun _ => ?_)
  refine x_li T_209_4 rfl ?_
  refine x_ic T_209_5 ?_
  refine x_ic2 T_209_8 (fun _ => ?_) (fun h => absurd (show (_ : Int) ≤ _ by omega) h)
  refine x_lr T_209_14 rfl ?_
  refine x_li T_209_15 rfl ?_
  refine x_cv2 T_209_16 mN_73 mL_73 (Nat.le_of_ble_eq_true rfl) mO_73 ho (Nat.le_of_ble_eq_true rfl) (c_add ho hr hra hs ha hb hne h0 h1 hn) ?_
  rintro _ _ ⟨rfl, rfl⟩
  refine cI ?_
  refine x_if T_209_19 (fun h => absurd (show (_ : Int) = _ from h) (by decide)) (fun _ => ?_)
  refine x_lr T_209_22 rfl ?_
  refine x_cv1 T_209_23 mN_28 mL_28 (Nat.le_of_ble_eq_true rfl) mO_28 ho (Nat.le_of_ble_eq_true rfl) (c_size (s := s + 1) ho (show mI (sI (sI σ ra s.toNat (sb8 b)) a 1 (s + 1)) a 1 = s + 1 by rw [mI_sI, if_pos ⟨rfl, rfl⟩])) ?_
  rintro _ _ ⟨rfl, rfl⟩
  refine cI ?_
  refine x_goto T_209_26 ?_
  refine x_ri T_209_31 ?_
  exact ⟨rfl, rfl⟩
theorem c_append_bad {a : Nat} {b : Int} (h : ¬ (0 ≤ b ∧ b ≤ 255)) : CL fb (d + 1) 209 [vR (some a), vI b] σ (fun r σ' => r = some (vI (-100)) ∧ σ' = σ) := by
  refine CL_in mL_209 rfl ?_
  show WP fb (d + 1) 209 0 [some (vR (some a)), some (vI b)] [] σ _
  by_cases h0 : b < 0
  · skip
    refine x_li T_209_0 rfl ?_
    refine x_if T_209_1 (fun _ => ?_) (fun h => absurd (show (_ : Int) < _ by omega) h)
    refine x_ic T_209_11 ?_
    refine x_ri T_209_13 ?_
    exact ⟨rfl, rfl⟩
  · skip
    refine x_li T_209_0 rfl ?_
    refine x_if T_209_1 (fun h => absurd (show (_ : Int) < _ from h) (by omega)) (fun _ => ?_)
    refine x_li T_209_4 rfl ?_
    refine x_ic T_209_5 ?_
    refine x_ic2 T_209_8 (fun h => absurd (show (_ : Int) ≤ _ from h) (by omega)) (fun _ => ?_)
    refine x_ic T_209_11 ?_
    refine x_ri T_209_13 ?_
    exact ⟨rfl, rfl⟩
theorem q_x_input_bad {b : Int} (h : ¬ (0 ≤ b ∧ b ≤ 255)) : CL fb (d + 3) 208 [vR (some 128), vI b] (S2 L xs) (fun r σ' => r = some (vI (-100)) ∧ σ' = S2 L xs) := by
  refine CL_in mL_208 rfl ?_
  show WP fb (d + 3) 208 0 [some (vR (some 128)), some (vI b)] [] (S2 L xs) _
  refine x_lr T_208_0 rfl ?_
  refine x_gR T_208_1 F_0_0 (fT (by decide +kernel)) (z := some 129) (fR (by decide +kernel)) ?_
  refine x_gR T_208_4 F_1_0 (fT (by decide +kernel)) (z := some 130) (fR (by decide +kernel)) ?_
  refine x_li T_208_7 rfl ?_
  refine x_cs2 T_208_8 mN_209 mL_209 (Nat.le_of_ble_eq_true rfl) mK_209 (Nat.le_of_ble_eq_true rfl) (c_append_bad h) ?_
  rintro _ _ ⟨rfl, rfl⟩
  refine cI ?_
  refine x_ri T_208_11 ?_
  exact ⟨rfl, rfl⟩
theorem q_x_input {b : Int} (h : 0 ≤ b ∧ b ≤ 255) : CL fb (d + 3) 208 [vR (some 128), vI b] (S2 L xs) (fun r σ' => r = some (vI 1) ∧ σ' = sI (sI (S2 L xs) 131 0 (sb8 b)) 130 1 1) := by
  refine CL_in mL_208 rfl ?_
  show WP fb (d + 3) 208 0 [some (vR (some 128)), some (vI b)] [] (S2 L xs) _
  refine x_lr T_208_0 rfl ?_
  refine x_gR T_208_1 F_0_0 (fT (by decide +kernel)) (z := some 129) (fR (by decide +kernel)) ?_
  refine x_gR T_208_4 F_1_0 (fT (by decide +kernel)) (z := some 130) (fR (by decide +kernel)) ?_
  refine x_li T_208_7 rfl ?_
  refine x_cs2 T_208_8 mN_209 mL_209 (Nat.le_of_ble_eq_true rfl) mK_209 (Nat.le_of_ble_eq_true rfl) (c_append (a := 130) (ra := 131) (s := 0) (n := 200) (fT (by decide +kernel)) (fR (by decide +kernel)) (fT (by decide +kernel)) (fI (by decide +kernel)) (by decide) (by decide) (by decide) (by decide) (by decide) (by decide) h) ?_
  rintro _ _ ⟨rfl, rfl⟩
  refine cI ?_
  refine x_ri T_208_11 ?_
  exact ⟨rfl, rfl⟩
theorem q_m_input_bad {b : Int} (h : ¬ (0 ≤ b ∧ b ≤ 255)) : CL fb (d + 3) 406 [vR (some 2281), vI b] σ (fun r σ' => r = some (vI (-100)) ∧ σ' = σ) := by
  refine CL_in mL_406 rfl ?_
  show WP fb (d + 3) 406 0 [some (vR (some 2281)), some (vI b)] [] σ _
  refine x_li T_406_0 rfl ?_
  refine x_i2l T_406_1 ?_
  refine x_lc T_406_2 ?_
  refine x_lc T_406_3 ?_
  refine x_cs3 T_406_6 mN_282 mL_282 (Nat.le_of_ble_eq_true rfl) mK_282 (Nat.le_of_ble_eq_true rfl) (m_in) ?_
  rintro _ σ1 ⟨rfl, e1⟩
  subst σ1
  rw [if_neg (by omega)]
  refine cI ?_
  refine x_if T_406_9 (fun h => absurd (show ¬ (_ : Int) = _ from h) (by decide)) (fun _ => ?_)
  refine x_ic T_406_12 ?_
  refine x_ri T_406_14 ?_
  exact ⟨rfl, rfl⟩
theorem q_m_input {b : Int} (h : 0 ≤ b ∧ b ≤ 255) (ho : mT σ 2281 = some (Sum.inl 17)) (hs : mI σ 2281 39 = 0) (hr : mR σ 2281 38 = some 2314) (hra : mT σ 2314 = some (Sum.inr (0, 200))) : CL fb (d + 3) 406 [vR (some 2281), vI b] σ (fun r σ' => r = some (vI 1) ∧ σ' = sI (sI σ 2314 0 b) 2281 39 1) := by
  refine CL_in mL_406 rfl ?_
  show WP fb (d + 3) 406 0 [some (vR (some 2281)), some (vI b)] [] σ _
  refine x_li T_406_0 rfl ?_
  refine x_i2l T_406_1 ?_
  refine x_lc T_406_2 ?_
  refine x_lc T_406_3 ?_
  refine x_cs3 T_406_6 mN_282 mL_282 (Nat.le_of_ble_eq_true rfl) mK_282 (Nat.le_of_ble_eq_true rfl) (m_in) ?_
  rintro _ σ1 ⟨rfl, e1⟩
  subst σ1
  rw [if_pos (by omega)]
  refine cI ?_
  refine x_if T_406_9 (fun _ => ?_) (fun h => absurd (show ¬ (_ : Int) = _ by decide) h)
  refine x_lr T_406_15 rfl ?_
  refine x_gI T_406_16 (Or.inl F_17_39) ho hs ?_
  refine x_ic T_406_19 ?_
  refine x_ic2 T_406_22 (fun _ => ?_) (fun h => absurd (show ¬ (_ : Int) = _ by decide) h)
  refine x_lr T_406_28 rfl ?_
  refine x_gR T_406_29 F_17_38 ho hr ?_
  refine x_lr T_406_32 rfl ?_
  refine x_gI T_406_33 (Or.inl F_17_39) ho hs ?_
  refine x_li T_406_36 rfl ?_
  refine x_asI T_406_37 hra (by decide) (by omega) (by omega) ?_
  refine x_lr T_406_38 rfl ?_
  refine x_dupR T_406_39 ?_
  refine x_gI T_406_40 (Or.inl F_17_39) ho (show mI (sI σ 2314 0 b) 2281 39 = 0 by rw [mI_sI, if_neg (by decide)]; exact hs) ?_
  refine x_ic T_406_43 ?_
  refine x_ib T_406_44 (fun h => absurd h.1 (by decide)) (w := 1) rfl ?_
  refine x_pI T_406_45 F_17_39 ho (by decide) ?_
  refine x_lr T_406_48 rfl ?_
  refine x_gI T_406_49 (Or.inl F_17_39) ho (show mI (sI (sI σ 2314 0 b) 2281 39 1) 2281 39 = 1 by rw [mI_sI, if_pos ⟨rfl, rfl⟩]) ?_
  refine x_ri T_406_52 ?_
  exact ⟨rfl, rfl⟩
theorem q_x_feed_bad {b : Int} (h : ¬ (0 ≤ b ∧ b ≤ 255)) : CL fb (d + 3) 215 [vR (some 128), vI b] (S2 L xs) (fun r σ' => r = some (vI (-100)) ∧ σ' = S2 L xs) := by
  refine CL_in mL_215 rfl ?_
  show WP fb (d + 3) 215 0 [some (vR (some 128)), some (vI b)] [] (S2 L xs) _
  refine x_lr T_215_0 rfl ?_
  refine x_gR T_215_1 F_0_4 (fT (by decide +kernel)) (z := some 2277) (fR (by decide +kernel)) ?_
  refine x_li T_215_4 rfl ?_
  refine x_cs2 T_215_5 mN_209 mL_209 (Nat.le_of_ble_eq_true rfl) mK_209 (Nat.le_of_ble_eq_true rfl) (c_append_bad h) ?_
  rintro _ _ ⟨rfl, rfl⟩
  refine cI ?_
  refine x_ri T_215_8 ?_
  exact ⟨rfl, rfl⟩
theorem q_x_feed {b : Int} (h : 0 ≤ b ∧ b ≤ 255) : CL fb (d + 3) 215 [vR (some 128), vI b] (S2 L xs) (fun r σ' => r = some (vI 1) ∧ σ' = sI (sI (S2 L xs) 2278 0 (sb8 b)) 2277 1 1) := by
  refine CL_in mL_215 rfl ?_
  show WP fb (d + 3) 215 0 [some (vR (some 128)), some (vI b)] [] (S2 L xs) _
  refine x_lr T_215_0 rfl ?_
  refine x_gR T_215_1 F_0_4 (fT (by decide +kernel)) (z := some 2277) (fR (by decide +kernel)) ?_
  refine x_li T_215_4 rfl ?_
  refine x_cs2 T_215_5 mN_209 mL_209 (Nat.le_of_ble_eq_true rfl) mK_209 (Nat.le_of_ble_eq_true rfl) (c_append (a := 2277) (ra := 2278) (s := 0) (n := 400) (fT (by decide +kernel)) (fR (by decide +kernel)) (fT (by decide +kernel)) (fI (by decide +kernel)) (by decide) (by decide) (by decide) (by decide) (by decide) (by decide) h) ?_
  rintro _ _ ⟨rfl, rfl⟩
  refine cI ?_
  refine x_ri T_215_8 ?_
  exact ⟨rfl, rfl⟩
theorem q_m_feed_bad {b : Int} (h : ¬ (0 ≤ b ∧ b ≤ 255)) : CL fb (d + 3) 411 [vR (some 2281), vI b] σ (fun r σ' => r = some (vI (-100)) ∧ σ' = σ) := by
  refine CL_in mL_411 rfl ?_
  show WP fb (d + 3) 411 0 [some (vR (some 2281)), some (vI b)] [] σ _
  refine x_li T_411_0 rfl ?_
  refine x_i2l T_411_1 ?_
  refine x_lc T_411_2 ?_
  refine x_lc T_411_3 ?_
  refine x_cs3 T_411_6 mN_282 mL_282 (Nat.le_of_ble_eq_true rfl) mK_282 (Nat.le_of_ble_eq_true rfl) (m_in) ?_
  rintro _ σ1 ⟨rfl, e1⟩
  subst σ1
  rw [if_neg (by omega)]
  refine cI ?_
  refine x_if T_411_9 (fun h => absurd (show ¬ (_ : Int) = _ from h) (by decide)) (fun _ => ?_)
  refine x_ic T_411_12 ?_
  refine x_ri T_411_14 ?_
  exact ⟨rfl, rfl⟩
theorem q_m_feed {b : Int} (h : 0 ≤ b ∧ b ≤ 255) (ho : mT σ 2281 = some (Sum.inl 17)) (hs : mI σ 2281 47 = 0) (hr : mR σ 2281 46 = some 2318) (hra : mT σ 2318 = some (Sum.inr (0, 400))) : CL fb (d + 3) 411 [vR (some 2281), vI b] σ (fun r σ' => r = some (vI 1) ∧ σ' = sI (sI σ 2318 0 b) 2281 47 1) := by
  refine CL_in mL_411 rfl ?_
  show WP fb (d + 3) 411 0 [some (vR (some 2281)), some (vI b)] [] σ _
  refine x_li T_411_0 rfl ?_
  refine x_i2l T_411_1 ?_
  refine x_lc T_411_2 ?_
  refine x_lc T_411_3 ?_
  refine x_cs3 T_411_6 mN_282 mL_282 (Nat.le_of_ble_eq_true rfl) mK_282 (Nat.le_of_ble_eq_true rfl) (m_in) ?_
  rintro _ σ1 ⟨rfl, e1⟩
  subst σ1
  rw [if_pos (by omega)]
  refine cI ?_
  refine x_if T_411_9 (fun _ => ?_) (fun h => absurd (show ¬ (_ : Int) = _ by decide) h)
  refine x_lr T_411_15 rfl ?_
  refine x_gI T_411_16 (Or.inl F_17_47) ho hs ?_
  refine x_ic T_411_19 ?_
  refine x_ic2 T_411_22 (fun _ => ?_) (fun h => absurd (show ¬ (_ : Int) = _ by decide) h)
  refine x_lr T_411_28 rfl ?_
  refine x_gR T_411_29 F_17_46 ho hr ?_
  refine x_lr T_411_32 rfl ?_
  refine x_gI T_411_33 (Or.inl F_17_47) ho hs ?_
  refine x_li T_411_36 rfl ?_
  refine x_asI T_411_37 hra (by decide) (by omega) (by omega) ?_
  refine x_lr T_411_38 rfl ?_
  refine x_dupR T_411_39 ?_
  refine x_gI T_411_40 (Or.inl F_17_47) ho (show mI (sI σ 2318 0 b) 2281 47 = 0 by rw [mI_sI, if_neg (by decide)]; exact hs) ?_
  refine x_ic T_411_43 ?_
  refine x_ib T_411_44 (fun h => absurd h.1 (by decide)) (w := 1) rfl ?_
  refine x_pI T_411_45 F_17_47 ho (by decide) ?_
  refine x_lr T_411_48 rfl ?_
  refine x_gI T_411_49 (Or.inl F_17_47) ho (show mI (sI (sI σ 2318 0 b) 2281 47 1) 2281 47 = 1 by rw [mI_sI, if_pos ⟨rfl, rfl⟩]) ?_
  refine x_ri T_411_52 ?_
  exact ⟨rfl, rfl⟩
end FRESH
