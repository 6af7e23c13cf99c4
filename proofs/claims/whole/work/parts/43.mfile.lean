/-! The reference's files: what they are, by rows. -/
theorem T_246_0 : hTab 246 0 = some ((3, 1, 0, []), 1) := rfl
theorem T_246_1 : hTab 246 1 = some ((0, 0, 2, []), 2) := rfl
theorem T_246_2 : hTab 246 2 = some ((19, 3, Int.ofNat 18, []), 5) := rfl
theorem T_246_5 : hTab 246 5 = some ((3, 0, 2, []), 6) := rfl
theorem T_246_6 : hTab 246 6 = some ((24, 17, Int.ofNat 14, []), 9) := rfl
theorem T_246_9 : hTab 246 9 = some ((3, 1, 0, []), 10) := rfl
theorem T_246_10 : hTab 246 10 = some ((3, 2, 0, []), 11) := rfl
theorem T_246_11 : hTab 246 11 = some ((31, 247, 0, []), 14) := rfl
theorem T_246_14 : hTab 246 14 = some ((26, 0, 0, []), 15) := rfl
theorem T_246_15 : hTab 246 15 = some ((22, 0, Int.ofNat 42, []), 18) := rfl
theorem T_246_18 : hTab 246 18 = some ((3, 2, 0, []), 19) := rfl
theorem T_246_19 : hTab 246 19 = some ((0, 0, 16, []), 21) := rfl
theorem T_246_21 : hTab 246 21 = some ((19, 2, Int.ofNat 31, []), 24) := rfl
theorem T_246_24 : hTab 246 24 = some ((3, 2, 0, []), 25) := rfl
theorem T_246_25 : hTab 246 25 = some ((0, 0, 16, []), 27) := rfl
theorem T_246_27 : hTab 246 27 = some ((10, 4, 0, []), 28) := rfl
theorem T_246_28 : hTab 246 28 = some ((18, 1, Int.ofNat 35, []), 31) := rfl
theorem T_246_31 : hTab 246 31 = some ((0, 0, 0, []), 32) := rfl
theorem T_246_32 : hTab 246 32 = some ((22, 0, Int.ofNat 42, []), 35) := rfl
theorem T_246_35 : hTab 246 35 = some ((3, 2, 0, []), 36) := rfl
theorem T_246_36 : hTab 246 36 = some ((0, 0, 16, []), 38) := rfl
theorem T_246_38 : hTab 246 38 = some ((10, 3, 0, []), 39) := rfl
theorem T_246_39 : hTab 246 39 = some ((0, 0, 16, []), 41) := rfl
theorem T_246_41 : hTab 246 41 = some ((10, 2, 0, []), 42) := rfl
theorem T_246_42 : hTab 246 42 = some ((33, 1, 0, []), 43) := rfl
theorem T_247_0 : hTab 247 0 = some ((0, 0, 64, []), 2) := rfl
theorem T_247_2 : hTab 247 2 = some ((3, 0, 0, []), 3) := rfl
theorem T_247_3 : hTab 247 3 = some ((10, 2, 0, []), 4) := rfl
theorem T_247_4 : hTab 247 4 = some ((3, 1, 0, []), 5) := rfl
theorem T_247_5 : hTab 247 5 = some ((10, 0, 0, []), 6) := rfl
theorem T_247_6 : hTab 247 6 = some ((33, 1, 0, []), 7) := rfl
theorem T_249_0 : hTab 249 0 = some ((3, 1, 0, []), 1) := rfl
theorem T_249_1 : hTab 249 1 = some ((0, 0, 2, []), 2) := rfl
theorem T_249_2 : hTab 249 2 = some ((19, 3, Int.ofNat 16, []), 5) := rfl
theorem T_249_5 : hTab 249 5 = some ((3, 0, 2, []), 6) := rfl
theorem T_249_6 : hTab 249 6 = some ((24, 17, Int.ofNat 17, []), 9) := rfl
theorem T_249_9 : hTab 249 9 = some ((3, 1, 0, []), 10) := rfl
theorem T_249_10 : hTab 249 10 = some ((3, 2, 0, []), 11) := rfl
theorem T_249_11 : hTab 249 11 = some ((31, 247, 0, []), 14) := rfl
theorem T_249_14 : hTab 249 14 = some ((26, 0, 0, []), 15) := rfl
theorem T_249_15 : hTab 249 15 = some ((33, 1, 0, []), 16) := rfl
theorem T_249_16 : hTab 249 16 = some ((3, 2, 0, []), 17) := rfl
theorem T_249_17 : hTab 249 17 = some ((0, 0, 1, []), 18) := rfl
theorem T_249_18 : hTab 249 18 = some ((19, 1, Int.ofNat 25, []), 21) := rfl
theorem T_249_21 : hTab 249 21 = some ((0, 0, 438, []), 24) := rfl
theorem T_249_24 : hTab 249 24 = some ((33, 1, 0, []), 25) := rfl
theorem T_249_25 : hTab 249 25 = some ((3, 2, 0, []), 26) := rfl
theorem T_249_26 : hTab 249 26 = some ((18, 0, Int.ofNat 36, []), 29) := rfl
theorem T_249_29 : hTab 249 29 = some ((3, 2, 0, []), 30) := rfl
theorem T_249_30 : hTab 249 30 = some ((0, 0, 16, []), 32) := rfl
theorem T_249_32 : hTab 249 32 = some ((10, 4, 0, []), 33) := rfl
theorem T_249_33 : hTab 249 33 = some ((18, 1, Int.ofNat 42, []), 36) := rfl
theorem T_249_36 : hTab 249 36 = some ((0, 0, (-2147483283), []), 39) := rfl
theorem T_249_39 : hTab 249 39 = some ((22, 0, Int.ofNat 59, []), 42) := rfl
theorem T_249_42 : hTab 249 42 = some ((3, 2, 0, []), 43) := rfl
theorem T_249_43 : hTab 249 43 = some ((0, 0, 16, []), 45) := rfl
theorem T_249_45 : hTab 249 45 = some ((10, 4, 0, []), 46) := rfl
theorem T_249_46 : hTab 249 46 = some ((0, 0, 1, []), 47) := rfl
theorem T_249_47 : hTab 249 47 = some ((19, 1, Int.ofNat 56, []), 50) := rfl
theorem T_249_50 : hTab 249 50 = some ((0, 0, 292, []), 53) := rfl
theorem T_249_53 : hTab 249 53 = some ((22, 0, Int.ofNat 59, []), 56) := rfl
theorem T_249_56 : hTab 249 56 = some ((0, 0, 128, []), 59) := rfl
theorem T_249_59 : hTab 249 59 = some ((33, 1, 0, []), 60) := rfl
theorem T_250_0 : hTab 250 0 = some ((3, 1, 0, []), 1) := rfl
theorem T_250_1 : hTab 250 1 = some ((0, 0, 2, []), 2) := rfl
theorem T_250_2 : hTab 250 2 = some ((19, 3, Int.ofNat 18, []), 5) := rfl
theorem T_250_5 : hTab 250 5 = some ((3, 0, 2, []), 6) := rfl
theorem T_250_6 : hTab 250 6 = some ((24, 17, Int.ofNat 18, []), 9) := rfl
theorem T_250_9 : hTab 250 9 = some ((3, 1, 0, []), 10) := rfl
theorem T_250_10 : hTab 250 10 = some ((3, 2, 0, []), 11) := rfl
theorem T_250_11 : hTab 250 11 = some ((31, 247, 0, []), 14) := rfl
theorem T_250_14 : hTab 250 14 = some ((26, 0, 0, []), 15) := rfl
theorem T_250_15 : hTab 250 15 = some ((22, 0, Int.ofNat 39, []), 18) := rfl
theorem T_250_18 : hTab 250 18 = some ((3, 2, 0, []), 19) := rfl
theorem T_250_19 : hTab 250 19 = some ((0, 0, 16, []), 21) := rfl
theorem T_250_21 : hTab 250 21 = some ((19, 3, Int.ofNat 28, []), 24) := rfl
theorem T_250_24 : hTab 250 24 = some ((0, 0, 0, []), 25) := rfl
theorem T_250_25 : hTab 250 25 = some ((22, 0, Int.ofNat 39, []), 28) := rfl
theorem T_250_28 : hTab 250 28 = some ((3, 0, 2, []), 29) := rfl
theorem T_250_29 : hTab 250 29 = some ((24, 17, Int.ofNat 52, []), 32) := rfl
theorem T_250_32 : hTab 250 32 = some ((3, 2, 0, []), 33) := rfl
theorem T_250_33 : hTab 250 33 = some ((0, 0, 16, []), 35) := rfl
theorem T_250_35 : hTab 250 35 = some ((10, 3, 0, []), 36) := rfl
theorem T_250_36 : hTab 250 36 = some ((0, 0, 1, []), 37) := rfl
theorem T_250_37 : hTab 250 37 = some ((10, 1, 0, []), 38) := rfl
theorem T_250_38 : hTab 250 38 = some ((26, 0, 0, []), 39) := rfl
theorem T_250_39 : hTab 250 39 = some ((33, 1, 0, []), 40) := rfl
theorem T_251_0 : hTab 251 0 = some ((3, 1, 0, []), 1) := rfl
theorem T_251_1 : hTab 251 1 = some ((0, 0, 2, []), 2) := rfl
theorem T_251_2 : hTab 251 2 = some ((19, 3, Int.ofNat 18, []), 5) := rfl
theorem T_251_5 : hTab 251 5 = some ((3, 0, 2, []), 6) := rfl
theorem T_251_6 : hTab 251 6 = some ((24, 17, Int.ofNat 19, []), 9) := rfl
theorem T_251_9 : hTab 251 9 = some ((3, 1, 0, []), 10) := rfl
theorem T_251_10 : hTab 251 10 = some ((3, 2, 0, []), 11) := rfl
theorem T_251_11 : hTab 251 11 = some ((31, 247, 0, []), 14) := rfl
theorem T_251_14 : hTab 251 14 = some ((26, 0, 0, []), 15) := rfl
theorem T_251_15 : hTab 251 15 = some ((22, 0, Int.ofNat 24, []), 18) := rfl
theorem T_251_18 : hTab 251 18 = some ((3, 0, 2, []), 19) := rfl
theorem T_251_19 : hTab 251 19 = some ((3, 1, 0, []), 20) := rfl
theorem T_251_20 : hTab 251 20 = some ((3, 2, 0, []), 21) := rfl
theorem T_251_21 : hTab 251 21 = some ((31, 250, 0, []), 24) := rfl
theorem T_251_24 : hTab 251 24 = some ((33, 1, 0, []), 25) := rfl
theorem T_252_0 : hTab 252 0 = some ((3, 0, 2, []), 1) := rfl
theorem T_252_1 : hTab 252 1 = some ((3, 1, 0, []), 2) := rfl
theorem T_252_2 : hTab 252 2 = some ((3, 2, 0, []), 3) := rfl
theorem T_252_3 : hTab 252 3 = some ((31, 249, 0, []), 6) := rfl
theorem T_252_6 : hTab 252 6 = some ((18, 3, Int.ofNat 13, []), 9) := rfl
theorem T_252_9 : hTab 252 9 = some ((0, 0, 1, []), 10) := rfl
theorem T_252_10 : hTab 252 10 = some ((22, 0, Int.ofNat 14, []), 13) := rfl
theorem T_252_13 : hTab 252 13 = some ((0, 0, 0, []), 14) := rfl
theorem T_252_14 : hTab 252 14 = some ((33, 2, 0, []), 15) := rfl
theorem T_263_0 : hTab 263 0 = some ((3, 1, 0, []), 1) := rfl
theorem T_263_1 : hTab 263 1 = some ((0, 0, 2, []), 2) := rfl
theorem T_263_2 : hTab 263 2 = some ((19, 3, Int.ofNat 18, []), 5) := rfl
theorem T_263_5 : hTab 263 5 = some ((3, 0, 2, []), 6) := rfl
theorem T_263_6 : hTab 263 6 = some ((24, 17, Int.ofNat 15, []), 9) := rfl
theorem T_263_9 : hTab 263 9 = some ((3, 1, 0, []), 10) := rfl
theorem T_263_10 : hTab 263 10 = some ((3, 2, 0, []), 11) := rfl
theorem T_263_11 : hTab 263 11 = some ((31, 247, 0, []), 14) := rfl
theorem T_263_14 : hTab 263 14 = some ((26, 0, 0, []), 15) := rfl
theorem T_263_15 : hTab 263 15 = some ((22, 0, Int.ofNat 19, []), 18) := rfl
theorem T_263_18 : hTab 263 18 = some ((3, 2, 0, []), 19) := rfl
theorem T_263_19 : hTab 263 19 = some ((33, 1, 0, []), 20) := rfl
theorem T_265_0 : hTab 265 0 = some ((3, 1, 0, []), 1) := rfl
theorem T_265_1 : hTab 265 1 = some ((0, 0, 2, []), 2) := rfl
theorem T_265_2 : hTab 265 2 = some ((19, 3, Int.ofNat 18, []), 5) := rfl
theorem T_265_5 : hTab 265 5 = some ((3, 0, 2, []), 6) := rfl
theorem T_265_6 : hTab 265 6 = some ((24, 17, Int.ofNat 16, []), 9) := rfl
theorem T_265_9 : hTab 265 9 = some ((3, 1, 0, []), 10) := rfl
theorem T_265_10 : hTab 265 10 = some ((3, 2, 0, []), 11) := rfl
theorem T_265_11 : hTab 265 11 = some ((31, 247, 0, []), 14) := rfl
theorem T_265_14 : hTab 265 14 = some ((26, 0, 0, []), 15) := rfl
theorem T_265_15 : hTab 265 15 = some ((22, 0, Int.ofNat 19, []), 18) := rfl
theorem T_265_18 : hTab 265 18 = some ((0, 0, 0, []), 19) := rfl
theorem T_265_19 : hTab 265 19 = some ((33, 1, 0, []), 20) := rfl
theorem T_270_0 : hTab 270 0 = some ((3, 1, 0, []), 1) := rfl
theorem T_270_1 : hTab 270 1 = some ((0, 0, 2, []), 2) := rfl
theorem T_270_2 : hTab 270 2 = some ((19, 3, Int.ofNat 18, []), 5) := rfl
theorem T_270_5 : hTab 270 5 = some ((3, 0, 2, []), 6) := rfl
theorem T_270_6 : hTab 270 6 = some ((24, 17, Int.ofNat 23, []), 9) := rfl
theorem T_270_9 : hTab 270 9 = some ((3, 1, 0, []), 10) := rfl
theorem T_270_10 : hTab 270 10 = some ((3, 2, 0, []), 11) := rfl
theorem T_270_11 : hTab 270 11 = some ((31, 247, 0, []), 14) := rfl
theorem T_270_14 : hTab 270 14 = some ((26, 0, 0, []), 15) := rfl
theorem T_270_15 : hTab 270 15 = some ((22, 0, Int.ofNat 25, []), 18) := rfl
theorem T_270_18 : hTab 270 18 = some ((3, 2, 0, []), 19) := rfl
theorem T_270_19 : hTab 270 19 = some ((31, 271, 0, []), 22) := rfl
theorem T_270_22 : hTab 270 22 = some ((31, 272, 0, []), 25) := rfl
theorem T_270_25 : hTab 270 25 = some ((33, 1, 0, []), 26) := rfl
theorem T_271_0 : hTab 271 0 = some ((3, 0, 0, []), 1) := rfl
theorem T_271_1 : hTab 271 1 = some ((18, 1, Int.ofNat 8, []), 4) := rfl
theorem T_271_4 : hTab 271 4 = some ((1, 0, 47, []), 7) := rfl
theorem T_271_7 : hTab 271 7 = some ((33, 3, 0, []), 8) := rfl
theorem T_271_8 : hTab 271 8 = some ((3, 0, 0, []), 9) := rfl
theorem T_271_9 : hTab 271 9 = some ((0, 0, 1, []), 10) := rfl
theorem T_271_10 : hTab 271 10 = some ((19, 1, Int.ofNat 17, []), 13) := rfl
theorem T_271_13 : hTab 271 13 = some ((1, 0, 1668247155, []), 16) := rfl
theorem T_271_16 : hTab 271 16 = some ((33, 3, 0, []), 17) := rfl
theorem T_271_17 : hTab 271 17 = some ((3, 0, 0, []), 18) := rfl
theorem T_271_18 : hTab 271 18 = some ((0, 0, 16, []), 20) := rfl
theorem T_271_20 : hTab 271 20 = some ((10, 4, 0, []), 21) := rfl
theorem T_271_21 : hTab 271 21 = some ((18, 1, Int.ofNat 37, []), 24) := rfl
theorem T_271_24 : hTab 271 24 = some ((0, 0, 48, []), 26) := rfl
theorem T_271_26 : hTab 271 26 = some ((3, 0, 0, []), 27) := rfl
theorem T_271_27 : hTab 271 27 = some ((0, 0, 16, []), 29) := rfl
theorem T_271_29 : hTab 271 29 = some ((10, 3, 0, []), 30) := rfl
theorem T_271_30 : hTab 271 30 = some ((10, 0, 0, []), 31) := rfl
theorem T_271_31 : hTab 271 31 = some ((0, 0, 1, []), 32) := rfl
theorem T_271_32 : hTab 271 32 = some ((10, 1, 0, []), 33) := rfl
theorem T_271_33 : hTab 271 33 = some ((14, 0, 0, []), 34) := rfl
theorem T_271_34 : hTab 271 34 = some ((22, 0, Int.ofNat 54, []), 37) := rfl
theorem T_271_37 : hTab 271 37 = some ((3, 0, 0, []), 38) := rfl
theorem T_271_38 : hTab 271 38 = some ((0, 0, 16, []), 40) := rfl
theorem T_271_40 : hTab 271 40 = some ((10, 4, 0, []), 41) := rfl
theorem T_271_41 : hTab 271 41 = some ((0, 0, 1, []), 42) := rfl
theorem T_271_42 : hTab 271 42 = some ((19, 1, Int.ofNat 51, []), 45) := rfl
theorem T_271_45 : hTab 271 45 = some ((1, 0, 126943688422771, []), 48) := rfl
theorem T_271_48 : hTab 271 48 = some ((22, 0, Int.ofNat 54, []), 51) := rfl
theorem T_271_51 : hTab 271 51 = some ((1, 0, 6517868, []), 54) := rfl
theorem T_271_54 : hTab 271 54 = some ((33, 3, 0, []), 55) := rfl
theorem T_272_0 : hTab 272 0 = some ((0, 0, 0, []), 1) := rfl
theorem T_272_1 : hTab 272 1 = some ((4, 2, 0, []), 2) := rfl
theorem T_272_2 : hTab 272 2 = some ((3, 2, 0, []), 3) := rfl
theorem T_272_3 : hTab 272 3 = some ((0, 0, 8, []), 5) := rfl
theorem T_272_5 : hTab 272 5 = some ((19, 3, Int.ofNat 25, []), 8) := rfl
theorem T_272_8 : hTab 272 8 = some ((3, 0, 1, []), 9) := rfl
theorem T_272_9 : hTab 272 9 = some ((0, 0, 8, []), 11) := rfl
theorem T_272_11 : hTab 272 11 = some ((3, 2, 0, []), 12) := rfl
theorem T_272_12 : hTab 272 12 = some ((10, 2, 0, []), 13) := rfl
theorem T_272_13 : hTab 272 13 = some ((12, 1, 0, []), 14) := rfl
theorem T_272_14 : hTab 272 14 = some ((1, 0, 0, []), 15) := rfl
theorem T_272_15 : hTab 272 15 = some ((17, 0, 0, []), 16) := rfl
theorem T_272_16 : hTab 272 16 = some ((18, 0, Int.ofNat 25, []), 19) := rfl
theorem T_272_19 : hTab 272 19 = some ((5, 2, 1, []), 22) := rfl
theorem T_272_22 : hTab 272 22 = some ((22, 0, Int.ofNat 2, []), 25) := rfl
theorem T_272_25 : hTab 272 25 = some ((3, 2, 0, []), 26) := rfl
theorem T_272_26 : hTab 272 26 = some ((33, 1, 0, []), 27) := rfl
theorem T_273_0 : hTab 273 0 = some ((3, 1, 0, []), 1) := rfl
theorem T_273_1 : hTab 273 1 = some ((0, 0, 2, []), 2) := rfl
theorem T_273_2 : hTab 273 2 = some ((19, 3, Int.ofNat 21, []), 5) := rfl
theorem T_273_5 : hTab 273 5 = some ((3, 0, 2, []), 6) := rfl
theorem T_273_6 : hTab 273 6 = some ((24, 17, Int.ofNat 22, []), 9) := rfl
theorem T_273_9 : hTab 273 9 = some ((0, 0, 12, []), 11) := rfl
theorem T_273_11 : hTab 273 11 = some ((3, 1, 0, []), 12) := rfl
theorem T_273_12 : hTab 273 12 = some ((3, 2, 0, []), 13) := rfl
theorem T_273_13 : hTab 273 13 = some ((31, 247, 0, []), 16) := rfl
theorem T_273_16 : hTab 273 16 = some ((10, 2, 0, []), 17) := rfl
theorem T_273_17 : hTab 273 17 = some ((3, 3, 0, []), 18) := rfl
theorem T_273_18 : hTab 273 18 = some ((10, 0, 0, []), 19) := rfl
theorem T_273_19 : hTab 273 19 = some ((26, 0, 0, []), 20) := rfl
theorem T_273_20 : hTab 273 20 = some ((33, 1, 0, []), 21) := rfl
theorem T_273_21 : hTab 273 21 = some ((3, 2, 0, []), 22) := rfl
theorem T_273_22 : hTab 273 22 = some ((31, 271, 0, []), 25) := rfl
theorem T_273_25 : hTab 273 25 = some ((0, 0, 8, []), 27) := rfl
theorem T_273_27 : hTab 273 27 = some ((3, 0, 2, []), 28) := rfl
theorem T_273_28 : hTab 273 28 = some ((3, 1, 0, []), 29) := rfl
theorem T_273_29 : hTab 273 29 = some ((3, 2, 0, []), 30) := rfl
theorem T_273_30 : hTab 273 30 = some ((31, 270, 0, []), 33) := rfl
theorem T_273_33 : hTab 273 33 = some ((0, 0, 1, []), 34) := rfl
theorem T_273_34 : hTab 273 34 = some ((10, 1, 0, []), 35) := rfl
theorem T_273_35 : hTab 273 35 = some ((3, 3, 0, []), 36) := rfl
theorem T_273_36 : hTab 273 36 = some ((10, 1, 0, []), 37) := rfl
theorem T_273_37 : hTab 273 37 = some ((10, 2, 0, []), 38) := rfl
theorem T_273_38 : hTab 273 38 = some ((12, 1, 0, []), 39) := rfl
theorem T_273_39 : hTab 273 39 = some ((1, 0, 255, []), 42) := rfl
theorem T_273_42 : hTab 273 42 = some ((11, 5, 0, []), 43) := rfl
theorem T_273_43 : hTab 273 43 = some ((15, 0, 0, []), 44) := rfl
theorem T_273_44 : hTab 273 44 = some ((33, 1, 0, []), 45) := rfl
theorem T_289_0 : hTab 289 0 = some ((3, 1, 0, []), 1) := rfl
theorem T_289_1 : hTab 289 1 = some ((0, 0, 2, []), 2) := rfl
theorem T_289_2 : hTab 289 2 = some ((19, 3, Int.ofNat 27, []), 5) := rfl
theorem T_289_5 : hTab 289 5 = some ((3, 0, 2, []), 6) := rfl
theorem T_289_6 : hTab 289 6 = some ((3, 1, 0, []), 7) := rfl
theorem T_289_7 : hTab 289 7 = some ((3, 2, 0, []), 8) := rfl
theorem T_289_8 : hTab 289 8 = some ((31, 252, 0, []), 11) := rfl
theorem T_289_11 : hTab 289 11 = some ((18, 1, Int.ofNat 27, []), 14) := rfl
theorem T_289_14 : hTab 289 14 = some ((3, 0, 2, []), 15) := rfl
theorem T_289_15 : hTab 289 15 = some ((24, 17, Int.ofNat 21, []), 18) := rfl
theorem T_289_18 : hTab 289 18 = some ((3, 1, 0, []), 19) := rfl
theorem T_289_19 : hTab 289 19 = some ((3, 2, 0, []), 20) := rfl
theorem T_289_20 : hTab 289 20 = some ((31, 247, 0, []), 23) := rfl
theorem T_289_23 : hTab 289 23 = some ((26, 0, 0, []), 24) := rfl
theorem T_289_24 : hTab 289 24 = some ((22, 0, Int.ofNat 28, []), 27) := rfl
theorem T_289_27 : hTab 289 27 = some ((0, 0, 0, []), 28) := rfl
theorem T_289_28 : hTab 289 28 = some ((33, 1, 0, []), 29) := rfl
theorem T_291_0 : hTab 291 0 = some ((3, 1, 0, []), 1) := rfl
theorem T_291_1 : hTab 291 1 = some ((0, 0, 2, []), 2) := rfl
theorem T_291_2 : hTab 291 2 = some ((19, 3, Int.ofNat 18, []), 5) := rfl
theorem T_291_5 : hTab 291 5 = some ((3, 0, 2, []), 6) := rfl
theorem T_291_6 : hTab 291 6 = some ((24, 17, Int.ofNat 20, []), 9) := rfl
theorem T_291_9 : hTab 291 9 = some ((3, 1, 0, []), 10) := rfl
theorem T_291_10 : hTab 291 10 = some ((3, 2, 0, []), 11) := rfl
theorem T_291_11 : hTab 291 11 = some ((31, 247, 0, []), 14) := rfl
theorem T_291_14 : hTab 291 14 = some ((26, 0, 0, []), 15) := rfl
theorem T_291_15 : hTab 291 15 = some ((22, 0, Int.ofNat 24, []), 18) := rfl
theorem T_291_18 : hTab 291 18 = some ((3, 0, 2, []), 19) := rfl
theorem T_291_19 : hTab 291 19 = some ((3, 1, 0, []), 20) := rfl
theorem T_291_20 : hTab 291 20 = some ((3, 2, 0, []), 21) := rfl
theorem T_291_21 : hTab 291 21 = some ((31, 250, 0, []), 24) := rfl
theorem T_291_24 : hTab 291 24 = some ((33, 1, 0, []), 25) := rfl
theorem F_17_14 : (hFd 17 14).2.2.1 = 4 := rfl
theorem F_17_15 : (hFd 17 15).2.2.1 = 4 := rfl
theorem F_17_16 : (hFd 17 16).2.2.1 = 4 := rfl
theorem F_17_17 : (hFd 17 17).2.2.1 = 4 := rfl
theorem F_17_18 : (hFd 17 18).2.2.1 = 4 := rfl
theorem F_17_19 : (hFd 17 19).2.2.1 = 4 := rfl
theorem F_17_20 : (hFd 17 20).2.2.1 = 4 := rfl
theorem F_17_21 : (hFd 17 21).2.2.1 = 4 := rfl
theorem F_17_22 : (hFd 17 22).2.2.1 = 4 := rfl
theorem F_17_23 : (hFd 17 23).2.2.1 = 4 := rfl
theorem F_17_52 : (hFd 17 52).2.2.1 = 4 := rfl
theorem mN_246 : hmN 246 = 3 := by decide +kernel
theorem mL_246 : hmL 246 = 3 := by decide +kernel
theorem mK_246 : hmK 246 = 1 := by decide +kernel
theorem mO_246 : hmO 246 = 17 := by decide +kernel
theorem mN_247 : hmN 247 = 2 := by decide +kernel
theorem mL_247 : hmL 247 = 2 := by decide +kernel
theorem mK_247 : hmK 247 = 0 := by decide +kernel
theorem mO_247 : hmO 247 = 17 := by decide +kernel
theorem mN_249 : hmN 249 = 3 := by decide +kernel
theorem mL_249 : hmL 249 = 3 := by decide +kernel
theorem mK_249 : hmK 249 = 1 := by decide +kernel
theorem mO_249 : hmO 249 = 17 := by decide +kernel
theorem mN_250 : hmN 250 = 3 := by decide +kernel
theorem mL_250 : hmL 250 = 3 := by decide +kernel
theorem mK_250 : hmK 250 = 1 := by decide +kernel
theorem mO_250 : hmO 250 = 17 := by decide +kernel
theorem mN_251 : hmN 251 = 3 := by decide +kernel
theorem mL_251 : hmL 251 = 3 := by decide +kernel
theorem mK_251 : hmK 251 = 1 := by decide +kernel
theorem mO_251 : hmO 251 = 17 := by decide +kernel
theorem mN_252 : hmN 252 = 3 := by decide +kernel
theorem mL_252 : hmL 252 = 3 := by decide +kernel
theorem mK_252 : hmK 252 = 1 := by decide +kernel
theorem mO_252 : hmO 252 = 17 := by decide +kernel
theorem mN_263 : hmN 263 = 3 := by decide +kernel
theorem mL_263 : hmL 263 = 3 := by decide +kernel
theorem mK_263 : hmK 263 = 1 := by decide +kernel
theorem mO_263 : hmO 263 = 17 := by decide +kernel
theorem mN_265 : hmN 265 = 3 := by decide +kernel
theorem mL_265 : hmL 265 = 3 := by decide +kernel
theorem mK_265 : hmK 265 = 1 := by decide +kernel
theorem mO_265 : hmO 265 = 17 := by decide +kernel
theorem mN_270 : hmN 270 = 3 := by decide +kernel
theorem mL_270 : hmL 270 = 3 := by decide +kernel
theorem mK_270 : hmK 270 = 1 := by decide +kernel
theorem mO_270 : hmO 270 = 17 := by decide +kernel
theorem mN_271 : hmN 271 = 1 := by decide +kernel
theorem mL_271 : hmL 271 = 1 := by decide +kernel
theorem mK_271 : hmK 271 = 0 := by decide +kernel
theorem mO_271 : hmO 271 = 17 := by decide +kernel
theorem mN_272 : hmN 272 = 1 := by decide +kernel
theorem mL_272 : hmL 272 = 3 := by decide +kernel
theorem mK_272 : hmK 272 = 0 := by decide +kernel
theorem mO_272 : hmO 272 = 17 := by decide +kernel
theorem mN_273 : hmN 273 = 4 := by decide +kernel
theorem mL_273 : hmL 273 = 4 := by decide +kernel
theorem mK_273 : hmK 273 = 1 := by decide +kernel
theorem mO_273 : hmO 273 = 17 := by decide +kernel
theorem mN_289 : hmN 289 = 3 := by decide +kernel
theorem mL_289 : hmL 289 = 3 := by decide +kernel
theorem mK_289 : hmK 289 = 1 := by decide +kernel
theorem mO_289 : hmO 289 = 17 := by decide +kernel
theorem mN_291 : hmN 291 = 3 := by decide +kernel
theorem mL_291 : hmL 291 = 3 := by decide +kernel
theorem mK_291 : hmK 291 = 1 := by decide +kernel
theorem mO_291 : hmO 291 = 17 := by decide +kernel
abbrev okN (s n : Int) : Prop := 0 ≤ s ∧ s ≤ 2 ∧ 0 ≤ n ∧ n < 144 ∧ (s < 2 → n < 64)
def qMode (P : qR) (s n : Int) : Int := if s < 2 then P 2293 (64 * s + n) else if n = 1 then 438 else if n = 0 ∨ n % 16 = 0 then -2147483283 else if n % 16 = 1 then 292 else 128
def qUid (P : qR) (s n : Int) : Int := if s < 2 then P 2294 (64 * s + n) else if n < 16 then 0 else P 2322 (n / 16 - 1)
def qGid (P : qR) (s n : Int) : Int := if s < 2 then P 2295 (64 * s + n) else qUid P s n
def qMuid (P : qR) (s n : Int) : Int := if s < 2 then P 2296 (64 * s + n) else qUid P s n
def qPath (P : qR) (s n : Int) : Int := if s < 2 then P 2291 (64 * s + n) else n
def qVer (P : qR) (s n : Int) : Int := if s < 2 then P 2292 (64 * s + n) else 0
def qLen (P : qR) (s n : Int) : Int := if s < 2 ∧ 0 ≤ qMode P s n then P 2297 (64 * s + n) else 0
def qUp (P : qR) (s n : Int) : Int := if s < 2 then P 2290 (64 * s + n) else if n < 16 ∨ n % 16 = 0 then 0 else n / 16 * 16
/-- names of server 2: as the reference packs them, and as bytes -/
def qPk (n : Int) : Int := if n = 0 then 47 else if n = 1 then 1668247155 else if n % 16 = 0 then 48 + n / 16 - 1 else if n % 16 = 1 then 126943688422771 else 6517868
def qNm2 (n : Int) : List Int := if n = 0 then [47] else if n = 1 then [99, 111, 110, 115] else if n % 16 = 0 then [47 + n / 16] else if n % 16 = 1 then [115, 116, 97, 116, 117, 115] else [99, 116, 108]
def qNs (P : qR) (s n : Int) : Int := if s < 2 then P 2299 (64 * s + n) else ((qNm2 n).length : Int)
def qNb (P : qR) (s n k : Int) : Int := if s < 2 then P 2298 (12 * (64 * s + n) + k) else lg (qNm2 n) k
theorem qNm2_len (n : Int) : 1 ≤ (qNm2 n).length ∧ (qNm2 n).length ≤ 6 := by
  unfold qNm2
  repeat' split
  all_goals (simp only [List.length_cons, List.length_nil]; omega)
theorem qNm2_b {n : Int} (h : 0 ≤ n ∧ n < 144) {k : Int} (hk : 0 ≤ k) (hk2 : k < (qNm2 n).length) : lg (qNm2 n) k = qPk n / 256 ^ ((qNm2 n).length - 1 - k.toNat) % 256 := by
  have h1 : (List.range 144).all (fun n => (List.range (qNm2 (n : Int)).length).all (fun k => decide (lg (qNm2 (n : Int)) (k : Int) = qPk (n : Int) / 256 ^ ((qNm2 (n : Int)).length - 1 - k) % 256))) = true := by decide +kernel
  obtain ⟨m, rfl⟩ := Int.eq_ofNat_of_zero_le h.1
  obtain ⟨j, rfl⟩ := Int.eq_ofNat_of_zero_le hk
  exact of_decide_eq_true (List.all_eq_true.mp (List.all_eq_true.mp h1 m (List.mem_range.mpr (by omega))) j (List.mem_range.mpr (by omega)))
theorem qNm2_r {n : Int} (h : 0 ≤ n ∧ n < 144) {k : Int} (hk : 0 ≤ k) (hk2 : k < (qNm2 n).length) : 0 ≤ lg (qNm2 n) k ∧ lg (qNm2 n) k ≤ 255 := by
  rw [qNm2_b h hk hk2]
  omega
theorem qPk_b {n : Int} (h : 0 ≤ n ∧ n < 144) : 0 < qPk n ∧ qPk n ≤ 126943688422771 := by
  unfold qPk
  repeat' split
  all_goals omega
section MFILE
variable {fb : Bool} {d : Nat} {σ0 σ : hM} {P S : qR} {T U s n : Int}
theorem m_place (h : 0 ≤ s ∧ s ≤ 2 ∧ 0 ≤ n ∧ n < 144) : CL fb d 247 [vI s, vI n] σ (rP (64 * s + n) σ) := by
  refine CL_in mL_247 rfl ?_
  show WP fb _ 247 0 [some (vI s), some (vI n)] [] σ _
  refine x_ic T_247_0 ?_
  refine x_li (z := s) T_247_2 rfl ?_
  refine x_ib (w := (64 * s)) T_247_3 (fun h => absurd h.1 (by decide)) (w32_id (by omega) (by omega)) ?_
  refine x_li (z := n) T_247_4 rfl ?_
  refine x_ib (w := ((64 * s) + n)) T_247_5 (fun h => absurd h.1 (by decide)) (w32_id (by omega) (by omega)) ?_
  refine x_ri T_247_6 ?_
  exact ⟨rfl, rfl⟩
theorem m_modeOf (hP : PM σ0 P S σ) (h : okN s n) : CL fb (d + 1) 249 [vR (some 2281), vI s, vI n] σ (rP (qMode P s n) σ) := by
  refine CL_in mL_249 rfl ?_
  show WP fb _ 249 0 [some (vR (some 2281)), some (vI s), some (vI n)] [] σ _
  refine x_li (z := s) T_249_0 rfl ?_
  refine x_ic T_249_1 ?_
  refine x_ic2 T_249_2 (fun h2 => ?_) (fun h2 => ?_)
  · replace h2 : 2 ≤ s := h2
    refine x_li (z := n) T_249_16 rfl ?_
    refine x_ic T_249_17 ?_
    refine x_ic2 T_249_18 (fun h18 => ?_) (fun h18 => ?_)
    · replace h18 : ¬ n = 1 := h18
      refine x_li (z := n) T_249_25 rfl ?_
      refine x_if T_249_26 (fun h26 => ?_) (fun h26 => ?_)
      · replace h26 : n = 0 := h26
        refine x_ic T_249_36 ?_
        refine x_goto T_249_39 ?_
        refine x_ri T_249_59 ?_
        refine ⟨?_, rfl⟩
        unfold qMode
        (repeat' split) <;> first | rfl | omega
      · replace h26 : ¬ (n = 0) := h26
        refine x_li (z := n) T_249_29 rfl ?_
        refine x_ic T_249_30 ?_
        refine x_ib (w := (n % 16)) T_249_32 (fun h => absurd h.2 (by decide)) (rem32_n (by omega) (by omega) (by decide)) ?_
        refine x_if T_249_33 (fun h33 => ?_) (fun h33 => ?_)
        · replace h33 : ¬ (n % 16) = 0 := h33
          refine x_li (z := n) T_249_42 rfl ?_
          refine x_ic T_249_43 ?_
          refine x_ib (w := (n % 16)) T_249_45 (fun h => absurd h.2 (by decide)) (rem32_n (by omega) (by omega) (by decide)) ?_
          refine x_ic T_249_46 ?_
          refine x_ic2 T_249_47 (fun h47 => ?_) (fun h47 => ?_)
          · replace h47 : ¬ (n % 16) = 1 := h47
            refine x_ic T_249_56 ?_
            refine x_ri T_249_59 ?_
            refine ⟨?_, rfl⟩
            unfold qMode
            (repeat' split) <;> first | rfl | omega
          · replace h47 : ¬ (¬ (n % 16) = 1) := h47
            refine x_ic T_249_50 ?_
            refine x_goto T_249_53 ?_
            refine x_ri T_249_59 ?_
            refine ⟨?_, rfl⟩
            unfold qMode
            (repeat' split) <;> first | rfl | omega
        · replace h33 : ¬ (¬ (n % 16) = 0) := h33
          refine x_ic T_249_36 ?_
          refine x_goto T_249_39 ?_
          refine x_ri T_249_59 ?_
          refine ⟨?_, rfl⟩
          unfold qMode
          (repeat' split) <;> first | rfl | omega
    · replace h18 : ¬ (¬ n = 1) := h18
      refine x_ic T_249_21 ?_
      refine x_ri T_249_24 ?_
      refine ⟨?_, rfl⟩
      unfold qMode
      (repeat' split) <;> first | rfl | omega
  · replace h2 : ¬ (2 ≤ s) := h2
    refine x_lr (z := some 2281) T_249_5 rfl ?_
    refine x_gR (z := some 2293) T_249_6 F_17_17 (PM.t hP) (PM.r hP 17 2293 rfl) ?_
    refine x_li (z := s) T_249_9 rfl ?_
    refine x_li (z := n) T_249_10 rfl ?_
    refine x_cs2 T_249_11 mN_247 mL_247 (Nat.le_of_ble_eq_true rfl) mK_247 (Nat.le_of_ble_eq_true rfl) (m_place (by omega)) ?_
    rintro _ _ ⟨rfl, rfl⟩
    refine cI ?_
    refine x_alI (z := P 2293 (64 * s + n)) T_249_14 (by decide) (PM.ta hP 2293 0 128 rfl rfl) (by omega) (by omega) (PM.aP hP 2293 rfl rfl (by omega)) ?_
    refine x_ri T_249_15 ?_
    refine ⟨?_, rfl⟩
    unfold qMode
    (repeat' split) <;> first | rfl | omega
theorem qMode_i (hI : IV false T U P) (h : okN s n) : -2147483648 ≤ qMode P s n ∧ qMode P s n ≤ 2147483647 := by
  unfold qMode
  repeat' split
  · exact IV.a hI 2293 0 128 rfl rfl rfl (by omega) (by omega)
  all_goals omega
theorem m_isDirectory (hP : PM σ0 P S σ) (h : okN s n) : CL fb (d + 2) 252 [vR (some 2281), vI s, vI n] σ (rP (if qMode P s n < 0 then 1 else 0) σ) := by
  refine CL_in mL_252 rfl ?_
  show WP fb _ 252 0 [some (vR (some 2281)), some (vI s), some (vI n)] [] σ _
  refine x_lr (z := some 2281) T_252_0 rfl ?_
  refine x_li (z := s) T_252_1 rfl ?_
  refine x_li (z := n) T_252_2 rfl ?_
  refine x_cv3 T_252_3 mN_249 mL_249 (Nat.le_of_ble_eq_true rfl) mO_249 (PM.t hP) (Nat.le_of_ble_eq_true rfl) (m_modeOf hP (by omega)) ?_
  rintro _ _ ⟨rfl, rfl⟩
  refine cI ?_
  refine x_if T_252_6 (fun h6 => ?_) (fun h6 => ?_)
  · replace h6 : 0 ≤ qMode P s n := h6
    refine x_ic T_252_13 ?_
    refine x_rz T_252_14 rfl ?_
    exact ⟨by split <;> first | rfl | omega, rfl⟩
  · replace h6 : ¬ (0 ≤ qMode P s n) := h6
    refine x_ic T_252_9 ?_
    refine x_goto T_252_10 ?_
    refine x_rz T_252_14 rfl ?_
    exact ⟨by split <;> first | rfl | omega, rfl⟩
theorem m_uidOf (hP : PM σ0 P S σ) (h : okN s n) : CL fb (d + 1) 250 [vR (some 2281), vI s, vI n] σ (rP (qUid P s n) σ) := by
  refine CL_in mL_250 rfl ?_
  show WP fb _ 250 0 [some (vR (some 2281)), some (vI s), some (vI n)] [] σ _
  refine x_li (z := s) T_250_0 rfl ?_
  refine x_ic T_250_1 ?_
  refine x_ic2 T_250_2 (fun h2 => ?_) (fun h2 => ?_)
  · replace h2 : 2 ≤ s := h2
    refine x_li (z := n) T_250_18 rfl ?_
    refine x_ic T_250_19 ?_
    refine x_ic2 T_250_21 (fun h21 => ?_) (fun h21 => ?_)
    · replace h21 : 16 ≤ n := h21
      refine x_lr (z := some 2281) T_250_28 rfl ?_
      refine x_gR (z := some 2322) T_250_29 F_17_52 (PM.t hP) (PM.r hP 52 2322 rfl) ?_
      refine x_li (z := n) T_250_32 rfl ?_
      refine x_ic T_250_33 ?_
      refine x_ib (w := (n / 16)) T_250_35 (fun h => absurd h.2 (by decide)) (div32_n (by omega) (by omega) (by decide)) ?_
      refine x_ic T_250_36 ?_
      refine x_ib (w := ((n / 16) - 1)) T_250_37 (fun h => absurd h.1 (by decide)) (w32_id (by omega) (by omega)) ?_
      refine x_alI (z := P 2322 ((n / 16) - 1)) T_250_38 (by decide) (PM.ta hP 2322 0 8 rfl rfl) (by omega) (by omega) (PM.aP hP 2322 rfl rfl (by omega)) ?_
      refine x_ri T_250_39 ?_
      refine ⟨?_, rfl⟩
      unfold qUid
      (repeat' split) <;> first | rfl | omega
    · replace h21 : ¬ (16 ≤ n) := h21
      refine x_ic T_250_24 ?_
      refine x_goto T_250_25 ?_
      refine x_ri T_250_39 ?_
      refine ⟨?_, rfl⟩
      unfold qUid
      (repeat' split) <;> first | rfl | omega
  · replace h2 : ¬ (2 ≤ s) := h2
    refine x_lr (z := some 2281) T_250_5 rfl ?_
    refine x_gR (z := some 2294) T_250_6 F_17_18 (PM.t hP) (PM.r hP 18 2294 rfl) ?_
    refine x_li (z := s) T_250_9 rfl ?_
    refine x_li (z := n) T_250_10 rfl ?_
    refine x_cs2 T_250_11 mN_247 mL_247 (Nat.le_of_ble_eq_true rfl) mK_247 (Nat.le_of_ble_eq_true rfl) (m_place (by omega)) ?_
    rintro _ _ ⟨rfl, rfl⟩
    refine cI ?_
    refine x_alI (z := P 2294 (64 * s + n)) T_250_14 (by decide) (PM.ta hP 2294 0 128 rfl rfl) (by omega) (by omega) (PM.aP hP 2294 rfl rfl (by omega)) ?_
    refine x_goto T_250_15 ?_
    refine x_ri T_250_39 ?_
    refine ⟨?_, rfl⟩
    unfold qUid
    (repeat' split) <;> first | rfl | omega
theorem m_gidOf (hP : PM σ0 P S σ) (h : okN s n) : CL fb (d + 2) 251 [vR (some 2281), vI s, vI n] σ (rP (qGid P s n) σ) := by
  refine CL_in mL_251 rfl ?_
  show WP fb _ 251 0 [some (vR (some 2281)), some (vI s), some (vI n)] [] σ _
  refine x_li (z := s) T_251_0 rfl ?_
  refine x_ic T_251_1 ?_
  refine x_ic2 T_251_2 (fun h2 => ?_) (fun h2 => ?_)
  · replace h2 : 2 ≤ s := h2
    refine x_lr (z := some 2281) T_251_18 rfl ?_
    refine x_li (z := s) T_251_19 rfl ?_
    refine x_li (z := n) T_251_20 rfl ?_
    refine x_cv3 T_251_21 mN_250 mL_250 (Nat.le_of_ble_eq_true rfl) mO_250 (PM.t hP) (Nat.le_of_ble_eq_true rfl) (m_uidOf hP (by omega)) ?_
    rintro _ _ ⟨rfl, rfl⟩
    refine cI ?_
    refine x_ri T_251_24 ?_
    refine ⟨?_, rfl⟩
    unfold qGid
    split <;> first | rfl | omega
  · replace h2 : ¬ (2 ≤ s) := h2
    refine x_lr (z := some 2281) T_251_5 rfl ?_
    refine x_gR (z := some 2295) T_251_6 F_17_19 (PM.t hP) (PM.r hP 19 2295 rfl) ?_
    refine x_li (z := s) T_251_9 rfl ?_
    refine x_li (z := n) T_251_10 rfl ?_
    refine x_cs2 T_251_11 mN_247 mL_247 (Nat.le_of_ble_eq_true rfl) mK_247 (Nat.le_of_ble_eq_true rfl) (m_place (by omega)) ?_
    rintro _ _ ⟨rfl, rfl⟩
    refine cI ?_
    refine x_alI (z := P 2295 (64 * s + n)) T_251_14 (by decide) (PM.ta hP 2295 0 128 rfl rfl) (by omega) (by omega) (PM.aP hP 2295 rfl rfl (by omega)) ?_
    refine x_goto T_251_15 ?_
    refine x_ri T_251_24 ?_
    refine ⟨?_, rfl⟩
    unfold qGid
    split <;> first | rfl | omega
theorem m_muidOf (hP : PM σ0 P S σ) (h : okN s n) : CL fb (d + 2) 291 [vR (some 2281), vI s, vI n] σ (rP (qMuid P s n) σ) := by
  refine CL_in mL_291 rfl ?_
  show WP fb _ 291 0 [some (vR (some 2281)), some (vI s), some (vI n)] [] σ _
  refine x_li (z := s) T_291_0 rfl ?_
  refine x_ic T_291_1 ?_
  refine x_ic2 T_291_2 (fun h2 => ?_) (fun h2 => ?_)
  · replace h2 : 2 ≤ s := h2
    refine x_lr (z := some 2281) T_291_18 rfl ?_
    refine x_li (z := s) T_291_19 rfl ?_
    refine x_li (z := n) T_291_20 rfl ?_
    refine x_cv3 T_291_21 mN_250 mL_250 (Nat.le_of_ble_eq_true rfl) mO_250 (PM.t hP) (Nat.le_of_ble_eq_true rfl) (m_uidOf hP (by omega)) ?_
    rintro _ _ ⟨rfl, rfl⟩
    refine cI ?_
    refine x_ri T_291_24 ?_
    refine ⟨?_, rfl⟩
    unfold qMuid
    split <;> first | rfl | omega
  · replace h2 : ¬ (2 ≤ s) := h2
    refine x_lr (z := some 2281) T_291_5 rfl ?_
    refine x_gR (z := some 2296) T_291_6 F_17_20 (PM.t hP) (PM.r hP 20 2296 rfl) ?_
    refine x_li (z := s) T_291_9 rfl ?_
    refine x_li (z := n) T_291_10 rfl ?_
    refine x_cs2 T_291_11 mN_247 mL_247 (Nat.le_of_ble_eq_true rfl) mK_247 (Nat.le_of_ble_eq_true rfl) (m_place (by omega)) ?_
    rintro _ _ ⟨rfl, rfl⟩
    refine cI ?_
    refine x_alI (z := P 2296 (64 * s + n)) T_291_14 (by decide) (PM.ta hP 2296 0 128 rfl rfl) (by omega) (by omega) (PM.aP hP 2296 rfl rfl (by omega)) ?_
    refine x_goto T_291_15 ?_
    refine x_ri T_291_24 ?_
    refine ⟨?_, rfl⟩
    unfold qMuid
    split <;> first | rfl | omega
theorem m_pathNumber (hP : PM σ0 P S σ) (h : okN s n) : CL fb (d + 1) 263 [vR (some 2281), vI s, vI n] σ (rP (qPath P s n) σ) := by
  refine CL_in mL_263 rfl ?_
  show WP fb _ 263 0 [some (vR (some 2281)), some (vI s), some (vI n)] [] σ _
  refine x_li (z := s) T_263_0 rfl ?_
  refine x_ic T_263_1 ?_
  refine x_ic2 T_263_2 (fun h2 => ?_) (fun h2 => ?_)
  · replace h2 : 2 ≤ s := h2
    refine x_li (z := n) T_263_18 rfl ?_
    refine x_ri T_263_19 ?_
    refine ⟨?_, rfl⟩
    unfold qPath
    split <;> first | rfl | omega
  · replace h2 : ¬ (2 ≤ s) := h2
    refine x_lr (z := some 2281) T_263_5 rfl ?_
    refine x_gR (z := some 2291) T_263_6 F_17_15 (PM.t hP) (PM.r hP 15 2291 rfl) ?_
    refine x_li (z := s) T_263_9 rfl ?_
    refine x_li (z := n) T_263_10 rfl ?_
    refine x_cs2 T_263_11 mN_247 mL_247 (Nat.le_of_ble_eq_true rfl) mK_247 (Nat.le_of_ble_eq_true rfl) (m_place (by omega)) ?_
    rintro _ _ ⟨rfl, rfl⟩
    refine cI ?_
    refine x_alI (z := P 2291 (64 * s + n)) T_263_14 (by decide) (PM.ta hP 2291 0 128 rfl rfl) (by omega) (by omega) (PM.aP hP 2291 rfl rfl (by omega)) ?_
    refine x_goto T_263_15 ?_
    refine x_ri T_263_19 ?_
    refine ⟨?_, rfl⟩
    unfold qPath
    split <;> first | rfl | omega
theorem m_versionOf (hP : PM σ0 P S σ) (h : okN s n) : CL fb (d + 1) 265 [vR (some 2281), vI s, vI n] σ (rP (qVer P s n) σ) := by
  refine CL_in mL_265 rfl ?_
  show WP fb _ 265 0 [some (vR (some 2281)), some (vI s), some (vI n)] [] σ _
  refine x_li (z := s) T_265_0 rfl ?_
  refine x_ic T_265_1 ?_
  refine x_ic2 T_265_2 (fun h2 => ?_) (fun h2 => ?_)
  · replace h2 : 2 ≤ s := h2
    refine x_ic T_265_18 ?_
    refine x_ri T_265_19 ?_
    refine ⟨?_, rfl⟩
    unfold qVer
    split <;> first | rfl | omega
  · replace h2 : ¬ (2 ≤ s) := h2
    refine x_lr (z := some 2281) T_265_5 rfl ?_
    refine x_gR (z := some 2292) T_265_6 F_17_16 (PM.t hP) (PM.r hP 16 2292 rfl) ?_
    refine x_li (z := s) T_265_9 rfl ?_
    refine x_li (z := n) T_265_10 rfl ?_
    refine x_cs2 T_265_11 mN_247 mL_247 (Nat.le_of_ble_eq_true rfl) mK_247 (Nat.le_of_ble_eq_true rfl) (m_place (by omega)) ?_
    rintro _ _ ⟨rfl, rfl⟩
    refine cI ?_
    refine x_alI (z := P 2292 (64 * s + n)) T_265_14 (by decide) (PM.ta hP 2292 0 128 rfl rfl) (by omega) (by omega) (PM.aP hP 2292 rfl rfl (by omega)) ?_
    refine x_goto T_265_15 ?_
    refine x_ri T_265_19 ?_
    refine ⟨?_, rfl⟩
    unfold qVer
    split <;> first | rfl | omega
theorem m_lengthOf (hP : PM σ0 P S σ) (h : okN s n) : CL fb (d + 3) 289 [vR (some 2281), vI s, vI n] σ (rP (qLen P s n) σ) := by
  refine CL_in mL_289 rfl ?_
  show WP fb _ 289 0 [some (vR (some 2281)), some (vI s), some (vI n)] [] σ _
  refine x_li (z := s) T_289_0 rfl ?_
  refine x_ic T_289_1 ?_
  refine x_ic2 T_289_2 (fun h2 => ?_) (fun h2 => ?_)
  · replace h2 : 2 ≤ s := h2
    refine x_ic T_289_27 ?_
    refine x_ri T_289_28 ?_
    refine ⟨?_, rfl⟩
    unfold qLen
    split <;> first | rfl | omega
  · replace h2 : ¬ (2 ≤ s) := h2
    refine x_lr (z := some 2281) T_289_5 rfl ?_
    refine x_li (z := s) T_289_6 rfl ?_
    refine x_li (z := n) T_289_7 rfl ?_
    refine x_cv3 T_289_8 mN_252 mL_252 (Nat.le_of_ble_eq_true rfl) mO_252 (PM.t hP) (Nat.le_of_ble_eq_true rfl) (m_isDirectory hP (by omega)) ?_
    rintro _ _ ⟨rfl, rfl⟩
    refine cI ?_
    refine x_if T_289_11 (fun h11 => ?_) (fun h11 => ?_)
    · replace h11 : ¬ (if qMode P s n < 0 then (1 : Int) else 0) = 0 := h11
      refine x_ic T_289_27 ?_
      refine x_ri T_289_28 ?_
      refine ⟨?_, rfl⟩
      unfold qLen
      split <;> first | rfl | omega
    · replace h11 : ¬ (¬ (if qMode P s n < 0 then (1 : Int) else 0) = 0) := h11
      refine x_lr (z := some 2281) T_289_14 rfl ?_
      refine x_gR (z := some 2297) T_289_15 F_17_21 (PM.t hP) (PM.r hP 21 2297 rfl) ?_
      refine x_li (z := s) T_289_18 rfl ?_
      refine x_li (z := n) T_289_19 rfl ?_
      refine x_cs2 T_289_20 mN_247 mL_247 (Nat.le_of_ble_eq_true rfl) mK_247 (Nat.le_of_ble_eq_true rfl) (m_place (by omega)) ?_
      rintro _ _ ⟨rfl, rfl⟩
      refine cI ?_
      refine x_alI (z := P 2297 (64 * s + n)) T_289_23 (by decide) (PM.ta hP 2297 0 128 rfl rfl) (by omega) (by omega) (PM.aP hP 2297 rfl rfl (by omega)) ?_
      refine x_goto T_289_24 ?_
      refine x_ri T_289_28 ?_
      refine ⟨?_, rfl⟩
      unfold qLen
      split <;> first | rfl | omega
theorem m_aboveOf (hP : PM σ0 P S σ) (h : okN s n) : CL fb (d + 1) 246 [vR (some 2281), vI s, vI n] σ (rP (qUp P s n) σ) := by
  refine CL_in mL_246 rfl ?_
  show WP fb _ 246 0 [some (vR (some 2281)), some (vI s), some (vI n)] [] σ _
  refine x_li (z := s) T_246_0 rfl ?_
  refine x_ic T_246_1 ?_
  refine x_ic2 T_246_2 (fun h2 => ?_) (fun h2 => ?_)
  · replace h2 : 2 ≤ s := h2
    refine x_li (z := n) T_246_18 rfl ?_
    refine x_ic T_246_19 ?_
    refine x_ic2 T_246_21 (fun h21 => ?_) (fun h21 => ?_)
    · replace h21 : n < 16 := h21
      refine x_ic T_246_31 ?_
      refine x_goto T_246_32 ?_
      refine x_ri T_246_42 ?_
      refine ⟨?_, rfl⟩
      unfold qUp
      (repeat' split) <;> first | rfl | omega
    · replace h21 : ¬ (n < 16) := h21
      refine x_li (z := n) T_246_24 rfl ?_
      refine x_ic T_246_25 ?_
      refine x_ib (w := (n % 16)) T_246_27 (fun h => absurd h.2 (by decide)) (rem32_n (by omega) (by omega) (by decide)) ?_
      refine x_if T_246_28 (fun h28 => ?_) (fun h28 => ?_)
      · replace h28 : ¬ (n % 16) = 0 := h28
        refine x_li (z := n) T_246_35 rfl ?_
        refine x_ic T_246_36 ?_
        refine x_ib (w := (n / 16)) T_246_38 (fun h => absurd h.2 (by decide)) (div32_n (by omega) (by omega) (by decide)) ?_
        refine x_ic T_246_39 ?_
        refine x_ib (w := ((n / 16) * 16)) T_246_41 (fun h => absurd h.1 (by decide)) (w32_id (by omega) (by omega)) ?_
        refine x_ri T_246_42 ?_
        refine ⟨?_, rfl⟩
        unfold qUp
        (repeat' split) <;> first | rfl | omega
      · replace h28 : ¬ (¬ (n % 16) = 0) := h28
        refine x_ic T_246_31 ?_
        refine x_goto T_246_32 ?_
        refine x_ri T_246_42 ?_
        refine ⟨?_, rfl⟩
        unfold qUp
        (repeat' split) <;> first | rfl | omega
  · replace h2 : ¬ (2 ≤ s) := h2
    refine x_lr (z := some 2281) T_246_5 rfl ?_
    refine x_gR (z := some 2290) T_246_6 F_17_14 (PM.t hP) (PM.r hP 14 2290 rfl) ?_
    refine x_li (z := s) T_246_9 rfl ?_
    refine x_li (z := n) T_246_10 rfl ?_
    refine x_cs2 T_246_11 mN_247 mL_247 (Nat.le_of_ble_eq_true rfl) mK_247 (Nat.le_of_ble_eq_true rfl) (m_place (by omega)) ?_
    rintro _ _ ⟨rfl, rfl⟩
    refine cI ?_
    refine x_alI (z := P 2290 (64 * s + n)) T_246_14 (by decide) (PM.ta hP 2290 0 128 rfl rfl) (by omega) (by omega) (PM.aP hP 2290 rfl rfl (by omega)) ?_
    refine x_goto T_246_15 ?_
    refine x_ri T_246_42 ?_
    refine ⟨?_, rfl⟩
    unfold qUp
    (repeat' split) <;> first | rfl | omega
theorem qUp_ok (hI : IV false T U P) (h : okN s n) : okN s (qUp P s n) := by
  unfold qUp
  by_cases hs : s < 2
  · rw [if_pos hs]
    have b : 0 ≤ P 2290 (64 * s + n) ∧ P 2290 (64 * s + n) ≤ 63 := IV.a hI 2290 0 128 rfl rfl rfl (by omega) (by omega)
    omega
  · rw [if_neg hs]
    split <;> omega
theorem m_nameOf (h : 0 ≤ n ∧ n < 144) : CL fb d 271 [vI n] σ (rPL (qPk n) σ) := by
  refine CL_in mL_271 rfl ?_
  show WP fb _ 271 0 [some (vI n)] [] σ _
  refine x_li (z := n) T_271_0 rfl ?_
  refine x_if T_271_1 (fun h1 => ?_) (fun h1 => ?_)
  · replace h1 : ¬ n = 0 := h1
    refine x_li (z := n) T_271_8 rfl ?_
    refine x_ic T_271_9 ?_
    refine x_ic2 T_271_10 (fun h10 => ?_) (fun h10 => ?_)
    · replace h10 : ¬ n = 1 := h10
      refine x_li (z := n) T_271_17 rfl ?_
      refine x_ic T_271_18 ?_
      refine x_ib (w := (n % 16)) T_271_20 (fun h => absurd h.2 (by decide)) (rem32_n (by omega) (by omega) (by decide)) ?_
      refine x_if T_271_21 (fun h21 => ?_) (fun h21 => ?_)
      · replace h21 : ¬ (n % 16) = 0 := h21
        refine x_li (z := n) T_271_37 rfl ?_
        refine x_ic T_271_38 ?_
        refine x_ib (w := (n % 16)) T_271_40 (fun h => absurd h.2 (by decide)) (rem32_n (by omega) (by omega) (by decide)) ?_
        refine x_ic T_271_41 ?_
        refine x_ic2 T_271_42 (fun h42 => ?_) (fun h42 => ?_)
        · replace h42 : ¬ (n % 16) = 1 := h42
          refine x_lc T_271_51 ?_
          refine x_rl T_271_54 ?_
          refine ⟨?_, rfl⟩
          unfold qPk
          (repeat' split) <;> first | rfl | omega
        · replace h42 : ¬ (¬ (n % 16) = 1) := h42
          refine x_lc T_271_45 ?_
          refine x_goto T_271_48 ?_
          refine x_rl T_271_54 ?_
          refine ⟨?_, rfl⟩
          unfold qPk
          (repeat' split) <;> first | rfl | omega
      · replace h21 : ¬ (¬ (n % 16) = 0) := h21
        refine x_ic T_271_24 ?_
        refine x_li (z := n) T_271_26 rfl ?_
        refine x_ic T_271_27 ?_
        refine x_ib (w := (n / 16)) T_271_29 (fun h => absurd h.2 (by decide)) (div32_n (by omega) (by omega) (by decide)) ?_
        refine x_ib (w := (48 + (n / 16))) T_271_30 (fun h => absurd h.1 (by decide)) (w32_id (by omega) (by omega)) ?_
        refine x_ic T_271_31 ?_
        refine x_ib (w := ((48 + (n / 16)) - 1)) T_271_32 (fun h => absurd h.1 (by decide)) (w32_id (by omega) (by omega)) ?_
        refine x_i2l T_271_33 ?_
        refine x_goto T_271_34 ?_
        refine x_rl T_271_54 ?_
        refine ⟨?_, rfl⟩
        unfold qPk
        (repeat' split) <;> first | rfl | omega
    · replace h10 : ¬ (¬ n = 1) := h10
      refine x_lc T_271_13 ?_
      refine x_rl T_271_16 ?_
      refine ⟨?_, rfl⟩
      unfold qPk
      (repeat' split) <;> first | rfl | omega
  · replace h1 : ¬ (¬ n = 0) := h1
    refine x_lc T_271_4 ?_
    refine x_rl T_271_7 ?_
    refine ⟨?_, rfl⟩
    unfold qPk
    (repeat' split) <;> first | rfl | omega
theorem m_sizeOf_loop {v n : Int} (hn : n ≤ 8) (h1 : ∀ i : Int, 0 ≤ i → i < n → ¬ shr64 v (8 * i) = 0) (h2 : n = 8 ∨ shr64 v (8 * n) = 0) : ∀ (m : Nat) (i : Int), i + m = n → 0 ≤ i → WP fb d 272 2 [some (vL v), none, some (vI i)] [] σ (rP n σ) := by
  intro m
  induction m with
  | zero =>
    intro i hi hi0
    obtain rfl : i = n := by omega
    by_cases h8 : i < 8
    · have h3 := h2.resolve_left (by omega)
      refine x_li (z := i) T_272_2 rfl ?_
      refine x_ic T_272_3 ?_
      refine x_ic2 T_272_5 (fun h => absurd (show 8 ≤ i from h) (by omega)) (fun _ => ?_)
      refine x_ll (z := v) T_272_8 rfl ?_
      refine x_ic T_272_9 ?_
      refine x_li (z := i) T_272_11 rfl ?_
      refine x_ib (w := (8 * i)) T_272_12 (fun h => absurd h.1 (by decide)) (w32_id (by omega) (by omega)) ?_
      refine x_lh (w := (shr64 v (8 * i))) T_272_13 rfl ?_
      refine x_lc T_272_14 ?_
      refine x_lif T_272_15 T_272_16 (fun _ => ?_) (fun h => absurd (show (shr64 v (8 * i)) = 0 by exact h3) h)
      refine x_li (z := i) T_272_25 rfl ?_
      refine x_ri T_272_26 ?_
      exact ⟨rfl, rfl⟩
    · skip
      refine x_li (z := i) T_272_2 rfl ?_
      refine x_ic T_272_3 ?_
      refine x_ic2 T_272_5 (fun _ => ?_) (fun h => absurd (show 8 ≤ i by omega) h)
      refine x_li (z := i) T_272_25 rfl ?_
      refine x_ri T_272_26 ?_
      exact ⟨rfl, rfl⟩
  | succ m ih =>
    intro i hi hi0
    have h3 := h1 i hi0 (by omega)
    refine x_li (z := i) T_272_2 rfl ?_
    refine x_ic T_272_3 ?_
    refine x_ic2 T_272_5 (fun h => absurd (show 8 ≤ i from h) (by omega)) (fun _ => ?_)
    refine x_ll (z := v) T_272_8 rfl ?_
    refine x_ic T_272_9 ?_
    refine x_li (z := i) T_272_11 rfl ?_
    refine x_ib (w := (8 * i)) T_272_12 (fun h => absurd h.1 (by decide)) (w32_id (by omega) (by omega)) ?_
    refine x_lh (w := (shr64 v (8 * i))) T_272_13 rfl ?_
    refine x_lc T_272_14 ?_
    refine x_lif T_272_15 T_272_16 (fun h => absurd (show (shr64 v (8 * i)) = 0 from h) (by exact fun h => h3 h)) (fun _ => ?_)
    refine x_inc (w := (i + 1)) (ls1 := [some (vL v), none, some (vI (i + 1))]) T_272_19 rfl (w32_id (by omega) (by omega)) rfl ?_
    refine x_goto T_272_22 ?_
    exact ih (i + 1) (by omega) (by omega)
theorem m_sizeOf (hn : 0 ≤ n ∧ n < 144) : CL fb d 272 [vL (qPk n)] σ (rP ((qNm2 n).length : Int) σ) := by
  have key : ∀ (v : Int) (m : Nat), m ≤ 8 → (∀ i : Nat, i < m → ¬ shr64 v (8 * (i : Int)) = 0) → (m = 8 ∨ shr64 v (8 * (m : Int)) = 0) → CL fb d 272 [vL v] σ (rP (m : Int) σ) := by
    intro v m h0 h1 h2
    obtain ⟨z, hz⟩ : ∃ z : Int, (m : Int) = z := ⟨_, rfl⟩
    rw [hz] at h2 ⊢
    refine CL_in mL_272 rfl ?_
    show WP fb _ 272 0 [some (vL v), none, none] [] σ _
    refine x_ic T_272_0 ?_
    refine x_si (ls1 := [some (vL v), none, some (vI 0)]) T_272_1 rfl ?_
    refine m_sizeOf_loop (by omega) (fun i h3 h4 => ?_) (by omega) m 0 (by omega) (by decide)
    have := h1 i.toNat (by omega)
    rw [Int.toNat_of_nonneg h3] at this
    exact this
  have low : ∀ (v : Int) (m : Nat), m ≤ 6 → (List.range m).all (fun i => decide (¬ shr64 v (8 * (i : Int)) = 0)) = true → ∀ i : Nat, i < m → ¬ shr64 v (8 * (i : Int)) = 0 := fun v m _ h i hi => of_decide_eq_true (List.all_eq_true.mp h i (List.mem_range.mpr hi))
  unfold qPk qNm2
  by_cases h0 : n = 0
  · rw [if_pos h0, if_pos h0]
    exact key _ 1 (by decide) (low _ _ (by decide) (by decide +kernel)) (Or.inr (by decide +kernel))
  · rw [if_neg h0, if_neg h0]
    by_cases h1 : n = 1
    · rw [if_pos h1, if_pos h1]
      exact key _ 4 (by decide) (low _ _ (by decide) (by decide +kernel)) (Or.inr (by decide +kernel))
    · rw [if_neg h1, if_neg h1]
      by_cases h2 : n % 16 = 0
      · rw [if_pos h2, if_pos h2]
        have hw : w64 (48 + n / 16 - 1) = 48 + n / 16 - 1 := w64_id (by omega) (by omega)
        refine key _ 1 (by decide) (fun i hi => ?_) (Or.inr ?_)
        · rw [show i = 0 by omega, show 8 * ((0 : Nat) : Int) = 0 from rfl, shr64_n (n := 0) (by decide) (by decide), hw]
          show ¬ (48 + n / 16 - 1) / 1 = 0
          omega
        · rw [show 8 * ((1 : Nat) : Int) = 8 from rfl, shr64_n (n := 8) (by decide) (by decide), hw]
          show (48 + n / 16 - 1) / 256 = 0
          omega
      · rw [if_neg h2, if_neg h2]
        by_cases h3 : n % 16 = 1
        · rw [if_pos h3, if_pos h3]
          exact key _ 6 (by decide) (low _ _ (by decide) (by decide +kernel)) (Or.inr (by decide +kernel))
        · rw [if_neg h3, if_neg h3]
          exact key _ 3 (by decide) (low _ _ (by decide) (by decide +kernel)) (Or.inr (by decide +kernel))
theorem m_nameSize (hP : PM σ0 P S σ) (h : okN s n) : CL fb (d + 1) 270 [vR (some 2281), vI s, vI n] σ (rP (qNs P s n) σ) := by
  refine CL_in mL_270 rfl ?_
  show WP fb _ 270 0 [some (vR (some 2281)), some (vI s), some (vI n)] [] σ _
  refine x_li (z := s) T_270_0 rfl ?_
  refine x_ic T_270_1 ?_
  refine x_ic2 T_270_2 (fun h2 => ?_) (fun h2 => ?_)
  · replace h2 : 2 ≤ s := h2
    refine x_li (z := n) T_270_18 rfl ?_
    refine x_cs1 T_270_19 mN_271 mL_271 (Nat.le_of_ble_eq_true rfl) mK_271 (Nat.le_of_ble_eq_true rfl) (m_nameOf (by omega)) ?_
    rintro _ _ ⟨rfl, rfl⟩
    refine cL ?_
    refine x_cs1 T_270_22 mN_272 mL_272 (Nat.le_of_ble_eq_true rfl) mK_272 (Nat.le_of_ble_eq_true rfl) (m_sizeOf (by omega)) ?_
    rintro _ _ ⟨rfl, rfl⟩
    refine cI ?_
    refine x_ri T_270_25 ?_
    refine ⟨?_, rfl⟩
    unfold qNs
    split <;> first | rfl | omega
  · replace h2 : ¬ (2 ≤ s) := h2
    refine x_lr (z := some 2281) T_270_5 rfl ?_
    refine x_gR (z := some 2299) T_270_6 F_17_23 (PM.t hP) (PM.r hP 23 2299 rfl) ?_
    refine x_li (z := s) T_270_9 rfl ?_
    refine x_li (z := n) T_270_10 rfl ?_
    refine x_cs2 T_270_11 mN_247 mL_247 (Nat.le_of_ble_eq_true rfl) mK_247 (Nat.le_of_ble_eq_true rfl) (m_place (by omega)) ?_
    rintro _ _ ⟨rfl, rfl⟩
    refine cI ?_
    refine x_alI (z := P 2299 (64 * s + n)) T_270_14 (by decide) (PM.ta hP 2299 0 128 rfl rfl) (by omega) (by omega) (PM.aP hP 2299 rfl rfl (by omega)) ?_
    refine x_goto T_270_15 ?_
    refine x_ri T_270_25 ?_
    refine ⟨?_, rfl⟩
    unfold qNs
    split <;> first | rfl | omega
theorem qNs_i (hI : IV false T U P) (h : okN s n) : 0 ≤ qNs P s n ∧ qNs P s n ≤ 12 := by
  unfold qNs
  split
  · exact IV.a hI 2299 0 128 rfl rfl rfl (by omega) (by omega)
  · have := qNm2_len n
    omega
theorem m_nameByte {k : Int} (hP : PM σ0 P S σ) (hI : IV false T U P) (h : okN s n) (hk : 0 ≤ k ∧ k < qNs P s n) : CL fb (d + 2) 273 [vR (some 2281), vI s, vI n, vI k] σ (rP (qNb P s n k) σ) := by
  have hq := qNs_i hI h
  have hq2 := qNm2_len n
  by_cases hs : s < 2
  · skip
    refine CL_in mL_273 rfl ?_
    show WP fb _ 273 0 [some (vR (some 2281)), some (vI s), some (vI n), some (vI k)] [] σ _
    refine x_li (z := s) T_273_0 rfl ?_
    refine x_ic T_273_1 ?_
    refine x_ic2 T_273_2 (fun h => absurd (show 2 ≤ s from h) (by omega)) (fun _ => ?_)
    refine x_lr (z := some 2281) T_273_5 rfl ?_
    refine x_gR (z := some 2298) T_273_6 F_17_22 (PM.t hP) (PM.r hP 22 2298 rfl) ?_
    refine x_ic T_273_9 ?_
    refine x_li (z := s) T_273_11 rfl ?_
    refine x_li (z := n) T_273_12 rfl ?_
    refine x_cs2 T_273_13 mN_247 mL_247 (Nat.le_of_ble_eq_true rfl) mK_247 (Nat.le_of_ble_eq_true rfl) (m_place (by omega)) ?_
    rintro _ _ ⟨rfl, rfl⟩
    refine cI ?_
    refine x_ib (w := (12 * (64 * s + n))) T_273_16 (fun h => absurd h.1 (by decide)) (w32_id (by omega) (by omega)) ?_
    refine x_li (z := k) T_273_17 rfl ?_
    refine x_ib (w := ((12 * (64 * s + n)) + k)) T_273_18 (fun h => absurd h.1 (by decide)) (w32_id (by omega) (by omega)) ?_
    have b1 : 0 ≤ P 2298 ((12 * (64 * s + n)) + k) ∧ P 2298 ((12 * (64 * s + n)) + k) ≤ 255 := IV.a hI 2298 0 1536 rfl rfl rfl (by omega) (by omega)
    refine x_alI (z := P 2298 ((12 * (64 * s + n)) + k)) T_273_19 (by decide) (PM.ta hP 2298 0 1536 rfl rfl) (by omega) (by omega) (PM.aP hP 2298 rfl rfl (by omega)) ?_
    refine x_ri T_273_20 ?_
    refine ⟨?_, rfl⟩
    unfold qNb
    rw [if_pos hs]
  · have hz : qNs P s n = ((qNm2 n).length : Int) := if_neg hs
    rw [hz] at hk
    have hr := qNm2_r ⟨h.2.2.1, h.2.2.2.1⟩ hk.1 hk.2
    refine CL_in mL_273 rfl ?_
    show WP fb _ 273 0 [some (vR (some 2281)), some (vI s), some (vI n), some (vI k)] [] σ _
    refine x_li (z := s) T_273_0 rfl ?_
    refine x_ic T_273_1 ?_
    refine x_ic2 T_273_2 (fun _ => ?_) (fun h => absurd (show 2 ≤ s by omega) h)
    refine x_li (z := n) T_273_21 rfl ?_
    refine x_cs1 T_273_22 mN_271 mL_271 (Nat.le_of_ble_eq_true rfl) mK_271 (Nat.le_of_ble_eq_true rfl) (m_nameOf (by omega)) ?_
    rintro _ _ ⟨rfl, rfl⟩
    refine cL ?_
    refine x_ic T_273_25 ?_
    refine x_lr (z := some 2281) T_273_27 rfl ?_
    refine x_li (z := s) T_273_28 rfl ?_
    refine x_li (z := n) T_273_29 rfl ?_
    refine x_cv3 T_273_30 mN_270 mL_270 (Nat.le_of_ble_eq_true rfl) mO_270 (PM.t hP) (Nat.le_of_ble_eq_true rfl) (m_nameSize hP (by omega)) ?_
    rintro _ _ ⟨rfl, rfl⟩
    refine cI ?_
    refine x_ic T_273_33 ?_
    refine x_ib (w := (qNs P s n - 1)) T_273_34 (fun h => absurd h.1 (by decide)) (w32_id (by omega) (by omega)) ?_
    refine x_li (z := k) T_273_35 rfl ?_
    refine x_ib (w := ((qNs P s n - 1) - k)) T_273_36 (fun h => absurd h.1 (by decide)) (w32_id (by omega) (by omega)) ?_
    refine x_ib (w := (8 * ((qNs P s n - 1) - k))) T_273_37 (fun h => absurd h.1 (by decide)) (w32_id (by omega) (by omega)) ?_
    refine x_lh (w := (shr64 (qPk n) (8 * ((qNs P s n - 1) - k)))) T_273_38 rfl ?_
    refine x_lc T_273_39 ?_
    refine x_lb (w := lg (qNm2 n) k) T_273_42 (fun h => absurd h.1 (by decide)) ((byte64 _ (by omega) (by omega)).trans (show _ = lg (qNm2 n) k by rw [qNm2_b ⟨h.2.2.1, h.2.2.2.1⟩ hk.1 hk.2, hz, show ((((qNm2 n).length : Int) - 1 - k)).toNat = (qNm2 n).length - 1 - k.toNat by omega])) ?_
    refine x_l2i (w := lg (qNm2 n) k) T_273_43 (w32_id (by omega) (by omega)) ?_
    refine x_ri T_273_44 ?_
    refine ⟨?_, rfl⟩
    unfold qNb
    rw [if_neg hs]
end MFILE
