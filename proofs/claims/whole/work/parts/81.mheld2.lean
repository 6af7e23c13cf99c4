/-! The kernel's copies, attaches, steps, drops, as functions of the rows. -/
theorem T_333_0 : hTab 333 0 = some ((3, 0, 2, []), 1) := rfl
theorem T_333_1 : hTab 333 1 = some ((3, 1, 0, []), 2) := rfl
theorem T_333_2 : hTab 333 2 = some ((31, 334, 0, []), 5) := rfl
theorem T_333_5 : hTab 333 5 = some ((4, 5, 0, []), 7) := rfl
theorem T_333_7 : hTab 333 7 = some ((3, 5, 0, []), 9) := rfl
theorem T_333_9 : hTab 333 9 = some ((18, 3, Int.ofNat 15, []), 12) := rfl
theorem T_333_12 : hTab 333 12 = some ((0, 0, 12, []), 14) := rfl
theorem T_333_14 : hTab 333 14 = some ((33, 1, 0, []), 15) := rfl
theorem T_333_15 : hTab 333 15 = some ((3, 0, 2, []), 16) := rfl
theorem T_333_16 : hTab 333 16 = some ((3, 1, 0, []), 17) := rfl
theorem T_333_17 : hTab 333 17 = some ((3, 2, 0, []), 18) := rfl
theorem T_333_18 : hTab 333 18 = some ((3, 5, 0, []), 20) := rfl
theorem T_333_20 : hTab 333 20 = some ((31, 335, 0, []), 23) := rfl
theorem T_333_23 : hTab 333 23 = some ((4, 6, 0, []), 25) := rfl
theorem T_333_25 : hTab 333 25 = some ((3, 6, 0, []), 27) := rfl
theorem T_333_27 : hTab 333 27 = some ((18, 1, Int.ofNat 40, []), 30) := rfl
theorem T_333_30 : hTab 333 30 = some ((3, 0, 2, []), 31) := rfl
theorem T_333_31 : hTab 333 31 = some ((3, 1, 0, []), 32) := rfl
theorem T_333_32 : hTab 333 32 = some ((3, 5, 0, []), 34) := rfl
theorem T_333_34 : hTab 333 34 = some ((3, 3, 0, []), 35) := rfl
theorem T_333_35 : hTab 333 35 = some ((3, 4, 0, []), 37) := rfl
theorem T_333_37 : hTab 333 37 = some ((31, 336, 0, []), 40) := rfl
theorem T_333_40 : hTab 333 40 = some ((3, 6, 0, []), 42) := rfl
theorem T_333_42 : hTab 333 42 = some ((33, 1, 0, []), 43) := rfl
theorem T_337_0 : hTab 337 0 = some ((3, 0, 2, []), 1) := rfl
theorem T_337_1 : hTab 337 1 = some ((3, 1, 0, []), 2) := rfl
theorem T_337_2 : hTab 337 2 = some ((31, 334, 0, []), 5) := rfl
theorem T_337_5 : hTab 337 5 = some ((4, 3, 0, []), 6) := rfl
theorem T_337_6 : hTab 337 6 = some ((3, 3, 0, []), 7) := rfl
theorem T_337_7 : hTab 337 7 = some ((18, 3, Int.ofNat 13, []), 10) := rfl
theorem T_337_10 : hTab 337 10 = some ((0, 0, 12, []), 12) := rfl
theorem T_337_12 : hTab 337 12 = some ((33, 1, 0, []), 13) := rfl
theorem T_337_13 : hTab 337 13 = some ((3, 0, 2, []), 14) := rfl
theorem T_337_14 : hTab 337 14 = some ((3, 1, 0, []), 15) := rfl
theorem T_337_15 : hTab 337 15 = some ((3, 3, 0, []), 16) := rfl
theorem T_337_16 : hTab 337 16 = some ((3, 2, 0, []), 17) := rfl
theorem T_337_17 : hTab 337 17 = some ((31, 338, 0, []), 20) := rfl
theorem T_337_20 : hTab 337 20 = some ((4, 4, 0, []), 22) := rfl
theorem T_337_22 : hTab 337 22 = some ((3, 4, 0, []), 24) := rfl
theorem T_337_24 : hTab 337 24 = some ((18, 1, Int.ofNat 50, []), 27) := rfl
theorem T_337_27 : hTab 337 27 = some ((3, 0, 2, []), 28) := rfl
theorem T_337_28 : hTab 337 28 = some ((3, 1, 0, []), 29) := rfl
theorem T_337_29 : hTab 337 29 = some ((3, 3, 0, []), 30) := rfl
theorem T_337_30 : hTab 337 30 = some ((3, 0, 2, []), 31) := rfl
theorem T_337_31 : hTab 337 31 = some ((0, 0, 12, []), 33) := rfl
theorem T_337_33 : hTab 337 33 = some ((0, 0, 8, []), 35) := rfl
theorem T_337_35 : hTab 337 35 = some ((31, 339, 0, []), 38) := rfl
theorem T_337_38 : hTab 337 38 = some ((15, 0, 0, []), 39) := rfl
theorem T_337_39 : hTab 337 39 = some ((3, 0, 2, []), 40) := rfl
theorem T_337_40 : hTab 337 40 = some ((0, 0, 7, []), 42) := rfl
theorem T_337_42 : hTab 337 42 = some ((0, 0, 1, []), 43) := rfl
theorem T_337_43 : hTab 337 43 = some ((31, 339, 0, []), 46) := rfl
theorem T_337_46 : hTab 337 46 = some ((15, 0, 0, []), 47) := rfl
theorem T_337_47 : hTab 337 47 = some ((31, 336, 0, []), 50) := rfl
theorem T_337_50 : hTab 337 50 = some ((3, 4, 0, []), 52) := rfl
theorem T_337_52 : hTab 337 52 = some ((33, 1, 0, []), 53) := rfl
theorem T_340_0 : hTab 340 0 = some ((3, 0, 2, []), 1) := rfl
theorem T_340_1 : hTab 340 1 = some ((24, 17, Int.ofNat 53, []), 4) := rfl
theorem T_340_4 : hTab 340 4 = some ((3, 1, 0, []), 5) := rfl
theorem T_340_5 : hTab 340 5 = some ((26, 0, 0, []), 6) := rfl
theorem T_340_6 : hTab 340 6 = some ((4, 4, 0, []), 8) := rfl
theorem T_340_8 : hTab 340 8 = some ((0, 0, 0, []), 9) := rfl
theorem T_340_9 : hTab 340 9 = some ((4, 5, 0, []), 11) := rfl
theorem T_340_11 : hTab 340 11 = some ((3, 5, 0, []), 13) := rfl
theorem T_340_13 : hTab 340 13 = some ((3, 0, 2, []), 14) := rfl
theorem T_340_14 : hTab 340 14 = some ((24, 17, Int.ofNat 64, []), 17) := rfl
theorem T_340_17 : hTab 340 17 = some ((3, 4, 0, []), 19) := rfl
theorem T_340_19 : hTab 340 19 = some ((26, 0, 0, []), 20) := rfl
theorem T_340_20 : hTab 340 20 = some ((19, 3, Int.ofNat 72, []), 23) := rfl
theorem T_340_23 : hTab 340 23 = some ((3, 0, 2, []), 24) := rfl
theorem T_340_24 : hTab 340 24 = some ((24, 17, Int.ofNat 65, []), 27) := rfl
theorem T_340_27 : hTab 340 27 = some ((0, 0, 8, []), 29) := rfl
theorem T_340_29 : hTab 340 29 = some ((3, 4, 0, []), 31) := rfl
theorem T_340_31 : hTab 340 31 = some ((10, 2, 0, []), 32) := rfl
theorem T_340_32 : hTab 340 32 = some ((3, 5, 0, []), 34) := rfl
theorem T_340_34 : hTab 340 34 = some ((10, 0, 0, []), 35) := rfl
theorem T_340_35 : hTab 340 35 = some ((26, 0, 0, []), 36) := rfl
theorem T_340_36 : hTab 340 36 = some ((3, 2, 0, []), 37) := rfl
theorem T_340_37 : hTab 340 37 = some ((19, 1, Int.ofNat 66, []), 40) := rfl
theorem T_340_40 : hTab 340 40 = some ((3, 0, 2, []), 41) := rfl
theorem T_340_41 : hTab 340 41 = some ((24, 17, Int.ofNat 66, []), 44) := rfl
theorem T_340_44 : hTab 340 44 = some ((0, 0, 8, []), 46) := rfl
theorem T_340_46 : hTab 340 46 = some ((3, 4, 0, []), 48) := rfl
theorem T_340_48 : hTab 340 48 = some ((10, 2, 0, []), 49) := rfl
theorem T_340_49 : hTab 340 49 = some ((3, 5, 0, []), 51) := rfl
theorem T_340_51 : hTab 340 51 = some ((10, 0, 0, []), 52) := rfl
theorem T_340_52 : hTab 340 52 = some ((26, 0, 0, []), 53) := rfl
theorem T_340_53 : hTab 340 53 = some ((3, 3, 0, []), 54) := rfl
theorem T_340_54 : hTab 340 54 = some ((19, 1, Int.ofNat 66, []), 57) := rfl
theorem T_340_57 : hTab 340 57 = some ((0, 0, 8, []), 59) := rfl
theorem T_340_59 : hTab 340 59 = some ((3, 4, 0, []), 61) := rfl
theorem T_340_61 : hTab 340 61 = some ((10, 2, 0, []), 62) := rfl
theorem T_340_62 : hTab 340 62 = some ((3, 5, 0, []), 64) := rfl
theorem T_340_64 : hTab 340 64 = some ((10, 0, 0, []), 65) := rfl
theorem T_340_65 : hTab 340 65 = some ((33, 1, 0, []), 66) := rfl
theorem T_340_66 : hTab 340 66 = some ((5, 5, 1, []), 69) := rfl
theorem T_340_69 : hTab 340 69 = some ((22, 0, Int.ofNat 11, []), 72) := rfl
theorem T_340_72 : hTab 340 72 = some ((0, 0, (-1), []), 73) := rfl
theorem T_340_73 : hTab 340 73 = some ((33, 1, 0, []), 74) := rfl
theorem T_341_0 : hTab 341 0 = some ((3, 0, 2, []), 1) := rfl
theorem T_341_1 : hTab 341 1 = some ((3, 1, 0, []), 2) := rfl
theorem T_341_2 : hTab 341 2 = some ((31, 334, 0, []), 5) := rfl
theorem T_341_5 : hTab 341 5 = some ((4, 4, 0, []), 7) := rfl
theorem T_341_7 : hTab 341 7 = some ((3, 4, 0, []), 9) := rfl
theorem T_341_9 : hTab 341 9 = some ((18, 3, Int.ofNat 15, []), 12) := rfl
theorem T_341_12 : hTab 341 12 = some ((0, 0, 12, []), 14) := rfl
theorem T_341_14 : hTab 341 14 = some ((33, 1, 0, []), 15) := rfl
theorem T_341_15 : hTab 341 15 = some ((3, 0, 2, []), 16) := rfl
theorem T_341_16 : hTab 341 16 = some ((3, 1, 0, []), 17) := rfl
theorem T_341_17 : hTab 341 17 = some ((3, 2, 0, []), 18) := rfl
theorem T_341_18 : hTab 341 18 = some ((3, 4, 0, []), 20) := rfl
theorem T_341_20 : hTab 341 20 = some ((3, 3, 0, []), 21) := rfl
theorem T_341_21 : hTab 341 21 = some ((31, 342, 0, []), 24) := rfl
theorem T_341_24 : hTab 341 24 = some ((4, 5, 0, []), 26) := rfl
theorem T_341_26 : hTab 341 26 = some ((3, 5, 0, []), 28) := rfl
theorem T_341_28 : hTab 341 28 = some ((18, 1, Int.ofNat 55, []), 31) := rfl
theorem T_341_31 : hTab 341 31 = some ((3, 0, 2, []), 32) := rfl
theorem T_341_32 : hTab 341 32 = some ((3, 1, 0, []), 33) := rfl
theorem T_341_33 : hTab 341 33 = some ((3, 4, 0, []), 35) := rfl
theorem T_341_35 : hTab 341 35 = some ((3, 0, 2, []), 36) := rfl
theorem T_341_36 : hTab 341 36 = some ((0, 0, 14, []), 38) := rfl
theorem T_341_38 : hTab 341 38 = some ((0, 0, 8, []), 40) := rfl
theorem T_341_40 : hTab 341 40 = some ((31, 339, 0, []), 43) := rfl
theorem T_341_43 : hTab 341 43 = some ((15, 0, 0, []), 44) := rfl
theorem T_341_44 : hTab 341 44 = some ((3, 0, 2, []), 45) := rfl
theorem T_341_45 : hTab 341 45 = some ((0, 0, 9, []), 47) := rfl
theorem T_341_47 : hTab 341 47 = some ((0, 0, 1, []), 48) := rfl
theorem T_341_48 : hTab 341 48 = some ((31, 339, 0, []), 51) := rfl
theorem T_341_51 : hTab 341 51 = some ((15, 0, 0, []), 52) := rfl
theorem T_341_52 : hTab 341 52 = some ((31, 336, 0, []), 55) := rfl
theorem T_341_55 : hTab 341 55 = some ((3, 5, 0, []), 57) := rfl
theorem T_341_57 : hTab 341 57 = some ((33, 1, 0, []), 58) := rfl
theorem T_344_0 : hTab 344 0 = some ((3, 0, 2, []), 1) := rfl
theorem T_344_1 : hTab 344 1 = some ((6, 0, 0, []), 2) := rfl
theorem T_344_2 : hTab 344 2 = some ((24, 17, Int.ofNat 91, []), 5) := rfl
theorem T_344_5 : hTab 344 5 = some ((0, 0, 1, []), 6) := rfl
theorem T_344_6 : hTab 344 6 = some ((10, 1, 0, []), 7) := rfl
theorem T_344_7 : hTab 344 7 = some ((25, 17, Int.ofNat 91, []), 10) := rfl
theorem T_344_10 : hTab 344 10 = some ((3, 0, 2, []), 11) := rfl
theorem T_344_11 : hTab 344 11 = some ((0, 0, 120, []), 13) := rfl
theorem T_344_13 : hTab 344 13 = some ((3, 0, 2, []), 14) := rfl
theorem T_344_14 : hTab 344 14 = some ((24, 17, Int.ofNat 86, []), 17) := rfl
theorem T_344_17 : hTab 344 17 = some ((3, 0, 2, []), 18) := rfl
theorem T_344_18 : hTab 344 18 = some ((24, 17, Int.ofNat 91, []), 21) := rfl
theorem T_344_21 : hTab 344 21 = some ((26, 0, 0, []), 22) := rfl
theorem T_344_22 : hTab 344 22 = some ((3, 0, 2, []), 23) := rfl
theorem T_344_23 : hTab 344 23 = some ((24, 17, Int.ofNat 87, []), 26) := rfl
theorem T_344_26 : hTab 344 26 = some ((3, 0, 2, []), 27) := rfl
theorem T_344_27 : hTab 344 27 = some ((24, 17, Int.ofNat 91, []), 30) := rfl
theorem T_344_30 : hTab 344 30 = some ((26, 0, 0, []), 31) := rfl
theorem T_344_31 : hTab 344 31 = some ((31, 345, 0, []), 34) := rfl
theorem T_344_34 : hTab 344 34 = some ((7, 0, 0, []), 35) := rfl
theorem T_344_35 : hTab 344 35 = some ((33, 0, 0, []), 36) := rfl
theorem T_346_0 : hTab 346 0 = some ((3, 0, 2, []), 1) := rfl
theorem T_346_1 : hTab 346 1 = some ((24, 17, Int.ofNat 91, []), 4) := rfl
theorem T_346_4 : hTab 346 4 = some ((0, 0, 2, []), 5) := rfl
theorem T_346_5 : hTab 346 5 = some ((10, 1, 0, []), 6) := rfl
theorem T_346_6 : hTab 346 6 = some ((4, 1, 0, []), 7) := rfl
theorem T_346_7 : hTab 346 7 = some ((3, 0, 2, []), 8) := rfl
theorem T_346_8 : hTab 346 8 = some ((0, 0, 120, []), 10) := rfl
theorem T_346_10 : hTab 346 10 = some ((3, 0, 2, []), 11) := rfl
theorem T_346_11 : hTab 346 11 = some ((24, 17, Int.ofNat 86, []), 14) := rfl
theorem T_346_14 : hTab 346 14 = some ((3, 1, 0, []), 15) := rfl
theorem T_346_15 : hTab 346 15 = some ((26, 0, 0, []), 16) := rfl
theorem T_346_16 : hTab 346 16 = some ((3, 0, 2, []), 17) := rfl
theorem T_346_17 : hTab 346 17 = some ((24, 17, Int.ofNat 87, []), 20) := rfl
theorem T_346_20 : hTab 346 20 = some ((3, 1, 0, []), 21) := rfl
theorem T_346_21 : hTab 346 21 = some ((26, 0, 0, []), 22) := rfl
theorem T_346_22 : hTab 346 22 = some ((31, 345, 0, []), 25) := rfl
theorem T_346_25 : hTab 346 25 = some ((7, 0, 0, []), 26) := rfl
theorem T_346_26 : hTab 346 26 = some ((3, 0, 2, []), 27) := rfl
theorem T_346_27 : hTab 346 27 = some ((24, 17, Int.ofNat 86, []), 30) := rfl
theorem T_346_30 : hTab 346 30 = some ((3, 1, 0, []), 31) := rfl
theorem T_346_31 : hTab 346 31 = some ((3, 0, 2, []), 32) := rfl
theorem T_346_32 : hTab 346 32 = some ((24, 17, Int.ofNat 86, []), 35) := rfl
theorem T_346_35 : hTab 346 35 = some ((3, 1, 0, []), 36) := rfl
theorem T_346_36 : hTab 346 36 = some ((0, 0, 1, []), 37) := rfl
theorem T_346_37 : hTab 346 37 = some ((10, 0, 0, []), 38) := rfl
theorem T_346_38 : hTab 346 38 = some ((26, 0, 0, []), 39) := rfl
theorem T_346_39 : hTab 346 39 = some ((27, 0, 0, []), 40) := rfl
theorem T_346_40 : hTab 346 40 = some ((3, 0, 2, []), 41) := rfl
theorem T_346_41 : hTab 346 41 = some ((24, 17, Int.ofNat 87, []), 44) := rfl
theorem T_346_44 : hTab 346 44 = some ((3, 1, 0, []), 45) := rfl
theorem T_346_45 : hTab 346 45 = some ((3, 0, 2, []), 46) := rfl
theorem T_346_46 : hTab 346 46 = some ((24, 17, Int.ofNat 87, []), 49) := rfl
theorem T_346_49 : hTab 346 49 = some ((3, 1, 0, []), 50) := rfl
theorem T_346_50 : hTab 346 50 = some ((0, 0, 1, []), 51) := rfl
theorem T_346_51 : hTab 346 51 = some ((10, 0, 0, []), 52) := rfl
theorem T_346_52 : hTab 346 52 = some ((26, 0, 0, []), 53) := rfl
theorem T_346_53 : hTab 346 53 = some ((27, 0, 0, []), 54) := rfl
theorem T_346_54 : hTab 346 54 = some ((3, 0, 2, []), 55) := rfl
theorem T_346_55 : hTab 346 55 = some ((24, 17, Int.ofNat 88, []), 58) := rfl
theorem T_346_58 : hTab 346 58 = some ((3, 1, 0, []), 59) := rfl
theorem T_346_59 : hTab 346 59 = some ((3, 0, 2, []), 60) := rfl
theorem T_346_60 : hTab 346 60 = some ((24, 17, Int.ofNat 88, []), 63) := rfl
theorem T_346_63 : hTab 346 63 = some ((3, 1, 0, []), 64) := rfl
theorem T_346_64 : hTab 346 64 = some ((0, 0, 1, []), 65) := rfl
theorem T_346_65 : hTab 346 65 = some ((10, 0, 0, []), 66) := rfl
theorem T_346_66 : hTab 346 66 = some ((26, 0, 0, []), 67) := rfl
theorem T_346_67 : hTab 346 67 = some ((27, 0, 0, []), 68) := rfl
theorem T_346_68 : hTab 346 68 = some ((3, 0, 2, []), 69) := rfl
theorem T_346_69 : hTab 346 69 = some ((24, 17, Int.ofNat 89, []), 72) := rfl
theorem T_346_72 : hTab 346 72 = some ((3, 1, 0, []), 73) := rfl
theorem T_346_73 : hTab 346 73 = some ((3, 0, 2, []), 74) := rfl
theorem T_346_74 : hTab 346 74 = some ((24, 17, Int.ofNat 89, []), 77) := rfl
theorem T_346_77 : hTab 346 77 = some ((3, 1, 0, []), 78) := rfl
theorem T_346_78 : hTab 346 78 = some ((0, 0, 1, []), 79) := rfl
theorem T_346_79 : hTab 346 79 = some ((10, 0, 0, []), 80) := rfl
theorem T_346_80 : hTab 346 80 = some ((26, 0, 0, []), 81) := rfl
theorem T_346_81 : hTab 346 81 = some ((27, 0, 0, []), 82) := rfl
theorem T_346_82 : hTab 346 82 = some ((3, 0, 2, []), 83) := rfl
theorem T_346_83 : hTab 346 83 = some ((24, 17, Int.ofNat 90, []), 86) := rfl
theorem T_346_86 : hTab 346 86 = some ((3, 1, 0, []), 87) := rfl
theorem T_346_87 : hTab 346 87 = some ((3, 0, 2, []), 88) := rfl
theorem T_346_88 : hTab 346 88 = some ((24, 17, Int.ofNat 90, []), 91) := rfl
theorem T_346_91 : hTab 346 91 = some ((3, 1, 0, []), 92) := rfl
theorem T_346_92 : hTab 346 92 = some ((0, 0, 1, []), 93) := rfl
theorem T_346_93 : hTab 346 93 = some ((10, 0, 0, []), 94) := rfl
theorem T_346_94 : hTab 346 94 = some ((26, 0, 0, []), 95) := rfl
theorem T_346_95 : hTab 346 95 = some ((27, 0, 0, []), 96) := rfl
theorem T_346_96 : hTab 346 96 = some ((3, 0, 2, []), 97) := rfl
theorem T_346_97 : hTab 346 97 = some ((6, 0, 0, []), 98) := rfl
theorem T_346_98 : hTab 346 98 = some ((24, 17, Int.ofNat 91, []), 101) := rfl
theorem T_346_101 : hTab 346 101 = some ((0, 0, 1, []), 102) := rfl
theorem T_346_102 : hTab 346 102 = some ((10, 1, 0, []), 103) := rfl
theorem T_346_103 : hTab 346 103 = some ((25, 17, Int.ofNat 91, []), 106) := rfl
theorem T_346_106 : hTab 346 106 = some ((33, 0, 0, []), 107) := rfl
theorem T_352_0 : hTab 352 0 = some ((3, 0, 2, []), 1) := rfl
theorem T_352_1 : hTab 352 1 = some ((24, 17, Int.ofNat 91, []), 4) := rfl
theorem T_352_4 : hTab 352 4 = some ((18, 5, Int.ofNat 14, []), 7) := rfl
theorem T_352_7 : hTab 352 7 = some ((3, 0, 2, []), 8) := rfl
theorem T_352_8 : hTab 352 8 = some ((31, 344, 0, []), 11) := rfl
theorem T_352_11 : hTab 352 11 = some ((22, 0, Int.ofNat 0, []), 14) := rfl
theorem T_352_14 : hTab 352 14 = some ((33, 0, 0, []), 15) := rfl
theorem F_17_65 : (hFd 17 65).2.2.1 = 4 := rfl
theorem F_17_66 : (hFd 17 66).2.2.1 = 4 := rfl
theorem mN_333 : hmN 333 = 5 := by decide +kernel
theorem mL_333 : hmL 333 = 7 := by decide +kernel
theorem mK_333 : hmK 333 = 1 := by decide +kernel
theorem mO_333 : hmO 333 = 17 := by decide +kernel
theorem mN_337 : hmN 337 = 3 := by decide +kernel
theorem mL_337 : hmL 337 = 5 := by decide +kernel
theorem mK_337 : hmK 337 = 1 := by decide +kernel
theorem mO_337 : hmO 337 = 17 := by decide +kernel
theorem mN_340 : hmN 340 = 4 := by decide +kernel
theorem mL_340 : hmL 340 = 6 := by decide +kernel
theorem mK_340 : hmK 340 = 1 := by decide +kernel
theorem mO_340 : hmO 340 = 17 := by decide +kernel
theorem mN_341 : hmN 341 = 4 := by decide +kernel
theorem mL_341 : hmL 341 = 6 := by decide +kernel
theorem mK_341 : hmK 341 = 1 := by decide +kernel
theorem mO_341 : hmO 341 = 17 := by decide +kernel
theorem mN_344 : hmN 344 = 1 := by decide +kernel
theorem mL_344 : hmL 344 = 1 := by decide +kernel
theorem mK_344 : hmK 344 = 1 := by decide +kernel
theorem mO_344 : hmO 344 = 17 := by decide +kernel
theorem mN_346 : hmN 346 = 1 := by decide +kernel
theorem mL_346 : hmL 346 = 2 := by decide +kernel
theorem mK_346 : hmK 346 = 1 := by decide +kernel
theorem mO_346 : hmO 346 = 17 := by decide +kernel
theorem mN_352 : hmN 352 = 1 := by decide +kernel
theorem mL_352 : hmL 352 = 1 := by decide +kernel
theorem mK_352 : hmK 352 = 1 := by decide +kernel
theorem mO_352 : hmO 352 = 17 := by decide +kernel
def kCpE (P : qR) (s f : Int) : Int := if qNewF P s < 0 then 12 else tE P s (mCopy f (qNewF P s))
def kCpP (P : qR) (s f : Int) : qR := if qNewF P s < 0 then P else tP P s (mCopy f (qNewF P s))
def kAtE (P : qR) (s u : Int) : Int := if qNewF P s < 0 then 12 else tE P s (mAtt (qNewF P s) u)
def kAtP (P : qR) (s u : Int) : qR := if qNewF P s < 0 then P else tP P s (mAtt (qNewF P s) u)
def kStE (P : qR) (s f : Int) (nm : List Int) : Int := if qNewF P s < 0 then 12 else tE P s (mWalk f (qNewF P s) nm)
def kStP (P : qR) (s f : Int) (nm : List Int) : qR := if qNewF P s < 0 then P else tP P s (mWalk f (qNewF P s) nm)
def kStC (P : qR) (s f : Int) (nm : List Int) : Ch := (s, qNewF P s, kPath (tA P s (mWalk f (qNewF P s) nm)), kKind (tA P s (mWalk f (qNewF P s) nm)), -1)
def kHold (e : Int) (h : List Ch) (x : Ch) : List Ch := if e = 0 then h ++ [x] else h
def kDrop (P : qR) (x : Ch) : qR := tP P x.1 (mOne 120 x.2.1)
def kDrops (P : qR) (h : List Ch) : qR := h.foldr (fun x Q => kDrop Q x) P
def poF (P : qR) (s path : Int) : Nat → Int → Int
  | 0, _ => -1
  | m + 1, k => if P 2335 k = s ∧ P 2336 k = path then k else poF P s path m (k + 1)
/-- the point where a process's group has one, or -1 -/
def qPoint (P : qR) (p s path : Int) : Int := poF P s path (P 2334 (P 2323 p)).toNat (8 * P 2323 p)
section MHELD2
variable {fb : Bool} {d : Nat} {σ0 σ : hM} {P Q S S1 S2 : qR} {T U s w f g u p k : Int} {l R nm : List Int} {h : List Ch} {x y : Ch}
theorem nfR_rng : ∀ (m : Nat) (n : Int), nfR P s m n = -1 ∨ (n ≤ nfR P s m n ∧ nfR P s m n < n + m)
  | 0, _ => Or.inl rfl
  | m + 1, n => by
    unfold nfR
    split
    · exact Or.inr (by omega)
    · rcases nfR_rng m (n + 1) with q | q
      · exact Or.inl q
      · exact Or.inr (by omega)
theorem qNewF_rng : qNewF P s = -1 ∨ (0 ≤ qNewF P s ∧ qNewF P s ≤ 47) := by
  rcases nfR_rng (P := P) (s := s) 48 0 with q | q
  · exact Or.inl q
  · unfold qNewF
    omega
theorem poF_rng {path : Int} : ∀ (m : Nat) (k : Int), poF P s path m k = -1 ∨ (k ≤ poF P s path m k ∧ poF P s path m k < k + m ∧ P 2335 (poF P s path m k) = s ∧ P 2336 (poF P s path m k) = path)
  | 0, _ => Or.inl rfl
  | m + 1, k => by
    unfold poF
    split
    · rename_i q
      exact Or.inr ⟨by omega, by omega, q⟩
    · rcases poF_rng m (k + 1) with q | q
      · exact Or.inl q
      · exact Or.inr ⟨by omega, by omega, q.2.2⟩
theorem qPoint_rng {path : Int} (hI : IV false T U P) (hp : 0 ≤ p ∧ p < 8) : qPoint P p s path = -1 ∨ (8 * P 2323 p ≤ qPoint P p s path ∧ qPoint P p s path < 8 * P 2323 p + P 2334 (P 2323 p) ∧ 0 ≤ qPoint P p s path ∧ qPoint P p s path < 64) := by
  have b1 : 0 ≤ P 2323 p ∧ P 2323 p ≤ 7 := IV.a hI 2323 0 8 rfl rfl rfl (by omega) (by omega)
  have b2 : 0 ≤ P 2334 (P 2323 p) ∧ P 2334 (P 2323 p) ≤ 8 := IV.a hI 2334 0 8 rfl rfl rfl (by omega) (by omega)
  unfold qPoint
  rcases poF_rng (P := P) (s := s) (path := path) (P 2334 (P 2323 p)).toNat (8 * P 2323 p) with q | q
  · exact Or.inl q
  · exact Or.inr ⟨by omega, by omega, by omega, by omega⟩
theorem m_copy (hP : PM σ0 P S σ) (hJ : IV true T U S) (hG : GI T U P) (hT : T + 49 ≤ 2147483000) (hs : 0 ≤ s ∧ s < 3) (hh : HS S h) (hl : h.length < 60) (hg : 0 ≤ g ∧ g ≤ T + 200) (hk : 0 ≤ k ∧ k ≤ 255) : CL fb (d + 12) 333 [vR (some 2281), vI s, vI f, vI g, vI k] σ (KR (T + 4) U σ0 S (kCpE P s f) (kCpP P s f) (kHold (kCpE P s f) h (s, qNewF P s, g, k, -1))) := by
  obtain ⟨to, hto⟩ : ∃ to, qNewF P s = to := ⟨_, rfl⟩
  have hr := qNewF_rng (P := P) (s := s)
  unfold kCpE kCpP
  rw [hto] at hr ⊢
  by_cases q : to < 0
  · rw [if_pos q, if_pos q, show kHold 12 h (s, to, g, k, -1) = h from if_neg (by decide)]
    refine CL_in mL_333 rfl ?_
    show WP fb _ 333 0 [some (vR (some 2281)), some (vI s), some (vI f), some (vI g), some (vI k), none, none] [] σ _
    refine x_lr (z := some 2281) T_333_0 rfl ?_
    refine x_li (z := s) T_333_1 rfl ?_
    refine x_cv2 T_333_2 mN_334 mL_334 (Nat.le_of_ble_eq_true rfl) mO_334 (PM.t hP) (Nat.le_of_ble_eq_true rfl) (CL_val (m_newFid hP (by omega)) hto) ?_
    rintro _ σ ⟨rfl, rfl⟩
    refine cI ?_
    refine x_si (ls1 := [some (vR (some 2281)), some (vI s), some (vI f), some (vI g), some (vI k), some (vI to), none]) T_333_5 rfl ?_
    refine x_li (z := to) T_333_7 rfl ?_
    refine x_if T_333_9 (fun h => absurd (show 0 ≤ to from h) (by omega)) (fun _ => ?_)
    refine x_ic T_333_12 ?_
    refine x_ri T_333_14 ?_
    exact ⟨S, rfl, hP, hG.mono (by omega), hJ.mono (by omega) (Int.le_refl U), hh, SK_rfl⟩
  · rw [if_neg q, if_neg q]
    by_cases e0 : tE P s (mCopy f to) = 0
    · rw [show kHold (tE P s (mCopy f to)) h (s, to, g, k, -1) = h ++ [(s, to, g, k, -1)] from if_pos e0]
      refine CL_in mL_333 rfl ?_
      show WP fb _ 333 0 [some (vR (some 2281)), some (vI s), some (vI f), some (vI g), some (vI k), none, none] [] σ _
      refine x_lr (z := some 2281) T_333_0 rfl ?_
      refine x_li (z := s) T_333_1 rfl ?_
      refine x_cv2 T_333_2 mN_334 mL_334 (Nat.le_of_ble_eq_true rfl) mO_334 (PM.t hP) (Nat.le_of_ble_eq_true rfl) (CL_val (m_newFid hP (by omega)) hto) ?_
      rintro _ σ ⟨rfl, rfl⟩
      refine cI ?_
      refine x_si (ls1 := [some (vR (some 2281)), some (vI s), some (vI f), some (vI g), some (vI k), some (vI to), none]) T_333_5 rfl ?_
      refine x_li (z := to) T_333_7 rfl ?_
      refine x_if T_333_9 (fun _ => ?_) (fun h => absurd (show 0 ≤ to by omega) h)
      refine x_lr (z := some 2281) T_333_15 rfl ?_
      refine x_li (z := s) T_333_16 rfl ?_
      refine x_li (z := f) T_333_17 rfl ?_
      refine x_li (z := to) T_333_18 rfl ?_
      refine x_cv4 T_333_20 mN_335 mL_335 (Nat.le_of_ble_eq_true rfl) mO_335 (PM.t hP) (Nat.le_of_ble_eq_true rfl) (g_askCopy hP hJ hG hT hs (by omega)) ?_
      rintro _ σ ⟨S2, rfl, hP, hG2, hJ2, hA, hK⟩
      refine cI ?_
      refine x_si (ls1 := [some (vR (some 2281)), some (vI s), some (vI f), some (vI g), some (vI k), some (vI to), some (vI (tE P s (mCopy f to)))]) T_333_23 rfl ?_
      refine x_li (z := tE P s (mCopy f to)) T_333_25 rfl ?_
      refine x_if T_333_27 (fun h => absurd (show ¬ tE P s (mCopy f to) = 0 from h) (by exact fun c => c e0)) (fun _ => ?_)
      refine x_lr (z := some 2281) T_333_30 rfl ?_
      refine x_li (z := s) T_333_31 rfl ?_
      refine x_li (z := to) T_333_32 rfl ?_
      refine x_li (z := g) T_333_34 rfl ?_
      refine x_li (z := k) T_333_35 rfl ?_
      refine x_cv5 T_333_37 mN_336 mL_336 (Nat.le_of_ble_eq_true rfl) mO_336 (PM.t hP) (Nat.le_of_ble_eq_true rfl) (m_hold hP (hK.hs hh).1 (by omega)) ?_
      rintro _ σ ⟨rfl, hP⟩
      refine cV ?_
      refine x_li (z := tE P s (mCopy f to)) T_333_40 rfl ?_
      refine x_ri T_333_42 ?_
      exact ⟨_, rfl, hP, hG2, rHo_iv hJ2 (by omega) (by show 0 ≤ s ∧ s ≤ 2; omega) (by show 0 ≤ to ∧ to ≤ 47; omega) (by show 0 ≤ g ∧ g ≤ T + 4 + 200; omega) hk (by show (-1 : Int) ≤ -1 ∧ (-1 : Int) ≤ 63; decide), rHo_hs (hK.hs hh) hl, SK_tr hK.sk rHo_sk⟩
    · rw [show kHold (tE P s (mCopy f to)) h (s, to, g, k, -1) = h from if_neg e0]
      refine CL_in mL_333 rfl ?_
      show WP fb _ 333 0 [some (vR (some 2281)), some (vI s), some (vI f), some (vI g), some (vI k), none, none] [] σ _
      refine x_lr (z := some 2281) T_333_0 rfl ?_
      refine x_li (z := s) T_333_1 rfl ?_
      refine x_cv2 T_333_2 mN_334 mL_334 (Nat.le_of_ble_eq_true rfl) mO_334 (PM.t hP) (Nat.le_of_ble_eq_true rfl) (CL_val (m_newFid hP (by omega)) hto) ?_
      rintro _ σ ⟨rfl, rfl⟩
      refine cI ?_
      refine x_si (ls1 := [some (vR (some 2281)), some (vI s), some (vI f), some (vI g), some (vI k), some (vI to), none]) T_333_5 rfl ?_
      refine x_li (z := to) T_333_7 rfl ?_
      refine x_if T_333_9 (fun _ => ?_) (fun h => absurd (show 0 ≤ to by omega) h)
      refine x_lr (z := some 2281) T_333_15 rfl ?_
      refine x_li (z := s) T_333_16 rfl ?_
      refine x_li (z := f) T_333_17 rfl ?_
      refine x_li (z := to) T_333_18 rfl ?_
      refine x_cv4 T_333_20 mN_335 mL_335 (Nat.le_of_ble_eq_true rfl) mO_335 (PM.t hP) (Nat.le_of_ble_eq_true rfl) (g_askCopy hP hJ hG hT hs (by omega)) ?_
      rintro _ σ ⟨S2, rfl, hP, hG2, hJ2, hA, hK⟩
      refine cI ?_
      refine x_si (ls1 := [some (vR (some 2281)), some (vI s), some (vI f), some (vI g), some (vI k), some (vI to), some (vI (tE P s (mCopy f to)))]) T_333_23 rfl ?_
      refine x_li (z := tE P s (mCopy f to)) T_333_25 rfl ?_
      refine x_if T_333_27 (fun _ => ?_) (fun h => absurd (show ¬ tE P s (mCopy f to) = 0 by exact e0) h)
      refine x_li (z := tE P s (mCopy f to)) T_333_40 rfl ?_
      refine x_ri T_333_42 ?_
      exact ⟨_, rfl, hP, hG2, hJ2, hK.hs hh, hK.sk⟩
theorem m_attach (hP : PM σ0 P S σ) (hJ : IV true T U S) (hG : GI T U P) (hT : T + 49 ≤ 2147483000) (hs : 0 ≤ s ∧ s < 3) (hh : HS S h) (hl : h.length < 60) (hu : 0 ≤ u ∧ u ≤ 3) : CL fb (d + 12) 337 [vR (some 2281), vI s, vI u] σ (KR (T + 4) U σ0 S (kAtE P s u) (kAtP P s u) (kHold (kAtE P s u) h (s, qNewF P s, 0, 128, -1))) := by
  obtain ⟨to, hto⟩ : ∃ to, qNewF P s = to := ⟨_, rfl⟩
  have hr := qNewF_rng (P := P) (s := s)
  have hm : 0 ≤ P 2281 42 ∧ P 2281 42 ≤ T := IV.n hG.iv 42 42 rfl rfl (by decide)
  unfold kAtE kAtP
  rw [hto] at hr ⊢
  by_cases q : to < 0
  · rw [if_pos q, if_pos q, show kHold 12 h (s, to, 0, 128, -1) = h from if_neg (by decide)]
    refine CL_in mL_337 rfl ?_
    show WP fb _ 337 0 [some (vR (some 2281)), some (vI s), some (vI u), none, none] [] σ _
    refine x_lr (z := some 2281) T_337_0 rfl ?_
    refine x_li (z := s) T_337_1 rfl ?_
    refine x_cv2 T_337_2 mN_334 mL_334 (Nat.le_of_ble_eq_true rfl) mO_334 (PM.t hP) (Nat.le_of_ble_eq_true rfl) (CL_val (m_newFid hP (by omega)) hto) ?_
    rintro _ σ ⟨rfl, rfl⟩
    refine cI ?_
    refine x_si (ls1 := [some (vR (some 2281)), some (vI s), some (vI u), some (vI to), none]) T_337_5 rfl ?_
    refine x_li (z := to) T_337_6 rfl ?_
    refine x_if T_337_7 (fun h => absurd (show 0 ≤ to from h) (by omega)) (fun _ => ?_)
    refine x_ic T_337_10 ?_
    refine x_ri T_337_12 ?_
    exact ⟨S, rfl, hP, hG.mono (by omega), hJ.mono (by omega) (Int.le_refl U), hh, SK_rfl⟩
  · rw [if_neg q, if_neg q]
    by_cases e0 : tE P s (mAtt to u) = 0
    · rw [show kHold (tE P s (mAtt to u)) h (s, to, 0, 128, -1) = h ++ [(s, to, 0, 128, -1)] from if_pos e0]
      obtain ⟨k1, k2, k3⟩ := att_ok hG hs e0
      refine CL_in mL_337 rfl ?_
      show WP fb _ 337 0 [some (vR (some 2281)), some (vI s), some (vI u), none, none] [] σ _
      refine x_lr (z := some 2281) T_337_0 rfl ?_
      refine x_li (z := s) T_337_1 rfl ?_
      refine x_cv2 T_337_2 mN_334 mL_334 (Nat.le_of_ble_eq_true rfl) mO_334 (PM.t hP) (Nat.le_of_ble_eq_true rfl) (CL_val (m_newFid hP (by omega)) hto) ?_
      rintro _ σ ⟨rfl, rfl⟩
      refine cI ?_
      refine x_si (ls1 := [some (vR (some 2281)), some (vI s), some (vI u), some (vI to), none]) T_337_5 rfl ?_
      refine x_li (z := to) T_337_6 rfl ?_
      refine x_if T_337_7 (fun _ => ?_) (fun h => absurd (show 0 ≤ to by omega) h)
      refine x_lr (z := some 2281) T_337_13 rfl ?_
      refine x_li (z := s) T_337_14 rfl ?_
      refine x_li (z := to) T_337_15 rfl ?_
      refine x_li (z := u) T_337_16 rfl ?_
      refine x_cv4 T_337_17 mN_338 mL_338 (Nat.le_of_ble_eq_true rfl) mO_338 (PM.t hP) (Nat.le_of_ble_eq_true rfl) (g_askAttach hP hJ hG hT hs (by omega) hu) ?_
      rintro _ σ ⟨S2, rfl, hP, hG2, hJ2, hA, hK⟩
      refine cI ?_
      refine x_si (ls1 := [some (vR (some 2281)), some (vI s), some (vI u), some (vI to), some (vI (tE P s (mAtt to u)))]) T_337_20 rfl ?_
      refine x_li (z := tE P s (mAtt to u)) T_337_22 rfl ?_
      refine x_if T_337_24 (fun h => absurd (show ¬ tE P s (mAtt to u) = 0 from h) (by exact fun c => c e0)) (fun _ => ?_)
      refine x_lr (z := some 2281) T_337_27 rfl ?_
      refine x_li (z := s) T_337_28 rfl ?_
      refine x_li (z := to) T_337_29 rfl ?_
      refine x_lr (z := some 2281) T_337_30 rfl ?_
      refine x_ic T_337_31 ?_
      refine x_ic T_337_33 ?_
      refine x_cv3 T_337_35 mN_339 mL_339 (Nat.le_of_ble_eq_true rfl) mO_339 (PM.t hP) (Nat.le_of_ble_eq_true rfl) ((CL.mono (m_told hP hJ2 (by decide) (by decide) (by decide)) (fun r σ1 hr => by rw [show ((8 : Int)).toNat = 8 from rfl, AN_nu hA (by decide) (by rw [k3]; decide), k1] at hr; exact hr) : CL fb _ 339 [vR (some 2281), vI 12, vI 8] σ (rPL 0 σ))) ?_
      rintro _ σ ⟨rfl, rfl⟩
      refine cL ?_
      refine x_l2i (w := 0) T_337_38 (by decide) ?_
      refine x_lr (z := some 2281) T_337_39 rfl ?_
      refine x_ic T_337_40 ?_
      refine x_ic T_337_42 ?_
      refine x_cv3 T_337_43 mN_339 mL_339 (Nat.le_of_ble_eq_true rfl) mO_339 (PM.t hP) (Nat.le_of_ble_eq_true rfl) ((CL.mono (m_told hP hJ2 (by decide) (by decide) (by decide)) (fun r σ1 hr => by rw [show ((1 : Int)).toNat = 1 from rfl, AN_nu hA (by decide) (by rw [k3]; decide), k2] at hr; exact hr) : CL fb _ 339 [vR (some 2281), vI 7, vI 1] σ (rPL 128 σ))) ?_
      rintro _ σ ⟨rfl, rfl⟩
      refine cL ?_
      refine x_l2i (w := 128) T_337_46 (by decide) ?_
      refine x_cv5 T_337_47 mN_336 mL_336 (Nat.le_of_ble_eq_true rfl) mO_336 (PM.t hP) (Nat.le_of_ble_eq_true rfl) (m_hold hP (hK.hs hh).1 (by omega)) ?_
      rintro _ σ ⟨rfl, hP⟩
      refine cV ?_
      refine x_li (z := tE P s (mAtt to u)) T_337_50 rfl ?_
      refine x_ri T_337_52 ?_
      exact ⟨_, rfl, hP, hG2, rHo_iv hJ2 (by omega) (by show 0 ≤ s ∧ s ≤ 2; omega) (by show 0 ≤ to ∧ to ≤ 47; omega) (by show (0 : Int) ≤ 0 ∧ (0 : Int) ≤ T + 4 + 200; omega) (by show (0 : Int) ≤ 128 ∧ (128 : Int) ≤ 255; decide) (by show (-1 : Int) ≤ -1 ∧ (-1 : Int) ≤ 63; decide), rHo_hs (hK.hs hh) hl, SK_tr hK.sk rHo_sk⟩
    · rw [show kHold (tE P s (mAtt to u)) h (s, to, 0, 128, -1) = h from if_neg e0]
      refine CL_in mL_337 rfl ?_
      show WP fb _ 337 0 [some (vR (some 2281)), some (vI s), some (vI u), none, none] [] σ _
      refine x_lr (z := some 2281) T_337_0 rfl ?_
      refine x_li (z := s) T_337_1 rfl ?_
      refine x_cv2 T_337_2 mN_334 mL_334 (Nat.le_of_ble_eq_true rfl) mO_334 (PM.t hP) (Nat.le_of_ble_eq_true rfl) (CL_val (m_newFid hP (by omega)) hto) ?_
      rintro _ σ ⟨rfl, rfl⟩
      refine cI ?_
      refine x_si (ls1 := [some (vR (some 2281)), some (vI s), some (vI u), some (vI to), none]) T_337_5 rfl ?_
      refine x_li (z := to) T_337_6 rfl ?_
      refine x_if T_337_7 (fun _ => ?_) (fun h => absurd (show 0 ≤ to by omega) h)
      refine x_lr (z := some 2281) T_337_13 rfl ?_
      refine x_li (z := s) T_337_14 rfl ?_
      refine x_li (z := to) T_337_15 rfl ?_
      refine x_li (z := u) T_337_16 rfl ?_
      refine x_cv4 T_337_17 mN_338 mL_338 (Nat.le_of_ble_eq_true rfl) mO_338 (PM.t hP) (Nat.le_of_ble_eq_true rfl) (g_askAttach hP hJ hG hT hs (by omega) hu) ?_
      rintro _ σ ⟨S2, rfl, hP, hG2, hJ2, hA, hK⟩
      refine cI ?_
      refine x_si (ls1 := [some (vR (some 2281)), some (vI s), some (vI u), some (vI to), some (vI (tE P s (mAtt to u)))]) T_337_20 rfl ?_
      refine x_li (z := tE P s (mAtt to u)) T_337_22 rfl ?_
      refine x_if T_337_24 (fun _ => ?_) (fun h => absurd (show ¬ tE P s (mAtt to u) = 0 by exact e0) h)
      refine x_li (z := tE P s (mAtt to u)) T_337_50 rfl ?_
      refine x_ri T_337_52 ?_
      exact ⟨_, rfl, hP, hG2, hJ2, hK.hs hh, hK.sk⟩
theorem m_stepFrom {j a b : Int} (hP : PM σ0 P S σ) (hJ : IV true T U S) (hG : GI T U P) (hT : T + 250 ≤ 2147483000) (hs : 0 ≤ s ∧ s < 3) (hh : HS S h) (hl : h.length < 60) (hf : 0 ≤ f ∧ f ≤ 47) (hj : 0 ≤ j ∧ j < 110) (ea : S 2347 j = a) (eb : S 2348 j = b) (hab : 0 ≤ a ∧ a ≤ b ∧ b ≤ 200) (hnm : seg (S 2346) a (b - a).toNat = nm) : CL fb (d + 12) 341 [vR (some 2281), vI s, vI f, vI j] σ (KR (T + 4) U σ0 S (kStE P s f nm) (kStP P s f nm) (kHold (kStE P s f nm) h (kStC P s f nm))) := by
  obtain ⟨to, hto⟩ : ∃ to, qNewF P s = to := ⟨_, rfl⟩
  have hr := qNewF_rng (P := P) (s := s)
  have hm : 0 ≤ P 2281 42 ∧ P 2281 42 ≤ T := IV.n hG.iv 42 42 rfl rfl (by decide)
  have hbn : byt nm := by
    rw [← hnm]
    exact byt_seg (fun i h0 h1 => IV.a hJ 2346 0 200 rfl rfl rfl (by omega) (by omega))
  have hln : nm.length ≤ 400 := by
    rw [← hnm, seg_len]
    omega
  unfold kStE kStP kStC
  rw [hto] at hr ⊢
  by_cases q : to < 0
  · rw [if_pos q, if_pos q, show ∀ x, kHold 12 h x = h from fun x => if_neg (by decide)]
    refine CL_in mL_341 rfl ?_
    show WP fb _ 341 0 [some (vR (some 2281)), some (vI s), some (vI f), some (vI j), none, none] [] σ _
    refine x_lr (z := some 2281) T_341_0 rfl ?_
    refine x_li (z := s) T_341_1 rfl ?_
    refine x_cv2 T_341_2 mN_334 mL_334 (Nat.le_of_ble_eq_true rfl) mO_334 (PM.t hP) (Nat.le_of_ble_eq_true rfl) (CL_val (m_newFid hP (by omega)) hto) ?_
    rintro _ σ ⟨rfl, rfl⟩
    refine cI ?_
    refine x_si (ls1 := [some (vR (some 2281)), some (vI s), some (vI f), some (vI j), some (vI to), none]) T_341_5 rfl ?_
    refine x_li (z := to) T_341_7 rfl ?_
    refine x_if T_341_9 (fun h => absurd (show 0 ≤ to from h) (by omega)) (fun _ => ?_)
    refine x_ic T_341_12 ?_
    refine x_ri T_341_14 ?_
    exact ⟨S, rfl, hP, hG.mono (by omega), hJ.mono (by omega) (Int.le_refl U), hh, SK_rfl⟩
  · rw [if_neg q, if_neg q]
    by_cases e0 : tE P s (mWalk f to nm) = 0
    · rw [show ∀ x, kHold (tE P s (mWalk f to nm)) h x = h ++ [x] from fun x => if_pos e0]
      obtain ⟨n, k1, k2, k3, k4, k5, k6, k7⟩ := walk_ok hG (by omega) (by omega) hs hbn hln (by omega) e0
      obtain ⟨A, hA0⟩ : ∃ A, tA P s (mWalk f to nm) = A := ⟨_, rfl⟩
      rw [hA0] at k2 k3 k4 k5 ⊢
      have k8 : 0 ≤ kPath A ∧ kPath A ≤ T + 201 := by omega
      have k9 : 0 ≤ kKind A ∧ kKind A ≤ 128 := by rw [k4]; exact qKind_rng
      refine CL_in mL_341 rfl ?_
      show WP fb _ 341 0 [some (vR (some 2281)), some (vI s), some (vI f), some (vI j), none, none] [] σ _
      refine x_lr (z := some 2281) T_341_0 rfl ?_
      refine x_li (z := s) T_341_1 rfl ?_
      refine x_cv2 T_341_2 mN_334 mL_334 (Nat.le_of_ble_eq_true rfl) mO_334 (PM.t hP) (Nat.le_of_ble_eq_true rfl) (CL_val (m_newFid hP (by omega)) hto) ?_
      rintro _ σ ⟨rfl, rfl⟩
      refine cI ?_
      refine x_si (ls1 := [some (vR (some 2281)), some (vI s), some (vI f), some (vI j), some (vI to), none]) T_341_5 rfl ?_
      refine x_li (z := to) T_341_7 rfl ?_
      refine x_if T_341_9 (fun _ => ?_) (fun h => absurd (show 0 ≤ to by omega) h)
      refine x_lr (z := some 2281) T_341_15 rfl ?_
      refine x_li (z := s) T_341_16 rfl ?_
      refine x_li (z := f) T_341_17 rfl ?_
      refine x_li (z := to) T_341_18 rfl ?_
      refine x_li (z := j) T_341_20 rfl ?_
      refine x_cv5 T_341_21 mN_342 mL_342 (Nat.le_of_ble_eq_true rfl) mO_342 (PM.t hP) (Nat.le_of_ble_eq_true rfl) ((hnm ▸ g_askWalk hP hJ hG (by omega) hs (by omega) hj ea eb hab : CL fb (d + 11) 342 [vR (some 2281), vI s, vI f, vI to, vI j] σ (rG T U σ0 P S s (mWalk f to nm)))) ?_
      rintro _ σ ⟨S2, rfl, hP, hG2, hJ2, hA, hK⟩
      rw [hA0] at hA
      refine cI ?_
      refine x_si (ls1 := [some (vR (some 2281)), some (vI s), some (vI f), some (vI j), some (vI to), some (vI (tE P s (mWalk f to nm)))]) T_341_24 rfl ?_
      refine x_li (z := tE P s (mWalk f to nm)) T_341_26 rfl ?_
      refine x_if T_341_28 (fun h => absurd (show ¬ tE P s (mWalk f to nm) = 0 from h) (by exact fun c => c e0)) (fun _ => ?_)
      refine x_lr (z := some 2281) T_341_31 rfl ?_
      refine x_li (z := s) T_341_32 rfl ?_
      refine x_li (z := to) T_341_33 rfl ?_
      refine x_lr (z := some 2281) T_341_35 rfl ?_
      refine x_ic T_341_36 ?_
      refine x_ic T_341_38 ?_
      refine x_cv3 T_341_40 mN_339 mL_339 (Nat.le_of_ble_eq_true rfl) mO_339 (PM.t hP) (Nat.le_of_ble_eq_true rfl) ((CL.mono (m_told hP hJ2 (by decide) (by decide) (by decide)) (fun r σ1 hr => by rw [show ((8 : Int)).toNat = 8 from rfl, AN_nu hA (by decide) (by rw [k5]; decide), show nu (lg A) 14 8 = kPath A from rfl, w64_id (by omega) (by omega)] at hr; exact hr) : CL fb _ 339 [vR (some 2281), vI 14, vI 8] σ (rPL (kPath A) σ))) ?_
      rintro _ σ ⟨rfl, rfl⟩
      refine cL ?_
      refine x_l2i (w := (kPath A)) T_341_43 (w32_id (by omega) (by omega)) ?_
      refine x_lr (z := some 2281) T_341_44 rfl ?_
      refine x_ic T_341_45 ?_
      refine x_ic T_341_47 ?_
      refine x_cv3 T_341_48 mN_339 mL_339 (Nat.le_of_ble_eq_true rfl) mO_339 (PM.t hP) (Nat.le_of_ble_eq_true rfl) ((CL.mono (m_told hP hJ2 (by decide) (by decide) (by decide)) (fun r σ1 hr => by rw [show ((1 : Int)).toNat = 1 from rfl, AN_nu hA (by decide) (by rw [k5]; decide), show nu (lg A) 9 1 = kKind A from rfl, w64_id (by omega) (by omega)] at hr; exact hr) : CL fb _ 339 [vR (some 2281), vI 9, vI 1] σ (rPL (kKind A) σ))) ?_
      rintro _ σ ⟨rfl, rfl⟩
      refine cL ?_
      refine x_l2i (w := (kKind A)) T_341_51 (w32_id (by omega) (by omega)) ?_
      refine x_cv5 T_341_52 mN_336 mL_336 (Nat.le_of_ble_eq_true rfl) mO_336 (PM.t hP) (Nat.le_of_ble_eq_true rfl) (m_hold hP (hK.hs hh).1 (by omega)) ?_
      rintro _ σ ⟨rfl, hP⟩
      refine cV ?_
      refine x_li (z := tE P s (mWalk f to nm)) T_341_55 rfl ?_
      refine x_ri T_341_57 ?_
      exact ⟨_, rfl, hP, hG2, rHo_iv hJ2 (by omega) (by show 0 ≤ s ∧ s ≤ 2; omega) (by show 0 ≤ to ∧ to ≤ 47; omega) (by show 0 ≤ kPath A ∧ kPath A ≤ T + 4 + 200; omega) (by show 0 ≤ kKind A ∧ kKind A ≤ 255; omega) (by show (-1 : Int) ≤ -1 ∧ (-1 : Int) ≤ 63; decide), rHo_hs (hK.hs hh) hl, SK_tr hK.sk rHo_sk⟩
    · rw [show ∀ x, kHold (tE P s (mWalk f to nm)) h x = h from fun x => if_neg e0]
      refine CL_in mL_341 rfl ?_
      show WP fb _ 341 0 [some (vR (some 2281)), some (vI s), some (vI f), some (vI j), none, none] [] σ _
      refine x_lr (z := some 2281) T_341_0 rfl ?_
      refine x_li (z := s) T_341_1 rfl ?_
      refine x_cv2 T_341_2 mN_334 mL_334 (Nat.le_of_ble_eq_true rfl) mO_334 (PM.t hP) (Nat.le_of_ble_eq_true rfl) (CL_val (m_newFid hP (by omega)) hto) ?_
      rintro _ σ ⟨rfl, rfl⟩
      refine cI ?_
      refine x_si (ls1 := [some (vR (some 2281)), some (vI s), some (vI f), some (vI j), some (vI to), none]) T_341_5 rfl ?_
      refine x_li (z := to) T_341_7 rfl ?_
      refine x_if T_341_9 (fun _ => ?_) (fun h => absurd (show 0 ≤ to by omega) h)
      refine x_lr (z := some 2281) T_341_15 rfl ?_
      refine x_li (z := s) T_341_16 rfl ?_
      refine x_li (z := f) T_341_17 rfl ?_
      refine x_li (z := to) T_341_18 rfl ?_
      refine x_li (z := j) T_341_20 rfl ?_
      refine x_cv5 T_341_21 mN_342 mL_342 (Nat.le_of_ble_eq_true rfl) mO_342 (PM.t hP) (Nat.le_of_ble_eq_true rfl) ((hnm ▸ g_askWalk hP hJ hG (by omega) hs (by omega) hj ea eb hab : CL fb (d + 11) 342 [vR (some 2281), vI s, vI f, vI to, vI j] σ (rG T U σ0 P S s (mWalk f to nm)))) ?_
      rintro _ σ ⟨S2, rfl, hP, hG2, hJ2, hA, hK⟩
      refine cI ?_
      refine x_si (ls1 := [some (vR (some 2281)), some (vI s), some (vI f), some (vI j), some (vI to), some (vI (tE P s (mWalk f to nm)))]) T_341_24 rfl ?_
      refine x_li (z := tE P s (mWalk f to nm)) T_341_26 rfl ?_
      refine x_if T_341_28 (fun _ => ?_) (fun h => absurd (show ¬ tE P s (mWalk f to nm) = 0 by exact e0) h)
      refine x_li (z := tE P s (mWalk f to nm)) T_341_55 rfl ?_
      refine x_ri T_341_57 ?_
      exact ⟨_, rfl, hP, hG2, hJ2, hK.hs hh, hK.sk⟩
theorem m_pointOf_loop {path g : Int} (hP : PM σ0 P S σ) (hg : 0 ≤ g ∧ g < 8) (hz : 0 ≤ P 2334 g ∧ P 2334 g ≤ 8) : ∀ (m : Nat) (k : Int), k + m = P 2334 g → 0 ≤ k → WP fb d 340 11 [some (vR (some 2281)), some (vI p), some (vI s), some (vI path), some (vI g), some (vI k)] [] σ (rP (poF P s path m (8 * g + k)) σ) := by
  intro m
  induction m with
  | zero =>
    intro k h1 h2
    refine x_li (z := k) T_340_11 rfl ?_
    refine x_lr (z := some 2281) T_340_13 rfl ?_
    refine x_gR (z := some 2334) T_340_14 F_17_64 (PM.t hP) (PM.r hP 64 2334 rfl) ?_
    refine x_li (z := g) T_340_17 rfl ?_
    refine x_alI (z := P 2334 g) T_340_19 (by decide) (PM.ta hP 2334 0 8 rfl rfl) (by omega) (by omega) (PM.aP hP 2334 rfl rfl (by omega)) ?_
    refine x_ic2 T_340_20 (fun _ => ?_) (fun h => absurd (show P 2334 g ≤ k by omega) h)
    refine x_ic T_340_72 ?_
    refine x_ri T_340_73 ?_
    exact ⟨rfl, rfl⟩
  | succ m ih =>
    intro k h1 h2
    rw [show poF P s path (m + 1) (8 * g + k) = if P 2335 (8 * g + k) = s ∧ P 2336 (8 * g + k) = path then 8 * g + k else poF P s path m (8 * g + k + 1) from rfl, show 8 * g + k + 1 = 8 * g + (k + 1) by omega]
    refine x_li (z := k) T_340_11 rfl ?_
    refine x_lr (z := some 2281) T_340_13 rfl ?_
    refine x_gR (z := some 2334) T_340_14 F_17_64 (PM.t hP) (PM.r hP 64 2334 rfl) ?_
    refine x_li (z := g) T_340_17 rfl ?_
    refine x_alI (z := P 2334 g) T_340_19 (by decide) (PM.ta hP 2334 0 8 rfl rfl) (by omega) (by omega) (PM.aP hP 2334 rfl rfl (by omega)) ?_
    refine x_ic2 T_340_20 (fun h => absurd (show P 2334 g ≤ k from h) (by omega)) (fun _ => ?_)
    refine x_lr (z := some 2281) T_340_23 rfl ?_
    refine x_gR (z := some 2335) T_340_24 F_17_65 (PM.t hP) (PM.r hP 65 2335 rfl) ?_
    refine x_ic T_340_27 ?_
    refine x_li (z := g) T_340_29 rfl ?_
    refine x_ib (w := (8 * g)) T_340_31 (fun h => absurd h.1 (by decide)) (w32_id (by omega) (by omega)) ?_
    refine x_li (z := k) T_340_32 rfl ?_
    refine x_ib (w := ((8 * g) + k)) T_340_34 (fun h => absurd h.1 (by decide)) (w32_id (by omega) (by omega)) ?_
    refine x_alI (z := P 2335 ((8 * g) + k)) T_340_35 (by decide) (PM.ta hP 2335 0 64 rfl rfl) (by omega) (by omega) (PM.aP hP 2335 rfl rfl (by omega)) ?_
    refine x_li (z := s) T_340_36 rfl ?_
    refine x_ic2 T_340_37 (fun h37 => ?_) (fun h37 => ?_)
    · replace h37 : ¬ P 2335 ((8 * g) + k) = s := h37
      refine x_inc (w := (k + 1)) (ls1 := [some (vR (some 2281)), some (vI p), some (vI s), some (vI path), some (vI g), some (vI (k + 1))]) T_340_66 rfl (w32_id (by omega) (by omega)) rfl ?_
      refine x_goto T_340_69 ?_
      rw [if_neg (by omega)]
      exact ih (k + 1) (by omega) (by omega)
    · replace h37 : ¬ (¬ P 2335 ((8 * g) + k) = s) := h37
      refine x_lr (z := some 2281) T_340_40 rfl ?_
      refine x_gR (z := some 2336) T_340_41 F_17_66 (PM.t hP) (PM.r hP 66 2336 rfl) ?_
      refine x_ic T_340_44 ?_
      refine x_li (z := g) T_340_46 rfl ?_
      refine x_ib (w := (8 * g)) T_340_48 (fun h => absurd h.1 (by decide)) (w32_id (by omega) (by omega)) ?_
      refine x_li (z := k) T_340_49 rfl ?_
      refine x_ib (w := ((8 * g) + k)) T_340_51 (fun h => absurd h.1 (by decide)) (w32_id (by omega) (by omega)) ?_
      refine x_alI (z := P 2336 ((8 * g) + k)) T_340_52 (by decide) (PM.ta hP 2336 0 64 rfl rfl) (by omega) (by omega) (PM.aP hP 2336 rfl rfl (by omega)) ?_
      refine x_li (z := path) T_340_53 rfl ?_
      refine x_ic2 T_340_54 (fun h54 => ?_) (fun h54 => ?_)
      · replace h54 : ¬ P 2336 ((8 * g) + k) = path := h54
        refine x_inc (w := (k + 1)) (ls1 := [some (vR (some 2281)), some (vI p), some (vI s), some (vI path), some (vI g), some (vI (k + 1))]) T_340_66 rfl (w32_id (by omega) (by omega)) rfl ?_
        refine x_goto T_340_69 ?_
        rw [if_neg (by omega)]
        exact ih (k + 1) (by omega) (by omega)
      · replace h54 : ¬ (¬ P 2336 ((8 * g) + k) = path) := h54
        refine x_ic T_340_57 ?_
        refine x_li (z := g) T_340_59 rfl ?_
        refine x_ib (w := (8 * g)) T_340_61 (fun h => absurd h.1 (by decide)) (w32_id (by omega) (by omega)) ?_
        refine x_li (z := k) T_340_62 rfl ?_
        refine x_ib (w := ((8 * g) + k)) T_340_64 (fun h => absurd h.1 (by decide)) (w32_id (by omega) (by omega)) ?_
        refine x_ri T_340_65 ?_
        exact ⟨by rw [if_pos (by omega)], rfl⟩
theorem m_pointOf {path : Int} (hP : PM σ0 P S σ) (hI : IV false T U P) (hp : 0 ≤ p ∧ p < 8) : CL fb d 340 [vR (some 2281), vI p, vI s, vI path] σ (rP (qPoint P p s path) σ) := by
  have b1 : 0 ≤ P 2323 p ∧ P 2323 p ≤ 7 := IV.a hI 2323 0 8 rfl rfl rfl (by omega) (by omega)
  have b2 : 0 ≤ P 2334 (P 2323 p) ∧ P 2334 (P 2323 p) ≤ 8 := IV.a hI 2334 0 8 rfl rfl rfl (by omega) (by omega)
  refine CL_in mL_340 rfl ?_
  show WP fb _ 340 0 [some (vR (some 2281)), some (vI p), some (vI s), some (vI path), none, none] [] σ _
  refine x_lr (z := some 2281) T_340_0 rfl ?_
  refine x_gR (z := some 2323) T_340_1 F_17_53 (PM.t hP) (PM.r hP 53 2323 rfl) ?_
  refine x_li (z := p) T_340_4 rfl ?_
  refine x_alI (z := P 2323 p) T_340_5 (by decide) (PM.ta hP 2323 0 8 rfl rfl) (by omega) (by omega) (PM.aP hP 2323 rfl rfl (by omega)) ?_
  refine x_si (ls1 := [some (vR (some 2281)), some (vI p), some (vI s), some (vI path), some (vI (P 2323 p)), none]) T_340_6 rfl ?_
  refine x_ic T_340_8 ?_
  refine x_si (ls1 := [some (vR (some 2281)), some (vI p), some (vI s), some (vI path), some (vI (P 2323 p)), some (vI 0)]) T_340_9 rfl ?_
  have e := m_pointOf_loop (fb := fb) (d := d) (p := p) (s := s) (path := path) (g := P 2323 p) hP (by omega) b2 (P 2334 (P 2323 p)).toNat 0 (by omega) (by decide)
  rw [show 8 * P 2323 p + 0 = 8 * P 2323 p by omega] at e
  exact e
theorem m_drop (hP : PM σ0 P S σ) (hJ : IV true T U S) (hG : GI T U P) (hT : T + 49 ≤ 2147483000) (hh : HS S (h ++ [x])) : CL fb (d + 12) 344 [vR (some 2281)] σ (KV (T + 4) U σ0 S (kDrop P x) h) := by
  obtain ⟨e1, e2, e3, e4, -⟩ := hh.last
  have b1 : 0 ≤ S 2350 (h.length : Int) ∧ S 2350 (h.length : Int) ≤ 2 := IV.a hJ 2350 0 64 rfl rfl rfl (by omega) (by omega)
  have hh2 := hh.less (j := h.length) (by rw [List.length_append]; omega)
  rw [List.take_left' rfl] at hh2
  have hJ2 : IV true T U (rU S 2281 91 (h.length : Int)) := hJ.uN 91 91 rfl (by show 0 ≤ (h.length : Int) ∧ (h.length : Int) ≤ 64; omega)
  refine CL_in mL_344 rfl ?_
  show WP fb _ 344 0 [some (vR (some 2281))] [] σ _
  refine x_lr (z := some 2281) T_344_0 rfl ?_
  refine x_dupR T_344_1 ?_
  refine x_gI (z := ((h.length : Int) + 1)) T_344_2 (Or.inl F_17_91) (PM.t hP) (Eq.trans (PM.nS hP 2281 91 91 rfl rfl rfl) e1) ?_
  refine x_ic T_344_5 ?_
  refine x_ib (w := (h.length : Int)) T_344_6 (fun h => absurd h.1 (by decide)) (w32_e (by omega) (by omega) (by omega)) ?_
  refine y_pIS hP T_344_7 F_17_91 91 rfl rfl (fun σ hP => ?_)
  refine x_lr (z := some 2281) T_344_10 rfl ?_
  refine x_ic T_344_11 ?_
  refine x_lr (z := some 2281) T_344_13 rfl ?_
  refine x_gR (z := some 2350) T_344_14 F_17_86 (PM.t hP) (PM.r hP 86 2350 rfl) ?_
  refine x_lr (z := some 2281) T_344_17 rfl ?_
  refine x_gI (z := (h.length : Int)) T_344_18 (Or.inl F_17_91) (PM.t hP) (Eq.trans (PM.nS hP 2281 91 91 rfl rfl rfl) rU_s) ?_
  refine x_alI (z := x.1) T_344_21 (by decide) (PM.ta hP 2350 0 64 rfl rfl) (by omega) (by omega) (Eq.trans (Eq.trans (PM.aS hP 2350 rfl rfl (by omega)) (rU_f (Nat.ne_of_beq_eq_false rfl))) e3) ?_
  refine x_lr (z := some 2281) T_344_22 rfl ?_
  refine x_gR (z := some 2351) T_344_23 F_17_87 (PM.t hP) (PM.r hP 87 2351 rfl) ?_
  refine x_lr (z := some 2281) T_344_26 rfl ?_
  refine x_gI (z := (h.length : Int)) T_344_27 (Or.inl F_17_91) (PM.t hP) (Eq.trans (PM.nS hP 2281 91 91 rfl rfl rfl) rU_s) ?_
  refine x_alI (z := x.2.1) T_344_30 (by decide) (PM.ta hP 2351 0 64 rfl rfl) (by omega) (by omega) (Eq.trans (Eq.trans (PM.aS hP 2351 rfl rfl (by omega)) (rU_f (Nat.ne_of_beq_eq_false rfl))) e4) ?_
  refine x_cv4 T_344_31 mN_345 mL_345 (Nat.le_of_ble_eq_true rfl) mO_345 (PM.t hP) (Nat.le_of_ble_eq_true rfl) (g_askOne hP hJ2 hG hT (by omega) (Or.inl rfl)) ?_
  rintro _ σ ⟨S2, rfl, hP, hG2, hJ3, hA, hK⟩
  refine cI ?_
  refine x_popI T_344_34 ?_
  refine x_rv T_344_35 ?_
  exact ⟨S2, rfl, hP, hG2, hJ3, hK.hs hh2, SK_tr (SK_held SK_rfl) hK.sk⟩
theorem m_dropAll (hT : T + 4 * h.length + 49 ≤ 2147483000) (hP : PM σ0 P S σ) (hJ : IV true T U S) (hG : GI T U P) (hh : HS S h) : CL fb (d + 13) 352 [vR (some 2281)] σ (KV (T + 4 * h.length) U σ0 S (kDrops P h) []) := by
  refine CL_in mL_352 rfl ?_
  show WP fb _ 352 0 [some (vR (some 2281))] [] σ _
  suffices H : ∀ (n : Nat) (h : List Ch) (T : Int) (P S : qR) (σ : hM), h.length = n → T + 4 * h.length + 49 ≤ 2147483000 → PM σ0 P S σ → IV true T U S → GI T U P → HS S h → WP fb (d + 13) 352 0 [some (vR (some 2281))] [] σ (KV (T + 4 * h.length) U σ0 S (kDrops P h) []) from H h.length h T P S σ rfl hT hP hJ hG hh
  clear hP hJ hG hh hT
  intro n
  induction n with
  | zero =>
    intro h T P S σ hn hT hP hJ hG hh
    have hh0 : h = [] := List.eq_nil_of_length_eq_zero hn
    subst hh0
    have e1 : S 2281 91 = 0 := hh.1
    refine x_lr (z := some 2281) T_352_0 rfl ?_
    refine x_gI (z := 0) T_352_1 (Or.inl F_17_91) (PM.t hP) (Eq.trans (PM.nS hP 2281 91 91 rfl rfl rfl) e1) ?_
    refine x_if T_352_4 (fun _ => ?_) (fun h => absurd (show (0 : Int) ≤ 0 by decide) h)
    refine x_rv T_352_14 ?_
    exact ⟨S, rfl, hP, hG.mono (by omega), hJ.mono (by omega) (Int.le_refl U), hh, SK_rfl⟩
  | succ n ih =>
    intro h T P S σ hn hT hP hJ hG hh
    have hne : h ≠ [] := fun q => by rw [q] at hn; cases hn
    obtain ⟨h1, x, rfl⟩ : ∃ h1 x, h = h1 ++ [x] := ⟨h.dropLast, h.getLast hne, (List.dropLast_concat_getLast hne).symm⟩
    have e1 := hh.last.1
    have hn1 : h1.length = n := by rw [List.length_append] at hn; exact Nat.succ.inj hn
    rw [List.length_append] at hT
    have hT : T + 4 * ((h1.length + 1 : Nat) : Int) + 49 ≤ 2147483000 := hT
    refine x_lr (z := some 2281) T_352_0 rfl ?_
    refine x_gI (z := ((h1.length : Int) + 1)) T_352_1 (Or.inl F_17_91) (PM.t hP) (Eq.trans (PM.nS hP 2281 91 91 rfl rfl rfl) e1) ?_
    refine x_if T_352_4 (fun h => absurd (show ((h1.length : Int) + 1) ≤ 0 from h) (by omega)) (fun _ => ?_)
    refine x_lr (z := some 2281) T_352_7 rfl ?_
    refine x_cv1 T_352_8 mN_344 mL_344 (Nat.le_of_ble_eq_true rfl) mO_344 (PM.t hP) (Nat.le_of_ble_eq_true rfl) (m_drop hP hJ hG (by omega) hh) ?_
    rintro _ σ ⟨S2, rfl, hP, hG2, hJ2, hh2, hK2⟩
    refine cV ?_
    refine x_goto T_352_11 ?_
    refine WP.mono (ih h1 (T + 4) _ _ σ hn1 (by omega) hP hJ2 hG2 hh2) ?_
    rintro r σ1 ⟨S3, a1, a2, a3, a4, a5, a6⟩
    rw [show T + 4 * (((h1 ++ [x]).length : Nat) : Int) = T + 4 + 4 * (h1.length : Int) by rw [List.length_append]; show T + 4 * ((h1.length + 1 : Nat) : Int) = _; omega, show kDrops P (h1 ++ [x]) = kDrops (kDrop P x) h1 by unfold kDrops; rw [List.foldr_append]; rfl]
    exact ⟨S3, a1, a2, a3, a4, a5, SK_tr hK2 a6⟩
theorem m_dropBelow (hP : PM σ0 P S σ) (hJ : IV true T U S) (hG : GI T U P) (hT : T + 49 ≤ 2147483000) (hh : HS S (h ++ [x] ++ [y])) : CL fb (d + 12) 346 [vR (some 2281)] σ (KV (T + 4) U σ0 S (kDrop P x) (h ++ [y])) := by
  have e1 := hh.1
  rw [List.length_append, List.length_append] at e1
  have e1 : S 2281 91 = ((h.length + 1 + 1 : Nat) : Int) := e1
  have e1 : S 2281 91 = (h.length : Int) + 2 := by omega
  have hl := hh.2.1
  rw [List.length_append, List.length_append] at hl
  have hl : h.length + 1 + 1 ≤ 60 := hl
  have gx := hh.get (i := h.length) (z := (h.length : Int)) (x := x) rfl (by rw [List.append_assoc, List.getElem?_append_right (Nat.le_refl _), Nat.sub_self]; rfl)
  obtain ⟨x1, x2, -⟩ := gx
  have b1 : 0 ≤ S 2350 (h.length : Int) ∧ S 2350 (h.length : Int) ≤ 2 := IV.a hJ 2350 0 64 rfl rfl rfl (by omega) (by omega)
  obtain ⟨n, hn⟩ : ∃ n : Int, (h.length : Int) = n := ⟨_, rfl⟩
  rw [hn] at e1 x1 x2 b1
  refine CL_in mL_346 rfl ?_
  show WP fb _ 346 0 [some (vR (some 2281)), none] [] σ _
  refine x_lr (z := some 2281) T_346_0 rfl ?_
  refine x_gI (z := (n + 2)) T_346_1 (Or.inl F_17_91) (PM.t hP) (Eq.trans (PM.nS hP 2281 91 91 rfl rfl rfl) e1) ?_
  refine x_ic T_346_4 ?_
  refine x_ib (w := n) T_346_5 (fun h => absurd h.1 (by decide)) (w32_e (by omega) (by omega) (by omega)) ?_
  refine x_si (ls1 := [some (vR (some 2281)), some (vI n)]) T_346_6 rfl ?_
  refine x_lr (z := some 2281) T_346_7 rfl ?_
  refine x_ic T_346_8 ?_
  refine x_lr (z := some 2281) T_346_10 rfl ?_
  refine x_gR (z := some 2350) T_346_11 F_17_86 (PM.t hP) (PM.r hP 86 2350 rfl) ?_
  refine x_li (z := n) T_346_14 rfl ?_
  refine x_alI (z := x.1) T_346_15 (by decide) (PM.ta hP 2350 0 64 rfl rfl) (by omega) (by omega) (Eq.trans (PM.aS hP 2350 rfl rfl (by omega)) x1) ?_
  refine x_lr (z := some 2281) T_346_16 rfl ?_
  refine x_gR (z := some 2351) T_346_17 F_17_87 (PM.t hP) (PM.r hP 87 2351 rfl) ?_
  refine x_li (z := n) T_346_20 rfl ?_
  refine x_alI (z := x.2.1) T_346_21 (by decide) (PM.ta hP 2351 0 64 rfl rfl) (by omega) (by omega) (Eq.trans (PM.aS hP 2351 rfl rfl (by omega)) x2) ?_
  refine x_cv4 T_346_22 mN_345 mL_345 (Nat.le_of_ble_eq_true rfl) mO_345 (PM.t hP) (Nat.le_of_ble_eq_true rfl) (g_askOne hP hJ hG hT (by omega) (Or.inl rfl)) ?_
  rintro _ σ ⟨S2, rfl, hP, hG2, hJ2, hA, hK⟩
  refine cI ?_
  refine x_popI T_346_25 ?_
  have hh2 := hK.hs hh
  have gy := hh2.get (i := h.length + 1) (z := n + 1) (x := y) (by omega) (by rw [List.getElem?_append_right (by rw [List.length_append]; exact Nat.le_refl _), List.length_append]; show [y][h.length + 1 - (h.length + 1)]? = some y; rw [Nat.sub_self]; rfl)
  obtain ⟨y1, y2, y3, y4, y5⟩ := gy
  have e2 : S2 2281 91 = n + 2 := by rw [hh2.1, List.length_append, List.length_append]; show ((h.length + 1 + 1 : Nat) : Int) = _; omega
  have c1 : 0 ≤ S2 2350 (n + 1) ∧ S2 2350 (n + 1) ≤ 2 := IV.a hJ2 2350 0 64 rfl rfl rfl (by omega) (by omega)
  have c2 : 0 ≤ S2 2351 (n + 1) ∧ S2 2351 (n + 1) ≤ 47 := IV.a hJ2 2351 0 64 rfl rfl rfl (by omega) (by omega)
  have c3 : 0 ≤ S2 2352 (n + 1) ∧ S2 2352 (n + 1) ≤ T + 4 + 200 := IV.a hJ2 2352 0 64 rfl rfl rfl (by omega) (by omega)
  have c4 : 0 ≤ S2 2353 (n + 1) ∧ S2 2353 (n + 1) ≤ 255 := IV.a hJ2 2353 0 64 rfl rfl rfl (by omega) (by omega)
  have c5 : -1 ≤ S2 2354 (n + 1) ∧ S2 2354 (n + 1) ≤ 63 := IV.a hJ2 2354 0 64 rfl rfl rfl (by omega) (by omega)
  rw [y1] at c1
  rw [y2] at c2
  rw [y3] at c3
  rw [y4] at c4
  rw [y5] at c5
  refine x_lr (z := some 2281) T_346_26 rfl ?_
  refine x_gR (z := some 2350) T_346_27 F_17_86 (PM.t hP) (PM.r hP 86 2350 rfl) ?_
  refine x_li (z := n) T_346_30 rfl ?_
  refine x_lr (z := some 2281) T_346_31 rfl ?_
  refine x_gR (z := some 2350) T_346_32 F_17_86 (PM.t hP) (PM.r hP 86 2350 rfl) ?_
  refine x_li (z := n) T_346_35 rfl ?_
  refine x_ic T_346_36 ?_
  refine x_ib (w := (n + 1)) T_346_37 (fun h => absurd h.1 (by decide)) (w32_id (by omega) (by omega)) ?_
  refine x_alI (z := y.1) T_346_38 (by decide) (PM.ta hP 2350 0 64 rfl rfl) (by omega) (by omega) (Eq.trans (PM.aS hP 2350 rfl rfl (by omega)) y1) ?_
  refine y_aIS hP T_346_39 2350 64 rfl rfl rfl (by omega) (by omega) (fun σ hP => ?_)
  refine x_lr (z := some 2281) T_346_40 rfl ?_
  refine x_gR (z := some 2351) T_346_41 F_17_87 (PM.t hP) (PM.r hP 87 2351 rfl) ?_
  refine x_li (z := n) T_346_44 rfl ?_
  refine x_lr (z := some 2281) T_346_45 rfl ?_
  refine x_gR (z := some 2351) T_346_46 F_17_87 (PM.t hP) (PM.r hP 87 2351 rfl) ?_
  refine x_li (z := n) T_346_49 rfl ?_
  refine x_ic T_346_50 ?_
  refine x_ib (w := (n + 1)) T_346_51 (fun h => absurd h.1 (by decide)) (w32_id (by omega) (by omega)) ?_
  refine x_alI (z := y.2.1) T_346_52 (by decide) (PM.ta hP 2351 0 64 rfl rfl) (by omega) (by omega) (Eq.trans (Eq.trans (PM.aS hP 2351 rfl rfl (by omega)) (rU_f (Nat.ne_of_beq_eq_false rfl))) y2) ?_
  refine y_aIS hP T_346_53 2351 64 rfl rfl rfl (by omega) (by omega) (fun σ hP => ?_)
  refine x_lr (z := some 2281) T_346_54 rfl ?_
  refine x_gR (z := some 2352) T_346_55 F_17_88 (PM.t hP) (PM.r hP 88 2352 rfl) ?_
  refine x_li (z := n) T_346_58 rfl ?_
  refine x_lr (z := some 2281) T_346_59 rfl ?_
  refine x_gR (z := some 2352) T_346_60 F_17_88 (PM.t hP) (PM.r hP 88 2352 rfl) ?_
  refine x_li (z := n) T_346_63 rfl ?_
  refine x_ic T_346_64 ?_
  refine x_ib (w := (n + 1)) T_346_65 (fun h => absurd h.1 (by decide)) (w32_id (by omega) (by omega)) ?_
  refine x_alI (z := y.2.2.1) T_346_66 (by decide) (PM.ta hP 2352 0 64 rfl rfl) (by omega) (by omega) (Eq.trans (Eq.trans (PM.aS hP 2352 rfl rfl (by omega)) (Eq.trans (rU_f (Nat.ne_of_beq_eq_false rfl)) (rU_f (Nat.ne_of_beq_eq_false rfl)))) y3) ?_
  refine y_aIS hP T_346_67 2352 64 rfl rfl rfl (by omega) (by omega) (fun σ hP => ?_)
  refine x_lr (z := some 2281) T_346_68 rfl ?_
  refine x_gR (z := some 2353) T_346_69 F_17_89 (PM.t hP) (PM.r hP 89 2353 rfl) ?_
  refine x_li (z := n) T_346_72 rfl ?_
  refine x_lr (z := some 2281) T_346_73 rfl ?_
  refine x_gR (z := some 2353) T_346_74 F_17_89 (PM.t hP) (PM.r hP 89 2353 rfl) ?_
  refine x_li (z := n) T_346_77 rfl ?_
  refine x_ic T_346_78 ?_
  refine x_ib (w := (n + 1)) T_346_79 (fun h => absurd h.1 (by decide)) (w32_id (by omega) (by omega)) ?_
  refine x_alI (z := y.2.2.2.1) T_346_80 (by decide) (PM.ta hP 2353 0 64 rfl rfl) (by omega) (by omega) (Eq.trans (Eq.trans (PM.aS hP 2353 rfl rfl (by omega)) (Eq.trans (rU_f (Nat.ne_of_beq_eq_false rfl)) (Eq.trans (rU_f (Nat.ne_of_beq_eq_false rfl)) (rU_f (Nat.ne_of_beq_eq_false rfl))))) y4) ?_
  refine y_aIS hP T_346_81 2353 64 rfl rfl rfl (by omega) (by omega) (fun σ hP => ?_)
  refine x_lr (z := some 2281) T_346_82 rfl ?_
  refine x_gR (z := some 2354) T_346_83 F_17_90 (PM.t hP) (PM.r hP 90 2354 rfl) ?_
  refine x_li (z := n) T_346_86 rfl ?_
  refine x_lr (z := some 2281) T_346_87 rfl ?_
  refine x_gR (z := some 2354) T_346_88 F_17_90 (PM.t hP) (PM.r hP 90 2354 rfl) ?_
  refine x_li (z := n) T_346_91 rfl ?_
  refine x_ic T_346_92 ?_
  refine x_ib (w := (n + 1)) T_346_93 (fun h => absurd h.1 (by decide)) (w32_id (by omega) (by omega)) ?_
  refine x_alI (z := y.2.2.2.2) T_346_94 (by decide) (PM.ta hP 2354 0 64 rfl rfl) (by omega) (by omega) (Eq.trans (Eq.trans (PM.aS hP 2354 rfl rfl (by omega)) (Eq.trans (rU_f (Nat.ne_of_beq_eq_false rfl)) (Eq.trans (rU_f (Nat.ne_of_beq_eq_false rfl)) (Eq.trans (rU_f (Nat.ne_of_beq_eq_false rfl)) (rU_f (Nat.ne_of_beq_eq_false rfl)))))) y5) ?_
  refine y_aIS hP T_346_95 2354 64 rfl rfl rfl (by omega) (by omega) (fun σ hP => ?_)
  refine x_lr (z := some 2281) T_346_96 rfl ?_
  refine x_dupR T_346_97 ?_
  refine x_gI (z := (n + 2)) T_346_98 (Or.inl F_17_91) (PM.t hP) (Eq.trans (Eq.trans (PM.nS hP 2281 91 91 rfl rfl rfl) (Eq.trans (rU_f (Nat.ne_of_beq_eq_false rfl)) (Eq.trans (rU_f (Nat.ne_of_beq_eq_false rfl)) (Eq.trans (rU_f (Nat.ne_of_beq_eq_false rfl)) (Eq.trans (rU_f (Nat.ne_of_beq_eq_false rfl)) (rU_f (Nat.ne_of_beq_eq_false rfl))))))) e2) ?_
  refine x_ic T_346_101 ?_
  refine x_ib (w := (n + 1)) T_346_102 (fun h => absurd h.1 (by decide)) (w32_e (by omega) (by omega) (by omega)) ?_
  refine y_pIS hP T_346_103 F_17_91 91 rfl rfl (fun σ hP => ?_)
  refine x_rv T_346_106 ?_
  refine ⟨rHo S2 n y, rfl, hP, hG2, rHo_iv hJ2 (by omega) c1 c2 c3 c4 c5, ?_, SK_tr hK.sk rHo_sk⟩
  rw [← hn]
  refine rHo_hs2 (fun i hi => ?_) (by omega)
  have := hh2.2.2 i (by rw [List.length_append, List.length_append]; omega)
  rw [List.append_assoc, List.getD_eq_getElem?_getD, List.getElem?_append_left hi, ← List.getD_eq_getElem?_getD] at this
  exact this
end MHELD2
