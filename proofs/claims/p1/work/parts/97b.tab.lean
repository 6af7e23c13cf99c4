/-! The tables are right: methods, by and by. -/
set_option maxRecDepth 100000 in
theorem hq_0 : hP1 0 hc_0 := hP1_of (n := 113) (fun pc h => by unfold hc_0; rw [h]; rfl) (by decide +kernel) (by decide +kernel)
set_option maxRecDepth 100000 in
theorem hq_1 : hP1 1 hc_1 := hP1_of (n := 262) (fun pc h => by unfold hc_1; rw [h]; rfl) (by decide +kernel) (by decide +kernel)
set_option maxRecDepth 100000 in
theorem hq_2 : hP1 2 hc_2 := hP1_of (n := 20) (fun pc h => by unfold hc_2; rw [h]; rfl) (by decide +kernel) (by decide +kernel)
set_option maxRecDepth 100000 in
theorem hq_3 : hP1 3 hc_3 := hP1_of (n := 41) (fun pc h => by unfold hc_3; rw [h]; rfl) (by decide +kernel) (by decide +kernel)
set_option maxRecDepth 100000 in
theorem hq_4 : hP1 4 hc_4 := hP1_of (n := 41) (fun pc h => by unfold hc_4; rw [h]; rfl) (by decide +kernel) (by decide +kernel)
set_option maxRecDepth 100000 in
theorem hq_5 : hP1 5 hc_5 := hP1_of (n := 5) (fun pc h => by unfold hc_5; rw [h]; rfl) (by decide +kernel) (by decide +kernel)
set_option maxRecDepth 100000 in
theorem hq_6 : hP1 6 hc_6 := hP1_of (n := 89) (fun pc h => by unfold hc_6; rw [h]; rfl) (by decide +kernel) (by decide +kernel)
set_option maxRecDepth 100000 in
theorem hq_7 : hP1 7 hc_7 := hP1_of (n := 241) (fun pc h => by unfold hc_7; rw [h]; rfl) (by decide +kernel) (by decide +kernel)
set_option maxRecDepth 100000 in
theorem hq_8 : hP1 8 hc_8 := hP1_of (n := 18) (fun pc h => by unfold hc_8; rw [h]; rfl) (by decide +kernel) (by decide +kernel)
set_option maxRecDepth 100000 in
theorem hq_9 : hP1 9 hc_9 := hP1_of (n := 5) (fun pc h => by unfold hc_9; rw [h]; rfl) (by decide +kernel) (by decide +kernel)
set_option maxRecDepth 100000 in
theorem hq_10 : hP1 10 hc_10 := hP1_of (n := 54) (fun pc h => by unfold hc_10; rw [h]; rfl) (by decide +kernel) (by decide +kernel)
set_option maxRecDepth 100000 in
theorem hq_11 : hP1 11 hc_11 := hP1_of (n := 11) (fun pc h => by unfold hc_11; rw [h]; rfl) (by decide +kernel) (by decide +kernel)
set_option maxRecDepth 100000 in
theorem hq_12 : hP1 12 hc_12 := hP1_of (n := 54) (fun pc h => by unfold hc_12; rw [h]; rfl) (by decide +kernel) (by decide +kernel)
set_option maxRecDepth 100000 in
theorem hq_13 : hP1 13 hc_13 := hP1_of (n := 11) (fun pc h => by unfold hc_13; rw [h]; rfl) (by decide +kernel) (by decide +kernel)
set_option maxRecDepth 100000 in
theorem hq_14 : hP1 14 hc_14 := hP1_of (n := 15) (fun pc h => by unfold hc_14; rw [h]; rfl) (by decide +kernel) (by decide +kernel)
set_option maxRecDepth 100000 in
theorem hq_15 : hP1 15 hc_15 := hP1_of (n := 25) (fun pc h => by unfold hc_15; rw [h]; rfl) (by decide +kernel) (by decide +kernel)
set_option maxRecDepth 100000 in
theorem hq_16 : hP1 16 hc_16 := hP1_of (n := 19) (fun pc h => by unfold hc_16; rw [h]; rfl) (by decide +kernel) (by decide +kernel)
set_option maxRecDepth 100000 in
theorem hq_17 : hP1 17 hc_17 := hP1_of (n := 15) (fun pc h => by unfold hc_17; rw [h]; rfl) (by decide +kernel) (by decide +kernel)
set_option maxRecDepth 100000 in
theorem hq_18 : hP1 18 hc_18 := hP1_of (n := 10) (fun pc h => by unfold hc_18; rw [h]; rfl) (by decide +kernel) (by decide +kernel)
set_option maxRecDepth 100000 in
theorem hq_19 : hP1 19 hc_19 := hP1_of (n := 18) (fun pc h => by unfold hc_19; rw [h]; rfl) (by decide +kernel) (by decide +kernel)
set_option maxRecDepth 100000 in
theorem hq_20 : hP1 20 hc_20 := hP1_of (n := 96) (fun pc h => by unfold hc_20; rw [h]; rfl) (by decide +kernel) (by decide +kernel)
set_option maxRecDepth 100000 in
theorem hq_21 : hP1 21 hc_21 := hP1_of (n := 25) (fun pc h => by unfold hc_21; rw [h]; rfl) (by decide +kernel) (by decide +kernel)
set_option maxRecDepth 100000 in
theorem hq_22 : hP1 22 hc_22 := hP1_of (n := 61) (fun pc h => by unfold hc_22; rw [h]; rfl) (by decide +kernel) (by decide +kernel)
set_option maxRecDepth 100000 in
theorem hq_23 : hP1 23 hc_23 := hP1_of (n := 16) (fun pc h => by unfold hc_23; rw [h]; rfl) (by decide +kernel) (by decide +kernel)
set_option maxRecDepth 100000 in
theorem hq_24 : hP1 24 hc_24 := hP1_of (n := 12) (fun pc h => by unfold hc_24; rw [h]; rfl) (by decide +kernel) (by decide +kernel)
set_option maxRecDepth 100000 in
theorem hq_25 : hP1 25 hc_25 := hP1_of (n := 54) (fun pc h => by unfold hc_25; rw [h]; rfl) (by decide +kernel) (by decide +kernel)
set_option maxRecDepth 100000 in
theorem hq_26 : hP1 26 hc_26 := hP1_of (n := 421) (fun pc h => by unfold hc_26; rw [h]; rfl) (by decide +kernel) (by decide +kernel)
set_option maxRecDepth 100000 in
theorem hq_27 : hP1 27 hc_27 := hP1_of (n := 6) (fun pc h => by unfold hc_27; rw [h]; rfl) (by decide +kernel) (by decide +kernel)
set_option maxRecDepth 100000 in
theorem hq_28 : hP1 28 hc_28 := hP1_of (n := 5) (fun pc h => by unfold hc_28; rw [h]; rfl) (by decide +kernel) (by decide +kernel)
set_option maxRecDepth 100000 in
theorem hq_29 : hP1 29 hc_29 := hP1_of (n := 57) (fun pc h => by unfold hc_29; rw [h]; rfl) (by decide +kernel) (by decide +kernel)
set_option maxRecDepth 100000 in
theorem hq_30 : hP1 30 hc_30 := hP1_of (n := 77) (fun pc h => by unfold hc_30; rw [h]; rfl) (by decide +kernel) (by decide +kernel)
set_option maxRecDepth 100000 in
theorem hq_31 : hP1 31 hc_31 := hP1_of (n := 13) (fun pc h => by unfold hc_31; rw [h]; rfl) (by decide +kernel) (by decide +kernel)
set_option maxRecDepth 100000 in
theorem hq_32 : hP1 32 hc_32 := hP1_of (n := 71) (fun pc h => by unfold hc_32; rw [h]; rfl) (by decide +kernel) (by decide +kernel)
set_option maxRecDepth 100000 in
theorem hq_33 : hP1 33 hc_33 := hP1_of (n := 36) (fun pc h => by unfold hc_33; rw [h]; rfl) (by decide +kernel) (by decide +kernel)
set_option maxRecDepth 100000 in
theorem hq_34 : hP1 34 hc_34 := hP1_of (n := 20) (fun pc h => by unfold hc_34; rw [h]; rfl) (by decide +kernel) (by decide +kernel)
set_option maxRecDepth 100000 in
theorem hq_35 : hP1 35 hc_35 := hP1_of (n := 289) (fun pc h => by unfold hc_35; rw [h]; rfl) (by decide +kernel) (by decide +kernel)
set_option maxRecDepth 100000 in
theorem hq_36 : hP1 36 hc_36 := hP1_of (n := 62) (fun pc h => by unfold hc_36; rw [h]; rfl) (by decide +kernel) (by decide +kernel)
set_option maxRecDepth 100000 in
theorem hq_37 : hP1 37 hc_37 := hP1_of (n := 73) (fun pc h => by unfold hc_37; rw [h]; rfl) (by decide +kernel) (by decide +kernel)
set_option maxRecDepth 100000 in
theorem hq_38 : hP1 38 hc_38 := hP1_of (n := 92) (fun pc h => by unfold hc_38; rw [h]; rfl) (by decide +kernel) (by decide +kernel)
set_option maxRecDepth 100000 in
theorem hq_39 : hP1 39 hc_39 := hP1_of (n := 70) (fun pc h => by unfold hc_39; rw [h]; rfl) (by decide +kernel) (by decide +kernel)
set_option maxRecDepth 100000 in
theorem hq_40 : hP1 40 hc_40 := hP1_of (n := 156) (fun pc h => by unfold hc_40; rw [h]; rfl) (by decide +kernel) (by decide +kernel)
set_option maxRecDepth 100000 in
theorem hq_41 : hP1 41 hc_41 := hP1_of (n := 74) (fun pc h => by unfold hc_41; rw [h]; rfl) (by decide +kernel) (by decide +kernel)
set_option maxRecDepth 100000 in
theorem hq_42 : hP1 42 hc_42 := hP1_of (n := 76) (fun pc h => by unfold hc_42; rw [h]; rfl) (by decide +kernel) (by decide +kernel)
set_option maxRecDepth 100000 in
theorem hq_43 : hP1 43 hc_43 := hP1_of (n := 45) (fun pc h => by unfold hc_43; rw [h]; rfl) (by decide +kernel) (by decide +kernel)
set_option maxRecDepth 100000 in
theorem hq_44 : hP1 44 hc_44 := hP1_of (n := 33) (fun pc h => by unfold hc_44; rw [h]; rfl) (by decide +kernel) (by decide +kernel)
set_option maxRecDepth 100000 in
theorem hq_45 : hP1 45 hc_45 := hP1_of (n := 16) (fun pc h => by unfold hc_45; rw [h]; rfl) (by decide +kernel) (by decide +kernel)
set_option maxRecDepth 100000 in
theorem hq_46 : hP1 46 hc_46 := hP1_of (n := 135) (fun pc h => by unfold hc_46; rw [h]; rfl) (by decide +kernel) (by decide +kernel)
set_option maxRecDepth 100000 in
theorem hq_47 : hP1 47 hc_47 := hP1_of (n := 65) (fun pc h => by unfold hc_47; rw [h]; rfl) (by decide +kernel) (by decide +kernel)
set_option maxRecDepth 100000 in
theorem hq_48 : hP1 48 hc_48 := hP1_of (n := 121) (fun pc h => by unfold hc_48; rw [h]; rfl) (by decide +kernel) (by decide +kernel)
set_option maxRecDepth 100000 in
theorem hq_49 : hP1 49 hc_49 := hP1_of (n := 54) (fun pc h => by unfold hc_49; rw [h]; rfl) (by decide +kernel) (by decide +kernel)
set_option maxRecDepth 100000 in
theorem hq_50 : hP1 50 hc_50 := hP1_of (n := 51) (fun pc h => by unfold hc_50; rw [h]; rfl) (by decide +kernel) (by decide +kernel)
set_option maxRecDepth 100000 in
theorem hq_51 : hP1 51 hc_51 := hP1_of (n := 51) (fun pc h => by unfold hc_51; rw [h]; rfl) (by decide +kernel) (by decide +kernel)
set_option maxRecDepth 100000 in
theorem hq_52 : hP1 52 hc_52 := hP1_of (n := 41) (fun pc h => by unfold hc_52; rw [h]; rfl) (by decide +kernel) (by decide +kernel)
set_option maxRecDepth 100000 in
theorem hq_53 : hP1 53 hc_53 := hP1_of (n := 33) (fun pc h => by unfold hc_53; rw [h]; rfl) (by decide +kernel) (by decide +kernel)
set_option maxRecDepth 100000 in
theorem hq_54 : hP1 54 hc_54 := hP1_of (n := 292) (fun pc h => by unfold hc_54; rw [h]; rfl) (by decide +kernel) (by decide +kernel)
set_option maxRecDepth 100000 in
theorem hq_55 : hP1 55 hc_55 := hP1_of (n := 16) (fun pc h => by unfold hc_55; rw [h]; rfl) (by decide +kernel) (by decide +kernel)
set_option maxRecDepth 100000 in
theorem hq_56 : hP1 56 hc_56 := hP1_of (n := 93) (fun pc h => by unfold hc_56; rw [h]; rfl) (by decide +kernel) (by decide +kernel)
set_option maxRecDepth 100000 in
theorem hq_57 : hP1 57 hc_57 := hP1_of (n := 52) (fun pc h => by unfold hc_57; rw [h]; rfl) (by decide +kernel) (by decide +kernel)
set_option maxRecDepth 100000 in
theorem hq_58 : hP1 58 hc_58 := hP1_of (n := 62) (fun pc h => by unfold hc_58; rw [h]; rfl) (by decide +kernel) (by decide +kernel)
set_option maxRecDepth 100000 in
theorem hq_59 : hP1 59 hc_59 := hP1_of (n := 133) (fun pc h => by unfold hc_59; rw [h]; rfl) (by decide +kernel) (by decide +kernel)
set_option maxRecDepth 100000 in
theorem hq_60 : hP1 60 hc_60 := hP1_of (n := 123) (fun pc h => by unfold hc_60; rw [h]; rfl) (by decide +kernel) (by decide +kernel)
set_option maxRecDepth 100000 in
theorem hq_61 : hP1 61 hc_61 := hP1_of (n := 16) (fun pc h => by unfold hc_61; rw [h]; rfl) (by decide +kernel) (by decide +kernel)
set_option maxRecDepth 100000 in
theorem hq_62 : hP1 62 hc_62 := hP1_of (n := 78) (fun pc h => by unfold hc_62; rw [h]; rfl) (by decide +kernel) (by decide +kernel)
set_option maxRecDepth 100000 in
theorem hq_63 : hP1 63 hc_63 := hP1_of (n := 11) (fun pc h => by unfold hc_63; rw [h]; rfl) (by decide +kernel) (by decide +kernel)
set_option maxRecDepth 100000 in
theorem hq_64 : hP1 64 hc_64 := hP1_of (n := 322) (fun pc h => by unfold hc_64; rw [h]; rfl) (by decide +kernel) (by decide +kernel)
set_option maxRecDepth 100000 in
theorem hq_65 : hP1 65 hc_65 := hP1_of (n := 129) (fun pc h => by unfold hc_65; rw [h]; rfl) (by decide +kernel) (by decide +kernel)
set_option maxRecDepth 100000 in
theorem hq_66 : hP1 66 hc_66 := hP1_of (n := 83) (fun pc h => by unfold hc_66; rw [h]; rfl) (by decide +kernel) (by decide +kernel)
set_option maxRecDepth 100000 in
theorem hq_67 : hP1 67 hc_67 := hP1_of (n := 109) (fun pc h => by unfold hc_67; rw [h]; rfl) (by decide +kernel) (by decide +kernel)
set_option maxRecDepth 100000 in
theorem hq_68 : hP1 68 hc_68 := hP1_of (n := 286) (fun pc h => by unfold hc_68; rw [h]; rfl) (by decide +kernel) (by decide +kernel)
set_option maxRecDepth 100000 in
theorem hq_69 : hP1 69 hc_69 := hP1_of (n := 293) (fun pc h => by unfold hc_69; rw [h]; rfl) (by decide +kernel) (by decide +kernel)
set_option maxRecDepth 100000 in
theorem hq_70 : hP1 70 hc_70 := hP1_of (n := 11) (fun pc h => by unfold hc_70; rw [h]; rfl) (by decide +kernel) (by decide +kernel)
set_option maxRecDepth 100000 in
theorem hq_71 : hP1 71 hc_71 := hP1_of (n := 66) (fun pc h => by unfold hc_71; rw [h]; rfl) (by decide +kernel) (by decide +kernel)
set_option maxRecDepth 100000 in
theorem hq_72 : hP1 72 hc_72 := hP1_of (n := 19) (fun pc h => by unfold hc_72; rw [h]; rfl) (by decide +kernel) (by decide +kernel)
set_option maxRecDepth 100000 in
theorem hq_73 : hP1 73 hc_73 := hP1_of (n := 37) (fun pc h => by unfold hc_73; rw [h]; rfl) (by decide +kernel) (by decide +kernel)
set_option maxRecDepth 100000 in
theorem hq_74 : hP1 74 hc_74 := hP1_of (n := 35) (fun pc h => by unfold hc_74; rw [h]; rfl) (by decide +kernel) (by decide +kernel)
set_option maxRecDepth 100000 in
theorem hq_75 : hP1 75 hc_75 := hP1_of (n := 93) (fun pc h => by unfold hc_75; rw [h]; rfl) (by decide +kernel) (by decide +kernel)
set_option maxRecDepth 100000 in
theorem hq_76 : hP1 76 hc_76 := hP1_of (n := 11) (fun pc h => by unfold hc_76; rw [h]; rfl) (by decide +kernel) (by decide +kernel)
set_option maxRecDepth 100000 in
theorem hq_77 : hP1 77 hc_77 := hP1_of (n := 234) (fun pc h => by unfold hc_77; rw [h]; rfl) (by decide +kernel) (by decide +kernel)
set_option maxRecDepth 100000 in
theorem hq_78 : hP1 78 hc_78 := hP1_of (n := 80) (fun pc h => by unfold hc_78; rw [h]; rfl) (by decide +kernel) (by decide +kernel)
set_option maxRecDepth 100000 in
theorem hq_79 : hP1 79 hc_79 := hP1_of (n := 169) (fun pc h => by unfold hc_79; rw [h]; rfl) (by decide +kernel) (by decide +kernel)
set_option maxRecDepth 100000 in
theorem hq_80 : hP1 80 hc_80 := hP1_of (n := 11) (fun pc h => by unfold hc_80; rw [h]; rfl) (by decide +kernel) (by decide +kernel)
set_option maxRecDepth 100000 in
theorem hq_81 : hP1 81 hc_81 := hP1_of (n := 39) (fun pc h => by unfold hc_81; rw [h]; rfl) (by decide +kernel) (by decide +kernel)
set_option maxRecDepth 100000 in
theorem hq_82 : hP1 82 hc_82 := hP1_of (n := 95) (fun pc h => by unfold hc_82; rw [h]; rfl) (by decide +kernel) (by decide +kernel)
set_option maxRecDepth 100000 in
theorem hq_83 : hP1 83 hc_83 := hP1_of (n := 27) (fun pc h => by unfold hc_83; rw [h]; rfl) (by decide +kernel) (by decide +kernel)
set_option maxRecDepth 100000 in
theorem hq_84 : hP1 84 hc_84 := hP1_of (n := 22) (fun pc h => by unfold hc_84; rw [h]; rfl) (by decide +kernel) (by decide +kernel)
set_option maxRecDepth 100000 in
theorem hq_85 : hP1 85 hc_85 := hP1_of (n := 35) (fun pc h => by unfold hc_85; rw [h]; rfl) (by decide +kernel) (by decide +kernel)
set_option maxRecDepth 100000 in
theorem hq_86 : hP1 86 hc_86 := hP1_of (n := 372) (fun pc h => by unfold hc_86; rw [h]; rfl) (by decide +kernel) (by decide +kernel)
