/-! each method's words, by their places -/
def hwM (y k : Nat) : Cond := match k with
  | 0 => .code (hmY y) (hmB y) (hmL y) (hmR y)
  | 2 => if hmK y = 0 then .static (hmY y) else .instanceMethod (hmY y)
  | _ => .selects (hName (hmO y)) (hmY y) (hmY y)
def hMw (y : Nat) : Prop := hwM y 0 ∈ lw_tbl ∧ Cond.initialized (hName (hmO y)) ∈ lw_tbl ∧ hwM y 2 ∈ lw_tbl ∧ (hmK y = 1 → hwM y 3 ∈ lw_tbl)
theorem hT_1 {w : Cond} (h : w ∈ tables_1_1) : w ∈ lw_tbl := List.mem_append_right _ (List.mem_append_left _ h)
theorem hT_2 {w : Cond} (h : w ∈ tables_1_2) : w ∈ lw_tbl := List.mem_append_right _ (List.mem_append_right _ (List.mem_append_left _ h))
theorem hT_3 {w : Cond} (h : w ∈ tables_1_3) : w ∈ lw_tbl := List.mem_append_right _ (List.mem_append_right _ (List.mem_append_right _ (List.mem_append_left _ h)))
theorem hT_4 {w : Cond} (h : w ∈ tables_1_4) : w ∈ lw_tbl := List.mem_append_right _ (List.mem_append_right _ (List.mem_append_right _ (List.mem_append_right _ (List.mem_append_left _ h))))
theorem hT_5 {w : Cond} (h : w ∈ tables_1_5) : w ∈ lw_tbl := List.mem_append_right _ (List.mem_append_right _ (List.mem_append_right _ (List.mem_append_right _ (List.mem_append_right _ (List.mem_append_left _ h)))))
theorem hT_6 {w : Cond} (h : w ∈ tables_1_6) : w ∈ lw_tbl := List.mem_append_right _ (List.mem_append_right _ (List.mem_append_right _ (List.mem_append_right _ (List.mem_append_right _ (List.mem_append_right _ (List.mem_append_left _ h))))))
theorem hT_7 {w : Cond} (h : w ∈ tables_1_7) : w ∈ lw_tbl := List.mem_append_right _ (List.mem_append_right _ (List.mem_append_right _ (List.mem_append_right _ (List.mem_append_right _ (List.mem_append_right _ (List.mem_append_right _ (List.mem_append_left _ h)))))))
theorem hT_8 {w : Cond} (h : w ∈ tables_1_8) : w ∈ lw_tbl := List.mem_append_right _ (List.mem_append_right _ (List.mem_append_right _ (List.mem_append_right _ (List.mem_append_right _ (List.mem_append_right _ (List.mem_append_right _ (List.mem_append_right _ (List.mem_append_left _ h))))))))
theorem hT_9 {w : Cond} (h : w ∈ tables_1_9) : w ∈ lw_tbl := List.mem_append_right _ (List.mem_append_right _ (List.mem_append_right _ (List.mem_append_right _ (List.mem_append_right _ (List.mem_append_right _ (List.mem_append_right _ (List.mem_append_right _ (List.mem_append_right _ (List.mem_append_left _ h)))))))))
theorem hT_10 {w : Cond} (h : w ∈ tables_1_10) : w ∈ lw_tbl := List.mem_append_right _ (List.mem_append_right _ (List.mem_append_right _ (List.mem_append_right _ (List.mem_append_right _ (List.mem_append_right _ (List.mem_append_right _ (List.mem_append_right _ (List.mem_append_right _ (List.mem_append_right _ (List.mem_append_left _ h))))))))))
theorem hT_11 {w : Cond} (h : w ∈ tables_1_11) : w ∈ lw_tbl := List.mem_append_right _ (List.mem_append_right _ (List.mem_append_right _ (List.mem_append_right _ (List.mem_append_right _ (List.mem_append_right _ (List.mem_append_right _ (List.mem_append_right _ (List.mem_append_right _ (List.mem_append_right _ (List.mem_append_right _ (List.mem_append_left _ h)))))))))))
theorem hT_12 {w : Cond} (h : w ∈ tables_1_12) : w ∈ lw_tbl := List.mem_append_right _ (List.mem_append_right _ (List.mem_append_right _ (List.mem_append_right _ (List.mem_append_right _ (List.mem_append_right _ (List.mem_append_right _ (List.mem_append_right _ (List.mem_append_right _ (List.mem_append_right _ (List.mem_append_right _ (List.mem_append_right _ h)))))))))))
set_option maxRecDepth 20000 in
theorem hwc_0 : hwM 0 0 ∈ lw_tbl := hT_1 (List.mem_of_getElem? (i := 24) rfl)
set_option maxRecDepth 20000 in
theorem hwc_1 : hwM 1 0 ∈ lw_tbl := hT_1 (List.mem_of_getElem? (i := 32) rfl)
set_option maxRecDepth 20000 in
theorem hwc_2 : hwM 2 0 ∈ lw_tbl := hT_1 (List.mem_of_getElem? (i := 38) rfl)
set_option maxRecDepth 20000 in
theorem hwc_3 : hwM 3 0 ∈ lw_tbl := hT_1 (List.mem_of_getElem? (i := 61) rfl)
set_option maxRecDepth 20000 in
theorem hwc_4 : hwM 4 0 ∈ lw_tbl := hT_1 (List.mem_of_getElem? (i := 68) rfl)
set_option maxRecDepth 20000 in
theorem hwc_5 : hwM 5 0 ∈ lw_tbl := hT_1 (List.mem_of_getElem? (i := 74) rfl)
set_option maxRecDepth 20000 in
theorem hwc_6 : hwM 6 0 ∈ lw_tbl := hT_1 (List.mem_of_getElem? (i := 168) rfl)
set_option maxRecDepth 20000 in
theorem hwc_7 : hwM 7 0 ∈ lw_tbl := hT_2 (List.mem_of_getElem? (i := 58) rfl)
set_option maxRecDepth 20000 in
theorem hwc_8 : hwM 8 0 ∈ lw_tbl := hT_2 (List.mem_of_getElem? (i := 69) rfl)
set_option maxRecDepth 20000 in
theorem hwc_9 : hwM 9 0 ∈ lw_tbl := hT_2 (List.mem_of_getElem? (i := 125) rfl)
set_option maxRecDepth 20000 in
theorem hwc_10 : hwM 10 0 ∈ lw_tbl := hT_2 (List.mem_of_getElem? (i := 170) rfl)
set_option maxRecDepth 20000 in
theorem hwc_11 : hwM 11 0 ∈ lw_tbl := hT_2 (List.mem_of_getElem? (i := 175) rfl)
set_option maxRecDepth 20000 in
theorem hwc_12 : hwM 12 0 ∈ lw_tbl := hT_2 (List.mem_of_getElem? (i := 179) rfl)
set_option maxRecDepth 20000 in
theorem hwc_13 : hwM 13 0 ∈ lw_tbl := hT_2 (List.mem_of_getElem? (i := 183) rfl)
set_option maxRecDepth 20000 in
theorem hwc_14 : hwM 14 0 ∈ lw_tbl := hT_2 (List.mem_of_getElem? (i := 187) rfl)
set_option maxRecDepth 20000 in
theorem hwc_15 : hwM 15 0 ∈ lw_tbl := hT_2 (List.mem_of_getElem? (i := 193) rfl)
set_option maxRecDepth 20000 in
theorem hwc_16 : hwM 16 0 ∈ lw_tbl := hT_2 (List.mem_of_getElem? (i := 197) rfl)
set_option maxRecDepth 20000 in
theorem hwc_17 : hwM 17 0 ∈ lw_tbl := hT_2 (List.mem_of_getElem? (i := 200) rfl)
set_option maxRecDepth 20000 in
theorem hwc_18 : hwM 18 0 ∈ lw_tbl := hT_2 (List.mem_of_getElem? (i := 203) rfl)
set_option maxRecDepth 20000 in
theorem hwc_19 : hwM 19 0 ∈ lw_tbl := hT_2 (List.mem_of_getElem? (i := 208) rfl)
set_option maxRecDepth 20000 in
theorem hwc_20 : hwM 20 0 ∈ lw_tbl := hT_3 (List.mem_of_getElem? (i := 31) rfl)
set_option maxRecDepth 20000 in
theorem hwc_21 : hwM 21 0 ∈ lw_tbl := hT_3 (List.mem_of_getElem? (i := 36) rfl)
set_option maxRecDepth 20000 in
theorem hwc_22 : hwM 22 0 ∈ lw_tbl := hT_3 (List.mem_of_getElem? (i := 40) rfl)
set_option maxRecDepth 20000 in
theorem hwc_23 : hwM 23 0 ∈ lw_tbl := hT_3 (List.mem_of_getElem? (i := 47) rfl)
set_option maxRecDepth 20000 in
theorem hwc_24 : hwM 24 0 ∈ lw_tbl := hT_3 (List.mem_of_getElem? (i := 51) rfl)
set_option maxRecDepth 20000 in
theorem hwc_25 : hwM 25 0 ∈ lw_tbl := hT_3 (List.mem_of_getElem? (i := 55) rfl)
set_option maxRecDepth 20000 in
theorem hwc_26 : hwM 26 0 ∈ lw_tbl := hT_3 (List.mem_of_getElem? (i := 59) rfl)
set_option maxRecDepth 20000 in
theorem hwc_27 : hwM 27 0 ∈ lw_tbl := hT_3 (List.mem_of_getElem? (i := 63) rfl)
set_option maxRecDepth 20000 in
theorem hwc_28 : hwM 28 0 ∈ lw_tbl := hT_3 (List.mem_of_getElem? (i := 67) rfl)
set_option maxRecDepth 20000 in
theorem hwc_29 : hwM 29 0 ∈ lw_tbl := hT_3 (List.mem_of_getElem? (i := 71) rfl)
set_option maxRecDepth 20000 in
theorem hwc_30 : hwM 30 0 ∈ lw_tbl := hT_3 (List.mem_of_getElem? (i := 75) rfl)
set_option maxRecDepth 20000 in
theorem hwc_31 : hwM 31 0 ∈ lw_tbl := hT_3 (List.mem_of_getElem? (i := 80) rfl)
set_option maxRecDepth 20000 in
theorem hwc_32 : hwM 32 0 ∈ lw_tbl := hT_3 (List.mem_of_getElem? (i := 84) rfl)
set_option maxRecDepth 20000 in
theorem hwc_33 : hwM 33 0 ∈ lw_tbl := hT_3 (List.mem_of_getElem? (i := 88) rfl)
set_option maxRecDepth 20000 in
theorem hwc_34 : hwM 34 0 ∈ lw_tbl := hT_3 (List.mem_of_getElem? (i := 95) rfl)
set_option maxRecDepth 20000 in
theorem hwc_35 : hwM 35 0 ∈ lw_tbl := hT_3 (List.mem_of_getElem? (i := 99) rfl)
set_option maxRecDepth 20000 in
theorem hwc_36 : hwM 36 0 ∈ lw_tbl := hT_3 (List.mem_of_getElem? (i := 103) rfl)
set_option maxRecDepth 20000 in
theorem hwc_37 : hwM 37 0 ∈ lw_tbl := hT_3 (List.mem_of_getElem? (i := 107) rfl)
set_option maxRecDepth 20000 in
theorem hwc_38 : hwM 38 0 ∈ lw_tbl := hT_3 (List.mem_of_getElem? (i := 111) rfl)
set_option maxRecDepth 20000 in
theorem hwc_39 : hwM 39 0 ∈ lw_tbl := hT_3 (List.mem_of_getElem? (i := 115) rfl)
set_option maxRecDepth 20000 in
theorem hwc_40 : hwM 40 0 ∈ lw_tbl := hT_3 (List.mem_of_getElem? (i := 119) rfl)
set_option maxRecDepth 20000 in
theorem hwc_41 : hwM 41 0 ∈ lw_tbl := hT_3 (List.mem_of_getElem? (i := 124) rfl)
set_option maxRecDepth 20000 in
theorem hwc_42 : hwM 42 0 ∈ lw_tbl := hT_3 (List.mem_of_getElem? (i := 128) rfl)
set_option maxRecDepth 20000 in
theorem hwc_43 : hwM 43 0 ∈ lw_tbl := hT_3 (List.mem_of_getElem? (i := 132) rfl)
set_option maxRecDepth 20000 in
theorem hwc_44 : hwM 44 0 ∈ lw_tbl := hT_3 (List.mem_of_getElem? (i := 136) rfl)
set_option maxRecDepth 20000 in
theorem hwc_45 : hwM 45 0 ∈ lw_tbl := hT_3 (List.mem_of_getElem? (i := 140) rfl)
set_option maxRecDepth 20000 in
theorem hwc_46 : hwM 46 0 ∈ lw_tbl := hT_3 (List.mem_of_getElem? (i := 144) rfl)
set_option maxRecDepth 20000 in
theorem hwc_47 : hwM 47 0 ∈ lw_tbl := hT_3 (List.mem_of_getElem? (i := 151) rfl)
set_option maxRecDepth 20000 in
theorem hwc_48 : hwM 48 0 ∈ lw_tbl := hT_3 (List.mem_of_getElem? (i := 157) rfl)
set_option maxRecDepth 20000 in
theorem hwc_49 : hwM 49 0 ∈ lw_tbl := hT_3 (List.mem_of_getElem? (i := 162) rfl)
set_option maxRecDepth 20000 in
theorem hwc_50 : hwM 50 0 ∈ lw_tbl := hT_3 (List.mem_of_getElem? (i := 169) rfl)
set_option maxRecDepth 20000 in
theorem hwc_51 : hwM 51 0 ∈ lw_tbl := hT_3 (List.mem_of_getElem? (i := 173) rfl)
set_option maxRecDepth 20000 in
theorem hwc_52 : hwM 52 0 ∈ lw_tbl := hT_3 (List.mem_of_getElem? (i := 177) rfl)
set_option maxRecDepth 20000 in
theorem hwc_53 : hwM 53 0 ∈ lw_tbl := hT_3 (List.mem_of_getElem? (i := 181) rfl)
set_option maxRecDepth 20000 in
theorem hwc_54 : hwM 54 0 ∈ lw_tbl := hT_3 (List.mem_of_getElem? (i := 187) rfl)
set_option maxRecDepth 20000 in
theorem hwc_55 : hwM 55 0 ∈ lw_tbl := hT_3 (List.mem_of_getElem? (i := 191) rfl)
set_option maxRecDepth 20000 in
theorem hwc_56 : hwM 56 0 ∈ lw_tbl := hT_3 (List.mem_of_getElem? (i := 195) rfl)
set_option maxRecDepth 20000 in
theorem hwc_57 : hwM 57 0 ∈ lw_tbl := hT_3 (List.mem_of_getElem? (i := 199) rfl)
set_option maxRecDepth 20000 in
theorem hwc_58 : hwM 58 0 ∈ lw_tbl := hT_3 (List.mem_of_getElem? (i := 203) rfl)
set_option maxRecDepth 20000 in
theorem hwc_59 : hwM 59 0 ∈ lw_tbl := hT_3 (List.mem_of_getElem? (i := 208) rfl)
set_option maxRecDepth 20000 in
theorem hwc_60 : hwM 60 0 ∈ lw_tbl := hT_3 (List.mem_of_getElem? (i := 212) rfl)
set_option maxRecDepth 20000 in
theorem hwc_61 : hwM 61 0 ∈ lw_tbl := hT_3 (List.mem_of_getElem? (i := 218) rfl)
set_option maxRecDepth 20000 in
theorem hwc_62 : hwM 62 0 ∈ lw_tbl := hT_3 (List.mem_of_getElem? (i := 222) rfl)
set_option maxRecDepth 20000 in
theorem hwc_63 : hwM 63 0 ∈ lw_tbl := hT_3 (List.mem_of_getElem? (i := 226) rfl)
set_option maxRecDepth 20000 in
theorem hwc_64 : hwM 64 0 ∈ lw_tbl := hT_3 (List.mem_of_getElem? (i := 230) rfl)
set_option maxRecDepth 20000 in
theorem hwc_65 : hwM 65 0 ∈ lw_tbl := hT_3 (List.mem_of_getElem? (i := 234) rfl)
set_option maxRecDepth 20000 in
theorem hwc_66 : hwM 66 0 ∈ lw_tbl := hT_3 (List.mem_of_getElem? (i := 237) rfl)
set_option maxRecDepth 20000 in
theorem hwc_67 : hwM 67 0 ∈ lw_tbl := hT_4 (List.mem_of_getElem? (i := 2) rfl)
set_option maxRecDepth 20000 in
theorem hwc_68 : hwM 68 0 ∈ lw_tbl := hT_4 (List.mem_of_getElem? (i := 7) rfl)
set_option maxRecDepth 20000 in
theorem hwc_69 : hwM 69 0 ∈ lw_tbl := hT_4 (List.mem_of_getElem? (i := 11) rfl)
set_option maxRecDepth 20000 in
theorem hwc_70 : hwM 70 0 ∈ lw_tbl := hT_4 (List.mem_of_getElem? (i := 14) rfl)
set_option maxRecDepth 20000 in
theorem hwc_71 : hwM 71 0 ∈ lw_tbl := hT_4 (List.mem_of_getElem? (i := 19) rfl)
set_option maxRecDepth 20000 in
theorem hwc_72 : hwM 72 0 ∈ lw_tbl := hT_4 (List.mem_of_getElem? (i := 22) rfl)
set_option maxRecDepth 20000 in
theorem hwc_73 : hwM 73 0 ∈ lw_tbl := hT_4 (List.mem_of_getElem? (i := 27) rfl)
set_option maxRecDepth 20000 in
theorem hwc_74 : hwM 74 0 ∈ lw_tbl := hT_4 (List.mem_of_getElem? (i := 31) rfl)
set_option maxRecDepth 20000 in
theorem hwc_75 : hwM 75 0 ∈ lw_tbl := hT_4 (List.mem_of_getElem? (i := 35) rfl)
set_option maxRecDepth 20000 in
theorem hwc_76 : hwM 76 0 ∈ lw_tbl := hT_4 (List.mem_of_getElem? (i := 41) rfl)
set_option maxRecDepth 20000 in
theorem hwc_77 : hwM 77 0 ∈ lw_tbl := hT_4 (List.mem_of_getElem? (i := 46) rfl)
set_option maxRecDepth 20000 in
theorem hwc_78 : hwM 78 0 ∈ lw_tbl := hT_4 (List.mem_of_getElem? (i := 51) rfl)
set_option maxRecDepth 20000 in
theorem hwc_79 : hwM 79 0 ∈ lw_tbl := hT_4 (List.mem_of_getElem? (i := 55) rfl)
set_option maxRecDepth 20000 in
theorem hwc_80 : hwM 80 0 ∈ lw_tbl := hT_4 (List.mem_of_getElem? (i := 58) rfl)
set_option maxRecDepth 20000 in
theorem hwc_81 : hwM 81 0 ∈ lw_tbl := hT_4 (List.mem_of_getElem? (i := 62) rfl)
set_option maxRecDepth 20000 in
theorem hwc_82 : hwM 82 0 ∈ lw_tbl := hT_4 (List.mem_of_getElem? (i := 68) rfl)
set_option maxRecDepth 20000 in
theorem hwc_83 : hwM 83 0 ∈ lw_tbl := hT_4 (List.mem_of_getElem? (i := 73) rfl)
set_option maxRecDepth 20000 in
theorem hwc_84 : hwM 84 0 ∈ lw_tbl := hT_4 (List.mem_of_getElem? (i := 77) rfl)
set_option maxRecDepth 20000 in
theorem hwc_85 : hwM 85 0 ∈ lw_tbl := hT_4 (List.mem_of_getElem? (i := 81) rfl)
set_option maxRecDepth 20000 in
theorem hwc_86 : hwM 86 0 ∈ lw_tbl := hT_4 (List.mem_of_getElem? (i := 85) rfl)
set_option maxRecDepth 20000 in
theorem hwc_87 : hwM 87 0 ∈ lw_tbl := hT_4 (List.mem_of_getElem? (i := 89) rfl)
set_option maxRecDepth 20000 in
theorem hwc_88 : hwM 88 0 ∈ lw_tbl := hT_4 (List.mem_of_getElem? (i := 93) rfl)
set_option maxRecDepth 20000 in
theorem hwc_89 : hwM 89 0 ∈ lw_tbl := hT_4 (List.mem_of_getElem? (i := 97) rfl)
set_option maxRecDepth 20000 in
theorem hwc_90 : hwM 90 0 ∈ lw_tbl := hT_4 (List.mem_of_getElem? (i := 100) rfl)
set_option maxRecDepth 20000 in
theorem hwc_91 : hwM 91 0 ∈ lw_tbl := hT_4 (List.mem_of_getElem? (i := 104) rfl)
set_option maxRecDepth 20000 in
theorem hwc_92 : hwM 92 0 ∈ lw_tbl := hT_4 (List.mem_of_getElem? (i := 126) rfl)
set_option maxRecDepth 20000 in
theorem hwc_93 : hwM 93 0 ∈ lw_tbl := hT_4 (List.mem_of_getElem? (i := 155) rfl)
set_option maxRecDepth 20000 in
theorem hwc_94 : hwM 94 0 ∈ lw_tbl := hT_4 (List.mem_of_getElem? (i := 164) rfl)
set_option maxRecDepth 20000 in
theorem hwc_95 : hwM 95 0 ∈ lw_tbl := hT_5 (List.mem_of_getElem? (i := 13) rfl)
set_option maxRecDepth 20000 in
theorem hwc_96 : hwM 96 0 ∈ lw_tbl := hT_5 (List.mem_of_getElem? (i := 19) rfl)
set_option maxRecDepth 20000 in
theorem hwc_97 : hwM 97 0 ∈ lw_tbl := hT_5 (List.mem_of_getElem? (i := 23) rfl)
set_option maxRecDepth 20000 in
theorem hwc_98 : hwM 98 0 ∈ lw_tbl := hT_5 (List.mem_of_getElem? (i := 27) rfl)
set_option maxRecDepth 20000 in
theorem hwc_99 : hwM 99 0 ∈ lw_tbl := hT_5 (List.mem_of_getElem? (i := 35) rfl)
set_option maxRecDepth 20000 in
theorem hwc_100 : hwM 100 0 ∈ lw_tbl := hT_5 (List.mem_of_getElem? (i := 39) rfl)
set_option maxRecDepth 20000 in
theorem hwc_101 : hwM 101 0 ∈ lw_tbl := hT_5 (List.mem_of_getElem? (i := 43) rfl)
set_option maxRecDepth 20000 in
theorem hwc_102 : hwM 102 0 ∈ lw_tbl := hT_5 (List.mem_of_getElem? (i := 47) rfl)
set_option maxRecDepth 20000 in
theorem hwc_103 : hwM 103 0 ∈ lw_tbl := hT_5 (List.mem_of_getElem? (i := 51) rfl)
set_option maxRecDepth 20000 in
theorem hwc_104 : hwM 104 0 ∈ lw_tbl := hT_5 (List.mem_of_getElem? (i := 55) rfl)
set_option maxRecDepth 20000 in
theorem hwc_105 : hwM 105 0 ∈ lw_tbl := hT_5 (List.mem_of_getElem? (i := 60) rfl)
set_option maxRecDepth 20000 in
theorem hwc_106 : hwM 106 0 ∈ lw_tbl := hT_5 (List.mem_of_getElem? (i := 64) rfl)
set_option maxRecDepth 20000 in
theorem hwc_107 : hwM 107 0 ∈ lw_tbl := hT_5 (List.mem_of_getElem? (i := 68) rfl)
set_option maxRecDepth 20000 in
theorem hwc_108 : hwM 108 0 ∈ lw_tbl := hT_5 (List.mem_of_getElem? (i := 76) rfl)
set_option maxRecDepth 20000 in
theorem hwc_109 : hwM 109 0 ∈ lw_tbl := hT_5 (List.mem_of_getElem? (i := 82) rfl)
set_option maxRecDepth 20000 in
theorem hwc_110 : hwM 110 0 ∈ lw_tbl := hT_5 (List.mem_of_getElem? (i := 87) rfl)
set_option maxRecDepth 20000 in
theorem hwc_111 : hwM 111 0 ∈ lw_tbl := hT_5 (List.mem_of_getElem? (i := 91) rfl)
set_option maxRecDepth 20000 in
theorem hwc_112 : hwM 112 0 ∈ lw_tbl := hT_5 (List.mem_of_getElem? (i := 97) rfl)
set_option maxRecDepth 20000 in
theorem hwc_113 : hwM 113 0 ∈ lw_tbl := hT_5 (List.mem_of_getElem? (i := 102) rfl)
set_option maxRecDepth 20000 in
theorem hwc_114 : hwM 114 0 ∈ lw_tbl := hT_5 (List.mem_of_getElem? (i := 106) rfl)
set_option maxRecDepth 20000 in
theorem hwc_115 : hwM 115 0 ∈ lw_tbl := hT_5 (List.mem_of_getElem? (i := 111) rfl)
set_option maxRecDepth 20000 in
theorem hwc_116 : hwM 116 0 ∈ lw_tbl := hT_5 (List.mem_of_getElem? (i := 140) rfl)
set_option maxRecDepth 20000 in
theorem hwc_117 : hwM 117 0 ∈ lw_tbl := hT_5 (List.mem_of_getElem? (i := 144) rfl)
set_option maxRecDepth 20000 in
theorem hwc_118 : hwM 118 0 ∈ lw_tbl := hT_5 (List.mem_of_getElem? (i := 148) rfl)
set_option maxRecDepth 20000 in
theorem hwc_119 : hwM 119 0 ∈ lw_tbl := hT_5 (List.mem_of_getElem? (i := 157) rfl)
set_option maxRecDepth 20000 in
theorem hwc_120 : hwM 120 0 ∈ lw_tbl := hT_5 (List.mem_of_getElem? (i := 162) rfl)
set_option maxRecDepth 20000 in
theorem hwc_121 : hwM 121 0 ∈ lw_tbl := hT_5 (List.mem_of_getElem? (i := 166) rfl)
set_option maxRecDepth 20000 in
theorem hwc_122 : hwM 122 0 ∈ lw_tbl := hT_5 (List.mem_of_getElem? (i := 170) rfl)
set_option maxRecDepth 20000 in
theorem hwc_123 : hwM 123 0 ∈ lw_tbl := hT_5 (List.mem_of_getElem? (i := 174) rfl)
set_option maxRecDepth 20000 in
theorem hwc_124 : hwM 124 0 ∈ lw_tbl := hT_5 (List.mem_of_getElem? (i := 178) rfl)
set_option maxRecDepth 20000 in
theorem hwc_125 : hwM 125 0 ∈ lw_tbl := hT_5 (List.mem_of_getElem? (i := 182) rfl)
set_option maxRecDepth 20000 in
theorem hwc_126 : hwM 126 0 ∈ lw_tbl := hT_5 (List.mem_of_getElem? (i := 186) rfl)
set_option maxRecDepth 20000 in
theorem hwc_127 : hwM 127 0 ∈ lw_tbl := hT_5 (List.mem_of_getElem? (i := 190) rfl)
set_option maxRecDepth 20000 in
theorem hwc_128 : hwM 128 0 ∈ lw_tbl := hT_5 (List.mem_of_getElem? (i := 197) rfl)
set_option maxRecDepth 20000 in
theorem hwc_129 : hwM 129 0 ∈ lw_tbl := hT_5 (List.mem_of_getElem? (i := 201) rfl)
set_option maxRecDepth 20000 in
theorem hwc_130 : hwM 130 0 ∈ lw_tbl := hT_5 (List.mem_of_getElem? (i := 205) rfl)
set_option maxRecDepth 20000 in
theorem hwc_131 : hwM 131 0 ∈ lw_tbl := hT_5 (List.mem_of_getElem? (i := 210) rfl)
set_option maxRecDepth 20000 in
theorem hwc_132 : hwM 132 0 ∈ lw_tbl := hT_5 (List.mem_of_getElem? (i := 214) rfl)
set_option maxRecDepth 20000 in
theorem hwc_133 : hwM 133 0 ∈ lw_tbl := hT_5 (List.mem_of_getElem? (i := 220) rfl)
set_option maxRecDepth 20000 in
theorem hwc_134 : hwM 134 0 ∈ lw_tbl := hT_5 (List.mem_of_getElem? (i := 224) rfl)
set_option maxRecDepth 20000 in
theorem hwc_135 : hwM 135 0 ∈ lw_tbl := hT_5 (List.mem_of_getElem? (i := 228) rfl)
set_option maxRecDepth 20000 in
theorem hwc_136 : hwM 136 0 ∈ lw_tbl := hT_5 (List.mem_of_getElem? (i := 232) rfl)
set_option maxRecDepth 20000 in
theorem hwc_137 : hwM 137 0 ∈ lw_tbl := hT_5 (List.mem_of_getElem? (i := 239) rfl)
set_option maxRecDepth 20000 in
theorem hwc_138 : hwM 138 0 ∈ lw_tbl := hT_6 (List.mem_of_getElem? (i := 5) rfl)
set_option maxRecDepth 20000 in
theorem hwc_139 : hwM 139 0 ∈ lw_tbl := hT_6 (List.mem_of_getElem? (i := 9) rfl)
set_option maxRecDepth 20000 in
theorem hwc_140 : hwM 140 0 ∈ lw_tbl := hT_6 (List.mem_of_getElem? (i := 13) rfl)
set_option maxRecDepth 20000 in
theorem hwc_141 : hwM 141 0 ∈ lw_tbl := hT_6 (List.mem_of_getElem? (i := 20) rfl)
set_option maxRecDepth 20000 in
theorem hwc_142 : hwM 142 0 ∈ lw_tbl := hT_6 (List.mem_of_getElem? (i := 24) rfl)
set_option maxRecDepth 20000 in
theorem hwc_143 : hwM 143 0 ∈ lw_tbl := hT_6 (List.mem_of_getElem? (i := 34) rfl)
set_option maxRecDepth 20000 in
theorem hwc_144 : hwM 144 0 ∈ lw_tbl := hT_6 (List.mem_of_getElem? (i := 40) rfl)
set_option maxRecDepth 20000 in
theorem hwc_145 : hwM 145 0 ∈ lw_tbl := hT_6 (List.mem_of_getElem? (i := 44) rfl)
set_option maxRecDepth 20000 in
theorem hwc_146 : hwM 146 0 ∈ lw_tbl := hT_6 (List.mem_of_getElem? (i := 50) rfl)
set_option maxRecDepth 20000 in
theorem hwc_147 : hwM 147 0 ∈ lw_tbl := hT_6 (List.mem_of_getElem? (i := 54) rfl)
set_option maxRecDepth 20000 in
theorem hwc_148 : hwM 148 0 ∈ lw_tbl := hT_6 (List.mem_of_getElem? (i := 59) rfl)
set_option maxRecDepth 20000 in
theorem hwc_149 : hwM 149 0 ∈ lw_tbl := hT_6 (List.mem_of_getElem? (i := 63) rfl)
set_option maxRecDepth 20000 in
theorem hwc_150 : hwM 150 0 ∈ lw_tbl := hT_6 (List.mem_of_getElem? (i := 67) rfl)
set_option maxRecDepth 20000 in
theorem hwc_151 : hwM 151 0 ∈ lw_tbl := hT_6 (List.mem_of_getElem? (i := 71) rfl)
set_option maxRecDepth 20000 in
theorem hwc_152 : hwM 152 0 ∈ lw_tbl := hT_6 (List.mem_of_getElem? (i := 75) rfl)
set_option maxRecDepth 20000 in
theorem hwc_153 : hwM 153 0 ∈ lw_tbl := hT_6 (List.mem_of_getElem? (i := 79) rfl)
set_option maxRecDepth 20000 in
theorem hwc_154 : hwM 154 0 ∈ lw_tbl := hT_6 (List.mem_of_getElem? (i := 83) rfl)
set_option maxRecDepth 20000 in
theorem hwc_155 : hwM 155 0 ∈ lw_tbl := hT_6 (List.mem_of_getElem? (i := 88) rfl)
set_option maxRecDepth 20000 in
theorem hwc_156 : hwM 156 0 ∈ lw_tbl := hT_6 (List.mem_of_getElem? (i := 93) rfl)
set_option maxRecDepth 20000 in
theorem hwc_157 : hwM 157 0 ∈ lw_tbl := hT_6 (List.mem_of_getElem? (i := 97) rfl)
set_option maxRecDepth 20000 in
theorem hwc_158 : hwM 158 0 ∈ lw_tbl := hT_6 (List.mem_of_getElem? (i := 104) rfl)
set_option maxRecDepth 20000 in
theorem hwc_159 : hwM 159 0 ∈ lw_tbl := hT_6 (List.mem_of_getElem? (i := 109) rfl)
set_option maxRecDepth 20000 in
theorem hwc_160 : hwM 160 0 ∈ lw_tbl := hT_6 (List.mem_of_getElem? (i := 113) rfl)
set_option maxRecDepth 20000 in
theorem hwc_161 : hwM 161 0 ∈ lw_tbl := hT_6 (List.mem_of_getElem? (i := 117) rfl)
set_option maxRecDepth 20000 in
theorem hwc_162 : hwM 162 0 ∈ lw_tbl := hT_6 (List.mem_of_getElem? (i := 122) rfl)
set_option maxRecDepth 20000 in
theorem hwc_163 : hwM 163 0 ∈ lw_tbl := hT_6 (List.mem_of_getElem? (i := 126) rfl)
set_option maxRecDepth 20000 in
theorem hwc_164 : hwM 164 0 ∈ lw_tbl := hT_6 (List.mem_of_getElem? (i := 132) rfl)
set_option maxRecDepth 20000 in
theorem hwc_165 : hwM 165 0 ∈ lw_tbl := hT_6 (List.mem_of_getElem? (i := 136) rfl)
set_option maxRecDepth 20000 in
theorem hwc_166 : hwM 166 0 ∈ lw_tbl := hT_6 (List.mem_of_getElem? (i := 140) rfl)
set_option maxRecDepth 20000 in
theorem hwc_167 : hwM 167 0 ∈ lw_tbl := hT_6 (List.mem_of_getElem? (i := 144) rfl)
set_option maxRecDepth 20000 in
theorem hwc_168 : hwM 168 0 ∈ lw_tbl := hT_6 (List.mem_of_getElem? (i := 148) rfl)
set_option maxRecDepth 20000 in
theorem hwc_169 : hwM 169 0 ∈ lw_tbl := hT_6 (List.mem_of_getElem? (i := 152) rfl)
set_option maxRecDepth 20000 in
theorem hwc_170 : hwM 170 0 ∈ lw_tbl := hT_6 (List.mem_of_getElem? (i := 156) rfl)
set_option maxRecDepth 20000 in
theorem hwc_171 : hwM 171 0 ∈ lw_tbl := hT_6 (List.mem_of_getElem? (i := 162) rfl)
set_option maxRecDepth 20000 in
theorem hwc_172 : hwM 172 0 ∈ lw_tbl := hT_6 (List.mem_of_getElem? (i := 166) rfl)
set_option maxRecDepth 20000 in
theorem hwc_173 : hwM 173 0 ∈ lw_tbl := hT_6 (List.mem_of_getElem? (i := 170) rfl)
set_option maxRecDepth 20000 in
theorem hwc_174 : hwM 174 0 ∈ lw_tbl := hT_6 (List.mem_of_getElem? (i := 174) rfl)
set_option maxRecDepth 20000 in
theorem hwc_175 : hwM 175 0 ∈ lw_tbl := hT_6 (List.mem_of_getElem? (i := 179) rfl)
set_option maxRecDepth 20000 in
theorem hwc_176 : hwM 176 0 ∈ lw_tbl := hT_6 (List.mem_of_getElem? (i := 183) rfl)
set_option maxRecDepth 20000 in
theorem hwc_177 : hwM 177 0 ∈ lw_tbl := hT_6 (List.mem_of_getElem? (i := 188) rfl)
set_option maxRecDepth 20000 in
theorem hwc_178 : hwM 178 0 ∈ lw_tbl := hT_6 (List.mem_of_getElem? (i := 192) rfl)
set_option maxRecDepth 20000 in
theorem hwc_179 : hwM 179 0 ∈ lw_tbl := hT_6 (List.mem_of_getElem? (i := 196) rfl)
set_option maxRecDepth 20000 in
theorem hwc_180 : hwM 180 0 ∈ lw_tbl := hT_6 (List.mem_of_getElem? (i := 201) rfl)
set_option maxRecDepth 20000 in
theorem hwc_181 : hwM 181 0 ∈ lw_tbl := hT_6 (List.mem_of_getElem? (i := 206) rfl)
set_option maxRecDepth 20000 in
theorem hwc_182 : hwM 182 0 ∈ lw_tbl := hT_6 (List.mem_of_getElem? (i := 210) rfl)
set_option maxRecDepth 20000 in
theorem hwc_183 : hwM 183 0 ∈ lw_tbl := hT_6 (List.mem_of_getElem? (i := 214) rfl)
set_option maxRecDepth 20000 in
theorem hwc_184 : hwM 184 0 ∈ lw_tbl := hT_6 (List.mem_of_getElem? (i := 218) rfl)
set_option maxRecDepth 20000 in
theorem hwc_185 : hwM 185 0 ∈ lw_tbl := hT_6 (List.mem_of_getElem? (i := 222) rfl)
set_option maxRecDepth 20000 in
theorem hwc_186 : hwM 186 0 ∈ lw_tbl := hT_6 (List.mem_of_getElem? (i := 229) rfl)
set_option maxRecDepth 20000 in
theorem hwc_187 : hwM 187 0 ∈ lw_tbl := hT_6 (List.mem_of_getElem? (i := 233) rfl)
set_option maxRecDepth 20000 in
theorem hwc_188 : hwM 188 0 ∈ lw_tbl := hT_6 (List.mem_of_getElem? (i := 237) rfl)
set_option maxRecDepth 20000 in
theorem hwc_189 : hwM 189 0 ∈ lw_tbl := hT_7 (List.mem_of_getElem? (i := 1) rfl)
set_option maxRecDepth 20000 in
theorem hwc_190 : hwM 190 0 ∈ lw_tbl := hT_7 (List.mem_of_getElem? (i := 7) rfl)
set_option maxRecDepth 20000 in
theorem hwc_191 : hwM 191 0 ∈ lw_tbl := hT_7 (List.mem_of_getElem? (i := 11) rfl)
set_option maxRecDepth 20000 in
theorem hwc_192 : hwM 192 0 ∈ lw_tbl := hT_7 (List.mem_of_getElem? (i := 17) rfl)
set_option maxRecDepth 20000 in
theorem hwc_193 : hwM 193 0 ∈ lw_tbl := hT_7 (List.mem_of_getElem? (i := 24) rfl)
set_option maxRecDepth 20000 in
theorem hwc_194 : hwM 194 0 ∈ lw_tbl := hT_7 (List.mem_of_getElem? (i := 31) rfl)
set_option maxRecDepth 20000 in
theorem hwc_195 : hwM 195 0 ∈ lw_tbl := hT_7 (List.mem_of_getElem? (i := 35) rfl)
set_option maxRecDepth 20000 in
theorem hwc_196 : hwM 196 0 ∈ lw_tbl := hT_7 (List.mem_of_getElem? (i := 42) rfl)
set_option maxRecDepth 20000 in
theorem hwc_197 : hwM 197 0 ∈ lw_tbl := hT_7 (List.mem_of_getElem? (i := 49) rfl)
set_option maxRecDepth 20000 in
theorem hwc_198 : hwM 198 0 ∈ lw_tbl := hT_7 (List.mem_of_getElem? (i := 53) rfl)
set_option maxRecDepth 20000 in
theorem hwc_199 : hwM 199 0 ∈ lw_tbl := hT_7 (List.mem_of_getElem? (i := 59) rfl)
set_option maxRecDepth 20000 in
theorem hwc_200 : hwM 200 0 ∈ lw_tbl := hT_7 (List.mem_of_getElem? (i := 64) rfl)
set_option maxRecDepth 20000 in
theorem hwc_201 : hwM 201 0 ∈ lw_tbl := hT_7 (List.mem_of_getElem? (i := 68) rfl)
set_option maxRecDepth 20000 in
theorem hwc_202 : hwM 202 0 ∈ lw_tbl := hT_7 (List.mem_of_getElem? (i := 74) rfl)
set_option maxRecDepth 20000 in
theorem hwc_203 : hwM 203 0 ∈ lw_tbl := hT_7 (List.mem_of_getElem? (i := 78) rfl)
set_option maxRecDepth 20000 in
theorem hwc_204 : hwM 204 0 ∈ lw_tbl := hT_7 (List.mem_of_getElem? (i := 82) rfl)
set_option maxRecDepth 20000 in
theorem hwc_205 : hwM 205 0 ∈ lw_tbl := hT_7 (List.mem_of_getElem? (i := 86) rfl)
set_option maxRecDepth 20000 in
theorem hwc_206 : hwM 206 0 ∈ lw_tbl := hT_7 (List.mem_of_getElem? (i := 94) rfl)
set_option maxRecDepth 20000 in
theorem hwc_207 : hwM 207 0 ∈ lw_tbl := hT_7 (List.mem_of_getElem? (i := 99) rfl)
set_option maxRecDepth 20000 in
theorem hwc_208 : hwM 208 0 ∈ lw_tbl := hT_7 (List.mem_of_getElem? (i := 103) rfl)
set_option maxRecDepth 20000 in
theorem hwc_209 : hwM 209 0 ∈ lw_tbl := hT_7 (List.mem_of_getElem? (i := 106) rfl)
set_option maxRecDepth 20000 in
theorem hwc_210 : hwM 210 0 ∈ lw_tbl := hT_7 (List.mem_of_getElem? (i := 111) rfl)
set_option maxRecDepth 20000 in
theorem hwc_211 : hwM 211 0 ∈ lw_tbl := hT_7 (List.mem_of_getElem? (i := 115) rfl)
set_option maxRecDepth 20000 in
theorem hwc_212 : hwM 212 0 ∈ lw_tbl := hT_7 (List.mem_of_getElem? (i := 119) rfl)
set_option maxRecDepth 20000 in
theorem hwc_213 : hwM 213 0 ∈ lw_tbl := hT_7 (List.mem_of_getElem? (i := 123) rfl)
set_option maxRecDepth 20000 in
theorem hwc_214 : hwM 214 0 ∈ lw_tbl := hT_7 (List.mem_of_getElem? (i := 127) rfl)
set_option maxRecDepth 20000 in
theorem hwc_215 : hwM 215 0 ∈ lw_tbl := hT_7 (List.mem_of_getElem? (i := 131) rfl)
set_option maxRecDepth 20000 in
theorem hwc_216 : hwM 216 0 ∈ lw_tbl := hT_7 (List.mem_of_getElem? (i := 135) rfl)
set_option maxRecDepth 20000 in
theorem hwc_217 : hwM 217 0 ∈ lw_tbl := hT_7 (List.mem_of_getElem? (i := 141) rfl)
set_option maxRecDepth 20000 in
theorem hwc_218 : hwM 218 0 ∈ lw_tbl := hT_7 (List.mem_of_getElem? (i := 145) rfl)
set_option maxRecDepth 20000 in
theorem hwc_219 : hwM 219 0 ∈ lw_tbl := hT_7 (List.mem_of_getElem? (i := 151) rfl)
set_option maxRecDepth 20000 in
theorem hwc_220 : hwM 220 0 ∈ lw_tbl := hT_7 (List.mem_of_getElem? (i := 155) rfl)
set_option maxRecDepth 20000 in
theorem hwc_221 : hwM 221 0 ∈ lw_tbl := hT_7 (List.mem_of_getElem? (i := 159) rfl)
set_option maxRecDepth 20000 in
theorem hwc_222 : hwM 222 0 ∈ lw_tbl := hT_7 (List.mem_of_getElem? (i := 164) rfl)
set_option maxRecDepth 20000 in
theorem hwc_223 : hwM 223 0 ∈ lw_tbl := hT_7 (List.mem_of_getElem? (i := 169) rfl)
set_option maxRecDepth 20000 in
theorem hwc_224 : hwM 224 0 ∈ lw_tbl := hT_7 (List.mem_of_getElem? (i := 174) rfl)
set_option maxRecDepth 20000 in
theorem hwc_225 : hwM 225 0 ∈ lw_tbl := hT_7 (List.mem_of_getElem? (i := 178) rfl)
set_option maxRecDepth 20000 in
theorem hwc_226 : hwM 226 0 ∈ lw_tbl := hT_7 (List.mem_of_getElem? (i := 183) rfl)
set_option maxRecDepth 20000 in
theorem hwc_227 : hwM 227 0 ∈ lw_tbl := hT_7 (List.mem_of_getElem? (i := 189) rfl)
set_option maxRecDepth 20000 in
theorem hwc_228 : hwM 228 0 ∈ lw_tbl := hT_7 (List.mem_of_getElem? (i := 198) rfl)
set_option maxRecDepth 20000 in
theorem hwc_229 : hwM 229 0 ∈ lw_tbl := hT_7 (List.mem_of_getElem? (i := 202) rfl)
set_option maxRecDepth 20000 in
theorem hwc_230 : hwM 230 0 ∈ lw_tbl := hT_7 (List.mem_of_getElem? (i := 210) rfl)
set_option maxRecDepth 20000 in
theorem hwc_231 : hwM 231 0 ∈ lw_tbl := hT_7 (List.mem_of_getElem? (i := 214) rfl)
set_option maxRecDepth 20000 in
theorem hwc_232 : hwM 232 0 ∈ lw_tbl := hT_7 (List.mem_of_getElem? (i := 218) rfl)
set_option maxRecDepth 20000 in
theorem hwc_233 : hwM 233 0 ∈ lw_tbl := hT_7 (List.mem_of_getElem? (i := 223) rfl)
set_option maxRecDepth 20000 in
theorem hwc_234 : hwM 234 0 ∈ lw_tbl := hT_7 (List.mem_of_getElem? (i := 227) rfl)
set_option maxRecDepth 20000 in
theorem hwc_235 : hwM 235 0 ∈ lw_tbl := hT_7 (List.mem_of_getElem? (i := 231) rfl)
set_option maxRecDepth 20000 in
theorem hwc_236 : hwM 236 0 ∈ lw_tbl := hT_7 (List.mem_of_getElem? (i := 235) rfl)
set_option maxRecDepth 20000 in
theorem hwc_237 : hwM 237 0 ∈ lw_tbl := hT_7 (List.mem_of_getElem? (i := 239) rfl)
set_option maxRecDepth 20000 in
theorem hwc_238 : hwM 238 0 ∈ lw_tbl := hT_8 (List.mem_of_getElem? (i := 3) rfl)
set_option maxRecDepth 20000 in
theorem hwc_239 : hwM 239 0 ∈ lw_tbl := hT_8 (List.mem_of_getElem? (i := 7) rfl)
set_option maxRecDepth 20000 in
theorem hwc_240 : hwM 240 0 ∈ lw_tbl := hT_8 (List.mem_of_getElem? (i := 11) rfl)
set_option maxRecDepth 20000 in
theorem hwc_241 : hwM 241 0 ∈ lw_tbl := hT_8 (List.mem_of_getElem? (i := 15) rfl)
set_option maxRecDepth 20000 in
theorem hwc_242 : hwM 242 0 ∈ lw_tbl := hT_8 (List.mem_of_getElem? (i := 20) rfl)
set_option maxRecDepth 20000 in
theorem hwc_243 : hwM 243 0 ∈ lw_tbl := hT_8 (List.mem_of_getElem? (i := 23) rfl)
set_option maxRecDepth 20000 in
theorem hwc_244 : hwM 244 0 ∈ lw_tbl := hT_8 (List.mem_of_getElem? (i := 27) rfl)
set_option maxRecDepth 20000 in
theorem hwc_245 : hwM 245 0 ∈ lw_tbl := hT_8 (List.mem_of_getElem? (i := 31) rfl)
set_option maxRecDepth 20000 in
theorem hwc_246 : hwM 246 0 ∈ lw_tbl := hT_8 (List.mem_of_getElem? (i := 35) rfl)
set_option maxRecDepth 20000 in
theorem hwc_247 : hwM 247 0 ∈ lw_tbl := hT_8 (List.mem_of_getElem? (i := 38) rfl)
set_option maxRecDepth 20000 in
theorem hwc_248 : hwM 248 0 ∈ lw_tbl := hT_8 (List.mem_of_getElem? (i := 42) rfl)
set_option maxRecDepth 20000 in
theorem hwc_249 : hwM 249 0 ∈ lw_tbl := hT_8 (List.mem_of_getElem? (i := 46) rfl)
set_option maxRecDepth 20000 in
theorem hwc_250 : hwM 250 0 ∈ lw_tbl := hT_8 (List.mem_of_getElem? (i := 51) rfl)
set_option maxRecDepth 20000 in
theorem hwc_251 : hwM 251 0 ∈ lw_tbl := hT_8 (List.mem_of_getElem? (i := 55) rfl)
set_option maxRecDepth 20000 in
theorem hwc_252 : hwM 252 0 ∈ lw_tbl := hT_8 (List.mem_of_getElem? (i := 59) rfl)
set_option maxRecDepth 20000 in
theorem hwc_253 : hwM 253 0 ∈ lw_tbl := hT_8 (List.mem_of_getElem? (i := 63) rfl)
set_option maxRecDepth 20000 in
theorem hwc_254 : hwM 254 0 ∈ lw_tbl := hT_8 (List.mem_of_getElem? (i := 67) rfl)
set_option maxRecDepth 20000 in
theorem hwc_255 : hwM 255 0 ∈ lw_tbl := hT_8 (List.mem_of_getElem? (i := 71) rfl)
set_option maxRecDepth 20000 in
theorem hwc_256 : hwM 256 0 ∈ lw_tbl := hT_8 (List.mem_of_getElem? (i := 76) rfl)
set_option maxRecDepth 20000 in
theorem hwc_257 : hwM 257 0 ∈ lw_tbl := hT_8 (List.mem_of_getElem? (i := 81) rfl)
set_option maxRecDepth 20000 in
theorem hwc_258 : hwM 258 0 ∈ lw_tbl := hT_8 (List.mem_of_getElem? (i := 85) rfl)
set_option maxRecDepth 20000 in
theorem hwc_259 : hwM 259 0 ∈ lw_tbl := hT_8 (List.mem_of_getElem? (i := 89) rfl)
set_option maxRecDepth 20000 in
theorem hwc_260 : hwM 260 0 ∈ lw_tbl := hT_8 (List.mem_of_getElem? (i := 93) rfl)
set_option maxRecDepth 20000 in
theorem hwc_261 : hwM 261 0 ∈ lw_tbl := hT_8 (List.mem_of_getElem? (i := 97) rfl)
set_option maxRecDepth 20000 in
theorem hwc_262 : hwM 262 0 ∈ lw_tbl := hT_8 (List.mem_of_getElem? (i := 102) rfl)
set_option maxRecDepth 20000 in
theorem hwc_263 : hwM 263 0 ∈ lw_tbl := hT_8 (List.mem_of_getElem? (i := 106) rfl)
set_option maxRecDepth 20000 in
theorem hwc_264 : hwM 264 0 ∈ lw_tbl := hT_8 (List.mem_of_getElem? (i := 110) rfl)
set_option maxRecDepth 20000 in
theorem hwc_265 : hwM 265 0 ∈ lw_tbl := hT_8 (List.mem_of_getElem? (i := 116) rfl)
set_option maxRecDepth 20000 in
theorem hwc_266 : hwM 266 0 ∈ lw_tbl := hT_8 (List.mem_of_getElem? (i := 120) rfl)
set_option maxRecDepth 20000 in
theorem hwc_267 : hwM 267 0 ∈ lw_tbl := hT_8 (List.mem_of_getElem? (i := 124) rfl)
set_option maxRecDepth 20000 in
theorem hwc_268 : hwM 268 0 ∈ lw_tbl := hT_8 (List.mem_of_getElem? (i := 128) rfl)
set_option maxRecDepth 20000 in
theorem hwc_269 : hwM 269 0 ∈ lw_tbl := hT_8 (List.mem_of_getElem? (i := 132) rfl)
set_option maxRecDepth 20000 in
theorem hwc_270 : hwM 270 0 ∈ lw_tbl := hT_8 (List.mem_of_getElem? (i := 136) rfl)
set_option maxRecDepth 20000 in
theorem hwc_271 : hwM 271 0 ∈ lw_tbl := hT_8 (List.mem_of_getElem? (i := 139) rfl)
set_option maxRecDepth 20000 in
theorem hwc_272 : hwM 272 0 ∈ lw_tbl := hT_8 (List.mem_of_getElem? (i := 146) rfl)
set_option maxRecDepth 20000 in
theorem hwc_273 : hwM 273 0 ∈ lw_tbl := hT_8 (List.mem_of_getElem? (i := 150) rfl)
set_option maxRecDepth 20000 in
theorem hwc_274 : hwM 274 0 ∈ lw_tbl := hT_8 (List.mem_of_getElem? (i := 154) rfl)
set_option maxRecDepth 20000 in
theorem hwc_275 : hwM 275 0 ∈ lw_tbl := hT_8 (List.mem_of_getElem? (i := 158) rfl)
set_option maxRecDepth 20000 in
theorem hwc_276 : hwM 276 0 ∈ lw_tbl := hT_8 (List.mem_of_getElem? (i := 162) rfl)
set_option maxRecDepth 20000 in
theorem hwc_277 : hwM 277 0 ∈ lw_tbl := hT_8 (List.mem_of_getElem? (i := 166) rfl)
set_option maxRecDepth 20000 in
theorem hwc_278 : hwM 278 0 ∈ lw_tbl := hT_8 (List.mem_of_getElem? (i := 170) rfl)
set_option maxRecDepth 20000 in
theorem hwc_279 : hwM 279 0 ∈ lw_tbl := hT_8 (List.mem_of_getElem? (i := 174) rfl)
set_option maxRecDepth 20000 in
theorem hwc_280 : hwM 280 0 ∈ lw_tbl := hT_8 (List.mem_of_getElem? (i := 178) rfl)
set_option maxRecDepth 20000 in
theorem hwc_281 : hwM 281 0 ∈ lw_tbl := hT_8 (List.mem_of_getElem? (i := 182) rfl)
set_option maxRecDepth 20000 in
theorem hwc_282 : hwM 282 0 ∈ lw_tbl := hT_8 (List.mem_of_getElem? (i := 186) rfl)
set_option maxRecDepth 20000 in
theorem hwc_283 : hwM 283 0 ∈ lw_tbl := hT_8 (List.mem_of_getElem? (i := 189) rfl)
set_option maxRecDepth 20000 in
theorem hwc_284 : hwM 284 0 ∈ lw_tbl := hT_8 (List.mem_of_getElem? (i := 198) rfl)
set_option maxRecDepth 20000 in
theorem hwc_285 : hwM 285 0 ∈ lw_tbl := hT_8 (List.mem_of_getElem? (i := 202) rfl)
set_option maxRecDepth 20000 in
theorem hwc_286 : hwM 286 0 ∈ lw_tbl := hT_8 (List.mem_of_getElem? (i := 206) rfl)
set_option maxRecDepth 20000 in
theorem hwc_287 : hwM 287 0 ∈ lw_tbl := hT_8 (List.mem_of_getElem? (i := 210) rfl)
set_option maxRecDepth 20000 in
theorem hwc_288 : hwM 288 0 ∈ lw_tbl := hT_8 (List.mem_of_getElem? (i := 214) rfl)
set_option maxRecDepth 20000 in
theorem hwc_289 : hwM 289 0 ∈ lw_tbl := hT_8 (List.mem_of_getElem? (i := 218) rfl)
set_option maxRecDepth 20000 in
theorem hwc_290 : hwM 290 0 ∈ lw_tbl := hT_8 (List.mem_of_getElem? (i := 222) rfl)
set_option maxRecDepth 20000 in
theorem hwc_291 : hwM 291 0 ∈ lw_tbl := hT_8 (List.mem_of_getElem? (i := 227) rfl)
set_option maxRecDepth 20000 in
theorem hwc_292 : hwM 292 0 ∈ lw_tbl := hT_8 (List.mem_of_getElem? (i := 231) rfl)
set_option maxRecDepth 20000 in
theorem hwc_293 : hwM 293 0 ∈ lw_tbl := hT_8 (List.mem_of_getElem? (i := 235) rfl)
set_option maxRecDepth 20000 in
theorem hwc_294 : hwM 294 0 ∈ lw_tbl := hT_8 (List.mem_of_getElem? (i := 239) rfl)
set_option maxRecDepth 20000 in
theorem hwc_295 : hwM 295 0 ∈ lw_tbl := hT_9 (List.mem_of_getElem? (i := 5) rfl)
set_option maxRecDepth 20000 in
theorem hwc_296 : hwM 296 0 ∈ lw_tbl := hT_9 (List.mem_of_getElem? (i := 9) rfl)
set_option maxRecDepth 20000 in
theorem hwc_297 : hwM 297 0 ∈ lw_tbl := hT_9 (List.mem_of_getElem? (i := 13) rfl)
set_option maxRecDepth 20000 in
theorem hwc_298 : hwM 298 0 ∈ lw_tbl := hT_9 (List.mem_of_getElem? (i := 18) rfl)
set_option maxRecDepth 20000 in
theorem hwc_299 : hwM 299 0 ∈ lw_tbl := hT_9 (List.mem_of_getElem? (i := 22) rfl)
set_option maxRecDepth 20000 in
theorem hwc_300 : hwM 300 0 ∈ lw_tbl := hT_9 (List.mem_of_getElem? (i := 27) rfl)
set_option maxRecDepth 20000 in
theorem hwc_301 : hwM 301 0 ∈ lw_tbl := hT_9 (List.mem_of_getElem? (i := 31) rfl)
set_option maxRecDepth 20000 in
theorem hwc_302 : hwM 302 0 ∈ lw_tbl := hT_9 (List.mem_of_getElem? (i := 35) rfl)
set_option maxRecDepth 20000 in
theorem hwc_303 : hwM 303 0 ∈ lw_tbl := hT_9 (List.mem_of_getElem? (i := 41) rfl)
set_option maxRecDepth 20000 in
theorem hwc_304 : hwM 304 0 ∈ lw_tbl := hT_9 (List.mem_of_getElem? (i := 48) rfl)
set_option maxRecDepth 20000 in
theorem hwc_305 : hwM 305 0 ∈ lw_tbl := hT_9 (List.mem_of_getElem? (i := 52) rfl)
set_option maxRecDepth 20000 in
theorem hwc_306 : hwM 306 0 ∈ lw_tbl := hT_10 (List.mem_of_getElem? (i := 164) rfl)
set_option maxRecDepth 20000 in
theorem hwc_307 : hwM 307 0 ∈ lw_tbl := hT_10 (List.mem_of_getElem? (i := 168) rfl)
set_option maxRecDepth 20000 in
theorem hwc_308 : hwM 308 0 ∈ lw_tbl := hT_10 (List.mem_of_getElem? (i := 172) rfl)
set_option maxRecDepth 20000 in
theorem hwc_309 : hwM 309 0 ∈ lw_tbl := hT_10 (List.mem_of_getElem? (i := 176) rfl)
set_option maxRecDepth 20000 in
theorem hwc_310 : hwM 310 0 ∈ lw_tbl := hT_10 (List.mem_of_getElem? (i := 180) rfl)
set_option maxRecDepth 20000 in
theorem hwc_311 : hwM 311 0 ∈ lw_tbl := hT_10 (List.mem_of_getElem? (i := 186) rfl)
set_option maxRecDepth 20000 in
theorem hwc_312 : hwM 312 0 ∈ lw_tbl := hT_10 (List.mem_of_getElem? (i := 190) rfl)
set_option maxRecDepth 20000 in
theorem hwc_313 : hwM 313 0 ∈ lw_tbl := hT_10 (List.mem_of_getElem? (i := 196) rfl)
set_option maxRecDepth 20000 in
theorem hwc_314 : hwM 314 0 ∈ lw_tbl := hT_10 (List.mem_of_getElem? (i := 200) rfl)
set_option maxRecDepth 20000 in
theorem hwc_315 : hwM 315 0 ∈ lw_tbl := hT_10 (List.mem_of_getElem? (i := 204) rfl)
set_option maxRecDepth 20000 in
theorem hwc_316 : hwM 316 0 ∈ lw_tbl := hT_10 (List.mem_of_getElem? (i := 208) rfl)
set_option maxRecDepth 20000 in
theorem hwc_317 : hwM 317 0 ∈ lw_tbl := hT_10 (List.mem_of_getElem? (i := 212) rfl)
set_option maxRecDepth 20000 in
theorem hwc_318 : hwM 318 0 ∈ lw_tbl := hT_10 (List.mem_of_getElem? (i := 216) rfl)
set_option maxRecDepth 20000 in
theorem hwc_319 : hwM 319 0 ∈ lw_tbl := hT_10 (List.mem_of_getElem? (i := 220) rfl)
set_option maxRecDepth 20000 in
theorem hwc_320 : hwM 320 0 ∈ lw_tbl := hT_10 (List.mem_of_getElem? (i := 225) rfl)
set_option maxRecDepth 20000 in
theorem hwc_321 : hwM 321 0 ∈ lw_tbl := hT_10 (List.mem_of_getElem? (i := 229) rfl)
set_option maxRecDepth 20000 in
theorem hwc_322 : hwM 322 0 ∈ lw_tbl := hT_10 (List.mem_of_getElem? (i := 233) rfl)
set_option maxRecDepth 20000 in
theorem hwc_323 : hwM 323 0 ∈ lw_tbl := hT_10 (List.mem_of_getElem? (i := 238) rfl)
set_option maxRecDepth 20000 in
theorem hwc_324 : hwM 324 0 ∈ lw_tbl := hT_11 (List.mem_of_getElem? (i := 2) rfl)
set_option maxRecDepth 20000 in
theorem hwc_325 : hwM 325 0 ∈ lw_tbl := hT_11 (List.mem_of_getElem? (i := 7) rfl)
set_option maxRecDepth 20000 in
theorem hwc_326 : hwM 326 0 ∈ lw_tbl := hT_11 (List.mem_of_getElem? (i := 12) rfl)
set_option maxRecDepth 20000 in
theorem hwc_327 : hwM 327 0 ∈ lw_tbl := hT_11 (List.mem_of_getElem? (i := 16) rfl)
set_option maxRecDepth 20000 in
theorem hwc_328 : hwM 328 0 ∈ lw_tbl := hT_11 (List.mem_of_getElem? (i := 20) rfl)
set_option maxRecDepth 20000 in
theorem hwc_329 : hwM 329 0 ∈ lw_tbl := hT_11 (List.mem_of_getElem? (i := 24) rfl)
set_option maxRecDepth 20000 in
theorem hwc_330 : hwM 330 0 ∈ lw_tbl := hT_11 (List.mem_of_getElem? (i := 29) rfl)
set_option maxRecDepth 20000 in
theorem hwc_331 : hwM 331 0 ∈ lw_tbl := hT_11 (List.mem_of_getElem? (i := 33) rfl)
set_option maxRecDepth 20000 in
theorem hwc_332 : hwM 332 0 ∈ lw_tbl := hT_11 (List.mem_of_getElem? (i := 37) rfl)
set_option maxRecDepth 20000 in
theorem hwc_333 : hwM 333 0 ∈ lw_tbl := hT_11 (List.mem_of_getElem? (i := 41) rfl)
set_option maxRecDepth 20000 in
theorem hwc_334 : hwM 334 0 ∈ lw_tbl := hT_11 (List.mem_of_getElem? (i := 45) rfl)
set_option maxRecDepth 20000 in
theorem hwc_335 : hwM 335 0 ∈ lw_tbl := hT_11 (List.mem_of_getElem? (i := 49) rfl)
set_option maxRecDepth 20000 in
theorem hwc_336 : hwM 336 0 ∈ lw_tbl := hT_11 (List.mem_of_getElem? (i := 53) rfl)
set_option maxRecDepth 20000 in
theorem hwc_337 : hwM 337 0 ∈ lw_tbl := hT_11 (List.mem_of_getElem? (i := 57) rfl)
set_option maxRecDepth 20000 in
theorem hwc_338 : hwM 338 0 ∈ lw_tbl := hT_11 (List.mem_of_getElem? (i := 61) rfl)
set_option maxRecDepth 20000 in
theorem hwc_339 : hwM 339 0 ∈ lw_tbl := hT_11 (List.mem_of_getElem? (i := 65) rfl)
set_option maxRecDepth 20000 in
theorem hwc_340 : hwM 340 0 ∈ lw_tbl := hT_11 (List.mem_of_getElem? (i := 69) rfl)
set_option maxRecDepth 20000 in
theorem hwc_341 : hwM 341 0 ∈ lw_tbl := hT_11 (List.mem_of_getElem? (i := 73) rfl)
set_option maxRecDepth 20000 in
theorem hwc_342 : hwM 342 0 ∈ lw_tbl := hT_11 (List.mem_of_getElem? (i := 77) rfl)
set_option maxRecDepth 20000 in
theorem hwc_343 : hwM 343 0 ∈ lw_tbl := hT_11 (List.mem_of_getElem? (i := 81) rfl)
set_option maxRecDepth 20000 in
theorem hwc_344 : hwM 344 0 ∈ lw_tbl := hT_11 (List.mem_of_getElem? (i := 85) rfl)
set_option maxRecDepth 20000 in
theorem hwc_345 : hwM 345 0 ∈ lw_tbl := hT_11 (List.mem_of_getElem? (i := 89) rfl)
set_option maxRecDepth 20000 in
theorem hwc_346 : hwM 346 0 ∈ lw_tbl := hT_11 (List.mem_of_getElem? (i := 93) rfl)
set_option maxRecDepth 20000 in
theorem hwc_347 : hwM 347 0 ∈ lw_tbl := hT_11 (List.mem_of_getElem? (i := 97) rfl)
set_option maxRecDepth 20000 in
theorem hwc_348 : hwM 348 0 ∈ lw_tbl := hT_11 (List.mem_of_getElem? (i := 101) rfl)
set_option maxRecDepth 20000 in
theorem hwc_349 : hwM 349 0 ∈ lw_tbl := hT_11 (List.mem_of_getElem? (i := 105) rfl)
set_option maxRecDepth 20000 in
theorem hwc_350 : hwM 350 0 ∈ lw_tbl := hT_11 (List.mem_of_getElem? (i := 109) rfl)
set_option maxRecDepth 20000 in
theorem hwc_351 : hwM 351 0 ∈ lw_tbl := hT_11 (List.mem_of_getElem? (i := 113) rfl)
set_option maxRecDepth 20000 in
theorem hwc_352 : hwM 352 0 ∈ lw_tbl := hT_11 (List.mem_of_getElem? (i := 117) rfl)
set_option maxRecDepth 20000 in
theorem hwc_353 : hwM 353 0 ∈ lw_tbl := hT_11 (List.mem_of_getElem? (i := 121) rfl)
set_option maxRecDepth 20000 in
theorem hwc_354 : hwM 354 0 ∈ lw_tbl := hT_11 (List.mem_of_getElem? (i := 126) rfl)
set_option maxRecDepth 20000 in
theorem hwc_355 : hwM 355 0 ∈ lw_tbl := hT_11 (List.mem_of_getElem? (i := 131) rfl)
set_option maxRecDepth 20000 in
theorem hwc_356 : hwM 356 0 ∈ lw_tbl := hT_11 (List.mem_of_getElem? (i := 135) rfl)
set_option maxRecDepth 20000 in
theorem hwc_357 : hwM 357 0 ∈ lw_tbl := hT_11 (List.mem_of_getElem? (i := 139) rfl)
set_option maxRecDepth 20000 in
theorem hwc_358 : hwM 358 0 ∈ lw_tbl := hT_11 (List.mem_of_getElem? (i := 147) rfl)
set_option maxRecDepth 20000 in
theorem hwc_359 : hwM 359 0 ∈ lw_tbl := hT_11 (List.mem_of_getElem? (i := 151) rfl)
set_option maxRecDepth 20000 in
theorem hwc_360 : hwM 360 0 ∈ lw_tbl := hT_11 (List.mem_of_getElem? (i := 155) rfl)
set_option maxRecDepth 20000 in
theorem hwc_361 : hwM 361 0 ∈ lw_tbl := hT_11 (List.mem_of_getElem? (i := 158) rfl)
set_option maxRecDepth 20000 in
theorem hwc_362 : hwM 362 0 ∈ lw_tbl := hT_11 (List.mem_of_getElem? (i := 163) rfl)
set_option maxRecDepth 20000 in
theorem hwc_363 : hwM 363 0 ∈ lw_tbl := hT_11 (List.mem_of_getElem? (i := 167) rfl)
set_option maxRecDepth 20000 in
theorem hwc_364 : hwM 364 0 ∈ lw_tbl := hT_11 (List.mem_of_getElem? (i := 171) rfl)
set_option maxRecDepth 20000 in
theorem hwc_365 : hwM 365 0 ∈ lw_tbl := hT_11 (List.mem_of_getElem? (i := 175) rfl)
set_option maxRecDepth 20000 in
theorem hwc_366 : hwM 366 0 ∈ lw_tbl := hT_11 (List.mem_of_getElem? (i := 179) rfl)
set_option maxRecDepth 20000 in
theorem hwc_367 : hwM 367 0 ∈ lw_tbl := hT_11 (List.mem_of_getElem? (i := 183) rfl)
set_option maxRecDepth 20000 in
theorem hwc_368 : hwM 368 0 ∈ lw_tbl := hT_11 (List.mem_of_getElem? (i := 189) rfl)
set_option maxRecDepth 20000 in
theorem hwc_369 : hwM 369 0 ∈ lw_tbl := hT_11 (List.mem_of_getElem? (i := 193) rfl)
set_option maxRecDepth 20000 in
theorem hwc_370 : hwM 370 0 ∈ lw_tbl := hT_11 (List.mem_of_getElem? (i := 197) rfl)
set_option maxRecDepth 20000 in
theorem hwc_371 : hwM 371 0 ∈ lw_tbl := hT_11 (List.mem_of_getElem? (i := 202) rfl)
set_option maxRecDepth 20000 in
theorem hwc_372 : hwM 372 0 ∈ lw_tbl := hT_11 (List.mem_of_getElem? (i := 207) rfl)
set_option maxRecDepth 20000 in
theorem hwc_373 : hwM 373 0 ∈ lw_tbl := hT_11 (List.mem_of_getElem? (i := 212) rfl)
set_option maxRecDepth 20000 in
theorem hwc_374 : hwM 374 0 ∈ lw_tbl := hT_11 (List.mem_of_getElem? (i := 217) rfl)
set_option maxRecDepth 20000 in
theorem hwc_375 : hwM 375 0 ∈ lw_tbl := hT_11 (List.mem_of_getElem? (i := 223) rfl)
set_option maxRecDepth 20000 in
theorem hwc_376 : hwM 376 0 ∈ lw_tbl := hT_11 (List.mem_of_getElem? (i := 227) rfl)
set_option maxRecDepth 20000 in
theorem hwc_377 : hwM 377 0 ∈ lw_tbl := hT_11 (List.mem_of_getElem? (i := 234) rfl)
set_option maxRecDepth 20000 in
theorem hwc_378 : hwM 378 0 ∈ lw_tbl := hT_11 (List.mem_of_getElem? (i := 239) rfl)
set_option maxRecDepth 20000 in
theorem hwc_379 : hwM 379 0 ∈ lw_tbl := hT_12 (List.mem_of_getElem? (i := 3) rfl)
set_option maxRecDepth 20000 in
theorem hwc_380 : hwM 380 0 ∈ lw_tbl := hT_12 (List.mem_of_getElem? (i := 8) rfl)
set_option maxRecDepth 20000 in
theorem hwc_381 : hwM 381 0 ∈ lw_tbl := hT_12 (List.mem_of_getElem? (i := 12) rfl)
set_option maxRecDepth 20000 in
theorem hwc_382 : hwM 382 0 ∈ lw_tbl := hT_12 (List.mem_of_getElem? (i := 17) rfl)
set_option maxRecDepth 20000 in
theorem hwc_383 : hwM 383 0 ∈ lw_tbl := hT_12 (List.mem_of_getElem? (i := 21) rfl)
set_option maxRecDepth 20000 in
theorem hwc_384 : hwM 384 0 ∈ lw_tbl := hT_12 (List.mem_of_getElem? (i := 25) rfl)
set_option maxRecDepth 20000 in
theorem hwc_385 : hwM 385 0 ∈ lw_tbl := hT_12 (List.mem_of_getElem? (i := 29) rfl)
set_option maxRecDepth 20000 in
theorem hwc_386 : hwM 386 0 ∈ lw_tbl := hT_12 (List.mem_of_getElem? (i := 33) rfl)
set_option maxRecDepth 20000 in
theorem hwc_387 : hwM 387 0 ∈ lw_tbl := hT_12 (List.mem_of_getElem? (i := 37) rfl)
set_option maxRecDepth 20000 in
theorem hwc_388 : hwM 388 0 ∈ lw_tbl := hT_12 (List.mem_of_getElem? (i := 41) rfl)
set_option maxRecDepth 20000 in
theorem hwc_389 : hwM 389 0 ∈ lw_tbl := hT_12 (List.mem_of_getElem? (i := 46) rfl)
set_option maxRecDepth 20000 in
theorem hwc_390 : hwM 390 0 ∈ lw_tbl := hT_12 (List.mem_of_getElem? (i := 51) rfl)
set_option maxRecDepth 20000 in
theorem hwc_391 : hwM 391 0 ∈ lw_tbl := hT_12 (List.mem_of_getElem? (i := 56) rfl)
set_option maxRecDepth 20000 in
theorem hwc_392 : hwM 392 0 ∈ lw_tbl := hT_12 (List.mem_of_getElem? (i := 61) rfl)
set_option maxRecDepth 20000 in
theorem hwc_393 : hwM 393 0 ∈ lw_tbl := hT_12 (List.mem_of_getElem? (i := 65) rfl)
set_option maxRecDepth 20000 in
theorem hwc_394 : hwM 394 0 ∈ lw_tbl := hT_12 (List.mem_of_getElem? (i := 69) rfl)
set_option maxRecDepth 20000 in
theorem hwc_395 : hwM 395 0 ∈ lw_tbl := hT_12 (List.mem_of_getElem? (i := 74) rfl)
set_option maxRecDepth 20000 in
theorem hwc_396 : hwM 396 0 ∈ lw_tbl := hT_12 (List.mem_of_getElem? (i := 80) rfl)
set_option maxRecDepth 20000 in
theorem hwc_397 : hwM 397 0 ∈ lw_tbl := hT_12 (List.mem_of_getElem? (i := 86) rfl)
set_option maxRecDepth 20000 in
theorem hwc_398 : hwM 398 0 ∈ lw_tbl := hT_12 (List.mem_of_getElem? (i := 90) rfl)
set_option maxRecDepth 20000 in
theorem hwc_399 : hwM 399 0 ∈ lw_tbl := hT_12 (List.mem_of_getElem? (i := 94) rfl)
set_option maxRecDepth 20000 in
theorem hwc_400 : hwM 400 0 ∈ lw_tbl := hT_12 (List.mem_of_getElem? (i := 98) rfl)
set_option maxRecDepth 20000 in
theorem hwc_401 : hwM 401 0 ∈ lw_tbl := hT_12 (List.mem_of_getElem? (i := 102) rfl)
set_option maxRecDepth 20000 in
theorem hwc_402 : hwM 402 0 ∈ lw_tbl := hT_12 (List.mem_of_getElem? (i := 106) rfl)
set_option maxRecDepth 20000 in
theorem hwc_403 : hwM 403 0 ∈ lw_tbl := hT_12 (List.mem_of_getElem? (i := 110) rfl)
set_option maxRecDepth 20000 in
theorem hwc_404 : hwM 404 0 ∈ lw_tbl := hT_12 (List.mem_of_getElem? (i := 114) rfl)
set_option maxRecDepth 20000 in
theorem hwc_405 : hwM 405 0 ∈ lw_tbl := hT_12 (List.mem_of_getElem? (i := 118) rfl)
set_option maxRecDepth 20000 in
theorem hwc_406 : hwM 406 0 ∈ lw_tbl := hT_12 (List.mem_of_getElem? (i := 122) rfl)
set_option maxRecDepth 20000 in
theorem hwc_407 : hwM 407 0 ∈ lw_tbl := hT_12 (List.mem_of_getElem? (i := 126) rfl)
set_option maxRecDepth 20000 in
theorem hwc_408 : hwM 408 0 ∈ lw_tbl := hT_12 (List.mem_of_getElem? (i := 130) rfl)
set_option maxRecDepth 20000 in
theorem hwc_409 : hwM 409 0 ∈ lw_tbl := hT_12 (List.mem_of_getElem? (i := 134) rfl)
set_option maxRecDepth 20000 in
theorem hwc_410 : hwM 410 0 ∈ lw_tbl := hT_12 (List.mem_of_getElem? (i := 138) rfl)
set_option maxRecDepth 20000 in
theorem hwc_411 : hwM 411 0 ∈ lw_tbl := hT_12 (List.mem_of_getElem? (i := 142) rfl)
set_option maxRecDepth 20000 in
theorem hwc_412 : hwM 412 0 ∈ lw_tbl := hT_12 (List.mem_of_getElem? (i := 146) rfl)
set_option maxRecDepth 20000 in
theorem hwc_413 : hwM 413 0 ∈ lw_tbl := hT_12 (List.mem_of_getElem? (i := 150) rfl)
set_option maxRecDepth 20000 in
theorem hwc_414 : hwM 414 0 ∈ lw_tbl := hT_12 (List.mem_of_getElem? (i := 154) rfl)
set_option maxRecDepth 20000 in
theorem hwc_415 : hwM 415 0 ∈ lw_tbl := hT_12 (List.mem_of_getElem? (i := 158) rfl)
set_option maxRecDepth 20000 in
theorem hwc_416 : hwM 416 0 ∈ lw_tbl := hT_12 (List.mem_of_getElem? (i := 162) rfl)
set_option maxRecDepth 20000 in
theorem hwc_417 : hwM 417 0 ∈ lw_tbl := hT_12 (List.mem_of_getElem? (i := 166) rfl)
set_option maxRecDepth 20000 in
theorem hwc_418 : hwM 418 0 ∈ lw_tbl := hT_12 (List.mem_of_getElem? (i := 170) rfl)
set_option maxRecDepth 20000 in
theorem hwc_419 : hwM 419 0 ∈ lw_tbl := hT_12 (List.mem_of_getElem? (i := 174) rfl)
set_option maxRecDepth 20000 in
theorem hwc_420 : hwM 420 0 ∈ lw_tbl := hT_12 (List.mem_of_getElem? (i := 178) rfl)
set_option maxRecDepth 20000 in
theorem hwc_421 : hwM 421 0 ∈ lw_tbl := hT_12 (List.mem_of_getElem? (i := 183) rfl)
set_option maxRecDepth 20000 in
theorem hwc_422 : hwM 422 0 ∈ lw_tbl := hT_12 (List.mem_of_getElem? (i := 187) rfl)
theorem hwb_0 : ∀ y ∈ ([0, 1, 2, 3, 4, 5, 6, 7, 8, 9, 10, 11, 12, 13, 14, 15, 16, 17, 18, 19, 20, 21, 22, 23] : List Nat), hwM y 0 ∈ lw_tbl := List.forall_mem_cons.mpr ⟨hwc_0, List.forall_mem_cons.mpr ⟨hwc_1, List.forall_mem_cons.mpr ⟨hwc_2, List.forall_mem_cons.mpr ⟨hwc_3, List.forall_mem_cons.mpr ⟨hwc_4, List.forall_mem_cons.mpr ⟨hwc_5, List.forall_mem_cons.mpr ⟨hwc_6, List.forall_mem_cons.mpr ⟨hwc_7, List.forall_mem_cons.mpr ⟨hwc_8, List.forall_mem_cons.mpr ⟨hwc_9, List.forall_mem_cons.mpr ⟨hwc_10, List.forall_mem_cons.mpr ⟨hwc_11, List.forall_mem_cons.mpr ⟨hwc_12, List.forall_mem_cons.mpr ⟨hwc_13, List.forall_mem_cons.mpr ⟨hwc_14, List.forall_mem_cons.mpr ⟨hwc_15, List.forall_mem_cons.mpr ⟨hwc_16, List.forall_mem_cons.mpr ⟨hwc_17, List.forall_mem_cons.mpr ⟨hwc_18, List.forall_mem_cons.mpr ⟨hwc_19, List.forall_mem_cons.mpr ⟨hwc_20, List.forall_mem_cons.mpr ⟨hwc_21, List.forall_mem_cons.mpr ⟨hwc_22, List.forall_mem_cons.mpr ⟨hwc_23, fun _ h => absurd h List.not_mem_nil⟩⟩⟩⟩⟩⟩⟩⟩⟩⟩⟩⟩⟩⟩⟩⟩⟩⟩⟩⟩⟩⟩⟩⟩
theorem hwb_1 : ∀ y ∈ ([24, 25, 26, 27, 28, 29, 30, 31, 32, 33, 34, 35, 36, 37, 38, 39, 40, 41, 42, 43, 44, 45, 46, 47] : List Nat), hwM y 0 ∈ lw_tbl := List.forall_mem_cons.mpr ⟨hwc_24, List.forall_mem_cons.mpr ⟨hwc_25, List.forall_mem_cons.mpr ⟨hwc_26, List.forall_mem_cons.mpr ⟨hwc_27, List.forall_mem_cons.mpr ⟨hwc_28, List.forall_mem_cons.mpr ⟨hwc_29, List.forall_mem_cons.mpr ⟨hwc_30, List.forall_mem_cons.mpr ⟨hwc_31, List.forall_mem_cons.mpr ⟨hwc_32, List.forall_mem_cons.mpr ⟨hwc_33, List.forall_mem_cons.mpr ⟨hwc_34, List.forall_mem_cons.mpr ⟨hwc_35, List.forall_mem_cons.mpr ⟨hwc_36, List.forall_mem_cons.mpr ⟨hwc_37, List.forall_mem_cons.mpr ⟨hwc_38, List.forall_mem_cons.mpr ⟨hwc_39, List.forall_mem_cons.mpr ⟨hwc_40, List.forall_mem_cons.mpr ⟨hwc_41, List.forall_mem_cons.mpr ⟨hwc_42, List.forall_mem_cons.mpr ⟨hwc_43, List.forall_mem_cons.mpr ⟨hwc_44, List.forall_mem_cons.mpr ⟨hwc_45, List.forall_mem_cons.mpr ⟨hwc_46, List.forall_mem_cons.mpr ⟨hwc_47, fun _ h => absurd h List.not_mem_nil⟩⟩⟩⟩⟩⟩⟩⟩⟩⟩⟩⟩⟩⟩⟩⟩⟩⟩⟩⟩⟩⟩⟩⟩
theorem hwb_2 : ∀ y ∈ ([48, 49, 50, 51, 52, 53, 54, 55, 56, 57, 58, 59, 60, 61, 62, 63, 64, 65, 66, 67, 68, 69, 70, 71] : List Nat), hwM y 0 ∈ lw_tbl := List.forall_mem_cons.mpr ⟨hwc_48, List.forall_mem_cons.mpr ⟨hwc_49, List.forall_mem_cons.mpr ⟨hwc_50, List.forall_mem_cons.mpr ⟨hwc_51, List.forall_mem_cons.mpr ⟨hwc_52, List.forall_mem_cons.mpr ⟨hwc_53, List.forall_mem_cons.mpr ⟨hwc_54, List.forall_mem_cons.mpr ⟨hwc_55, List.forall_mem_cons.mpr ⟨hwc_56, List.forall_mem_cons.mpr ⟨hwc_57, List.forall_mem_cons.mpr ⟨hwc_58, List.forall_mem_cons.mpr ⟨hwc_59, List.forall_mem_cons.mpr ⟨hwc_60, List.forall_mem_cons.mpr ⟨hwc_61, List.forall_mem_cons.mpr ⟨hwc_62, List.forall_mem_cons.mpr ⟨hwc_63, List.forall_mem_cons.mpr ⟨hwc_64, List.forall_mem_cons.mpr ⟨hwc_65, List.forall_mem_cons.mpr ⟨hwc_66, List.forall_mem_cons.mpr ⟨hwc_67, List.forall_mem_cons.mpr ⟨hwc_68, List.forall_mem_cons.mpr ⟨hwc_69, List.forall_mem_cons.mpr ⟨hwc_70, List.forall_mem_cons.mpr ⟨hwc_71, fun _ h => absurd h List.not_mem_nil⟩⟩⟩⟩⟩⟩⟩⟩⟩⟩⟩⟩⟩⟩⟩⟩⟩⟩⟩⟩⟩⟩⟩⟩
theorem hwb_3 : ∀ y ∈ ([72, 73, 74, 75, 76, 77, 78, 79, 80, 81, 82, 83, 84, 85, 86, 87, 88, 89, 90, 91, 92, 93, 94, 95] : List Nat), hwM y 0 ∈ lw_tbl := List.forall_mem_cons.mpr ⟨hwc_72, List.forall_mem_cons.mpr ⟨hwc_73, List.forall_mem_cons.mpr ⟨hwc_74, List.forall_mem_cons.mpr ⟨hwc_75, List.forall_mem_cons.mpr ⟨hwc_76, List.forall_mem_cons.mpr ⟨hwc_77, List.forall_mem_cons.mpr ⟨hwc_78, List.forall_mem_cons.mpr ⟨hwc_79, List.forall_mem_cons.mpr ⟨hwc_80, List.forall_mem_cons.mpr ⟨hwc_81, List.forall_mem_cons.mpr ⟨hwc_82, List.forall_mem_cons.mpr ⟨hwc_83, List.forall_mem_cons.mpr ⟨hwc_84, List.forall_mem_cons.mpr ⟨hwc_85, List.forall_mem_cons.mpr ⟨hwc_86, List.forall_mem_cons.mpr ⟨hwc_87, List.forall_mem_cons.mpr ⟨hwc_88, List.forall_mem_cons.mpr ⟨hwc_89, List.forall_mem_cons.mpr ⟨hwc_90, List.forall_mem_cons.mpr ⟨hwc_91, List.forall_mem_cons.mpr ⟨hwc_92, List.forall_mem_cons.mpr ⟨hwc_93, List.forall_mem_cons.mpr ⟨hwc_94, List.forall_mem_cons.mpr ⟨hwc_95, fun _ h => absurd h List.not_mem_nil⟩⟩⟩⟩⟩⟩⟩⟩⟩⟩⟩⟩⟩⟩⟩⟩⟩⟩⟩⟩⟩⟩⟩⟩
theorem hwb_4 : ∀ y ∈ ([96, 97, 98, 99, 100, 101, 102, 103, 104, 105, 106, 107, 108, 109, 110, 111, 112, 113, 114, 115, 116, 117, 118, 119] : List Nat), hwM y 0 ∈ lw_tbl := List.forall_mem_cons.mpr ⟨hwc_96, List.forall_mem_cons.mpr ⟨hwc_97, List.forall_mem_cons.mpr ⟨hwc_98, List.forall_mem_cons.mpr ⟨hwc_99, List.forall_mem_cons.mpr ⟨hwc_100, List.forall_mem_cons.mpr ⟨hwc_101, List.forall_mem_cons.mpr ⟨hwc_102, List.forall_mem_cons.mpr ⟨hwc_103, List.forall_mem_cons.mpr ⟨hwc_104, List.forall_mem_cons.mpr ⟨hwc_105, List.forall_mem_cons.mpr ⟨hwc_106, List.forall_mem_cons.mpr ⟨hwc_107, List.forall_mem_cons.mpr ⟨hwc_108, List.forall_mem_cons.mpr ⟨hwc_109, List.forall_mem_cons.mpr ⟨hwc_110, List.forall_mem_cons.mpr ⟨hwc_111, List.forall_mem_cons.mpr ⟨hwc_112, List.forall_mem_cons.mpr ⟨hwc_113, List.forall_mem_cons.mpr ⟨hwc_114, List.forall_mem_cons.mpr ⟨hwc_115, List.forall_mem_cons.mpr ⟨hwc_116, List.forall_mem_cons.mpr ⟨hwc_117, List.forall_mem_cons.mpr ⟨hwc_118, List.forall_mem_cons.mpr ⟨hwc_119, fun _ h => absurd h List.not_mem_nil⟩⟩⟩⟩⟩⟩⟩⟩⟩⟩⟩⟩⟩⟩⟩⟩⟩⟩⟩⟩⟩⟩⟩⟩
theorem hwb_5 : ∀ y ∈ ([120, 121, 122, 123, 124, 125, 126, 127, 128, 129, 130, 131, 132, 133, 134, 135, 136, 137, 138, 139, 140, 141, 142, 143] : List Nat), hwM y 0 ∈ lw_tbl := List.forall_mem_cons.mpr ⟨hwc_120, List.forall_mem_cons.mpr ⟨hwc_121, List.forall_mem_cons.mpr ⟨hwc_122, List.forall_mem_cons.mpr ⟨hwc_123, List.forall_mem_cons.mpr ⟨hwc_124, List.forall_mem_cons.mpr ⟨hwc_125, List.forall_mem_cons.mpr ⟨hwc_126, List.forall_mem_cons.mpr ⟨hwc_127, List.forall_mem_cons.mpr ⟨hwc_128, List.forall_mem_cons.mpr ⟨hwc_129, List.forall_mem_cons.mpr ⟨hwc_130, List.forall_mem_cons.mpr ⟨hwc_131, List.forall_mem_cons.mpr ⟨hwc_132, List.forall_mem_cons.mpr ⟨hwc_133, List.forall_mem_cons.mpr ⟨hwc_134, List.forall_mem_cons.mpr ⟨hwc_135, List.forall_mem_cons.mpr ⟨hwc_136, List.forall_mem_cons.mpr ⟨hwc_137, List.forall_mem_cons.mpr ⟨hwc_138, List.forall_mem_cons.mpr ⟨hwc_139, List.forall_mem_cons.mpr ⟨hwc_140, List.forall_mem_cons.mpr ⟨hwc_141, List.forall_mem_cons.mpr ⟨hwc_142, List.forall_mem_cons.mpr ⟨hwc_143, fun _ h => absurd h List.not_mem_nil⟩⟩⟩⟩⟩⟩⟩⟩⟩⟩⟩⟩⟩⟩⟩⟩⟩⟩⟩⟩⟩⟩⟩⟩
theorem hwb_6 : ∀ y ∈ ([144, 145, 146, 147, 148, 149, 150, 151, 152, 153, 154, 155, 156, 157, 158, 159, 160, 161, 162, 163, 164, 165, 166, 167] : List Nat), hwM y 0 ∈ lw_tbl := List.forall_mem_cons.mpr ⟨hwc_144, List.forall_mem_cons.mpr ⟨hwc_145, List.forall_mem_cons.mpr ⟨hwc_146, List.forall_mem_cons.mpr ⟨hwc_147, List.forall_mem_cons.mpr ⟨hwc_148, List.forall_mem_cons.mpr ⟨hwc_149, List.forall_mem_cons.mpr ⟨hwc_150, List.forall_mem_cons.mpr ⟨hwc_151, List.forall_mem_cons.mpr ⟨hwc_152, List.forall_mem_cons.mpr ⟨hwc_153, List.forall_mem_cons.mpr ⟨hwc_154, List.forall_mem_cons.mpr ⟨hwc_155, List.forall_mem_cons.mpr ⟨hwc_156, List.forall_mem_cons.mpr ⟨hwc_157, List.forall_mem_cons.mpr ⟨hwc_158, List.forall_mem_cons.mpr ⟨hwc_159, List.forall_mem_cons.mpr ⟨hwc_160, List.forall_mem_cons.mpr ⟨hwc_161, List.forall_mem_cons.mpr ⟨hwc_162, List.forall_mem_cons.mpr ⟨hwc_163, List.forall_mem_cons.mpr ⟨hwc_164, List.forall_mem_cons.mpr ⟨hwc_165, List.forall_mem_cons.mpr ⟨hwc_166, List.forall_mem_cons.mpr ⟨hwc_167, fun _ h => absurd h List.not_mem_nil⟩⟩⟩⟩⟩⟩⟩⟩⟩⟩⟩⟩⟩⟩⟩⟩⟩⟩⟩⟩⟩⟩⟩⟩
theorem hwb_7 : ∀ y ∈ ([168, 169, 170, 171, 172, 173, 174, 175, 176, 177, 178, 179, 180, 181, 182, 183, 184, 185, 186, 187, 188, 189, 190, 191] : List Nat), hwM y 0 ∈ lw_tbl := List.forall_mem_cons.mpr ⟨hwc_168, List.forall_mem_cons.mpr ⟨hwc_169, List.forall_mem_cons.mpr ⟨hwc_170, List.forall_mem_cons.mpr ⟨hwc_171, List.forall_mem_cons.mpr ⟨hwc_172, List.forall_mem_cons.mpr ⟨hwc_173, List.forall_mem_cons.mpr ⟨hwc_174, List.forall_mem_cons.mpr ⟨hwc_175, List.forall_mem_cons.mpr ⟨hwc_176, List.forall_mem_cons.mpr ⟨hwc_177, List.forall_mem_cons.mpr ⟨hwc_178, List.forall_mem_cons.mpr ⟨hwc_179, List.forall_mem_cons.mpr ⟨hwc_180, List.forall_mem_cons.mpr ⟨hwc_181, List.forall_mem_cons.mpr ⟨hwc_182, List.forall_mem_cons.mpr ⟨hwc_183, List.forall_mem_cons.mpr ⟨hwc_184, List.forall_mem_cons.mpr ⟨hwc_185, List.forall_mem_cons.mpr ⟨hwc_186, List.forall_mem_cons.mpr ⟨hwc_187, List.forall_mem_cons.mpr ⟨hwc_188, List.forall_mem_cons.mpr ⟨hwc_189, List.forall_mem_cons.mpr ⟨hwc_190, List.forall_mem_cons.mpr ⟨hwc_191, fun _ h => absurd h List.not_mem_nil⟩⟩⟩⟩⟩⟩⟩⟩⟩⟩⟩⟩⟩⟩⟩⟩⟩⟩⟩⟩⟩⟩⟩⟩
theorem hwb_8 : ∀ y ∈ ([192, 193, 194, 195, 196, 197, 198, 199, 200, 201, 202, 203, 204, 205, 206, 207, 208, 209, 210, 211, 212, 213, 214, 215] : List Nat), hwM y 0 ∈ lw_tbl := List.forall_mem_cons.mpr ⟨hwc_192, List.forall_mem_cons.mpr ⟨hwc_193, List.forall_mem_cons.mpr ⟨hwc_194, List.forall_mem_cons.mpr ⟨hwc_195, List.forall_mem_cons.mpr ⟨hwc_196, List.forall_mem_cons.mpr ⟨hwc_197, List.forall_mem_cons.mpr ⟨hwc_198, List.forall_mem_cons.mpr ⟨hwc_199, List.forall_mem_cons.mpr ⟨hwc_200, List.forall_mem_cons.mpr ⟨hwc_201, List.forall_mem_cons.mpr ⟨hwc_202, List.forall_mem_cons.mpr ⟨hwc_203, List.forall_mem_cons.mpr ⟨hwc_204, List.forall_mem_cons.mpr ⟨hwc_205, List.forall_mem_cons.mpr ⟨hwc_206, List.forall_mem_cons.mpr ⟨hwc_207, List.forall_mem_cons.mpr ⟨hwc_208, List.forall_mem_cons.mpr ⟨hwc_209, List.forall_mem_cons.mpr ⟨hwc_210, List.forall_mem_cons.mpr ⟨hwc_211, List.forall_mem_cons.mpr ⟨hwc_212, List.forall_mem_cons.mpr ⟨hwc_213, List.forall_mem_cons.mpr ⟨hwc_214, List.forall_mem_cons.mpr ⟨hwc_215, fun _ h => absurd h List.not_mem_nil⟩⟩⟩⟩⟩⟩⟩⟩⟩⟩⟩⟩⟩⟩⟩⟩⟩⟩⟩⟩⟩⟩⟩⟩
theorem hwb_9 : ∀ y ∈ ([216, 217, 218, 219, 220, 221, 222, 223, 224, 225, 226, 227, 228, 229, 230, 231, 232, 233, 234, 235, 236, 237, 238, 239] : List Nat), hwM y 0 ∈ lw_tbl := List.forall_mem_cons.mpr ⟨hwc_216, List.forall_mem_cons.mpr ⟨hwc_217, List.forall_mem_cons.mpr ⟨hwc_218, List.forall_mem_cons.mpr ⟨hwc_219, List.forall_mem_cons.mpr ⟨hwc_220, List.forall_mem_cons.mpr ⟨hwc_221, List.forall_mem_cons.mpr ⟨hwc_222, List.forall_mem_cons.mpr ⟨hwc_223, List.forall_mem_cons.mpr ⟨hwc_224, List.forall_mem_cons.mpr ⟨hwc_225, List.forall_mem_cons.mpr ⟨hwc_226, List.forall_mem_cons.mpr ⟨hwc_227, List.forall_mem_cons.mpr ⟨hwc_228, List.forall_mem_cons.mpr ⟨hwc_229, List.forall_mem_cons.mpr ⟨hwc_230, List.forall_mem_cons.mpr ⟨hwc_231, List.forall_mem_cons.mpr ⟨hwc_232, List.forall_mem_cons.mpr ⟨hwc_233, List.forall_mem_cons.mpr ⟨hwc_234, List.forall_mem_cons.mpr ⟨hwc_235, List.forall_mem_cons.mpr ⟨hwc_236, List.forall_mem_cons.mpr ⟨hwc_237, List.forall_mem_cons.mpr ⟨hwc_238, List.forall_mem_cons.mpr ⟨hwc_239, fun _ h => absurd h List.not_mem_nil⟩⟩⟩⟩⟩⟩⟩⟩⟩⟩⟩⟩⟩⟩⟩⟩⟩⟩⟩⟩⟩⟩⟩⟩
theorem hwb_10 : ∀ y ∈ ([240, 241, 242, 243, 244, 245, 246, 247, 248, 249, 250, 251, 252, 253, 254, 255, 256, 257, 258, 259, 260, 261, 262, 263] : List Nat), hwM y 0 ∈ lw_tbl := List.forall_mem_cons.mpr ⟨hwc_240, List.forall_mem_cons.mpr ⟨hwc_241, List.forall_mem_cons.mpr ⟨hwc_242, List.forall_mem_cons.mpr ⟨hwc_243, List.forall_mem_cons.mpr ⟨hwc_244, List.forall_mem_cons.mpr ⟨hwc_245, List.forall_mem_cons.mpr ⟨hwc_246, List.forall_mem_cons.mpr ⟨hwc_247, List.forall_mem_cons.mpr ⟨hwc_248, List.forall_mem_cons.mpr ⟨hwc_249, List.forall_mem_cons.mpr ⟨hwc_250, List.forall_mem_cons.mpr ⟨hwc_251, List.forall_mem_cons.mpr ⟨hwc_252, List.forall_mem_cons.mpr ⟨hwc_253, List.forall_mem_cons.mpr ⟨hwc_254, List.forall_mem_cons.mpr ⟨hwc_255, List.forall_mem_cons.mpr ⟨hwc_256, List.forall_mem_cons.mpr ⟨hwc_257, List.forall_mem_cons.mpr ⟨hwc_258, List.forall_mem_cons.mpr ⟨hwc_259, List.forall_mem_cons.mpr ⟨hwc_260, List.forall_mem_cons.mpr ⟨hwc_261, List.forall_mem_cons.mpr ⟨hwc_262, List.forall_mem_cons.mpr ⟨hwc_263, fun _ h => absurd h List.not_mem_nil⟩⟩⟩⟩⟩⟩⟩⟩⟩⟩⟩⟩⟩⟩⟩⟩⟩⟩⟩⟩⟩⟩⟩⟩
theorem hwb_11 : ∀ y ∈ ([264, 265, 266, 267, 268, 269, 270, 271, 272, 273, 274, 275, 276, 277, 278, 279, 280, 281, 282, 283, 284, 285, 286, 287] : List Nat), hwM y 0 ∈ lw_tbl := List.forall_mem_cons.mpr ⟨hwc_264, List.forall_mem_cons.mpr ⟨hwc_265, List.forall_mem_cons.mpr ⟨hwc_266, List.forall_mem_cons.mpr ⟨hwc_267, List.forall_mem_cons.mpr ⟨hwc_268, List.forall_mem_cons.mpr ⟨hwc_269, List.forall_mem_cons.mpr ⟨hwc_270, List.forall_mem_cons.mpr ⟨hwc_271, List.forall_mem_cons.mpr ⟨hwc_272, List.forall_mem_cons.mpr ⟨hwc_273, List.forall_mem_cons.mpr ⟨hwc_274, List.forall_mem_cons.mpr ⟨hwc_275, List.forall_mem_cons.mpr ⟨hwc_276, List.forall_mem_cons.mpr ⟨hwc_277, List.forall_mem_cons.mpr ⟨hwc_278, List.forall_mem_cons.mpr ⟨hwc_279, List.forall_mem_cons.mpr ⟨hwc_280, List.forall_mem_cons.mpr ⟨hwc_281, List.forall_mem_cons.mpr ⟨hwc_282, List.forall_mem_cons.mpr ⟨hwc_283, List.forall_mem_cons.mpr ⟨hwc_284, List.forall_mem_cons.mpr ⟨hwc_285, List.forall_mem_cons.mpr ⟨hwc_286, List.forall_mem_cons.mpr ⟨hwc_287, fun _ h => absurd h List.not_mem_nil⟩⟩⟩⟩⟩⟩⟩⟩⟩⟩⟩⟩⟩⟩⟩⟩⟩⟩⟩⟩⟩⟩⟩⟩
theorem hwb_12 : ∀ y ∈ ([288, 289, 290, 291, 292, 293, 294, 295, 296, 297, 298, 299, 300, 301, 302, 303, 304, 305, 306, 307, 308, 309, 310, 311] : List Nat), hwM y 0 ∈ lw_tbl := List.forall_mem_cons.mpr ⟨hwc_288, List.forall_mem_cons.mpr ⟨hwc_289, List.forall_mem_cons.mpr ⟨hwc_290, List.forall_mem_cons.mpr ⟨hwc_291, List.forall_mem_cons.mpr ⟨hwc_292, List.forall_mem_cons.mpr ⟨hwc_293, List.forall_mem_cons.mpr ⟨hwc_294, List.forall_mem_cons.mpr ⟨hwc_295, List.forall_mem_cons.mpr ⟨hwc_296, List.forall_mem_cons.mpr ⟨hwc_297, List.forall_mem_cons.mpr ⟨hwc_298, List.forall_mem_cons.mpr ⟨hwc_299, List.forall_mem_cons.mpr ⟨hwc_300, List.forall_mem_cons.mpr ⟨hwc_301, List.forall_mem_cons.mpr ⟨hwc_302, List.forall_mem_cons.mpr ⟨hwc_303, List.forall_mem_cons.mpr ⟨hwc_304, List.forall_mem_cons.mpr ⟨hwc_305, List.forall_mem_cons.mpr ⟨hwc_306, List.forall_mem_cons.mpr ⟨hwc_307, List.forall_mem_cons.mpr ⟨hwc_308, List.forall_mem_cons.mpr ⟨hwc_309, List.forall_mem_cons.mpr ⟨hwc_310, List.forall_mem_cons.mpr ⟨hwc_311, fun _ h => absurd h List.not_mem_nil⟩⟩⟩⟩⟩⟩⟩⟩⟩⟩⟩⟩⟩⟩⟩⟩⟩⟩⟩⟩⟩⟩⟩⟩
theorem hwb_13 : ∀ y ∈ ([312, 313, 314, 315, 316, 317, 318, 319, 320, 321, 322, 323, 324, 325, 326, 327, 328, 329, 330, 331, 332, 333, 334, 335] : List Nat), hwM y 0 ∈ lw_tbl := List.forall_mem_cons.mpr ⟨hwc_312, List.forall_mem_cons.mpr ⟨hwc_313, List.forall_mem_cons.mpr ⟨hwc_314, List.forall_mem_cons.mpr ⟨hwc_315, List.forall_mem_cons.mpr ⟨hwc_316, List.forall_mem_cons.mpr ⟨hwc_317, List.forall_mem_cons.mpr ⟨hwc_318, List.forall_mem_cons.mpr ⟨hwc_319, List.forall_mem_cons.mpr ⟨hwc_320, List.forall_mem_cons.mpr ⟨hwc_321, List.forall_mem_cons.mpr ⟨hwc_322, List.forall_mem_cons.mpr ⟨hwc_323, List.forall_mem_cons.mpr ⟨hwc_324, List.forall_mem_cons.mpr ⟨hwc_325, List.forall_mem_cons.mpr ⟨hwc_326, List.forall_mem_cons.mpr ⟨hwc_327, List.forall_mem_cons.mpr ⟨hwc_328, List.forall_mem_cons.mpr ⟨hwc_329, List.forall_mem_cons.mpr ⟨hwc_330, List.forall_mem_cons.mpr ⟨hwc_331, List.forall_mem_cons.mpr ⟨hwc_332, List.forall_mem_cons.mpr ⟨hwc_333, List.forall_mem_cons.mpr ⟨hwc_334, List.forall_mem_cons.mpr ⟨hwc_335, fun _ h => absurd h List.not_mem_nil⟩⟩⟩⟩⟩⟩⟩⟩⟩⟩⟩⟩⟩⟩⟩⟩⟩⟩⟩⟩⟩⟩⟩⟩
theorem hwb_14 : ∀ y ∈ ([336, 337, 338, 339, 340, 341, 342, 343, 344, 345, 346, 347, 348, 349, 350, 351, 352, 353, 354, 355, 356, 357, 358, 359] : List Nat), hwM y 0 ∈ lw_tbl := List.forall_mem_cons.mpr ⟨hwc_336, List.forall_mem_cons.mpr ⟨hwc_337, List.forall_mem_cons.mpr ⟨hwc_338, List.forall_mem_cons.mpr ⟨hwc_339, List.forall_mem_cons.mpr ⟨hwc_340, List.forall_mem_cons.mpr ⟨hwc_341, List.forall_mem_cons.mpr ⟨hwc_342, List.forall_mem_cons.mpr ⟨hwc_343, List.forall_mem_cons.mpr ⟨hwc_344, List.forall_mem_cons.mpr ⟨hwc_345, List.forall_mem_cons.mpr ⟨hwc_346, List.forall_mem_cons.mpr ⟨hwc_347, List.forall_mem_cons.mpr ⟨hwc_348, List.forall_mem_cons.mpr ⟨hwc_349, List.forall_mem_cons.mpr ⟨hwc_350, List.forall_mem_cons.mpr ⟨hwc_351, List.forall_mem_cons.mpr ⟨hwc_352, List.forall_mem_cons.mpr ⟨hwc_353, List.forall_mem_cons.mpr ⟨hwc_354, List.forall_mem_cons.mpr ⟨hwc_355, List.forall_mem_cons.mpr ⟨hwc_356, List.forall_mem_cons.mpr ⟨hwc_357, List.forall_mem_cons.mpr ⟨hwc_358, List.forall_mem_cons.mpr ⟨hwc_359, fun _ h => absurd h List.not_mem_nil⟩⟩⟩⟩⟩⟩⟩⟩⟩⟩⟩⟩⟩⟩⟩⟩⟩⟩⟩⟩⟩⟩⟩⟩
theorem hwb_15 : ∀ y ∈ ([360, 361, 362, 363, 364, 365, 366, 367, 368, 369, 370, 371, 372, 373, 374, 375, 376, 377, 378, 379, 380, 381, 382, 383] : List Nat), hwM y 0 ∈ lw_tbl := List.forall_mem_cons.mpr ⟨hwc_360, List.forall_mem_cons.mpr ⟨hwc_361, List.forall_mem_cons.mpr ⟨hwc_362, List.forall_mem_cons.mpr ⟨hwc_363, List.forall_mem_cons.mpr ⟨hwc_364, List.forall_mem_cons.mpr ⟨hwc_365, List.forall_mem_cons.mpr ⟨hwc_366, List.forall_mem_cons.mpr ⟨hwc_367, List.forall_mem_cons.mpr ⟨hwc_368, List.forall_mem_cons.mpr ⟨hwc_369, List.forall_mem_cons.mpr ⟨hwc_370, List.forall_mem_cons.mpr ⟨hwc_371, List.forall_mem_cons.mpr ⟨hwc_372, List.forall_mem_cons.mpr ⟨hwc_373, List.forall_mem_cons.mpr ⟨hwc_374, List.forall_mem_cons.mpr ⟨hwc_375, List.forall_mem_cons.mpr ⟨hwc_376, List.forall_mem_cons.mpr ⟨hwc_377, List.forall_mem_cons.mpr ⟨hwc_378, List.forall_mem_cons.mpr ⟨hwc_379, List.forall_mem_cons.mpr ⟨hwc_380, List.forall_mem_cons.mpr ⟨hwc_381, List.forall_mem_cons.mpr ⟨hwc_382, List.forall_mem_cons.mpr ⟨hwc_383, fun _ h => absurd h List.not_mem_nil⟩⟩⟩⟩⟩⟩⟩⟩⟩⟩⟩⟩⟩⟩⟩⟩⟩⟩⟩⟩⟩⟩⟩⟩
theorem hwb_16 : ∀ y ∈ ([384, 385, 386, 387, 388, 389, 390, 391, 392, 393, 394, 395, 396, 397, 398, 399, 400, 401, 402, 403, 404, 405, 406, 407] : List Nat), hwM y 0 ∈ lw_tbl := List.forall_mem_cons.mpr ⟨hwc_384, List.forall_mem_cons.mpr ⟨hwc_385, List.forall_mem_cons.mpr ⟨hwc_386, List.forall_mem_cons.mpr ⟨hwc_387, List.forall_mem_cons.mpr ⟨hwc_388, List.forall_mem_cons.mpr ⟨hwc_389, List.forall_mem_cons.mpr ⟨hwc_390, List.forall_mem_cons.mpr ⟨hwc_391, List.forall_mem_cons.mpr ⟨hwc_392, List.forall_mem_cons.mpr ⟨hwc_393, List.forall_mem_cons.mpr ⟨hwc_394, List.forall_mem_cons.mpr ⟨hwc_395, List.forall_mem_cons.mpr ⟨hwc_396, List.forall_mem_cons.mpr ⟨hwc_397, List.forall_mem_cons.mpr ⟨hwc_398, List.forall_mem_cons.mpr ⟨hwc_399, List.forall_mem_cons.mpr ⟨hwc_400, List.forall_mem_cons.mpr ⟨hwc_401, List.forall_mem_cons.mpr ⟨hwc_402, List.forall_mem_cons.mpr ⟨hwc_403, List.forall_mem_cons.mpr ⟨hwc_404, List.forall_mem_cons.mpr ⟨hwc_405, List.forall_mem_cons.mpr ⟨hwc_406, List.forall_mem_cons.mpr ⟨hwc_407, fun _ h => absurd h List.not_mem_nil⟩⟩⟩⟩⟩⟩⟩⟩⟩⟩⟩⟩⟩⟩⟩⟩⟩⟩⟩⟩⟩⟩⟩⟩
theorem hwb_17 : ∀ y ∈ ([408, 409, 410, 411, 412, 413, 414, 415, 416, 417, 418, 419, 420, 421, 422] : List Nat), hwM y 0 ∈ lw_tbl := List.forall_mem_cons.mpr ⟨hwc_408, List.forall_mem_cons.mpr ⟨hwc_409, List.forall_mem_cons.mpr ⟨hwc_410, List.forall_mem_cons.mpr ⟨hwc_411, List.forall_mem_cons.mpr ⟨hwc_412, List.forall_mem_cons.mpr ⟨hwc_413, List.forall_mem_cons.mpr ⟨hwc_414, List.forall_mem_cons.mpr ⟨hwc_415, List.forall_mem_cons.mpr ⟨hwc_416, List.forall_mem_cons.mpr ⟨hwc_417, List.forall_mem_cons.mpr ⟨hwc_418, List.forall_mem_cons.mpr ⟨hwc_419, List.forall_mem_cons.mpr ⟨hwc_420, List.forall_mem_cons.mpr ⟨hwc_421, List.forall_mem_cons.mpr ⟨hwc_422, fun _ h => absurd h List.not_mem_nil⟩⟩⟩⟩⟩⟩⟩⟩⟩⟩⟩⟩⟩⟩⟩
theorem hmem_app {P : Nat → Prop} {a b : List Nat} (ha : ∀ y ∈ a, P y) (hb : ∀ y ∈ b, P y) : ∀ y ∈ a ++ b, P y := fun y h => (List.mem_append.mp h).elim (ha y) (hb y)
set_option maxRecDepth 20000 in
theorem hwC_of {y : Nat} (h : y < hNM) : hwM y 0 ∈ lw_tbl := (hmem_app hwb_0 (hmem_app hwb_1 (hmem_app hwb_2 (hmem_app hwb_3 (hmem_app hwb_4 (hmem_app hwb_5 (hmem_app hwb_6 (hmem_app hwb_7 (hmem_app hwb_8 (hmem_app hwb_9 (hmem_app hwb_10 (hmem_app hwb_11 (hmem_app hwb_12 (hmem_app hwb_13 (hmem_app hwb_14 (hmem_app hwb_15 (hmem_app hwb_16 hwb_17))))))))))))))))) y (by
  have e : List.range hNM = [0, 1, 2, 3, 4, 5, 6, 7, 8, 9, 10, 11, 12, 13, 14, 15, 16, 17, 18, 19, 20, 21, 22, 23] ++ ([24, 25, 26, 27, 28, 29, 30, 31, 32, 33, 34, 35, 36, 37, 38, 39, 40, 41, 42, 43, 44, 45, 46, 47] ++ ([48, 49, 50, 51, 52, 53, 54, 55, 56, 57, 58, 59, 60, 61, 62, 63, 64, 65, 66, 67, 68, 69, 70, 71] ++ ([72, 73, 74, 75, 76, 77, 78, 79, 80, 81, 82, 83, 84, 85, 86, 87, 88, 89, 90, 91, 92, 93, 94, 95] ++ ([96, 97, 98, 99, 100, 101, 102, 103, 104, 105, 106, 107, 108, 109, 110, 111, 112, 113, 114, 115, 116, 117, 118, 119] ++ ([120, 121, 122, 123, 124, 125, 126, 127, 128, 129, 130, 131, 132, 133, 134, 135, 136, 137, 138, 139, 140, 141, 142, 143] ++ ([144, 145, 146, 147, 148, 149, 150, 151, 152, 153, 154, 155, 156, 157, 158, 159, 160, 161, 162, 163, 164, 165, 166, 167] ++ ([168, 169, 170, 171, 172, 173, 174, 175, 176, 177, 178, 179, 180, 181, 182, 183, 184, 185, 186, 187, 188, 189, 190, 191] ++ ([192, 193, 194, 195, 196, 197, 198, 199, 200, 201, 202, 203, 204, 205, 206, 207, 208, 209, 210, 211, 212, 213, 214, 215] ++ ([216, 217, 218, 219, 220, 221, 222, 223, 224, 225, 226, 227, 228, 229, 230, 231, 232, 233, 234, 235, 236, 237, 238, 239] ++ ([240, 241, 242, 243, 244, 245, 246, 247, 248, 249, 250, 251, 252, 253, 254, 255, 256, 257, 258, 259, 260, 261, 262, 263] ++ ([264, 265, 266, 267, 268, 269, 270, 271, 272, 273, 274, 275, 276, 277, 278, 279, 280, 281, 282, 283, 284, 285, 286, 287] ++ ([288, 289, 290, 291, 292, 293, 294, 295, 296, 297, 298, 299, 300, 301, 302, 303, 304, 305, 306, 307, 308, 309, 310, 311] ++ ([312, 313, 314, 315, 316, 317, 318, 319, 320, 321, 322, 323, 324, 325, 326, 327, 328, 329, 330, 331, 332, 333, 334, 335] ++ ([336, 337, 338, 339, 340, 341, 342, 343, 344, 345, 346, 347, 348, 349, 350, 351, 352, 353, 354, 355, 356, 357, 358, 359] ++ ([360, 361, 362, 363, 364, 365, 366, 367, 368, 369, 370, 371, 372, 373, 374, 375, 376, 377, 378, 379, 380, 381, 382, 383] ++ ([384, 385, 386, 387, 388, 389, 390, 391, 392, 393, 394, 395, 396, 397, 398, 399, 400, 401, 402, 403, 404, 405, 406, 407] ++ ([408, 409, 410, 411, 412, 413, 414, 415, 416, 417, 418, 419, 420, 421, 422]))))))))))))))))) := by decide +kernel
  rw [← e]
  exact List.mem_range.mpr h)
def hMD : List (Nat × Nat) := [(246, 0), (254, 1), (260, 2), (283, 3), (290, 4), (296, 5), (390, 6), (520, 7), (531, 8), (587, 9), (631, 10), (636, 11), (640, 12), (644, 13), (648, 14), (654, 15), (658, 16), (662, 17), (665, 18), (670, 19), (732, 20), (737, 21), (741, 22), (748, 23), (752, 24), (756, 25), (760, 26), (764, 27), (768, 28), (772, 29), (776, 30), (781, 31), (785, 32), (789, 33), (796, 34), (801, 35), (804, 36), (809, 37), (813, 38), (816, 39), (821, 40), (826, 41), (830, 42), (833, 43), (838, 44), (841, 45), (846, 46), (852, 47), (859, 48), (864, 49), (871, 50), (874, 51), (879, 52), (882, 53), (889, 54), (892, 55), (897, 56), (900, 57), (904, 58), (910, 59), (914, 60), (919, 61), (924, 62), (927, 63), (932, 64), (935, 65), (939, 66), (944, 67), (949, 68), (953, 69), (956, 70), (960, 71), (964, 72), (968, 73), (972, 74), (976, 75), (982, 76), (988, 77), (993, 78), (997, 79), (1000, 80), (1004, 81), (1010, 82), (1015, 83), (1019, 84), (1023, 85), (1027, 86), (1030, 87), (1035, 88), (1039, 89), (1042, 90), (1046, 91), (1068, 92), (1097, 93), (1106, 94), (1194, 95), (1200, 96), (1204, 97), (1208, 98), (1216, 99), (1220, 100), (1225, 101), (1229, 102), (1232, 103), (1236, 104), (1241, 105), (1245, 106), (1249, 107), (1257, 108), (1264, 109), (1269, 110), (1273, 111), (1278, 112), (1283, 113), (1287, 114), (1292, 115), (1321, 116), (1325, 117), (1329, 118), (1339, 119), (1344, 120), (1347, 121), (1351, 122), (1355, 123), (1359, 124), (1364, 125), (1368, 126), (1371, 127), (1378, 128), (1382, 129), (1386, 130), (1391, 131), (1395, 132), (1401, 133), (1406, 134), (1409, 135), (1414, 136), (1420, 137), (1426, 138), (1431, 139), (1435, 140), (1441, 141), (1445, 142), (1456, 143), (1461, 144), (1465, 145), (1471, 146), (1475, 147), (1480, 148), (1484, 149), (1489, 150), (1492, 151), (1496, 152), (1501, 153), (1504, 154), (1509, 155), (1514, 156), (1518, 157), (1525, 158), (1530, 159), (1534, 160), (1538, 161), (1543, 162), (1548, 163), (1553, 164), (1557, 165), (1561, 166), (1565, 167), (1569, 168), (1573, 169), (1577, 170), (1583, 171), (1587, 172), (1592, 173), (1596, 174), (1601, 175), (1605, 176), (1609, 177), (1613, 178), (1617, 179), (1622, 180), (1627, 181), (1632, 182), (1635, 183), (1639, 184), (1643, 185), (1650, 186), (1654, 187), (1658, 188), (1662, 189), (1669, 190), (1672, 191), (1678, 192), (1685, 193), (1692, 194), (1696, 195), (1703, 196), (1710, 197), (1714, 198), (1720, 199), (1725, 200), (1730, 201), (1735, 202), (1739, 203), (1743, 204), (1747, 205), (1755, 206), (1760, 207), (1764, 208), (1768, 209), (1772, 210), (1776, 211), (1780, 212), (1784, 213), (1788, 214), (1792, 215), (1796, 216), (1802, 217), (1806, 218), (1812, 219), (1816, 220), (1820, 221), (1825, 222), (1830, 223), (1835, 224), (1839, 225), (1844, 226), (1851, 227), (1860, 228), (1864, 229), (1872, 230), (1876, 231), (1880, 232), (1885, 233), (1889, 234), (1893, 235), (1897, 236), (1901, 237), (1905, 238), (1909, 239), (1913, 240), (1917, 241), (1922, 242), (1925, 243), (1929, 244), (1933, 245), (1937, 246), (1940, 247), (1944, 248), (1948, 249), (1953, 250), (1957, 251), (1961, 252), (1965, 253), (1969, 254), (1973, 255), (1978, 256), (1983, 257), (1987, 258), (1991, 259), (1995, 260), (1999, 261), (2004, 262), (2008, 263), (2012, 264), (2018, 265), (2022, 266), (2026, 267), (2030, 268), (2034, 269), (2038, 270), (2041, 271), (2048, 272), (2052, 273), (2056, 274), (2060, 275), (2064, 276), (2068, 277), (2072, 278), (2076, 279), (2080, 280), (2084, 281), (2088, 282), (2091, 283), (2100, 284), (2104, 285), (2108, 286), (2112, 287), (2116, 288), (2120, 289), (2124, 290), (2129, 291), (2133, 292), (2137, 293), (2141, 294), (2147, 295), (2151, 296), (2155, 297), (2160, 298), (2164, 299), (2169, 300), (2173, 301), (2177, 302), (2183, 303), (2190, 304), (2194, 305), (2545, 306), (2549, 307), (2554, 308), (2558, 309), (2562, 310), (2568, 311), (2572, 312), (2578, 313), (2582, 314), (2586, 315), (2590, 316), (2594, 317), (2598, 318), (2602, 319), (2607, 320), (2611, 321), (2615, 322), (2620, 323), (2624, 324), (2629, 325), (2634, 326), (2638, 327), (2642, 328), (2646, 329), (2651, 330), (2655, 331), (2659, 332), (2663, 333), (2667, 334), (2671, 335), (2675, 336), (2679, 337), (2683, 338), (2687, 339), (2691, 340), (2695, 341), (2699, 342), (2703, 343), (2707, 344), (2711, 345), (2715, 346), (2719, 347), (2723, 348), (2727, 349), (2731, 350), (2735, 351), (2739, 352), (2743, 353), (2748, 354), (2753, 355), (2757, 356), (2761, 357), (2769, 358), (2773, 359), (2777, 360), (2780, 361), (2785, 362), (2789, 363), (2793, 364), (2797, 365), (2801, 366), (2805, 367), (2811, 368), (2815, 369), (2819, 370), (2824, 371), (2829, 372), (2834, 373), (2839, 374), (2845, 375), (2849, 376), (2856, 377), (2861, 378), (2865, 379), (2870, 380), (2874, 381), (2879, 382), (2883, 383), (2887, 384), (2891, 385), (2895, 386), (2899, 387), (2903, 388), (2908, 389), (2913, 390), (2918, 391), (2923, 392), (2927, 393), (2931, 394), (2936, 395), (2942, 396), (2948, 397), (2952, 398), (2956, 399), (2960, 400), (2964, 401), (2968, 402), (2971, 403), (2975, 404), (2979, 405), (2983, 406), (2987, 407), (2991, 408), (2995, 409), (2999, 410), (3003, 411), (3007, 412), (3011, 413), (3015, 414), (3019, 415), (3023, 416), (3027, 417), (3031, 418), (3035, 419), (3039, 420), (3045, 421), (3048, 422)]
set_option maxRecDepth 100000 in
theorem hMD_ok : hwalk 0 lw_tbl (hMD.map fun e => (e.1, hwM e.2 2)) = true := by decide +kernel
def hMW : List (Nat × Nat) := [(0, 35), (1, 37), (2, 38), (3, 40), (4, 41), (5, 42), (6, 44), (7, 46), (8, 48), (9, 49), (10, 50), (11, 52), (12, 54), (13, 56), (14, 59), (15, 60), (16, 62), (17, 64), (18, 67), (19, 68), (20, 69), (21, 77), (22, 78), (23, 79), (24, 81), (25, 82), (26, 83), (27, 84), (28, 85), (29, 86), (30, 88), (31, 89), (32, 101), (33, 102), (34, 109), (35, 110), (36, 111), (37, 119), (38, 120), (39, 125), (40, 126), (41, 134), (42, 136), (43, 139), (44, 140), (45, 143), (46, 150), (47, 153), (48, 163), (49, 173), (50, 174), (51, 175), (52, 176), (53, 182), (54, 190), (55, 201), (56, 228), (57, 229), (58, 230), (59, 231), (60, 232), (61, 233), (62, 234), (63, 235), (64, 236), (65, 237), (66, 238), (67, 239), (68, 240), (69, 241), (70, 242), (71, 244), (72, 245), (73, 246), (74, 248), (75, 249), (76, 250), (77, 251), (78, 252), (79, 253), (80, 254), (81, 255), (82, 256), (83, 257), (84, 258), (85, 259), (86, 260), (87, 261), (88, 262), (89, 263), (90, 264), (91, 265), (92, 266), (93, 267), (94, 268), (95, 269), (96, 270), (97, 273), (98, 274), (99, 275), (100, 276), (101, 277), (102, 278), (103, 279), (104, 280), (105, 281), (106, 284), (107, 285), (108, 286), (109, 287), (110, 288), (111, 289), (112, 290), (113, 291), (114, 292), (115, 293), (116, 294), (117, 295), (118, 296), (119, 297), (120, 298), (121, 299), (122, 300), (123, 301), (124, 302), (125, 303), (126, 304), (127, 305), (128, 308), (129, 309), (130, 310), (131, 311), (132, 312), (133, 313), (134, 314), (135, 315), (136, 316), (137, 317), (138, 318), (139, 319), (140, 320), (141, 321), (142, 322), (143, 323), (144, 324), (145, 325), (146, 326), (147, 327), (148, 328), (149, 329), (150, 330), (151, 331), (152, 332), (153, 333), (154, 334), (155, 335), (156, 336), (157, 337), (158, 338), (159, 339), (160, 340), (161, 341), (162, 342), (163, 343), (164, 344), (165, 345), (166, 346), (167, 347), (168, 348), (169, 349), (170, 350), (171, 351), (172, 352), (173, 353), (174, 354), (175, 355), (176, 356), (177, 357), (178, 358), (179, 359), (180, 360), (181, 362), (182, 363), (183, 364), (184, 365), (185, 366), (186, 367), (187, 368), (188, 369), (189, 370), (190, 371), (191, 372), (192, 373), (193, 374), (194, 375), (195, 376), (196, 377), (197, 378), (198, 379), (199, 380), (200, 381), (201, 382), (202, 383), (203, 384), (204, 385), (205, 386), (206, 387), (207, 388), (208, 389), (209, 390), (210, 391), (211, 392), (212, 393), (213, 394), (214, 395), (215, 396), (216, 397), (217, 398), (218, 399), (219, 400), (220, 401), (221, 402), (222, 421), (632, 10), (637, 11), (641, 12), (645, 13), (649, 14), (655, 15), (659, 16), (733, 20), (738, 21), (742, 22), (749, 23), (753, 24), (757, 25), (761, 26), (765, 27), (769, 28), (773, 29), (777, 30), (782, 31), (786, 32), (790, 33), (797, 34), (805, 36), (817, 39), (834, 43), (842, 45), (853, 47), (875, 51), (883, 53), (893, 55), (901, 57), (905, 58), (920, 61), (928, 63), (936, 65), (961, 71), (969, 73), (973, 74), (977, 75), (983, 76), (1031, 87), (1195, 95), (1201, 96), (1205, 97), (1209, 98), (1217, 99), (1221, 100), (1233, 103), (1237, 104), (1242, 105), (1246, 106), (1250, 107), (1258, 108), (1279, 112), (1284, 113), (1288, 114), (1293, 115), (1322, 116), (1326, 117), (1330, 118), (1348, 121), (1352, 122), (1356, 123), (1360, 124), (1372, 127), (1379, 128), (1383, 129), (1387, 130), (1392, 131), (1396, 132), (1402, 133), (1410, 135), (1421, 137), (1427, 138), (1442, 141), (1446, 142), (1462, 144), (1466, 145), (1472, 146), (1476, 147), (1481, 148), (1485, 149), (1493, 151), (1497, 152), (1505, 154), (1510, 155), (1515, 156), (1519, 157), (1526, 158), (1531, 159), (1535, 160), (1539, 161), (1544, 162), (1554, 164), (1558, 165), (1562, 166), (1566, 167), (1570, 168), (1574, 169), (1578, 170), (1584, 171), (1588, 172), (1610, 177), (1614, 178), (1618, 179), (1623, 180), (1628, 181), (1636, 183), (1640, 184), (1644, 185), (1651, 186), (1655, 187), (1659, 188), (1663, 189), (1673, 191), (1679, 192), (1686, 193), (1693, 194), (1697, 195), (1704, 196), (1711, 197), (1715, 198), (1721, 199), (1726, 200), (1736, 202), (1740, 203), (1744, 204), (1748, 205), (1756, 206), (1761, 207), (1765, 208), (1773, 210), (1777, 211), (1781, 212), (1785, 213), (1789, 214), (1793, 215), (1797, 216), (1803, 217), (1807, 218), (1813, 219), (1817, 220), (1821, 221), (1826, 222), (1831, 223), (1836, 224), (1840, 225), (1845, 226), (2546, 306), (2550, 307), (2972, 403), (2976, 404), (2980, 405), (2984, 406), (2988, 407), (2992, 408), (2996, 409), (3000, 410), (3004, 411), (3008, 412), (3012, 413), (3016, 414), (3020, 415), (3024, 416), (3028, 417), (3032, 418), (3036, 419), (3040, 420), (3049, 422)]
set_option maxRecDepth 100000 in
theorem hMW_ok : hwalk 0 lw_tbl (hMW.map fun e => (e.1, hwM e.2 3)) = true := by decide +kernel
set_option maxRecDepth 100000 in
theorem hMall : (List.range hNM).all (fun y => (hMD.any (fun e => decide (e.2 = y)) && ((!decide (hmK y = 1) || hMW.any (fun e => decide (e.2 = y))) && hIq.any (fun e => decide (e.2 = hmO y))))) = true := by decide +kernel
theorem hMin1 {L : List (Nat × Nat)} {y : Nat} (h : L.any (fun e => decide (e.2 = y)) = true) : ∃ p, (p, y) ∈ L := by
  obtain ⟨⟨p, z⟩, h1, h2⟩ := List.any_eq_true.mp h
  have h3 : z = y := of_decide_eq_true h2
  subst h3
  exact ⟨p, h1⟩
theorem hMw_of {y : Nat} (h : y < hNM) : hMw y := by
  have h1 := List.all_eq_true.mp hMall y (List.mem_range.mpr h)
  simp only [Bool.and_eq_true, Bool.or_eq_true, Bool.not_eq_true', decide_eq_false_iff_not] at h1
  obtain ⟨a2, a3, a4⟩ := h1
  obtain ⟨p2, b2⟩ := hMin1 a2
  obtain ⟨p4, b4⟩ := hMin1 a4
  refine ⟨hwC_of h, hwalk_mem hIq_ok (List.mem_map.mpr ⟨_, b4, rfl⟩), hwalk_mem hMD_ok (List.mem_map.mpr ⟨_, b2, rfl⟩), fun hk => ?_⟩
  obtain ⟨p3, b3⟩ := hMin1 (a3.resolve_left (fun q => q hk))
  exact hwalk_mem hMW_ok (List.mem_map.mpr ⟨_, b3, rfl⟩)
set_option maxRecDepth 100000 in
theorem hObI : Cond.instanceMethod hOb ∈ lw_tbl := List.mem_of_getElem? (i := 249) (by decide +kernel)
set_option maxRecDepth 100000 in
theorem hObC : Cond.code hOb ⟨#[0xb1]⟩ 1 none ∈ lw_tbl := List.mem_of_getElem? (i := 250) (by decide +kernel)
