/-! each method's words, by their places -/
def hwM (y k : Nat) : Cond := match k with
  | 0 => .code (hmY y) (hmB y) (hmL y) (hmR y)
  | 2 => if hmK y = 0 then .static (hmY y) else .instanceMethod (hmY y)
  | _ => .selects (hName (hmO y)) (hmY y) (hmY y)
def hMw (y : Nat) : Prop := hwM y 0 ∈ lw_tbl ∧ Cond.initialized (hName (hmO y)) ∈ lw_tbl ∧ hwM y 2 ∈ lw_tbl ∧ (hmK y = 1 → hwM y 3 ∈ lw_tbl)
set_option maxRecDepth 20000 in
theorem hw_0 : hMw 0 := ⟨List.mem_of_getElem? (i := 247) rfl, List.mem_of_getElem? (i := 224) (by decide +kernel), List.mem_of_getElem? (i := 246) (by decide +kernel), fun h => absurd h (by decide)⟩
set_option maxRecDepth 20000 in
theorem hw_1 : hMw 1 := ⟨List.mem_of_getElem? (i := 255) rfl, List.mem_of_getElem? (i := 225) (by decide +kernel), List.mem_of_getElem? (i := 254) (by decide +kernel), fun h => absurd h (by decide)⟩
set_option maxRecDepth 20000 in
theorem hw_2 : hMw 2 := ⟨List.mem_of_getElem? (i := 261) rfl, List.mem_of_getElem? (i := 226) (by decide +kernel), List.mem_of_getElem? (i := 260) (by decide +kernel), fun h => absurd h (by decide)⟩
set_option maxRecDepth 20000 in
theorem hw_3 : hMw 3 := ⟨List.mem_of_getElem? (i := 284) rfl, List.mem_of_getElem? (i := 227) (by decide +kernel), List.mem_of_getElem? (i := 283) (by decide +kernel), fun h => absurd h (by decide)⟩
set_option maxRecDepth 20000 in
theorem hw_4 : hMw 4 := ⟨List.mem_of_getElem? (i := 291) rfl, List.mem_of_getElem? (i := 228) (by decide +kernel), List.mem_of_getElem? (i := 290) (by decide +kernel), fun h => absurd h (by decide)⟩
set_option maxRecDepth 20000 in
theorem hw_5 : hMw 5 := ⟨List.mem_of_getElem? (i := 297) rfl, List.mem_of_getElem? (i := 229) (by decide +kernel), List.mem_of_getElem? (i := 296) (by decide +kernel), fun h => absurd h (by decide)⟩
set_option maxRecDepth 20000 in
theorem hw_6 : hMw 6 := ⟨List.mem_of_getElem? (i := 391) rfl, List.mem_of_getElem? (i := 230) (by decide +kernel), List.mem_of_getElem? (i := 390) (by decide +kernel), fun h => absurd h (by decide)⟩
set_option maxRecDepth 20000 in
theorem hw_7 : hMw 7 := ⟨List.mem_of_getElem? (i := 521) rfl, List.mem_of_getElem? (i := 231) (by decide +kernel), List.mem_of_getElem? (i := 520) (by decide +kernel), fun h => absurd h (by decide)⟩
set_option maxRecDepth 20000 in
theorem hw_8 : hMw 8 := ⟨List.mem_of_getElem? (i := 532) rfl, List.mem_of_getElem? (i := 232) (by decide +kernel), List.mem_of_getElem? (i := 531) (by decide +kernel), fun h => absurd h (by decide)⟩
set_option maxRecDepth 20000 in
theorem hw_9 : hMw 9 := ⟨List.mem_of_getElem? (i := 588) rfl, List.mem_of_getElem? (i := 233) (by decide +kernel), List.mem_of_getElem? (i := 587) (by decide +kernel), fun h => absurd h (by decide)⟩
set_option maxRecDepth 20000 in
theorem hw_10 : hMw 10 := ⟨List.mem_of_getElem? (i := 633) rfl, List.mem_of_getElem? (i := 232) (by decide +kernel), List.mem_of_getElem? (i := 631) (by decide +kernel), fun _ => List.mem_of_getElem? (i := 632) (by decide +kernel)⟩
set_option maxRecDepth 20000 in
theorem hw_11 : hMw 11 := ⟨List.mem_of_getElem? (i := 638) rfl, List.mem_of_getElem? (i := 226) (by decide +kernel), List.mem_of_getElem? (i := 636) (by decide +kernel), fun _ => List.mem_of_getElem? (i := 637) (by decide +kernel)⟩
set_option maxRecDepth 20000 in
theorem hw_12 : hMw 12 := ⟨List.mem_of_getElem? (i := 642) rfl, List.mem_of_getElem? (i := 226) (by decide +kernel), List.mem_of_getElem? (i := 640) (by decide +kernel), fun _ => List.mem_of_getElem? (i := 641) (by decide +kernel)⟩
set_option maxRecDepth 20000 in
theorem hw_13 : hMw 13 := ⟨List.mem_of_getElem? (i := 646) rfl, List.mem_of_getElem? (i := 234) (by decide +kernel), List.mem_of_getElem? (i := 644) (by decide +kernel), fun _ => List.mem_of_getElem? (i := 645) (by decide +kernel)⟩
set_option maxRecDepth 20000 in
theorem hw_14 : hMw 14 := ⟨List.mem_of_getElem? (i := 650) rfl, List.mem_of_getElem? (i := 234) (by decide +kernel), List.mem_of_getElem? (i := 648) (by decide +kernel), fun _ => List.mem_of_getElem? (i := 649) (by decide +kernel)⟩
set_option maxRecDepth 20000 in
theorem hw_15 : hMw 15 := ⟨List.mem_of_getElem? (i := 656) rfl, List.mem_of_getElem? (i := 234) (by decide +kernel), List.mem_of_getElem? (i := 654) (by decide +kernel), fun _ => List.mem_of_getElem? (i := 655) (by decide +kernel)⟩
set_option maxRecDepth 20000 in
theorem hw_16 : hMw 16 := ⟨List.mem_of_getElem? (i := 660) rfl, List.mem_of_getElem? (i := 234) (by decide +kernel), List.mem_of_getElem? (i := 658) (by decide +kernel), fun _ => List.mem_of_getElem? (i := 659) (by decide +kernel)⟩
set_option maxRecDepth 20000 in
theorem hw_17 : hMw 17 := ⟨List.mem_of_getElem? (i := 663) rfl, List.mem_of_getElem? (i := 235) (by decide +kernel), List.mem_of_getElem? (i := 662) (by decide +kernel), fun h => absurd h (by decide)⟩
set_option maxRecDepth 20000 in
theorem hw_18 : hMw 18 := ⟨List.mem_of_getElem? (i := 666) rfl, List.mem_of_getElem? (i := 234) (by decide +kernel), List.mem_of_getElem? (i := 665) (by decide +kernel), fun h => absurd h (by decide)⟩
set_option maxRecDepth 20000 in
theorem hw_19 : hMw 19 := ⟨List.mem_of_getElem? (i := 671) rfl, List.mem_of_getElem? (i := 236) (by decide +kernel), List.mem_of_getElem? (i := 670) (by decide +kernel), fun h => absurd h (by decide)⟩
set_option maxRecDepth 20000 in
theorem hw_20 : hMw 20 := ⟨List.mem_of_getElem? (i := 734) rfl, List.mem_of_getElem? (i := 225) (by decide +kernel), List.mem_of_getElem? (i := 732) (by decide +kernel), fun _ => List.mem_of_getElem? (i := 733) (by decide +kernel)⟩
set_option maxRecDepth 20000 in
theorem hw_21 : hMw 21 := ⟨List.mem_of_getElem? (i := 739) rfl, List.mem_of_getElem? (i := 226) (by decide +kernel), List.mem_of_getElem? (i := 737) (by decide +kernel), fun _ => List.mem_of_getElem? (i := 738) (by decide +kernel)⟩
set_option maxRecDepth 20000 in
theorem hw_22 : hMw 22 := ⟨List.mem_of_getElem? (i := 743) rfl, List.mem_of_getElem? (i := 226) (by decide +kernel), List.mem_of_getElem? (i := 741) (by decide +kernel), fun _ => List.mem_of_getElem? (i := 742) (by decide +kernel)⟩
set_option maxRecDepth 20000 in
theorem hw_23 : hMw 23 := ⟨List.mem_of_getElem? (i := 750) rfl, List.mem_of_getElem? (i := 226) (by decide +kernel), List.mem_of_getElem? (i := 748) (by decide +kernel), fun _ => List.mem_of_getElem? (i := 749) (by decide +kernel)⟩
set_option maxRecDepth 20000 in
theorem hw_24 : hMw 24 := ⟨List.mem_of_getElem? (i := 754) rfl, List.mem_of_getElem? (i := 226) (by decide +kernel), List.mem_of_getElem? (i := 752) (by decide +kernel), fun _ => List.mem_of_getElem? (i := 753) (by decide +kernel)⟩
set_option maxRecDepth 20000 in
theorem hw_25 : hMw 25 := ⟨List.mem_of_getElem? (i := 758) rfl, List.mem_of_getElem? (i := 226) (by decide +kernel), List.mem_of_getElem? (i := 756) (by decide +kernel), fun _ => List.mem_of_getElem? (i := 757) (by decide +kernel)⟩
set_option maxRecDepth 20000 in
theorem hw_26 : hMw 26 := ⟨List.mem_of_getElem? (i := 762) rfl, List.mem_of_getElem? (i := 231) (by decide +kernel), List.mem_of_getElem? (i := 760) (by decide +kernel), fun _ => List.mem_of_getElem? (i := 761) (by decide +kernel)⟩
set_option maxRecDepth 20000 in
theorem hw_27 : hMw 27 := ⟨List.mem_of_getElem? (i := 766) rfl, List.mem_of_getElem? (i := 226) (by decide +kernel), List.mem_of_getElem? (i := 764) (by decide +kernel), fun _ => List.mem_of_getElem? (i := 765) (by decide +kernel)⟩
set_option maxRecDepth 20000 in
theorem hw_28 : hMw 28 := ⟨List.mem_of_getElem? (i := 770) rfl, List.mem_of_getElem? (i := 226) (by decide +kernel), List.mem_of_getElem? (i := 768) (by decide +kernel), fun _ => List.mem_of_getElem? (i := 769) (by decide +kernel)⟩
set_option maxRecDepth 20000 in
theorem hw_29 : hMw 29 := ⟨List.mem_of_getElem? (i := 774) rfl, List.mem_of_getElem? (i := 226) (by decide +kernel), List.mem_of_getElem? (i := 772) (by decide +kernel), fun _ => List.mem_of_getElem? (i := 773) (by decide +kernel)⟩
set_option maxRecDepth 20000 in
theorem hw_30 : hMw 30 := ⟨List.mem_of_getElem? (i := 778) rfl, List.mem_of_getElem? (i := 225) (by decide +kernel), List.mem_of_getElem? (i := 776) (by decide +kernel), fun _ => List.mem_of_getElem? (i := 777) (by decide +kernel)⟩
set_option maxRecDepth 20000 in
theorem hw_31 : hMw 31 := ⟨List.mem_of_getElem? (i := 783) rfl, List.mem_of_getElem? (i := 226) (by decide +kernel), List.mem_of_getElem? (i := 781) (by decide +kernel), fun _ => List.mem_of_getElem? (i := 782) (by decide +kernel)⟩
set_option maxRecDepth 20000 in
theorem hw_32 : hMw 32 := ⟨List.mem_of_getElem? (i := 787) rfl, List.mem_of_getElem? (i := 226) (by decide +kernel), List.mem_of_getElem? (i := 785) (by decide +kernel), fun _ => List.mem_of_getElem? (i := 786) (by decide +kernel)⟩
set_option maxRecDepth 20000 in
theorem hw_33 : hMw 33 := ⟨List.mem_of_getElem? (i := 791) rfl, List.mem_of_getElem? (i := 226) (by decide +kernel), List.mem_of_getElem? (i := 789) (by decide +kernel), fun _ => List.mem_of_getElem? (i := 790) (by decide +kernel)⟩
set_option maxRecDepth 20000 in
theorem hw_34 : hMw 34 := ⟨List.mem_of_getElem? (i := 798) rfl, List.mem_of_getElem? (i := 231) (by decide +kernel), List.mem_of_getElem? (i := 796) (by decide +kernel), fun _ => List.mem_of_getElem? (i := 797) (by decide +kernel)⟩
set_option maxRecDepth 20000 in
theorem hw_35 : hMw 35 := ⟨List.mem_of_getElem? (i := 802) rfl, List.mem_of_getElem? (i := 231) (by decide +kernel), List.mem_of_getElem? (i := 801) (by decide +kernel), fun _ => List.mem_of_getElem? (i := 0) (by decide +kernel)⟩
set_option maxRecDepth 20000 in
theorem hw_36 : hMw 36 := ⟨List.mem_of_getElem? (i := 806) rfl, List.mem_of_getElem? (i := 226) (by decide +kernel), List.mem_of_getElem? (i := 804) (by decide +kernel), fun _ => List.mem_of_getElem? (i := 805) (by decide +kernel)⟩
set_option maxRecDepth 20000 in
theorem hw_37 : hMw 37 := ⟨List.mem_of_getElem? (i := 810) rfl, List.mem_of_getElem? (i := 231) (by decide +kernel), List.mem_of_getElem? (i := 809) (by decide +kernel), fun _ => List.mem_of_getElem? (i := 1) (by decide +kernel)⟩
set_option maxRecDepth 20000 in
theorem hw_38 : hMw 38 := ⟨List.mem_of_getElem? (i := 814) rfl, List.mem_of_getElem? (i := 231) (by decide +kernel), List.mem_of_getElem? (i := 813) (by decide +kernel), fun _ => List.mem_of_getElem? (i := 2) (by decide +kernel)⟩
set_option maxRecDepth 20000 in
theorem hw_39 : hMw 39 := ⟨List.mem_of_getElem? (i := 818) rfl, List.mem_of_getElem? (i := 231) (by decide +kernel), List.mem_of_getElem? (i := 816) (by decide +kernel), fun _ => List.mem_of_getElem? (i := 817) (by decide +kernel)⟩
set_option maxRecDepth 20000 in
theorem hw_40 : hMw 40 := ⟨List.mem_of_getElem? (i := 822) rfl, List.mem_of_getElem? (i := 231) (by decide +kernel), List.mem_of_getElem? (i := 821) (by decide +kernel), fun _ => List.mem_of_getElem? (i := 3) (by decide +kernel)⟩
set_option maxRecDepth 20000 in
theorem hw_41 : hMw 41 := ⟨List.mem_of_getElem? (i := 827) rfl, List.mem_of_getElem? (i := 231) (by decide +kernel), List.mem_of_getElem? (i := 826) (by decide +kernel), fun _ => List.mem_of_getElem? (i := 4) (by decide +kernel)⟩
set_option maxRecDepth 20000 in
theorem hw_42 : hMw 42 := ⟨List.mem_of_getElem? (i := 831) rfl, List.mem_of_getElem? (i := 231) (by decide +kernel), List.mem_of_getElem? (i := 830) (by decide +kernel), fun _ => List.mem_of_getElem? (i := 5) (by decide +kernel)⟩
set_option maxRecDepth 20000 in
theorem hw_43 : hMw 43 := ⟨List.mem_of_getElem? (i := 835) rfl, List.mem_of_getElem? (i := 232) (by decide +kernel), List.mem_of_getElem? (i := 833) (by decide +kernel), fun _ => List.mem_of_getElem? (i := 834) (by decide +kernel)⟩
set_option maxRecDepth 20000 in
theorem hw_44 : hMw 44 := ⟨List.mem_of_getElem? (i := 839) rfl, List.mem_of_getElem? (i := 231) (by decide +kernel), List.mem_of_getElem? (i := 838) (by decide +kernel), fun _ => List.mem_of_getElem? (i := 6) (by decide +kernel)⟩
set_option maxRecDepth 20000 in
theorem hw_45 : hMw 45 := ⟨List.mem_of_getElem? (i := 843) rfl, List.mem_of_getElem? (i := 232) (by decide +kernel), List.mem_of_getElem? (i := 841) (by decide +kernel), fun _ => List.mem_of_getElem? (i := 842) (by decide +kernel)⟩
set_option maxRecDepth 20000 in
theorem hw_46 : hMw 46 := ⟨List.mem_of_getElem? (i := 847) rfl, List.mem_of_getElem? (i := 231) (by decide +kernel), List.mem_of_getElem? (i := 846) (by decide +kernel), fun _ => List.mem_of_getElem? (i := 7) (by decide +kernel)⟩
set_option maxRecDepth 20000 in
theorem hw_47 : hMw 47 := ⟨List.mem_of_getElem? (i := 854) rfl, List.mem_of_getElem? (i := 226) (by decide +kernel), List.mem_of_getElem? (i := 852) (by decide +kernel), fun _ => List.mem_of_getElem? (i := 853) (by decide +kernel)⟩
set_option maxRecDepth 20000 in
theorem hw_48 : hMw 48 := ⟨List.mem_of_getElem? (i := 860) rfl, List.mem_of_getElem? (i := 231) (by decide +kernel), List.mem_of_getElem? (i := 859) (by decide +kernel), fun _ => List.mem_of_getElem? (i := 8) (by decide +kernel)⟩
set_option maxRecDepth 20000 in
theorem hw_49 : hMw 49 := ⟨List.mem_of_getElem? (i := 865) rfl, List.mem_of_getElem? (i := 231) (by decide +kernel), List.mem_of_getElem? (i := 864) (by decide +kernel), fun _ => List.mem_of_getElem? (i := 9) (by decide +kernel)⟩
set_option maxRecDepth 20000 in
theorem hw_50 : hMw 50 := ⟨List.mem_of_getElem? (i := 872) rfl, List.mem_of_getElem? (i := 231) (by decide +kernel), List.mem_of_getElem? (i := 871) (by decide +kernel), fun _ => List.mem_of_getElem? (i := 10) (by decide +kernel)⟩
set_option maxRecDepth 20000 in
theorem hw_51 : hMw 51 := ⟨List.mem_of_getElem? (i := 876) rfl, List.mem_of_getElem? (i := 233) (by decide +kernel), List.mem_of_getElem? (i := 874) (by decide +kernel), fun _ => List.mem_of_getElem? (i := 875) (by decide +kernel)⟩
set_option maxRecDepth 20000 in
theorem hw_52 : hMw 52 := ⟨List.mem_of_getElem? (i := 880) rfl, List.mem_of_getElem? (i := 231) (by decide +kernel), List.mem_of_getElem? (i := 879) (by decide +kernel), fun _ => List.mem_of_getElem? (i := 11) (by decide +kernel)⟩
set_option maxRecDepth 20000 in
theorem hw_53 : hMw 53 := ⟨List.mem_of_getElem? (i := 884) rfl, List.mem_of_getElem? (i := 232) (by decide +kernel), List.mem_of_getElem? (i := 882) (by decide +kernel), fun _ => List.mem_of_getElem? (i := 883) (by decide +kernel)⟩
set_option maxRecDepth 20000 in
theorem hw_54 : hMw 54 := ⟨List.mem_of_getElem? (i := 890) rfl, List.mem_of_getElem? (i := 231) (by decide +kernel), List.mem_of_getElem? (i := 889) (by decide +kernel), fun _ => List.mem_of_getElem? (i := 12) (by decide +kernel)⟩
set_option maxRecDepth 20000 in
theorem hw_55 : hMw 55 := ⟨List.mem_of_getElem? (i := 894) rfl, List.mem_of_getElem? (i := 232) (by decide +kernel), List.mem_of_getElem? (i := 892) (by decide +kernel), fun _ => List.mem_of_getElem? (i := 893) (by decide +kernel)⟩
set_option maxRecDepth 20000 in
theorem hw_56 : hMw 56 := ⟨List.mem_of_getElem? (i := 898) rfl, List.mem_of_getElem? (i := 231) (by decide +kernel), List.mem_of_getElem? (i := 897) (by decide +kernel), fun _ => List.mem_of_getElem? (i := 13) (by decide +kernel)⟩
set_option maxRecDepth 20000 in
theorem hw_57 : hMw 57 := ⟨List.mem_of_getElem? (i := 902) rfl, List.mem_of_getElem? (i := 226) (by decide +kernel), List.mem_of_getElem? (i := 900) (by decide +kernel), fun _ => List.mem_of_getElem? (i := 901) (by decide +kernel)⟩
set_option maxRecDepth 20000 in
theorem hw_58 : hMw 58 := ⟨List.mem_of_getElem? (i := 906) rfl, List.mem_of_getElem? (i := 226) (by decide +kernel), List.mem_of_getElem? (i := 904) (by decide +kernel), fun _ => List.mem_of_getElem? (i := 905) (by decide +kernel)⟩
set_option maxRecDepth 20000 in
theorem hw_59 : hMw 59 := ⟨List.mem_of_getElem? (i := 911) rfl, List.mem_of_getElem? (i := 231) (by decide +kernel), List.mem_of_getElem? (i := 910) (by decide +kernel), fun _ => List.mem_of_getElem? (i := 14) (by decide +kernel)⟩
set_option maxRecDepth 20000 in
theorem hw_60 : hMw 60 := ⟨List.mem_of_getElem? (i := 915) rfl, List.mem_of_getElem? (i := 231) (by decide +kernel), List.mem_of_getElem? (i := 914) (by decide +kernel), fun _ => List.mem_of_getElem? (i := 15) (by decide +kernel)⟩
set_option maxRecDepth 20000 in
theorem hw_61 : hMw 61 := ⟨List.mem_of_getElem? (i := 921) rfl, List.mem_of_getElem? (i := 232) (by decide +kernel), List.mem_of_getElem? (i := 919) (by decide +kernel), fun _ => List.mem_of_getElem? (i := 920) (by decide +kernel)⟩
set_option maxRecDepth 20000 in
theorem hw_62 : hMw 62 := ⟨List.mem_of_getElem? (i := 925) rfl, List.mem_of_getElem? (i := 231) (by decide +kernel), List.mem_of_getElem? (i := 924) (by decide +kernel), fun _ => List.mem_of_getElem? (i := 16) (by decide +kernel)⟩
set_option maxRecDepth 20000 in
theorem hw_63 : hMw 63 := ⟨List.mem_of_getElem? (i := 929) rfl, List.mem_of_getElem? (i := 233) (by decide +kernel), List.mem_of_getElem? (i := 927) (by decide +kernel), fun _ => List.mem_of_getElem? (i := 928) (by decide +kernel)⟩
set_option maxRecDepth 20000 in
theorem hw_64 : hMw 64 := ⟨List.mem_of_getElem? (i := 933) rfl, List.mem_of_getElem? (i := 231) (by decide +kernel), List.mem_of_getElem? (i := 932) (by decide +kernel), fun _ => List.mem_of_getElem? (i := 17) (by decide +kernel)⟩
set_option maxRecDepth 20000 in
theorem hw_65 : hMw 65 := ⟨List.mem_of_getElem? (i := 937) rfl, List.mem_of_getElem? (i := 226) (by decide +kernel), List.mem_of_getElem? (i := 935) (by decide +kernel), fun _ => List.mem_of_getElem? (i := 936) (by decide +kernel)⟩
set_option maxRecDepth 20000 in
theorem hw_66 : hMw 66 := ⟨List.mem_of_getElem? (i := 940) rfl, List.mem_of_getElem? (i := 231) (by decide +kernel), List.mem_of_getElem? (i := 939) (by decide +kernel), fun h => absurd h (by decide)⟩
set_option maxRecDepth 20000 in
theorem hw_67 : hMw 67 := ⟨List.mem_of_getElem? (i := 945) rfl, List.mem_of_getElem? (i := 231) (by decide +kernel), List.mem_of_getElem? (i := 944) (by decide +kernel), fun _ => List.mem_of_getElem? (i := 18) (by decide +kernel)⟩
set_option maxRecDepth 20000 in
theorem hw_68 : hMw 68 := ⟨List.mem_of_getElem? (i := 950) rfl, List.mem_of_getElem? (i := 231) (by decide +kernel), List.mem_of_getElem? (i := 949) (by decide +kernel), fun _ => List.mem_of_getElem? (i := 19) (by decide +kernel)⟩
set_option maxRecDepth 20000 in
theorem hw_69 : hMw 69 := ⟨List.mem_of_getElem? (i := 954) rfl, List.mem_of_getElem? (i := 231) (by decide +kernel), List.mem_of_getElem? (i := 953) (by decide +kernel), fun _ => List.mem_of_getElem? (i := 20) (by decide +kernel)⟩
set_option maxRecDepth 20000 in
theorem hw_70 : hMw 70 := ⟨List.mem_of_getElem? (i := 957) rfl, List.mem_of_getElem? (i := 238) (by decide +kernel), List.mem_of_getElem? (i := 956) (by decide +kernel), fun h => absurd h (by decide)⟩
set_option maxRecDepth 20000 in
theorem hw_71 : hMw 71 := ⟨List.mem_of_getElem? (i := 962) rfl, List.mem_of_getElem? (i := 226) (by decide +kernel), List.mem_of_getElem? (i := 960) (by decide +kernel), fun _ => List.mem_of_getElem? (i := 961) (by decide +kernel)⟩
set_option maxRecDepth 20000 in
theorem hw_72 : hMw 72 := ⟨List.mem_of_getElem? (i := 965) rfl, List.mem_of_getElem? (i := 224) (by decide +kernel), List.mem_of_getElem? (i := 964) (by decide +kernel), fun h => absurd h (by decide)⟩
set_option maxRecDepth 20000 in
theorem hw_73 : hMw 73 := ⟨List.mem_of_getElem? (i := 970) rfl, List.mem_of_getElem? (i := 226) (by decide +kernel), List.mem_of_getElem? (i := 968) (by decide +kernel), fun _ => List.mem_of_getElem? (i := 969) (by decide +kernel)⟩
set_option maxRecDepth 20000 in
theorem hw_74 : hMw 74 := ⟨List.mem_of_getElem? (i := 974) rfl, List.mem_of_getElem? (i := 230) (by decide +kernel), List.mem_of_getElem? (i := 972) (by decide +kernel), fun _ => List.mem_of_getElem? (i := 973) (by decide +kernel)⟩
set_option maxRecDepth 20000 in
theorem hw_75 : hMw 75 := ⟨List.mem_of_getElem? (i := 978) rfl, List.mem_of_getElem? (i := 226) (by decide +kernel), List.mem_of_getElem? (i := 976) (by decide +kernel), fun _ => List.mem_of_getElem? (i := 977) (by decide +kernel)⟩
set_option maxRecDepth 20000 in
theorem hw_76 : hMw 76 := ⟨List.mem_of_getElem? (i := 984) rfl, List.mem_of_getElem? (i := 232) (by decide +kernel), List.mem_of_getElem? (i := 982) (by decide +kernel), fun _ => List.mem_of_getElem? (i := 983) (by decide +kernel)⟩
set_option maxRecDepth 20000 in
theorem hw_77 : hMw 77 := ⟨List.mem_of_getElem? (i := 989) rfl, List.mem_of_getElem? (i := 231) (by decide +kernel), List.mem_of_getElem? (i := 988) (by decide +kernel), fun _ => List.mem_of_getElem? (i := 21) (by decide +kernel)⟩
set_option maxRecDepth 20000 in
theorem hw_78 : hMw 78 := ⟨List.mem_of_getElem? (i := 994) rfl, List.mem_of_getElem? (i := 231) (by decide +kernel), List.mem_of_getElem? (i := 993) (by decide +kernel), fun _ => List.mem_of_getElem? (i := 22) (by decide +kernel)⟩
set_option maxRecDepth 20000 in
theorem hw_79 : hMw 79 := ⟨List.mem_of_getElem? (i := 998) rfl, List.mem_of_getElem? (i := 231) (by decide +kernel), List.mem_of_getElem? (i := 997) (by decide +kernel), fun _ => List.mem_of_getElem? (i := 23) (by decide +kernel)⟩
set_option maxRecDepth 20000 in
theorem hw_80 : hMw 80 := ⟨List.mem_of_getElem? (i := 1001) rfl, List.mem_of_getElem? (i := 238) (by decide +kernel), List.mem_of_getElem? (i := 1000) (by decide +kernel), fun h => absurd h (by decide)⟩
set_option maxRecDepth 20000 in
theorem hw_81 : hMw 81 := ⟨List.mem_of_getElem? (i := 1005) rfl, List.mem_of_getElem? (i := 231) (by decide +kernel), List.mem_of_getElem? (i := 1004) (by decide +kernel), fun _ => List.mem_of_getElem? (i := 24) (by decide +kernel)⟩
set_option maxRecDepth 20000 in
theorem hw_82 : hMw 82 := ⟨List.mem_of_getElem? (i := 1011) rfl, List.mem_of_getElem? (i := 231) (by decide +kernel), List.mem_of_getElem? (i := 1010) (by decide +kernel), fun _ => List.mem_of_getElem? (i := 25) (by decide +kernel)⟩
set_option maxRecDepth 20000 in
theorem hw_83 : hMw 83 := ⟨List.mem_of_getElem? (i := 1016) rfl, List.mem_of_getElem? (i := 231) (by decide +kernel), List.mem_of_getElem? (i := 1015) (by decide +kernel), fun _ => List.mem_of_getElem? (i := 26) (by decide +kernel)⟩
set_option maxRecDepth 20000 in
theorem hw_84 : hMw 84 := ⟨List.mem_of_getElem? (i := 1020) rfl, List.mem_of_getElem? (i := 231) (by decide +kernel), List.mem_of_getElem? (i := 1019) (by decide +kernel), fun _ => List.mem_of_getElem? (i := 27) (by decide +kernel)⟩
set_option maxRecDepth 20000 in
theorem hw_85 : hMw 85 := ⟨List.mem_of_getElem? (i := 1024) rfl, List.mem_of_getElem? (i := 231) (by decide +kernel), List.mem_of_getElem? (i := 1023) (by decide +kernel), fun _ => List.mem_of_getElem? (i := 28) (by decide +kernel)⟩
set_option maxRecDepth 20000 in
theorem hw_86 : hMw 86 := ⟨List.mem_of_getElem? (i := 1028) rfl, List.mem_of_getElem? (i := 231) (by decide +kernel), List.mem_of_getElem? (i := 1027) (by decide +kernel), fun _ => List.mem_of_getElem? (i := 29) (by decide +kernel)⟩
set_option maxRecDepth 20000 in
theorem hw_87 : hMw 87 := ⟨List.mem_of_getElem? (i := 1032) rfl, List.mem_of_getElem? (i := 226) (by decide +kernel), List.mem_of_getElem? (i := 1030) (by decide +kernel), fun _ => List.mem_of_getElem? (i := 1031) (by decide +kernel)⟩
set_option maxRecDepth 20000 in
theorem hw_88 : hMw 88 := ⟨List.mem_of_getElem? (i := 1036) rfl, List.mem_of_getElem? (i := 231) (by decide +kernel), List.mem_of_getElem? (i := 1035) (by decide +kernel), fun _ => List.mem_of_getElem? (i := 30) (by decide +kernel)⟩
set_option maxRecDepth 20000 in
theorem hw_89 : hMw 89 := ⟨List.mem_of_getElem? (i := 1040) rfl, List.mem_of_getElem? (i := 231) (by decide +kernel), List.mem_of_getElem? (i := 1039) (by decide +kernel), fun _ => List.mem_of_getElem? (i := 31) (by decide +kernel)⟩
set_option maxRecDepth 20000 in
theorem hw_90 : hMw 90 := ⟨List.mem_of_getElem? (i := 1043) rfl, List.mem_of_getElem? (i := 231) (by decide +kernel), List.mem_of_getElem? (i := 1042) (by decide +kernel), fun h => absurd h (by decide)⟩
set_option maxRecDepth 20000 in
theorem hw_91 : hMw 91 := ⟨List.mem_of_getElem? (i := 1047) rfl, List.mem_of_getElem? (i := 224) (by decide +kernel), List.mem_of_getElem? (i := 1046) (by decide +kernel), fun h => absurd h (by decide)⟩
set_option maxRecDepth 20000 in
theorem hw_92 : hMw 92 := ⟨List.mem_of_getElem? (i := 1069) rfl, List.mem_of_getElem? (i := 239) (by decide +kernel), List.mem_of_getElem? (i := 1068) (by decide +kernel), fun h => absurd h (by decide)⟩
set_option maxRecDepth 20000 in
theorem hw_93 : hMw 93 := ⟨List.mem_of_getElem? (i := 1098) rfl, List.mem_of_getElem? (i := 240) (by decide +kernel), List.mem_of_getElem? (i := 1097) (by decide +kernel), fun h => absurd h (by decide)⟩
set_option maxRecDepth 20000 in
theorem hw_94 : hMw 94 := ⟨List.mem_of_getElem? (i := 1107) rfl, List.mem_of_getElem? (i := 241) (by decide +kernel), List.mem_of_getElem? (i := 1106) (by decide +kernel), fun h => absurd h (by decide)⟩
set_option maxRecDepth 20000 in
theorem hw_95 : hMw 95 := ⟨List.mem_of_getElem? (i := 1196) rfl, List.mem_of_getElem? (i := 224) (by decide +kernel), List.mem_of_getElem? (i := 1194) (by decide +kernel), fun _ => List.mem_of_getElem? (i := 1195) (by decide +kernel)⟩
set_option maxRecDepth 20000 in
theorem hw_96 : hMw 96 := ⟨List.mem_of_getElem? (i := 1202) rfl, List.mem_of_getElem? (i := 224) (by decide +kernel), List.mem_of_getElem? (i := 1200) (by decide +kernel), fun _ => List.mem_of_getElem? (i := 1201) (by decide +kernel)⟩
set_option maxRecDepth 20000 in
theorem hw_97 : hMw 97 := ⟨List.mem_of_getElem? (i := 1206) rfl, List.mem_of_getElem? (i := 225) (by decide +kernel), List.mem_of_getElem? (i := 1204) (by decide +kernel), fun _ => List.mem_of_getElem? (i := 1205) (by decide +kernel)⟩
set_option maxRecDepth 20000 in
theorem hw_98 : hMw 98 := ⟨List.mem_of_getElem? (i := 1210) rfl, List.mem_of_getElem? (i := 240) (by decide +kernel), List.mem_of_getElem? (i := 1208) (by decide +kernel), fun _ => List.mem_of_getElem? (i := 1209) (by decide +kernel)⟩
set_option maxRecDepth 20000 in
theorem hw_99 : hMw 99 := ⟨List.mem_of_getElem? (i := 1218) rfl, List.mem_of_getElem? (i := 240) (by decide +kernel), List.mem_of_getElem? (i := 1216) (by decide +kernel), fun _ => List.mem_of_getElem? (i := 1217) (by decide +kernel)⟩
set_option maxRecDepth 20000 in
theorem hw_100 : hMw 100 := ⟨List.mem_of_getElem? (i := 1222) rfl, List.mem_of_getElem? (i := 240) (by decide +kernel), List.mem_of_getElem? (i := 1220) (by decide +kernel), fun _ => List.mem_of_getElem? (i := 1221) (by decide +kernel)⟩
set_option maxRecDepth 20000 in
theorem hw_101 : hMw 101 := ⟨List.mem_of_getElem? (i := 1226) rfl, List.mem_of_getElem? (i := 240) (by decide +kernel), List.mem_of_getElem? (i := 1225) (by decide +kernel), fun _ => List.mem_of_getElem? (i := 32) (by decide +kernel)⟩
set_option maxRecDepth 20000 in
theorem hw_102 : hMw 102 := ⟨List.mem_of_getElem? (i := 1230) rfl, List.mem_of_getElem? (i := 240) (by decide +kernel), List.mem_of_getElem? (i := 1229) (by decide +kernel), fun _ => List.mem_of_getElem? (i := 33) (by decide +kernel)⟩
set_option maxRecDepth 20000 in
theorem hw_103 : hMw 103 := ⟨List.mem_of_getElem? (i := 1234) rfl, List.mem_of_getElem? (i := 241) (by decide +kernel), List.mem_of_getElem? (i := 1232) (by decide +kernel), fun _ => List.mem_of_getElem? (i := 1233) (by decide +kernel)⟩
set_option maxRecDepth 20000 in
theorem hw_104 : hMw 104 := ⟨List.mem_of_getElem? (i := 1238) rfl, List.mem_of_getElem? (i := 241) (by decide +kernel), List.mem_of_getElem? (i := 1236) (by decide +kernel), fun _ => List.mem_of_getElem? (i := 1237) (by decide +kernel)⟩
set_option maxRecDepth 20000 in
theorem hw_105 : hMw 105 := ⟨List.mem_of_getElem? (i := 1243) rfl, List.mem_of_getElem? (i := 241) (by decide +kernel), List.mem_of_getElem? (i := 1241) (by decide +kernel), fun _ => List.mem_of_getElem? (i := 1242) (by decide +kernel)⟩
set_option maxRecDepth 20000 in
theorem hw_106 : hMw 106 := ⟨List.mem_of_getElem? (i := 1247) rfl, List.mem_of_getElem? (i := 241) (by decide +kernel), List.mem_of_getElem? (i := 1245) (by decide +kernel), fun _ => List.mem_of_getElem? (i := 1246) (by decide +kernel)⟩
set_option maxRecDepth 20000 in
theorem hw_107 : hMw 107 := ⟨List.mem_of_getElem? (i := 1251) rfl, List.mem_of_getElem? (i := 230) (by decide +kernel), List.mem_of_getElem? (i := 1249) (by decide +kernel), fun _ => List.mem_of_getElem? (i := 1250) (by decide +kernel)⟩
set_option maxRecDepth 20000 in
theorem hw_108 : hMw 108 := ⟨List.mem_of_getElem? (i := 1259) rfl, List.mem_of_getElem? (i := 241) (by decide +kernel), List.mem_of_getElem? (i := 1257) (by decide +kernel), fun _ => List.mem_of_getElem? (i := 1258) (by decide +kernel)⟩
set_option maxRecDepth 20000 in
theorem hw_109 : hMw 109 := ⟨List.mem_of_getElem? (i := 1265) rfl, List.mem_of_getElem? (i := 240) (by decide +kernel), List.mem_of_getElem? (i := 1264) (by decide +kernel), fun _ => List.mem_of_getElem? (i := 34) (by decide +kernel)⟩
set_option maxRecDepth 20000 in
theorem hw_110 : hMw 110 := ⟨List.mem_of_getElem? (i := 1270) rfl, List.mem_of_getElem? (i := 240) (by decide +kernel), List.mem_of_getElem? (i := 1269) (by decide +kernel), fun _ => List.mem_of_getElem? (i := 35) (by decide +kernel)⟩
set_option maxRecDepth 20000 in
theorem hw_111 : hMw 111 := ⟨List.mem_of_getElem? (i := 1274) rfl, List.mem_of_getElem? (i := 240) (by decide +kernel), List.mem_of_getElem? (i := 1273) (by decide +kernel), fun _ => List.mem_of_getElem? (i := 36) (by decide +kernel)⟩
set_option maxRecDepth 20000 in
theorem hw_112 : hMw 112 := ⟨List.mem_of_getElem? (i := 1280) rfl, List.mem_of_getElem? (i := 241) (by decide +kernel), List.mem_of_getElem? (i := 1278) (by decide +kernel), fun _ => List.mem_of_getElem? (i := 1279) (by decide +kernel)⟩
set_option maxRecDepth 20000 in
theorem hw_113 : hMw 113 := ⟨List.mem_of_getElem? (i := 1285) rfl, List.mem_of_getElem? (i := 240) (by decide +kernel), List.mem_of_getElem? (i := 1283) (by decide +kernel), fun _ => List.mem_of_getElem? (i := 1284) (by decide +kernel)⟩
set_option maxRecDepth 20000 in
theorem hw_114 : hMw 114 := ⟨List.mem_of_getElem? (i := 1289) rfl, List.mem_of_getElem? (i := 241) (by decide +kernel), List.mem_of_getElem? (i := 1287) (by decide +kernel), fun _ => List.mem_of_getElem? (i := 1288) (by decide +kernel)⟩
set_option maxRecDepth 20000 in
theorem hw_115 : hMw 115 := ⟨List.mem_of_getElem? (i := 1294) rfl, List.mem_of_getElem? (i := 241) (by decide +kernel), List.mem_of_getElem? (i := 1292) (by decide +kernel), fun _ => List.mem_of_getElem? (i := 1293) (by decide +kernel)⟩
set_option maxRecDepth 20000 in
theorem hw_116 : hMw 116 := ⟨List.mem_of_getElem? (i := 1323) rfl, List.mem_of_getElem? (i := 239) (by decide +kernel), List.mem_of_getElem? (i := 1321) (by decide +kernel), fun _ => List.mem_of_getElem? (i := 1322) (by decide +kernel)⟩
set_option maxRecDepth 20000 in
theorem hw_117 : hMw 117 := ⟨List.mem_of_getElem? (i := 1327) rfl, List.mem_of_getElem? (i := 225) (by decide +kernel), List.mem_of_getElem? (i := 1325) (by decide +kernel), fun _ => List.mem_of_getElem? (i := 1326) (by decide +kernel)⟩
set_option maxRecDepth 20000 in
theorem hw_118 : hMw 118 := ⟨List.mem_of_getElem? (i := 1331) rfl, List.mem_of_getElem? (i := 225) (by decide +kernel), List.mem_of_getElem? (i := 1329) (by decide +kernel), fun _ => List.mem_of_getElem? (i := 1330) (by decide +kernel)⟩
set_option maxRecDepth 20000 in
theorem hw_119 : hMw 119 := ⟨List.mem_of_getElem? (i := 1340) rfl, List.mem_of_getElem? (i := 225) (by decide +kernel), List.mem_of_getElem? (i := 1339) (by decide +kernel), fun _ => List.mem_of_getElem? (i := 37) (by decide +kernel)⟩
set_option maxRecDepth 20000 in
theorem hw_120 : hMw 120 := ⟨List.mem_of_getElem? (i := 1345) rfl, List.mem_of_getElem? (i := 225) (by decide +kernel), List.mem_of_getElem? (i := 1344) (by decide +kernel), fun _ => List.mem_of_getElem? (i := 38) (by decide +kernel)⟩
set_option maxRecDepth 20000 in
theorem hw_121 : hMw 121 := ⟨List.mem_of_getElem? (i := 1349) rfl, List.mem_of_getElem? (i := 225) (by decide +kernel), List.mem_of_getElem? (i := 1347) (by decide +kernel), fun _ => List.mem_of_getElem? (i := 1348) (by decide +kernel)⟩
set_option maxRecDepth 20000 in
theorem hw_122 : hMw 122 := ⟨List.mem_of_getElem? (i := 1353) rfl, List.mem_of_getElem? (i := 225) (by decide +kernel), List.mem_of_getElem? (i := 1351) (by decide +kernel), fun _ => List.mem_of_getElem? (i := 1352) (by decide +kernel)⟩
set_option maxRecDepth 20000 in
theorem hw_123 : hMw 123 := ⟨List.mem_of_getElem? (i := 1357) rfl, List.mem_of_getElem? (i := 225) (by decide +kernel), List.mem_of_getElem? (i := 1355) (by decide +kernel), fun _ => List.mem_of_getElem? (i := 1356) (by decide +kernel)⟩
set_option maxRecDepth 20000 in
theorem hw_124 : hMw 124 := ⟨List.mem_of_getElem? (i := 1361) rfl, List.mem_of_getElem? (i := 231) (by decide +kernel), List.mem_of_getElem? (i := 1359) (by decide +kernel), fun _ => List.mem_of_getElem? (i := 1360) (by decide +kernel)⟩
set_option maxRecDepth 20000 in
theorem hw_125 : hMw 125 := ⟨List.mem_of_getElem? (i := 1365) rfl, List.mem_of_getElem? (i := 225) (by decide +kernel), List.mem_of_getElem? (i := 1364) (by decide +kernel), fun _ => List.mem_of_getElem? (i := 39) (by decide +kernel)⟩
set_option maxRecDepth 20000 in
theorem hw_126 : hMw 126 := ⟨List.mem_of_getElem? (i := 1369) rfl, List.mem_of_getElem? (i := 225) (by decide +kernel), List.mem_of_getElem? (i := 1368) (by decide +kernel), fun _ => List.mem_of_getElem? (i := 40) (by decide +kernel)⟩
set_option maxRecDepth 20000 in
theorem hw_127 : hMw 127 := ⟨List.mem_of_getElem? (i := 1373) rfl, List.mem_of_getElem? (i := 225) (by decide +kernel), List.mem_of_getElem? (i := 1371) (by decide +kernel), fun _ => List.mem_of_getElem? (i := 1372) (by decide +kernel)⟩
set_option maxRecDepth 20000 in
theorem hw_128 : hMw 128 := ⟨List.mem_of_getElem? (i := 1380) rfl, List.mem_of_getElem? (i := 229) (by decide +kernel), List.mem_of_getElem? (i := 1378) (by decide +kernel), fun _ => List.mem_of_getElem? (i := 1379) (by decide +kernel)⟩
set_option maxRecDepth 20000 in
theorem hw_129 : hMw 129 := ⟨List.mem_of_getElem? (i := 1384) rfl, List.mem_of_getElem? (i := 227) (by decide +kernel), List.mem_of_getElem? (i := 1382) (by decide +kernel), fun _ => List.mem_of_getElem? (i := 1383) (by decide +kernel)⟩
set_option maxRecDepth 20000 in
theorem hw_130 : hMw 130 := ⟨List.mem_of_getElem? (i := 1388) rfl, List.mem_of_getElem? (i := 228) (by decide +kernel), List.mem_of_getElem? (i := 1386) (by decide +kernel), fun _ => List.mem_of_getElem? (i := 1387) (by decide +kernel)⟩
set_option maxRecDepth 20000 in
theorem hw_131 : hMw 131 := ⟨List.mem_of_getElem? (i := 1393) rfl, List.mem_of_getElem? (i := 225) (by decide +kernel), List.mem_of_getElem? (i := 1391) (by decide +kernel), fun _ => List.mem_of_getElem? (i := 1392) (by decide +kernel)⟩
set_option maxRecDepth 20000 in
theorem hw_132 : hMw 132 := ⟨List.mem_of_getElem? (i := 1397) rfl, List.mem_of_getElem? (i := 225) (by decide +kernel), List.mem_of_getElem? (i := 1395) (by decide +kernel), fun _ => List.mem_of_getElem? (i := 1396) (by decide +kernel)⟩
set_option maxRecDepth 20000 in
theorem hw_133 : hMw 133 := ⟨List.mem_of_getElem? (i := 1403) rfl, List.mem_of_getElem? (i := 239) (by decide +kernel), List.mem_of_getElem? (i := 1401) (by decide +kernel), fun _ => List.mem_of_getElem? (i := 1402) (by decide +kernel)⟩
set_option maxRecDepth 20000 in
theorem hw_134 : hMw 134 := ⟨List.mem_of_getElem? (i := 1407) rfl, List.mem_of_getElem? (i := 239) (by decide +kernel), List.mem_of_getElem? (i := 1406) (by decide +kernel), fun _ => List.mem_of_getElem? (i := 41) (by decide +kernel)⟩
set_option maxRecDepth 20000 in
theorem hw_135 : hMw 135 := ⟨List.mem_of_getElem? (i := 1411) rfl, List.mem_of_getElem? (i := 225) (by decide +kernel), List.mem_of_getElem? (i := 1409) (by decide +kernel), fun _ => List.mem_of_getElem? (i := 1410) (by decide +kernel)⟩
set_option maxRecDepth 20000 in
theorem hw_136 : hMw 136 := ⟨List.mem_of_getElem? (i := 1415) rfl, List.mem_of_getElem? (i := 239) (by decide +kernel), List.mem_of_getElem? (i := 1414) (by decide +kernel), fun _ => List.mem_of_getElem? (i := 42) (by decide +kernel)⟩
set_option maxRecDepth 20000 in
theorem hw_137 : hMw 137 := ⟨List.mem_of_getElem? (i := 1422) rfl, List.mem_of_getElem? (i := 225) (by decide +kernel), List.mem_of_getElem? (i := 1420) (by decide +kernel), fun _ => List.mem_of_getElem? (i := 1421) (by decide +kernel)⟩
set_option maxRecDepth 20000 in
theorem hw_138 : hMw 138 := ⟨List.mem_of_getElem? (i := 1428) rfl, List.mem_of_getElem? (i := 239) (by decide +kernel), List.mem_of_getElem? (i := 1426) (by decide +kernel), fun _ => List.mem_of_getElem? (i := 1427) (by decide +kernel)⟩
set_option maxRecDepth 20000 in
theorem hw_139 : hMw 139 := ⟨List.mem_of_getElem? (i := 1432) rfl, List.mem_of_getElem? (i := 239) (by decide +kernel), List.mem_of_getElem? (i := 1431) (by decide +kernel), fun _ => List.mem_of_getElem? (i := 43) (by decide +kernel)⟩
set_option maxRecDepth 20000 in
theorem hw_140 : hMw 140 := ⟨List.mem_of_getElem? (i := 1436) rfl, List.mem_of_getElem? (i := 239) (by decide +kernel), List.mem_of_getElem? (i := 1435) (by decide +kernel), fun _ => List.mem_of_getElem? (i := 44) (by decide +kernel)⟩
set_option maxRecDepth 20000 in
theorem hw_141 : hMw 141 := ⟨List.mem_of_getElem? (i := 1443) rfl, List.mem_of_getElem? (i := 225) (by decide +kernel), List.mem_of_getElem? (i := 1441) (by decide +kernel), fun _ => List.mem_of_getElem? (i := 1442) (by decide +kernel)⟩
set_option maxRecDepth 20000 in
theorem hw_142 : hMw 142 := ⟨List.mem_of_getElem? (i := 1447) rfl, List.mem_of_getElem? (i := 239) (by decide +kernel), List.mem_of_getElem? (i := 1445) (by decide +kernel), fun _ => List.mem_of_getElem? (i := 1446) (by decide +kernel)⟩
set_option maxRecDepth 20000 in
theorem hw_143 : hMw 143 := ⟨List.mem_of_getElem? (i := 1457) rfl, List.mem_of_getElem? (i := 239) (by decide +kernel), List.mem_of_getElem? (i := 1456) (by decide +kernel), fun _ => List.mem_of_getElem? (i := 45) (by decide +kernel)⟩
set_option maxRecDepth 20000 in
theorem hw_144 : hMw 144 := ⟨List.mem_of_getElem? (i := 1463) rfl, List.mem_of_getElem? (i := 228) (by decide +kernel), List.mem_of_getElem? (i := 1461) (by decide +kernel), fun _ => List.mem_of_getElem? (i := 1462) (by decide +kernel)⟩
set_option maxRecDepth 20000 in
theorem hw_145 : hMw 145 := ⟨List.mem_of_getElem? (i := 1467) rfl, List.mem_of_getElem? (i := 225) (by decide +kernel), List.mem_of_getElem? (i := 1465) (by decide +kernel), fun _ => List.mem_of_getElem? (i := 1466) (by decide +kernel)⟩
set_option maxRecDepth 20000 in
theorem hw_146 : hMw 146 := ⟨List.mem_of_getElem? (i := 1473) rfl, List.mem_of_getElem? (i := 225) (by decide +kernel), List.mem_of_getElem? (i := 1471) (by decide +kernel), fun _ => List.mem_of_getElem? (i := 1472) (by decide +kernel)⟩
set_option maxRecDepth 20000 in
theorem hw_147 : hMw 147 := ⟨List.mem_of_getElem? (i := 1477) rfl, List.mem_of_getElem? (i := 239) (by decide +kernel), List.mem_of_getElem? (i := 1475) (by decide +kernel), fun _ => List.mem_of_getElem? (i := 1476) (by decide +kernel)⟩
set_option maxRecDepth 20000 in
theorem hw_148 : hMw 148 := ⟨List.mem_of_getElem? (i := 1482) rfl, List.mem_of_getElem? (i := 239) (by decide +kernel), List.mem_of_getElem? (i := 1480) (by decide +kernel), fun _ => List.mem_of_getElem? (i := 1481) (by decide +kernel)⟩
set_option maxRecDepth 20000 in
theorem hw_149 : hMw 149 := ⟨List.mem_of_getElem? (i := 1486) rfl, List.mem_of_getElem? (i := 241) (by decide +kernel), List.mem_of_getElem? (i := 1484) (by decide +kernel), fun _ => List.mem_of_getElem? (i := 1485) (by decide +kernel)⟩
set_option maxRecDepth 20000 in
theorem hw_150 : hMw 150 := ⟨List.mem_of_getElem? (i := 1490) rfl, List.mem_of_getElem? (i := 241) (by decide +kernel), List.mem_of_getElem? (i := 1489) (by decide +kernel), fun _ => List.mem_of_getElem? (i := 46) (by decide +kernel)⟩
set_option maxRecDepth 20000 in
theorem hw_151 : hMw 151 := ⟨List.mem_of_getElem? (i := 1494) rfl, List.mem_of_getElem? (i := 241) (by decide +kernel), List.mem_of_getElem? (i := 1492) (by decide +kernel), fun _ => List.mem_of_getElem? (i := 1493) (by decide +kernel)⟩
set_option maxRecDepth 20000 in
theorem hw_152 : hMw 152 := ⟨List.mem_of_getElem? (i := 1498) rfl, List.mem_of_getElem? (i := 230) (by decide +kernel), List.mem_of_getElem? (i := 1496) (by decide +kernel), fun _ => List.mem_of_getElem? (i := 1497) (by decide +kernel)⟩
set_option maxRecDepth 20000 in
theorem hw_153 : hMw 153 := ⟨List.mem_of_getElem? (i := 1502) rfl, List.mem_of_getElem? (i := 239) (by decide +kernel), List.mem_of_getElem? (i := 1501) (by decide +kernel), fun _ => List.mem_of_getElem? (i := 47) (by decide +kernel)⟩
set_option maxRecDepth 20000 in
theorem hw_154 : hMw 154 := ⟨List.mem_of_getElem? (i := 1506) rfl, List.mem_of_getElem? (i := 225) (by decide +kernel), List.mem_of_getElem? (i := 1504) (by decide +kernel), fun _ => List.mem_of_getElem? (i := 1505) (by decide +kernel)⟩
set_option maxRecDepth 20000 in
theorem hw_155 : hMw 155 := ⟨List.mem_of_getElem? (i := 1511) rfl, List.mem_of_getElem? (i := 230) (by decide +kernel), List.mem_of_getElem? (i := 1509) (by decide +kernel), fun _ => List.mem_of_getElem? (i := 1510) (by decide +kernel)⟩
set_option maxRecDepth 20000 in
theorem hw_156 : hMw 156 := ⟨List.mem_of_getElem? (i := 1516) rfl, List.mem_of_getElem? (i := 239) (by decide +kernel), List.mem_of_getElem? (i := 1514) (by decide +kernel), fun _ => List.mem_of_getElem? (i := 1515) (by decide +kernel)⟩
set_option maxRecDepth 20000 in
theorem hw_157 : hMw 157 := ⟨List.mem_of_getElem? (i := 1520) rfl, List.mem_of_getElem? (i := 239) (by decide +kernel), List.mem_of_getElem? (i := 1518) (by decide +kernel), fun _ => List.mem_of_getElem? (i := 1519) (by decide +kernel)⟩
set_option maxRecDepth 20000 in
theorem hw_158 : hMw 158 := ⟨List.mem_of_getElem? (i := 1527) rfl, List.mem_of_getElem? (i := 225) (by decide +kernel), List.mem_of_getElem? (i := 1525) (by decide +kernel), fun _ => List.mem_of_getElem? (i := 1526) (by decide +kernel)⟩
set_option maxRecDepth 20000 in
theorem hw_159 : hMw 159 := ⟨List.mem_of_getElem? (i := 1532) rfl, List.mem_of_getElem? (i := 239) (by decide +kernel), List.mem_of_getElem? (i := 1530) (by decide +kernel), fun _ => List.mem_of_getElem? (i := 1531) (by decide +kernel)⟩
set_option maxRecDepth 20000 in
theorem hw_160 : hMw 160 := ⟨List.mem_of_getElem? (i := 1536) rfl, List.mem_of_getElem? (i := 241) (by decide +kernel), List.mem_of_getElem? (i := 1534) (by decide +kernel), fun _ => List.mem_of_getElem? (i := 1535) (by decide +kernel)⟩
set_option maxRecDepth 20000 in
theorem hw_161 : hMw 161 := ⟨List.mem_of_getElem? (i := 1540) rfl, List.mem_of_getElem? (i := 239) (by decide +kernel), List.mem_of_getElem? (i := 1538) (by decide +kernel), fun _ => List.mem_of_getElem? (i := 1539) (by decide +kernel)⟩
set_option maxRecDepth 20000 in
theorem hw_162 : hMw 162 := ⟨List.mem_of_getElem? (i := 1545) rfl, List.mem_of_getElem? (i := 239) (by decide +kernel), List.mem_of_getElem? (i := 1543) (by decide +kernel), fun _ => List.mem_of_getElem? (i := 1544) (by decide +kernel)⟩
set_option maxRecDepth 20000 in
theorem hw_163 : hMw 163 := ⟨List.mem_of_getElem? (i := 1549) rfl, List.mem_of_getElem? (i := 239) (by decide +kernel), List.mem_of_getElem? (i := 1548) (by decide +kernel), fun _ => List.mem_of_getElem? (i := 48) (by decide +kernel)⟩
set_option maxRecDepth 20000 in
theorem hw_164 : hMw 164 := ⟨List.mem_of_getElem? (i := 1555) rfl, List.mem_of_getElem? (i := 239) (by decide +kernel), List.mem_of_getElem? (i := 1553) (by decide +kernel), fun _ => List.mem_of_getElem? (i := 1554) (by decide +kernel)⟩
set_option maxRecDepth 20000 in
theorem hw_165 : hMw 165 := ⟨List.mem_of_getElem? (i := 1559) rfl, List.mem_of_getElem? (i := 239) (by decide +kernel), List.mem_of_getElem? (i := 1557) (by decide +kernel), fun _ => List.mem_of_getElem? (i := 1558) (by decide +kernel)⟩
set_option maxRecDepth 20000 in
theorem hw_166 : hMw 166 := ⟨List.mem_of_getElem? (i := 1563) rfl, List.mem_of_getElem? (i := 230) (by decide +kernel), List.mem_of_getElem? (i := 1561) (by decide +kernel), fun _ => List.mem_of_getElem? (i := 1562) (by decide +kernel)⟩
set_option maxRecDepth 20000 in
theorem hw_167 : hMw 167 := ⟨List.mem_of_getElem? (i := 1567) rfl, List.mem_of_getElem? (i := 239) (by decide +kernel), List.mem_of_getElem? (i := 1565) (by decide +kernel), fun _ => List.mem_of_getElem? (i := 1566) (by decide +kernel)⟩
set_option maxRecDepth 20000 in
theorem hw_168 : hMw 168 := ⟨List.mem_of_getElem? (i := 1571) rfl, List.mem_of_getElem? (i := 239) (by decide +kernel), List.mem_of_getElem? (i := 1569) (by decide +kernel), fun _ => List.mem_of_getElem? (i := 1570) (by decide +kernel)⟩
set_option maxRecDepth 20000 in
theorem hw_169 : hMw 169 := ⟨List.mem_of_getElem? (i := 1575) rfl, List.mem_of_getElem? (i := 239) (by decide +kernel), List.mem_of_getElem? (i := 1573) (by decide +kernel), fun _ => List.mem_of_getElem? (i := 1574) (by decide +kernel)⟩
set_option maxRecDepth 20000 in
theorem hw_170 : hMw 170 := ⟨List.mem_of_getElem? (i := 1579) rfl, List.mem_of_getElem? (i := 225) (by decide +kernel), List.mem_of_getElem? (i := 1577) (by decide +kernel), fun _ => List.mem_of_getElem? (i := 1578) (by decide +kernel)⟩
set_option maxRecDepth 20000 in
theorem hw_171 : hMw 171 := ⟨List.mem_of_getElem? (i := 1585) rfl, List.mem_of_getElem? (i := 239) (by decide +kernel), List.mem_of_getElem? (i := 1583) (by decide +kernel), fun _ => List.mem_of_getElem? (i := 1584) (by decide +kernel)⟩
set_option maxRecDepth 20000 in
theorem hw_172 : hMw 172 := ⟨List.mem_of_getElem? (i := 1589) rfl, List.mem_of_getElem? (i := 241) (by decide +kernel), List.mem_of_getElem? (i := 1587) (by decide +kernel), fun _ => List.mem_of_getElem? (i := 1588) (by decide +kernel)⟩
set_option maxRecDepth 20000 in
theorem hw_173 : hMw 173 := ⟨List.mem_of_getElem? (i := 1593) rfl, List.mem_of_getElem? (i := 239) (by decide +kernel), List.mem_of_getElem? (i := 1592) (by decide +kernel), fun _ => List.mem_of_getElem? (i := 49) (by decide +kernel)⟩
set_option maxRecDepth 20000 in
theorem hw_174 : hMw 174 := ⟨List.mem_of_getElem? (i := 1597) rfl, List.mem_of_getElem? (i := 239) (by decide +kernel), List.mem_of_getElem? (i := 1596) (by decide +kernel), fun _ => List.mem_of_getElem? (i := 50) (by decide +kernel)⟩
set_option maxRecDepth 20000 in
theorem hw_175 : hMw 175 := ⟨List.mem_of_getElem? (i := 1602) rfl, List.mem_of_getElem? (i := 239) (by decide +kernel), List.mem_of_getElem? (i := 1601) (by decide +kernel), fun _ => List.mem_of_getElem? (i := 51) (by decide +kernel)⟩
set_option maxRecDepth 20000 in
theorem hw_176 : hMw 176 := ⟨List.mem_of_getElem? (i := 1606) rfl, List.mem_of_getElem? (i := 239) (by decide +kernel), List.mem_of_getElem? (i := 1605) (by decide +kernel), fun _ => List.mem_of_getElem? (i := 52) (by decide +kernel)⟩
set_option maxRecDepth 20000 in
theorem hw_177 : hMw 177 := ⟨List.mem_of_getElem? (i := 1611) rfl, List.mem_of_getElem? (i := 227) (by decide +kernel), List.mem_of_getElem? (i := 1609) (by decide +kernel), fun _ => List.mem_of_getElem? (i := 1610) (by decide +kernel)⟩
set_option maxRecDepth 20000 in
theorem hw_178 : hMw 178 := ⟨List.mem_of_getElem? (i := 1615) rfl, List.mem_of_getElem? (i := 225) (by decide +kernel), List.mem_of_getElem? (i := 1613) (by decide +kernel), fun _ => List.mem_of_getElem? (i := 1614) (by decide +kernel)⟩
set_option maxRecDepth 20000 in
theorem hw_179 : hMw 179 := ⟨List.mem_of_getElem? (i := 1619) rfl, List.mem_of_getElem? (i := 228) (by decide +kernel), List.mem_of_getElem? (i := 1617) (by decide +kernel), fun _ => List.mem_of_getElem? (i := 1618) (by decide +kernel)⟩
set_option maxRecDepth 20000 in
theorem hw_180 : hMw 180 := ⟨List.mem_of_getElem? (i := 1624) rfl, List.mem_of_getElem? (i := 239) (by decide +kernel), List.mem_of_getElem? (i := 1622) (by decide +kernel), fun _ => List.mem_of_getElem? (i := 1623) (by decide +kernel)⟩
set_option maxRecDepth 20000 in
theorem hw_181 : hMw 181 := ⟨List.mem_of_getElem? (i := 1629) rfl, List.mem_of_getElem? (i := 239) (by decide +kernel), List.mem_of_getElem? (i := 1627) (by decide +kernel), fun _ => List.mem_of_getElem? (i := 1628) (by decide +kernel)⟩
set_option maxRecDepth 20000 in
theorem hw_182 : hMw 182 := ⟨List.mem_of_getElem? (i := 1633) rfl, List.mem_of_getElem? (i := 239) (by decide +kernel), List.mem_of_getElem? (i := 1632) (by decide +kernel), fun _ => List.mem_of_getElem? (i := 53) (by decide +kernel)⟩
set_option maxRecDepth 20000 in
theorem hw_183 : hMw 183 := ⟨List.mem_of_getElem? (i := 1637) rfl, List.mem_of_getElem? (i := 228) (by decide +kernel), List.mem_of_getElem? (i := 1635) (by decide +kernel), fun _ => List.mem_of_getElem? (i := 1636) (by decide +kernel)⟩
set_option maxRecDepth 20000 in
theorem hw_184 : hMw 184 := ⟨List.mem_of_getElem? (i := 1641) rfl, List.mem_of_getElem? (i := 227) (by decide +kernel), List.mem_of_getElem? (i := 1639) (by decide +kernel), fun _ => List.mem_of_getElem? (i := 1640) (by decide +kernel)⟩
set_option maxRecDepth 20000 in
theorem hw_185 : hMw 185 := ⟨List.mem_of_getElem? (i := 1645) rfl, List.mem_of_getElem? (i := 239) (by decide +kernel), List.mem_of_getElem? (i := 1643) (by decide +kernel), fun _ => List.mem_of_getElem? (i := 1644) (by decide +kernel)⟩
set_option maxRecDepth 20000 in
theorem hw_186 : hMw 186 := ⟨List.mem_of_getElem? (i := 1652) rfl, List.mem_of_getElem? (i := 225) (by decide +kernel), List.mem_of_getElem? (i := 1650) (by decide +kernel), fun _ => List.mem_of_getElem? (i := 1651) (by decide +kernel)⟩
set_option maxRecDepth 20000 in
theorem hw_187 : hMw 187 := ⟨List.mem_of_getElem? (i := 1656) rfl, List.mem_of_getElem? (i := 225) (by decide +kernel), List.mem_of_getElem? (i := 1654) (by decide +kernel), fun _ => List.mem_of_getElem? (i := 1655) (by decide +kernel)⟩
set_option maxRecDepth 20000 in
theorem hw_188 : hMw 188 := ⟨List.mem_of_getElem? (i := 1660) rfl, List.mem_of_getElem? (i := 225) (by decide +kernel), List.mem_of_getElem? (i := 1658) (by decide +kernel), fun _ => List.mem_of_getElem? (i := 1659) (by decide +kernel)⟩
set_option maxRecDepth 20000 in
theorem hw_189 : hMw 189 := ⟨List.mem_of_getElem? (i := 1664) rfl, List.mem_of_getElem? (i := 227) (by decide +kernel), List.mem_of_getElem? (i := 1662) (by decide +kernel), fun _ => List.mem_of_getElem? (i := 1663) (by decide +kernel)⟩
set_option maxRecDepth 20000 in
theorem hw_190 : hMw 190 := ⟨List.mem_of_getElem? (i := 1670) rfl, List.mem_of_getElem? (i := 225) (by decide +kernel), List.mem_of_getElem? (i := 1669) (by decide +kernel), fun _ => List.mem_of_getElem? (i := 54) (by decide +kernel)⟩
set_option maxRecDepth 20000 in
theorem hw_191 : hMw 191 := ⟨List.mem_of_getElem? (i := 1674) rfl, List.mem_of_getElem? (i := 230) (by decide +kernel), List.mem_of_getElem? (i := 1672) (by decide +kernel), fun _ => List.mem_of_getElem? (i := 1673) (by decide +kernel)⟩
set_option maxRecDepth 20000 in
theorem hw_192 : hMw 192 := ⟨List.mem_of_getElem? (i := 1680) rfl, List.mem_of_getElem? (i := 230) (by decide +kernel), List.mem_of_getElem? (i := 1678) (by decide +kernel), fun _ => List.mem_of_getElem? (i := 1679) (by decide +kernel)⟩
set_option maxRecDepth 20000 in
theorem hw_193 : hMw 193 := ⟨List.mem_of_getElem? (i := 1687) rfl, List.mem_of_getElem? (i := 231) (by decide +kernel), List.mem_of_getElem? (i := 1685) (by decide +kernel), fun _ => List.mem_of_getElem? (i := 1686) (by decide +kernel)⟩
set_option maxRecDepth 20000 in
theorem hw_194 : hMw 194 := ⟨List.mem_of_getElem? (i := 1694) rfl, List.mem_of_getElem? (i := 239) (by decide +kernel), List.mem_of_getElem? (i := 1692) (by decide +kernel), fun _ => List.mem_of_getElem? (i := 1693) (by decide +kernel)⟩
set_option maxRecDepth 20000 in
theorem hw_195 : hMw 195 := ⟨List.mem_of_getElem? (i := 1698) rfl, List.mem_of_getElem? (i := 239) (by decide +kernel), List.mem_of_getElem? (i := 1696) (by decide +kernel), fun _ => List.mem_of_getElem? (i := 1697) (by decide +kernel)⟩
set_option maxRecDepth 20000 in
theorem hw_196 : hMw 196 := ⟨List.mem_of_getElem? (i := 1705) rfl, List.mem_of_getElem? (i := 240) (by decide +kernel), List.mem_of_getElem? (i := 1703) (by decide +kernel), fun _ => List.mem_of_getElem? (i := 1704) (by decide +kernel)⟩
set_option maxRecDepth 20000 in
theorem hw_197 : hMw 197 := ⟨List.mem_of_getElem? (i := 1712) rfl, List.mem_of_getElem? (i := 241) (by decide +kernel), List.mem_of_getElem? (i := 1710) (by decide +kernel), fun _ => List.mem_of_getElem? (i := 1711) (by decide +kernel)⟩
set_option maxRecDepth 20000 in
theorem hw_198 : hMw 198 := ⟨List.mem_of_getElem? (i := 1716) rfl, List.mem_of_getElem? (i := 240) (by decide +kernel), List.mem_of_getElem? (i := 1714) (by decide +kernel), fun _ => List.mem_of_getElem? (i := 1715) (by decide +kernel)⟩
set_option maxRecDepth 20000 in
theorem hw_199 : hMw 199 := ⟨List.mem_of_getElem? (i := 1722) rfl, List.mem_of_getElem? (i := 239) (by decide +kernel), List.mem_of_getElem? (i := 1720) (by decide +kernel), fun _ => List.mem_of_getElem? (i := 1721) (by decide +kernel)⟩
set_option maxRecDepth 20000 in
theorem hw_200 : hMw 200 := ⟨List.mem_of_getElem? (i := 1727) rfl, List.mem_of_getElem? (i := 225) (by decide +kernel), List.mem_of_getElem? (i := 1725) (by decide +kernel), fun _ => List.mem_of_getElem? (i := 1726) (by decide +kernel)⟩
set_option maxRecDepth 20000 in
theorem hw_201 : hMw 201 := ⟨List.mem_of_getElem? (i := 1731) rfl, List.mem_of_getElem? (i := 225) (by decide +kernel), List.mem_of_getElem? (i := 1730) (by decide +kernel), fun _ => List.mem_of_getElem? (i := 55) (by decide +kernel)⟩
set_option maxRecDepth 20000 in
theorem hw_202 : hMw 202 := ⟨List.mem_of_getElem? (i := 1737) rfl, List.mem_of_getElem? (i := 231) (by decide +kernel), List.mem_of_getElem? (i := 1735) (by decide +kernel), fun _ => List.mem_of_getElem? (i := 1736) (by decide +kernel)⟩
set_option maxRecDepth 20000 in
theorem hw_203 : hMw 203 := ⟨List.mem_of_getElem? (i := 1741) rfl, List.mem_of_getElem? (i := 240) (by decide +kernel), List.mem_of_getElem? (i := 1739) (by decide +kernel), fun _ => List.mem_of_getElem? (i := 1740) (by decide +kernel)⟩
set_option maxRecDepth 20000 in
theorem hw_204 : hMw 204 := ⟨List.mem_of_getElem? (i := 1745) rfl, List.mem_of_getElem? (i := 224) (by decide +kernel), List.mem_of_getElem? (i := 1743) (by decide +kernel), fun _ => List.mem_of_getElem? (i := 1744) (by decide +kernel)⟩
set_option maxRecDepth 20000 in
theorem hw_205 : hMw 205 := ⟨List.mem_of_getElem? (i := 1749) rfl, List.mem_of_getElem? (i := 225) (by decide +kernel), List.mem_of_getElem? (i := 1747) (by decide +kernel), fun _ => List.mem_of_getElem? (i := 1748) (by decide +kernel)⟩
set_option maxRecDepth 20000 in
theorem hw_206 : hMw 206 := ⟨List.mem_of_getElem? (i := 1757) rfl, List.mem_of_getElem? (i := 224) (by decide +kernel), List.mem_of_getElem? (i := 1755) (by decide +kernel), fun _ => List.mem_of_getElem? (i := 1756) (by decide +kernel)⟩
set_option maxRecDepth 20000 in
theorem hw_207 : hMw 207 := ⟨List.mem_of_getElem? (i := 1762) rfl, List.mem_of_getElem? (i := 224) (by decide +kernel), List.mem_of_getElem? (i := 1760) (by decide +kernel), fun _ => List.mem_of_getElem? (i := 1761) (by decide +kernel)⟩
set_option maxRecDepth 20000 in
theorem hw_208 : hMw 208 := ⟨List.mem_of_getElem? (i := 1766) rfl, List.mem_of_getElem? (i := 224) (by decide +kernel), List.mem_of_getElem? (i := 1764) (by decide +kernel), fun _ => List.mem_of_getElem? (i := 1765) (by decide +kernel)⟩
set_option maxRecDepth 20000 in
theorem hw_209 : hMw 209 := ⟨List.mem_of_getElem? (i := 1769) rfl, List.mem_of_getElem? (i := 224) (by decide +kernel), List.mem_of_getElem? (i := 1768) (by decide +kernel), fun h => absurd h (by decide)⟩
set_option maxRecDepth 20000 in
theorem hw_210 : hMw 210 := ⟨List.mem_of_getElem? (i := 1774) rfl, List.mem_of_getElem? (i := 224) (by decide +kernel), List.mem_of_getElem? (i := 1772) (by decide +kernel), fun _ => List.mem_of_getElem? (i := 1773) (by decide +kernel)⟩
set_option maxRecDepth 20000 in
theorem hw_211 : hMw 211 := ⟨List.mem_of_getElem? (i := 1778) rfl, List.mem_of_getElem? (i := 224) (by decide +kernel), List.mem_of_getElem? (i := 1776) (by decide +kernel), fun _ => List.mem_of_getElem? (i := 1777) (by decide +kernel)⟩
set_option maxRecDepth 20000 in
theorem hw_212 : hMw 212 := ⟨List.mem_of_getElem? (i := 1782) rfl, List.mem_of_getElem? (i := 224) (by decide +kernel), List.mem_of_getElem? (i := 1780) (by decide +kernel), fun _ => List.mem_of_getElem? (i := 1781) (by decide +kernel)⟩
set_option maxRecDepth 20000 in
theorem hw_213 : hMw 213 := ⟨List.mem_of_getElem? (i := 1786) rfl, List.mem_of_getElem? (i := 225) (by decide +kernel), List.mem_of_getElem? (i := 1784) (by decide +kernel), fun _ => List.mem_of_getElem? (i := 1785) (by decide +kernel)⟩
set_option maxRecDepth 20000 in
theorem hw_214 : hMw 214 := ⟨List.mem_of_getElem? (i := 1790) rfl, List.mem_of_getElem? (i := 224) (by decide +kernel), List.mem_of_getElem? (i := 1788) (by decide +kernel), fun _ => List.mem_of_getElem? (i := 1789) (by decide +kernel)⟩
set_option maxRecDepth 20000 in
theorem hw_215 : hMw 215 := ⟨List.mem_of_getElem? (i := 1794) rfl, List.mem_of_getElem? (i := 224) (by decide +kernel), List.mem_of_getElem? (i := 1792) (by decide +kernel), fun _ => List.mem_of_getElem? (i := 1793) (by decide +kernel)⟩
set_option maxRecDepth 20000 in
theorem hw_216 : hMw 216 := ⟨List.mem_of_getElem? (i := 1798) rfl, List.mem_of_getElem? (i := 224) (by decide +kernel), List.mem_of_getElem? (i := 1796) (by decide +kernel), fun _ => List.mem_of_getElem? (i := 1797) (by decide +kernel)⟩
set_option maxRecDepth 20000 in
theorem hw_217 : hMw 217 := ⟨List.mem_of_getElem? (i := 1804) rfl, List.mem_of_getElem? (i := 224) (by decide +kernel), List.mem_of_getElem? (i := 1802) (by decide +kernel), fun _ => List.mem_of_getElem? (i := 1803) (by decide +kernel)⟩
set_option maxRecDepth 20000 in
theorem hw_218 : hMw 218 := ⟨List.mem_of_getElem? (i := 1808) rfl, List.mem_of_getElem? (i := 224) (by decide +kernel), List.mem_of_getElem? (i := 1806) (by decide +kernel), fun _ => List.mem_of_getElem? (i := 1807) (by decide +kernel)⟩
set_option maxRecDepth 20000 in
theorem hw_219 : hMw 219 := ⟨List.mem_of_getElem? (i := 1814) rfl, List.mem_of_getElem? (i := 224) (by decide +kernel), List.mem_of_getElem? (i := 1812) (by decide +kernel), fun _ => List.mem_of_getElem? (i := 1813) (by decide +kernel)⟩
set_option maxRecDepth 20000 in
theorem hw_220 : hMw 220 := ⟨List.mem_of_getElem? (i := 1818) rfl, List.mem_of_getElem? (i := 224) (by decide +kernel), List.mem_of_getElem? (i := 1816) (by decide +kernel), fun _ => List.mem_of_getElem? (i := 1817) (by decide +kernel)⟩
set_option maxRecDepth 20000 in
theorem hw_221 : hMw 221 := ⟨List.mem_of_getElem? (i := 1822) rfl, List.mem_of_getElem? (i := 224) (by decide +kernel), List.mem_of_getElem? (i := 1820) (by decide +kernel), fun _ => List.mem_of_getElem? (i := 1821) (by decide +kernel)⟩
set_option maxRecDepth 20000 in
theorem hw_222 : hMw 222 := ⟨List.mem_of_getElem? (i := 1827) rfl, List.mem_of_getElem? (i := 224) (by decide +kernel), List.mem_of_getElem? (i := 1825) (by decide +kernel), fun _ => List.mem_of_getElem? (i := 1826) (by decide +kernel)⟩
set_option maxRecDepth 20000 in
theorem hw_223 : hMw 223 := ⟨List.mem_of_getElem? (i := 1832) rfl, List.mem_of_getElem? (i := 224) (by decide +kernel), List.mem_of_getElem? (i := 1830) (by decide +kernel), fun _ => List.mem_of_getElem? (i := 1831) (by decide +kernel)⟩
set_option maxRecDepth 20000 in
theorem hw_224 : hMw 224 := ⟨List.mem_of_getElem? (i := 1837) rfl, List.mem_of_getElem? (i := 224) (by decide +kernel), List.mem_of_getElem? (i := 1835) (by decide +kernel), fun _ => List.mem_of_getElem? (i := 1836) (by decide +kernel)⟩
set_option maxRecDepth 20000 in
theorem hw_225 : hMw 225 := ⟨List.mem_of_getElem? (i := 1841) rfl, List.mem_of_getElem? (i := 231) (by decide +kernel), List.mem_of_getElem? (i := 1839) (by decide +kernel), fun _ => List.mem_of_getElem? (i := 1840) (by decide +kernel)⟩
set_option maxRecDepth 20000 in
theorem hw_226 : hMw 226 := ⟨List.mem_of_getElem? (i := 1846) rfl, List.mem_of_getElem? (i := 224) (by decide +kernel), List.mem_of_getElem? (i := 1844) (by decide +kernel), fun _ => List.mem_of_getElem? (i := 1845) (by decide +kernel)⟩
set_option maxRecDepth 20000 in
theorem hw_227 : hMw 227 := ⟨List.mem_of_getElem? (i := 1852) rfl, List.mem_of_getElem? (i := 242) (by decide +kernel), List.mem_of_getElem? (i := 1851) (by decide +kernel), fun h => absurd h (by decide)⟩
set_option maxRecDepth 20000 in
theorem hw_228 : hMw 228 := ⟨List.mem_of_getElem? (i := 1861) rfl, List.mem_of_getElem? (i := 242) (by decide +kernel), List.mem_of_getElem? (i := 1860) (by decide +kernel), fun _ => List.mem_of_getElem? (i := 56) (by decide +kernel)⟩
set_option maxRecDepth 20000 in
theorem hw_229 : hMw 229 := ⟨List.mem_of_getElem? (i := 1865) rfl, List.mem_of_getElem? (i := 242) (by decide +kernel), List.mem_of_getElem? (i := 1864) (by decide +kernel), fun _ => List.mem_of_getElem? (i := 57) (by decide +kernel)⟩
set_option maxRecDepth 20000 in
theorem hw_230 : hMw 230 := ⟨List.mem_of_getElem? (i := 1873) rfl, List.mem_of_getElem? (i := 242) (by decide +kernel), List.mem_of_getElem? (i := 1872) (by decide +kernel), fun _ => List.mem_of_getElem? (i := 58) (by decide +kernel)⟩
set_option maxRecDepth 20000 in
theorem hw_231 : hMw 231 := ⟨List.mem_of_getElem? (i := 1877) rfl, List.mem_of_getElem? (i := 242) (by decide +kernel), List.mem_of_getElem? (i := 1876) (by decide +kernel), fun _ => List.mem_of_getElem? (i := 59) (by decide +kernel)⟩
set_option maxRecDepth 20000 in
theorem hw_232 : hMw 232 := ⟨List.mem_of_getElem? (i := 1881) rfl, List.mem_of_getElem? (i := 242) (by decide +kernel), List.mem_of_getElem? (i := 1880) (by decide +kernel), fun _ => List.mem_of_getElem? (i := 60) (by decide +kernel)⟩
set_option maxRecDepth 20000 in
theorem hw_233 : hMw 233 := ⟨List.mem_of_getElem? (i := 1886) rfl, List.mem_of_getElem? (i := 242) (by decide +kernel), List.mem_of_getElem? (i := 1885) (by decide +kernel), fun _ => List.mem_of_getElem? (i := 61) (by decide +kernel)⟩
set_option maxRecDepth 20000 in
theorem hw_234 : hMw 234 := ⟨List.mem_of_getElem? (i := 1890) rfl, List.mem_of_getElem? (i := 242) (by decide +kernel), List.mem_of_getElem? (i := 1889) (by decide +kernel), fun _ => List.mem_of_getElem? (i := 62) (by decide +kernel)⟩
set_option maxRecDepth 20000 in
theorem hw_235 : hMw 235 := ⟨List.mem_of_getElem? (i := 1894) rfl, List.mem_of_getElem? (i := 242) (by decide +kernel), List.mem_of_getElem? (i := 1893) (by decide +kernel), fun _ => List.mem_of_getElem? (i := 63) (by decide +kernel)⟩
set_option maxRecDepth 20000 in
theorem hw_236 : hMw 236 := ⟨List.mem_of_getElem? (i := 1898) rfl, List.mem_of_getElem? (i := 242) (by decide +kernel), List.mem_of_getElem? (i := 1897) (by decide +kernel), fun _ => List.mem_of_getElem? (i := 64) (by decide +kernel)⟩
set_option maxRecDepth 20000 in
theorem hw_237 : hMw 237 := ⟨List.mem_of_getElem? (i := 1902) rfl, List.mem_of_getElem? (i := 242) (by decide +kernel), List.mem_of_getElem? (i := 1901) (by decide +kernel), fun _ => List.mem_of_getElem? (i := 65) (by decide +kernel)⟩
set_option maxRecDepth 20000 in
theorem hw_238 : hMw 238 := ⟨List.mem_of_getElem? (i := 1906) rfl, List.mem_of_getElem? (i := 242) (by decide +kernel), List.mem_of_getElem? (i := 1905) (by decide +kernel), fun _ => List.mem_of_getElem? (i := 66) (by decide +kernel)⟩
set_option maxRecDepth 20000 in
theorem hw_239 : hMw 239 := ⟨List.mem_of_getElem? (i := 1910) rfl, List.mem_of_getElem? (i := 242) (by decide +kernel), List.mem_of_getElem? (i := 1909) (by decide +kernel), fun _ => List.mem_of_getElem? (i := 67) (by decide +kernel)⟩
set_option maxRecDepth 20000 in
theorem hw_240 : hMw 240 := ⟨List.mem_of_getElem? (i := 1914) rfl, List.mem_of_getElem? (i := 242) (by decide +kernel), List.mem_of_getElem? (i := 1913) (by decide +kernel), fun _ => List.mem_of_getElem? (i := 68) (by decide +kernel)⟩
set_option maxRecDepth 20000 in
theorem hw_241 : hMw 241 := ⟨List.mem_of_getElem? (i := 1918) rfl, List.mem_of_getElem? (i := 242) (by decide +kernel), List.mem_of_getElem? (i := 1917) (by decide +kernel), fun _ => List.mem_of_getElem? (i := 69) (by decide +kernel)⟩
set_option maxRecDepth 20000 in
theorem hw_242 : hMw 242 := ⟨List.mem_of_getElem? (i := 1923) rfl, List.mem_of_getElem? (i := 242) (by decide +kernel), List.mem_of_getElem? (i := 1922) (by decide +kernel), fun _ => List.mem_of_getElem? (i := 70) (by decide +kernel)⟩
set_option maxRecDepth 20000 in
theorem hw_243 : hMw 243 := ⟨List.mem_of_getElem? (i := 1926) rfl, List.mem_of_getElem? (i := 242) (by decide +kernel), List.mem_of_getElem? (i := 1925) (by decide +kernel), fun h => absurd h (by decide)⟩
set_option maxRecDepth 20000 in
theorem hw_244 : hMw 244 := ⟨List.mem_of_getElem? (i := 1930) rfl, List.mem_of_getElem? (i := 242) (by decide +kernel), List.mem_of_getElem? (i := 1929) (by decide +kernel), fun _ => List.mem_of_getElem? (i := 71) (by decide +kernel)⟩
set_option maxRecDepth 20000 in
theorem hw_245 : hMw 245 := ⟨List.mem_of_getElem? (i := 1934) rfl, List.mem_of_getElem? (i := 242) (by decide +kernel), List.mem_of_getElem? (i := 1933) (by decide +kernel), fun _ => List.mem_of_getElem? (i := 72) (by decide +kernel)⟩
set_option maxRecDepth 20000 in
theorem hw_246 : hMw 246 := ⟨List.mem_of_getElem? (i := 1938) rfl, List.mem_of_getElem? (i := 242) (by decide +kernel), List.mem_of_getElem? (i := 1937) (by decide +kernel), fun _ => List.mem_of_getElem? (i := 73) (by decide +kernel)⟩
set_option maxRecDepth 20000 in
theorem hw_247 : hMw 247 := ⟨List.mem_of_getElem? (i := 1941) rfl, List.mem_of_getElem? (i := 242) (by decide +kernel), List.mem_of_getElem? (i := 1940) (by decide +kernel), fun h => absurd h (by decide)⟩
set_option maxRecDepth 20000 in
theorem hw_248 : hMw 248 := ⟨List.mem_of_getElem? (i := 1945) rfl, List.mem_of_getElem? (i := 242) (by decide +kernel), List.mem_of_getElem? (i := 1944) (by decide +kernel), fun _ => List.mem_of_getElem? (i := 74) (by decide +kernel)⟩
set_option maxRecDepth 20000 in
theorem hw_249 : hMw 249 := ⟨List.mem_of_getElem? (i := 1949) rfl, List.mem_of_getElem? (i := 242) (by decide +kernel), List.mem_of_getElem? (i := 1948) (by decide +kernel), fun _ => List.mem_of_getElem? (i := 75) (by decide +kernel)⟩
set_option maxRecDepth 20000 in
theorem hw_250 : hMw 250 := ⟨List.mem_of_getElem? (i := 1954) rfl, List.mem_of_getElem? (i := 242) (by decide +kernel), List.mem_of_getElem? (i := 1953) (by decide +kernel), fun _ => List.mem_of_getElem? (i := 76) (by decide +kernel)⟩
set_option maxRecDepth 20000 in
theorem hw_251 : hMw 251 := ⟨List.mem_of_getElem? (i := 1958) rfl, List.mem_of_getElem? (i := 242) (by decide +kernel), List.mem_of_getElem? (i := 1957) (by decide +kernel), fun _ => List.mem_of_getElem? (i := 77) (by decide +kernel)⟩
set_option maxRecDepth 20000 in
theorem hw_252 : hMw 252 := ⟨List.mem_of_getElem? (i := 1962) rfl, List.mem_of_getElem? (i := 242) (by decide +kernel), List.mem_of_getElem? (i := 1961) (by decide +kernel), fun _ => List.mem_of_getElem? (i := 78) (by decide +kernel)⟩
set_option maxRecDepth 20000 in
theorem hw_253 : hMw 253 := ⟨List.mem_of_getElem? (i := 1966) rfl, List.mem_of_getElem? (i := 242) (by decide +kernel), List.mem_of_getElem? (i := 1965) (by decide +kernel), fun _ => List.mem_of_getElem? (i := 79) (by decide +kernel)⟩
set_option maxRecDepth 20000 in
theorem hw_254 : hMw 254 := ⟨List.mem_of_getElem? (i := 1970) rfl, List.mem_of_getElem? (i := 242) (by decide +kernel), List.mem_of_getElem? (i := 1969) (by decide +kernel), fun _ => List.mem_of_getElem? (i := 80) (by decide +kernel)⟩
set_option maxRecDepth 20000 in
theorem hw_255 : hMw 255 := ⟨List.mem_of_getElem? (i := 1974) rfl, List.mem_of_getElem? (i := 242) (by decide +kernel), List.mem_of_getElem? (i := 1973) (by decide +kernel), fun _ => List.mem_of_getElem? (i := 81) (by decide +kernel)⟩
set_option maxRecDepth 20000 in
theorem hw_256 : hMw 256 := ⟨List.mem_of_getElem? (i := 1979) rfl, List.mem_of_getElem? (i := 242) (by decide +kernel), List.mem_of_getElem? (i := 1978) (by decide +kernel), fun _ => List.mem_of_getElem? (i := 82) (by decide +kernel)⟩
set_option maxRecDepth 20000 in
theorem hw_257 : hMw 257 := ⟨List.mem_of_getElem? (i := 1984) rfl, List.mem_of_getElem? (i := 242) (by decide +kernel), List.mem_of_getElem? (i := 1983) (by decide +kernel), fun _ => List.mem_of_getElem? (i := 83) (by decide +kernel)⟩
set_option maxRecDepth 20000 in
theorem hw_258 : hMw 258 := ⟨List.mem_of_getElem? (i := 1988) rfl, List.mem_of_getElem? (i := 242) (by decide +kernel), List.mem_of_getElem? (i := 1987) (by decide +kernel), fun _ => List.mem_of_getElem? (i := 84) (by decide +kernel)⟩
set_option maxRecDepth 20000 in
theorem hw_259 : hMw 259 := ⟨List.mem_of_getElem? (i := 1992) rfl, List.mem_of_getElem? (i := 242) (by decide +kernel), List.mem_of_getElem? (i := 1991) (by decide +kernel), fun _ => List.mem_of_getElem? (i := 85) (by decide +kernel)⟩
set_option maxRecDepth 20000 in
theorem hw_260 : hMw 260 := ⟨List.mem_of_getElem? (i := 1996) rfl, List.mem_of_getElem? (i := 242) (by decide +kernel), List.mem_of_getElem? (i := 1995) (by decide +kernel), fun _ => List.mem_of_getElem? (i := 86) (by decide +kernel)⟩
set_option maxRecDepth 20000 in
theorem hw_261 : hMw 261 := ⟨List.mem_of_getElem? (i := 2000) rfl, List.mem_of_getElem? (i := 242) (by decide +kernel), List.mem_of_getElem? (i := 1999) (by decide +kernel), fun _ => List.mem_of_getElem? (i := 87) (by decide +kernel)⟩
set_option maxRecDepth 20000 in
theorem hw_262 : hMw 262 := ⟨List.mem_of_getElem? (i := 2005) rfl, List.mem_of_getElem? (i := 242) (by decide +kernel), List.mem_of_getElem? (i := 2004) (by decide +kernel), fun _ => List.mem_of_getElem? (i := 88) (by decide +kernel)⟩
set_option maxRecDepth 20000 in
theorem hw_263 : hMw 263 := ⟨List.mem_of_getElem? (i := 2009) rfl, List.mem_of_getElem? (i := 242) (by decide +kernel), List.mem_of_getElem? (i := 2008) (by decide +kernel), fun _ => List.mem_of_getElem? (i := 89) (by decide +kernel)⟩
set_option maxRecDepth 20000 in
theorem hw_264 : hMw 264 := ⟨List.mem_of_getElem? (i := 2013) rfl, List.mem_of_getElem? (i := 242) (by decide +kernel), List.mem_of_getElem? (i := 2012) (by decide +kernel), fun _ => List.mem_of_getElem? (i := 90) (by decide +kernel)⟩
set_option maxRecDepth 20000 in
theorem hw_265 : hMw 265 := ⟨List.mem_of_getElem? (i := 2019) rfl, List.mem_of_getElem? (i := 242) (by decide +kernel), List.mem_of_getElem? (i := 2018) (by decide +kernel), fun _ => List.mem_of_getElem? (i := 91) (by decide +kernel)⟩
set_option maxRecDepth 20000 in
theorem hw_266 : hMw 266 := ⟨List.mem_of_getElem? (i := 2023) rfl, List.mem_of_getElem? (i := 242) (by decide +kernel), List.mem_of_getElem? (i := 2022) (by decide +kernel), fun _ => List.mem_of_getElem? (i := 92) (by decide +kernel)⟩
set_option maxRecDepth 20000 in
theorem hw_267 : hMw 267 := ⟨List.mem_of_getElem? (i := 2027) rfl, List.mem_of_getElem? (i := 242) (by decide +kernel), List.mem_of_getElem? (i := 2026) (by decide +kernel), fun _ => List.mem_of_getElem? (i := 93) (by decide +kernel)⟩
set_option maxRecDepth 20000 in
theorem hw_268 : hMw 268 := ⟨List.mem_of_getElem? (i := 2031) rfl, List.mem_of_getElem? (i := 242) (by decide +kernel), List.mem_of_getElem? (i := 2030) (by decide +kernel), fun _ => List.mem_of_getElem? (i := 94) (by decide +kernel)⟩
set_option maxRecDepth 20000 in
theorem hw_269 : hMw 269 := ⟨List.mem_of_getElem? (i := 2035) rfl, List.mem_of_getElem? (i := 242) (by decide +kernel), List.mem_of_getElem? (i := 2034) (by decide +kernel), fun _ => List.mem_of_getElem? (i := 95) (by decide +kernel)⟩
set_option maxRecDepth 20000 in
theorem hw_270 : hMw 270 := ⟨List.mem_of_getElem? (i := 2039) rfl, List.mem_of_getElem? (i := 242) (by decide +kernel), List.mem_of_getElem? (i := 2038) (by decide +kernel), fun _ => List.mem_of_getElem? (i := 96) (by decide +kernel)⟩
set_option maxRecDepth 20000 in
theorem hw_271 : hMw 271 := ⟨List.mem_of_getElem? (i := 2042) rfl, List.mem_of_getElem? (i := 242) (by decide +kernel), List.mem_of_getElem? (i := 2041) (by decide +kernel), fun h => absurd h (by decide)⟩
set_option maxRecDepth 20000 in
theorem hw_272 : hMw 272 := ⟨List.mem_of_getElem? (i := 2049) rfl, List.mem_of_getElem? (i := 242) (by decide +kernel), List.mem_of_getElem? (i := 2048) (by decide +kernel), fun h => absurd h (by decide)⟩
set_option maxRecDepth 20000 in
theorem hw_273 : hMw 273 := ⟨List.mem_of_getElem? (i := 2053) rfl, List.mem_of_getElem? (i := 242) (by decide +kernel), List.mem_of_getElem? (i := 2052) (by decide +kernel), fun _ => List.mem_of_getElem? (i := 97) (by decide +kernel)⟩
set_option maxRecDepth 20000 in
theorem hw_274 : hMw 274 := ⟨List.mem_of_getElem? (i := 2057) rfl, List.mem_of_getElem? (i := 242) (by decide +kernel), List.mem_of_getElem? (i := 2056) (by decide +kernel), fun _ => List.mem_of_getElem? (i := 98) (by decide +kernel)⟩
set_option maxRecDepth 20000 in
theorem hw_275 : hMw 275 := ⟨List.mem_of_getElem? (i := 2061) rfl, List.mem_of_getElem? (i := 242) (by decide +kernel), List.mem_of_getElem? (i := 2060) (by decide +kernel), fun _ => List.mem_of_getElem? (i := 99) (by decide +kernel)⟩
set_option maxRecDepth 20000 in
theorem hw_276 : hMw 276 := ⟨List.mem_of_getElem? (i := 2065) rfl, List.mem_of_getElem? (i := 242) (by decide +kernel), List.mem_of_getElem? (i := 2064) (by decide +kernel), fun _ => List.mem_of_getElem? (i := 100) (by decide +kernel)⟩
set_option maxRecDepth 20000 in
theorem hw_277 : hMw 277 := ⟨List.mem_of_getElem? (i := 2069) rfl, List.mem_of_getElem? (i := 242) (by decide +kernel), List.mem_of_getElem? (i := 2068) (by decide +kernel), fun _ => List.mem_of_getElem? (i := 101) (by decide +kernel)⟩
set_option maxRecDepth 20000 in
theorem hw_278 : hMw 278 := ⟨List.mem_of_getElem? (i := 2073) rfl, List.mem_of_getElem? (i := 242) (by decide +kernel), List.mem_of_getElem? (i := 2072) (by decide +kernel), fun _ => List.mem_of_getElem? (i := 102) (by decide +kernel)⟩
set_option maxRecDepth 20000 in
theorem hw_279 : hMw 279 := ⟨List.mem_of_getElem? (i := 2077) rfl, List.mem_of_getElem? (i := 242) (by decide +kernel), List.mem_of_getElem? (i := 2076) (by decide +kernel), fun _ => List.mem_of_getElem? (i := 103) (by decide +kernel)⟩
set_option maxRecDepth 20000 in
theorem hw_280 : hMw 280 := ⟨List.mem_of_getElem? (i := 2081) rfl, List.mem_of_getElem? (i := 242) (by decide +kernel), List.mem_of_getElem? (i := 2080) (by decide +kernel), fun _ => List.mem_of_getElem? (i := 104) (by decide +kernel)⟩
set_option maxRecDepth 20000 in
theorem hw_281 : hMw 281 := ⟨List.mem_of_getElem? (i := 2085) rfl, List.mem_of_getElem? (i := 242) (by decide +kernel), List.mem_of_getElem? (i := 2084) (by decide +kernel), fun _ => List.mem_of_getElem? (i := 105) (by decide +kernel)⟩
set_option maxRecDepth 20000 in
theorem hw_282 : hMw 282 := ⟨List.mem_of_getElem? (i := 2089) rfl, List.mem_of_getElem? (i := 242) (by decide +kernel), List.mem_of_getElem? (i := 2088) (by decide +kernel), fun h => absurd h (by decide)⟩
set_option maxRecDepth 20000 in
theorem hw_283 : hMw 283 := ⟨List.mem_of_getElem? (i := 2092) rfl, List.mem_of_getElem? (i := 242) (by decide +kernel), List.mem_of_getElem? (i := 2091) (by decide +kernel), fun h => absurd h (by decide)⟩
set_option maxRecDepth 20000 in
theorem hw_284 : hMw 284 := ⟨List.mem_of_getElem? (i := 2101) rfl, List.mem_of_getElem? (i := 242) (by decide +kernel), List.mem_of_getElem? (i := 2100) (by decide +kernel), fun _ => List.mem_of_getElem? (i := 106) (by decide +kernel)⟩
set_option maxRecDepth 20000 in
theorem hw_285 : hMw 285 := ⟨List.mem_of_getElem? (i := 2105) rfl, List.mem_of_getElem? (i := 242) (by decide +kernel), List.mem_of_getElem? (i := 2104) (by decide +kernel), fun _ => List.mem_of_getElem? (i := 107) (by decide +kernel)⟩
set_option maxRecDepth 20000 in
theorem hw_286 : hMw 286 := ⟨List.mem_of_getElem? (i := 2109) rfl, List.mem_of_getElem? (i := 242) (by decide +kernel), List.mem_of_getElem? (i := 2108) (by decide +kernel), fun _ => List.mem_of_getElem? (i := 108) (by decide +kernel)⟩
set_option maxRecDepth 20000 in
theorem hw_287 : hMw 287 := ⟨List.mem_of_getElem? (i := 2113) rfl, List.mem_of_getElem? (i := 242) (by decide +kernel), List.mem_of_getElem? (i := 2112) (by decide +kernel), fun _ => List.mem_of_getElem? (i := 109) (by decide +kernel)⟩
set_option maxRecDepth 20000 in
theorem hw_288 : hMw 288 := ⟨List.mem_of_getElem? (i := 2117) rfl, List.mem_of_getElem? (i := 242) (by decide +kernel), List.mem_of_getElem? (i := 2116) (by decide +kernel), fun _ => List.mem_of_getElem? (i := 110) (by decide +kernel)⟩
set_option maxRecDepth 20000 in
theorem hw_289 : hMw 289 := ⟨List.mem_of_getElem? (i := 2121) rfl, List.mem_of_getElem? (i := 242) (by decide +kernel), List.mem_of_getElem? (i := 2120) (by decide +kernel), fun _ => List.mem_of_getElem? (i := 111) (by decide +kernel)⟩
set_option maxRecDepth 20000 in
theorem hw_290 : hMw 290 := ⟨List.mem_of_getElem? (i := 2125) rfl, List.mem_of_getElem? (i := 242) (by decide +kernel), List.mem_of_getElem? (i := 2124) (by decide +kernel), fun _ => List.mem_of_getElem? (i := 112) (by decide +kernel)⟩
set_option maxRecDepth 20000 in
theorem hw_291 : hMw 291 := ⟨List.mem_of_getElem? (i := 2130) rfl, List.mem_of_getElem? (i := 242) (by decide +kernel), List.mem_of_getElem? (i := 2129) (by decide +kernel), fun _ => List.mem_of_getElem? (i := 113) (by decide +kernel)⟩
set_option maxRecDepth 20000 in
theorem hw_292 : hMw 292 := ⟨List.mem_of_getElem? (i := 2134) rfl, List.mem_of_getElem? (i := 242) (by decide +kernel), List.mem_of_getElem? (i := 2133) (by decide +kernel), fun _ => List.mem_of_getElem? (i := 114) (by decide +kernel)⟩
set_option maxRecDepth 20000 in
theorem hw_293 : hMw 293 := ⟨List.mem_of_getElem? (i := 2138) rfl, List.mem_of_getElem? (i := 242) (by decide +kernel), List.mem_of_getElem? (i := 2137) (by decide +kernel), fun _ => List.mem_of_getElem? (i := 115) (by decide +kernel)⟩
set_option maxRecDepth 20000 in
theorem hw_294 : hMw 294 := ⟨List.mem_of_getElem? (i := 2142) rfl, List.mem_of_getElem? (i := 242) (by decide +kernel), List.mem_of_getElem? (i := 2141) (by decide +kernel), fun _ => List.mem_of_getElem? (i := 116) (by decide +kernel)⟩
set_option maxRecDepth 20000 in
theorem hw_295 : hMw 295 := ⟨List.mem_of_getElem? (i := 2148) rfl, List.mem_of_getElem? (i := 242) (by decide +kernel), List.mem_of_getElem? (i := 2147) (by decide +kernel), fun _ => List.mem_of_getElem? (i := 117) (by decide +kernel)⟩
set_option maxRecDepth 20000 in
theorem hw_296 : hMw 296 := ⟨List.mem_of_getElem? (i := 2152) rfl, List.mem_of_getElem? (i := 242) (by decide +kernel), List.mem_of_getElem? (i := 2151) (by decide +kernel), fun _ => List.mem_of_getElem? (i := 118) (by decide +kernel)⟩
set_option maxRecDepth 20000 in
theorem hw_297 : hMw 297 := ⟨List.mem_of_getElem? (i := 2156) rfl, List.mem_of_getElem? (i := 242) (by decide +kernel), List.mem_of_getElem? (i := 2155) (by decide +kernel), fun _ => List.mem_of_getElem? (i := 119) (by decide +kernel)⟩
set_option maxRecDepth 20000 in
theorem hw_298 : hMw 298 := ⟨List.mem_of_getElem? (i := 2161) rfl, List.mem_of_getElem? (i := 242) (by decide +kernel), List.mem_of_getElem? (i := 2160) (by decide +kernel), fun _ => List.mem_of_getElem? (i := 120) (by decide +kernel)⟩
set_option maxRecDepth 20000 in
theorem hw_299 : hMw 299 := ⟨List.mem_of_getElem? (i := 2165) rfl, List.mem_of_getElem? (i := 242) (by decide +kernel), List.mem_of_getElem? (i := 2164) (by decide +kernel), fun _ => List.mem_of_getElem? (i := 121) (by decide +kernel)⟩
set_option maxRecDepth 20000 in
theorem hw_300 : hMw 300 := ⟨List.mem_of_getElem? (i := 2170) rfl, List.mem_of_getElem? (i := 242) (by decide +kernel), List.mem_of_getElem? (i := 2169) (by decide +kernel), fun _ => List.mem_of_getElem? (i := 122) (by decide +kernel)⟩
set_option maxRecDepth 20000 in
theorem hw_301 : hMw 301 := ⟨List.mem_of_getElem? (i := 2174) rfl, List.mem_of_getElem? (i := 242) (by decide +kernel), List.mem_of_getElem? (i := 2173) (by decide +kernel), fun _ => List.mem_of_getElem? (i := 123) (by decide +kernel)⟩
set_option maxRecDepth 20000 in
theorem hw_302 : hMw 302 := ⟨List.mem_of_getElem? (i := 2178) rfl, List.mem_of_getElem? (i := 242) (by decide +kernel), List.mem_of_getElem? (i := 2177) (by decide +kernel), fun _ => List.mem_of_getElem? (i := 124) (by decide +kernel)⟩
set_option maxRecDepth 20000 in
theorem hw_303 : hMw 303 := ⟨List.mem_of_getElem? (i := 2184) rfl, List.mem_of_getElem? (i := 242) (by decide +kernel), List.mem_of_getElem? (i := 2183) (by decide +kernel), fun _ => List.mem_of_getElem? (i := 125) (by decide +kernel)⟩
set_option maxRecDepth 20000 in
theorem hw_304 : hMw 304 := ⟨List.mem_of_getElem? (i := 2191) rfl, List.mem_of_getElem? (i := 242) (by decide +kernel), List.mem_of_getElem? (i := 2190) (by decide +kernel), fun _ => List.mem_of_getElem? (i := 126) (by decide +kernel)⟩
set_option maxRecDepth 20000 in
theorem hw_305 : hMw 305 := ⟨List.mem_of_getElem? (i := 2195) rfl, List.mem_of_getElem? (i := 242) (by decide +kernel), List.mem_of_getElem? (i := 2194) (by decide +kernel), fun _ => List.mem_of_getElem? (i := 127) (by decide +kernel)⟩
set_option maxRecDepth 20000 in
theorem hw_306 : hMw 306 := ⟨List.mem_of_getElem? (i := 2547) rfl, List.mem_of_getElem? (i := 242) (by decide +kernel), List.mem_of_getElem? (i := 2545) (by decide +kernel), fun _ => List.mem_of_getElem? (i := 2546) (by decide +kernel)⟩
set_option maxRecDepth 20000 in
theorem hw_307 : hMw 307 := ⟨List.mem_of_getElem? (i := 2551) rfl, List.mem_of_getElem? (i := 242) (by decide +kernel), List.mem_of_getElem? (i := 2549) (by decide +kernel), fun _ => List.mem_of_getElem? (i := 2550) (by decide +kernel)⟩
set_option maxRecDepth 20000 in
theorem hw_308 : hMw 308 := ⟨List.mem_of_getElem? (i := 2555) rfl, List.mem_of_getElem? (i := 242) (by decide +kernel), List.mem_of_getElem? (i := 2554) (by decide +kernel), fun _ => List.mem_of_getElem? (i := 128) (by decide +kernel)⟩
set_option maxRecDepth 20000 in
theorem hw_309 : hMw 309 := ⟨List.mem_of_getElem? (i := 2559) rfl, List.mem_of_getElem? (i := 242) (by decide +kernel), List.mem_of_getElem? (i := 2558) (by decide +kernel), fun _ => List.mem_of_getElem? (i := 129) (by decide +kernel)⟩
set_option maxRecDepth 20000 in
theorem hw_310 : hMw 310 := ⟨List.mem_of_getElem? (i := 2563) rfl, List.mem_of_getElem? (i := 242) (by decide +kernel), List.mem_of_getElem? (i := 2562) (by decide +kernel), fun _ => List.mem_of_getElem? (i := 130) (by decide +kernel)⟩
set_option maxRecDepth 20000 in
theorem hw_311 : hMw 311 := ⟨List.mem_of_getElem? (i := 2569) rfl, List.mem_of_getElem? (i := 242) (by decide +kernel), List.mem_of_getElem? (i := 2568) (by decide +kernel), fun _ => List.mem_of_getElem? (i := 131) (by decide +kernel)⟩
set_option maxRecDepth 20000 in
theorem hw_312 : hMw 312 := ⟨List.mem_of_getElem? (i := 2573) rfl, List.mem_of_getElem? (i := 242) (by decide +kernel), List.mem_of_getElem? (i := 2572) (by decide +kernel), fun _ => List.mem_of_getElem? (i := 132) (by decide +kernel)⟩
set_option maxRecDepth 20000 in
theorem hw_313 : hMw 313 := ⟨List.mem_of_getElem? (i := 2579) rfl, List.mem_of_getElem? (i := 242) (by decide +kernel), List.mem_of_getElem? (i := 2578) (by decide +kernel), fun _ => List.mem_of_getElem? (i := 133) (by decide +kernel)⟩
set_option maxRecDepth 20000 in
theorem hw_314 : hMw 314 := ⟨List.mem_of_getElem? (i := 2583) rfl, List.mem_of_getElem? (i := 242) (by decide +kernel), List.mem_of_getElem? (i := 2582) (by decide +kernel), fun _ => List.mem_of_getElem? (i := 134) (by decide +kernel)⟩
set_option maxRecDepth 20000 in
theorem hw_315 : hMw 315 := ⟨List.mem_of_getElem? (i := 2587) rfl, List.mem_of_getElem? (i := 242) (by decide +kernel), List.mem_of_getElem? (i := 2586) (by decide +kernel), fun _ => List.mem_of_getElem? (i := 135) (by decide +kernel)⟩
set_option maxRecDepth 20000 in
theorem hw_316 : hMw 316 := ⟨List.mem_of_getElem? (i := 2591) rfl, List.mem_of_getElem? (i := 242) (by decide +kernel), List.mem_of_getElem? (i := 2590) (by decide +kernel), fun _ => List.mem_of_getElem? (i := 136) (by decide +kernel)⟩
set_option maxRecDepth 20000 in
theorem hw_317 : hMw 317 := ⟨List.mem_of_getElem? (i := 2595) rfl, List.mem_of_getElem? (i := 242) (by decide +kernel), List.mem_of_getElem? (i := 2594) (by decide +kernel), fun _ => List.mem_of_getElem? (i := 137) (by decide +kernel)⟩
set_option maxRecDepth 20000 in
theorem hw_318 : hMw 318 := ⟨List.mem_of_getElem? (i := 2599) rfl, List.mem_of_getElem? (i := 242) (by decide +kernel), List.mem_of_getElem? (i := 2598) (by decide +kernel), fun _ => List.mem_of_getElem? (i := 138) (by decide +kernel)⟩
set_option maxRecDepth 20000 in
theorem hw_319 : hMw 319 := ⟨List.mem_of_getElem? (i := 2603) rfl, List.mem_of_getElem? (i := 242) (by decide +kernel), List.mem_of_getElem? (i := 2602) (by decide +kernel), fun _ => List.mem_of_getElem? (i := 139) (by decide +kernel)⟩
set_option maxRecDepth 20000 in
theorem hw_320 : hMw 320 := ⟨List.mem_of_getElem? (i := 2608) rfl, List.mem_of_getElem? (i := 242) (by decide +kernel), List.mem_of_getElem? (i := 2607) (by decide +kernel), fun _ => List.mem_of_getElem? (i := 140) (by decide +kernel)⟩
set_option maxRecDepth 20000 in
theorem hw_321 : hMw 321 := ⟨List.mem_of_getElem? (i := 2612) rfl, List.mem_of_getElem? (i := 242) (by decide +kernel), List.mem_of_getElem? (i := 2611) (by decide +kernel), fun _ => List.mem_of_getElem? (i := 141) (by decide +kernel)⟩
set_option maxRecDepth 20000 in
theorem hw_322 : hMw 322 := ⟨List.mem_of_getElem? (i := 2616) rfl, List.mem_of_getElem? (i := 242) (by decide +kernel), List.mem_of_getElem? (i := 2615) (by decide +kernel), fun _ => List.mem_of_getElem? (i := 142) (by decide +kernel)⟩
set_option maxRecDepth 20000 in
theorem hw_323 : hMw 323 := ⟨List.mem_of_getElem? (i := 2621) rfl, List.mem_of_getElem? (i := 242) (by decide +kernel), List.mem_of_getElem? (i := 2620) (by decide +kernel), fun _ => List.mem_of_getElem? (i := 143) (by decide +kernel)⟩
set_option maxRecDepth 20000 in
theorem hw_324 : hMw 324 := ⟨List.mem_of_getElem? (i := 2625) rfl, List.mem_of_getElem? (i := 242) (by decide +kernel), List.mem_of_getElem? (i := 2624) (by decide +kernel), fun _ => List.mem_of_getElem? (i := 144) (by decide +kernel)⟩
set_option maxRecDepth 20000 in
theorem hw_325 : hMw 325 := ⟨List.mem_of_getElem? (i := 2630) rfl, List.mem_of_getElem? (i := 242) (by decide +kernel), List.mem_of_getElem? (i := 2629) (by decide +kernel), fun _ => List.mem_of_getElem? (i := 145) (by decide +kernel)⟩
set_option maxRecDepth 20000 in
theorem hw_326 : hMw 326 := ⟨List.mem_of_getElem? (i := 2635) rfl, List.mem_of_getElem? (i := 242) (by decide +kernel), List.mem_of_getElem? (i := 2634) (by decide +kernel), fun _ => List.mem_of_getElem? (i := 146) (by decide +kernel)⟩
set_option maxRecDepth 20000 in
theorem hw_327 : hMw 327 := ⟨List.mem_of_getElem? (i := 2639) rfl, List.mem_of_getElem? (i := 242) (by decide +kernel), List.mem_of_getElem? (i := 2638) (by decide +kernel), fun _ => List.mem_of_getElem? (i := 147) (by decide +kernel)⟩
set_option maxRecDepth 20000 in
theorem hw_328 : hMw 328 := ⟨List.mem_of_getElem? (i := 2643) rfl, List.mem_of_getElem? (i := 242) (by decide +kernel), List.mem_of_getElem? (i := 2642) (by decide +kernel), fun _ => List.mem_of_getElem? (i := 148) (by decide +kernel)⟩
set_option maxRecDepth 20000 in
theorem hw_329 : hMw 329 := ⟨List.mem_of_getElem? (i := 2647) rfl, List.mem_of_getElem? (i := 242) (by decide +kernel), List.mem_of_getElem? (i := 2646) (by decide +kernel), fun _ => List.mem_of_getElem? (i := 149) (by decide +kernel)⟩
set_option maxRecDepth 20000 in
theorem hw_330 : hMw 330 := ⟨List.mem_of_getElem? (i := 2652) rfl, List.mem_of_getElem? (i := 242) (by decide +kernel), List.mem_of_getElem? (i := 2651) (by decide +kernel), fun _ => List.mem_of_getElem? (i := 150) (by decide +kernel)⟩
set_option maxRecDepth 20000 in
theorem hw_331 : hMw 331 := ⟨List.mem_of_getElem? (i := 2656) rfl, List.mem_of_getElem? (i := 242) (by decide +kernel), List.mem_of_getElem? (i := 2655) (by decide +kernel), fun _ => List.mem_of_getElem? (i := 151) (by decide +kernel)⟩
set_option maxRecDepth 20000 in
theorem hw_332 : hMw 332 := ⟨List.mem_of_getElem? (i := 2660) rfl, List.mem_of_getElem? (i := 242) (by decide +kernel), List.mem_of_getElem? (i := 2659) (by decide +kernel), fun _ => List.mem_of_getElem? (i := 152) (by decide +kernel)⟩
set_option maxRecDepth 20000 in
theorem hw_333 : hMw 333 := ⟨List.mem_of_getElem? (i := 2664) rfl, List.mem_of_getElem? (i := 242) (by decide +kernel), List.mem_of_getElem? (i := 2663) (by decide +kernel), fun _ => List.mem_of_getElem? (i := 153) (by decide +kernel)⟩
set_option maxRecDepth 20000 in
theorem hw_334 : hMw 334 := ⟨List.mem_of_getElem? (i := 2668) rfl, List.mem_of_getElem? (i := 242) (by decide +kernel), List.mem_of_getElem? (i := 2667) (by decide +kernel), fun _ => List.mem_of_getElem? (i := 154) (by decide +kernel)⟩
set_option maxRecDepth 20000 in
theorem hw_335 : hMw 335 := ⟨List.mem_of_getElem? (i := 2672) rfl, List.mem_of_getElem? (i := 242) (by decide +kernel), List.mem_of_getElem? (i := 2671) (by decide +kernel), fun _ => List.mem_of_getElem? (i := 155) (by decide +kernel)⟩
set_option maxRecDepth 20000 in
theorem hw_336 : hMw 336 := ⟨List.mem_of_getElem? (i := 2676) rfl, List.mem_of_getElem? (i := 242) (by decide +kernel), List.mem_of_getElem? (i := 2675) (by decide +kernel), fun _ => List.mem_of_getElem? (i := 156) (by decide +kernel)⟩
set_option maxRecDepth 20000 in
theorem hw_337 : hMw 337 := ⟨List.mem_of_getElem? (i := 2680) rfl, List.mem_of_getElem? (i := 242) (by decide +kernel), List.mem_of_getElem? (i := 2679) (by decide +kernel), fun _ => List.mem_of_getElem? (i := 157) (by decide +kernel)⟩
set_option maxRecDepth 20000 in
theorem hw_338 : hMw 338 := ⟨List.mem_of_getElem? (i := 2684) rfl, List.mem_of_getElem? (i := 242) (by decide +kernel), List.mem_of_getElem? (i := 2683) (by decide +kernel), fun _ => List.mem_of_getElem? (i := 158) (by decide +kernel)⟩
set_option maxRecDepth 20000 in
theorem hw_339 : hMw 339 := ⟨List.mem_of_getElem? (i := 2688) rfl, List.mem_of_getElem? (i := 242) (by decide +kernel), List.mem_of_getElem? (i := 2687) (by decide +kernel), fun _ => List.mem_of_getElem? (i := 159) (by decide +kernel)⟩
set_option maxRecDepth 20000 in
theorem hw_340 : hMw 340 := ⟨List.mem_of_getElem? (i := 2692) rfl, List.mem_of_getElem? (i := 242) (by decide +kernel), List.mem_of_getElem? (i := 2691) (by decide +kernel), fun _ => List.mem_of_getElem? (i := 160) (by decide +kernel)⟩
set_option maxRecDepth 20000 in
theorem hw_341 : hMw 341 := ⟨List.mem_of_getElem? (i := 2696) rfl, List.mem_of_getElem? (i := 242) (by decide +kernel), List.mem_of_getElem? (i := 2695) (by decide +kernel), fun _ => List.mem_of_getElem? (i := 161) (by decide +kernel)⟩
set_option maxRecDepth 20000 in
theorem hw_342 : hMw 342 := ⟨List.mem_of_getElem? (i := 2700) rfl, List.mem_of_getElem? (i := 242) (by decide +kernel), List.mem_of_getElem? (i := 2699) (by decide +kernel), fun _ => List.mem_of_getElem? (i := 162) (by decide +kernel)⟩
set_option maxRecDepth 20000 in
theorem hw_343 : hMw 343 := ⟨List.mem_of_getElem? (i := 2704) rfl, List.mem_of_getElem? (i := 242) (by decide +kernel), List.mem_of_getElem? (i := 2703) (by decide +kernel), fun _ => List.mem_of_getElem? (i := 163) (by decide +kernel)⟩
set_option maxRecDepth 20000 in
theorem hw_344 : hMw 344 := ⟨List.mem_of_getElem? (i := 2708) rfl, List.mem_of_getElem? (i := 242) (by decide +kernel), List.mem_of_getElem? (i := 2707) (by decide +kernel), fun _ => List.mem_of_getElem? (i := 164) (by decide +kernel)⟩
set_option maxRecDepth 20000 in
theorem hw_345 : hMw 345 := ⟨List.mem_of_getElem? (i := 2712) rfl, List.mem_of_getElem? (i := 242) (by decide +kernel), List.mem_of_getElem? (i := 2711) (by decide +kernel), fun _ => List.mem_of_getElem? (i := 165) (by decide +kernel)⟩
set_option maxRecDepth 20000 in
theorem hw_346 : hMw 346 := ⟨List.mem_of_getElem? (i := 2716) rfl, List.mem_of_getElem? (i := 242) (by decide +kernel), List.mem_of_getElem? (i := 2715) (by decide +kernel), fun _ => List.mem_of_getElem? (i := 166) (by decide +kernel)⟩
set_option maxRecDepth 20000 in
theorem hw_347 : hMw 347 := ⟨List.mem_of_getElem? (i := 2720) rfl, List.mem_of_getElem? (i := 242) (by decide +kernel), List.mem_of_getElem? (i := 2719) (by decide +kernel), fun _ => List.mem_of_getElem? (i := 167) (by decide +kernel)⟩
set_option maxRecDepth 20000 in
theorem hw_348 : hMw 348 := ⟨List.mem_of_getElem? (i := 2724) rfl, List.mem_of_getElem? (i := 242) (by decide +kernel), List.mem_of_getElem? (i := 2723) (by decide +kernel), fun _ => List.mem_of_getElem? (i := 168) (by decide +kernel)⟩
set_option maxRecDepth 20000 in
theorem hw_349 : hMw 349 := ⟨List.mem_of_getElem? (i := 2728) rfl, List.mem_of_getElem? (i := 242) (by decide +kernel), List.mem_of_getElem? (i := 2727) (by decide +kernel), fun _ => List.mem_of_getElem? (i := 169) (by decide +kernel)⟩
set_option maxRecDepth 20000 in
theorem hw_350 : hMw 350 := ⟨List.mem_of_getElem? (i := 2732) rfl, List.mem_of_getElem? (i := 242) (by decide +kernel), List.mem_of_getElem? (i := 2731) (by decide +kernel), fun _ => List.mem_of_getElem? (i := 170) (by decide +kernel)⟩
set_option maxRecDepth 20000 in
theorem hw_351 : hMw 351 := ⟨List.mem_of_getElem? (i := 2736) rfl, List.mem_of_getElem? (i := 242) (by decide +kernel), List.mem_of_getElem? (i := 2735) (by decide +kernel), fun _ => List.mem_of_getElem? (i := 171) (by decide +kernel)⟩
set_option maxRecDepth 20000 in
theorem hw_352 : hMw 352 := ⟨List.mem_of_getElem? (i := 2740) rfl, List.mem_of_getElem? (i := 242) (by decide +kernel), List.mem_of_getElem? (i := 2739) (by decide +kernel), fun _ => List.mem_of_getElem? (i := 172) (by decide +kernel)⟩
set_option maxRecDepth 20000 in
theorem hw_353 : hMw 353 := ⟨List.mem_of_getElem? (i := 2744) rfl, List.mem_of_getElem? (i := 242) (by decide +kernel), List.mem_of_getElem? (i := 2743) (by decide +kernel), fun _ => List.mem_of_getElem? (i := 173) (by decide +kernel)⟩
set_option maxRecDepth 20000 in
theorem hw_354 : hMw 354 := ⟨List.mem_of_getElem? (i := 2749) rfl, List.mem_of_getElem? (i := 242) (by decide +kernel), List.mem_of_getElem? (i := 2748) (by decide +kernel), fun _ => List.mem_of_getElem? (i := 174) (by decide +kernel)⟩
set_option maxRecDepth 20000 in
theorem hw_355 : hMw 355 := ⟨List.mem_of_getElem? (i := 2754) rfl, List.mem_of_getElem? (i := 242) (by decide +kernel), List.mem_of_getElem? (i := 2753) (by decide +kernel), fun _ => List.mem_of_getElem? (i := 175) (by decide +kernel)⟩
set_option maxRecDepth 20000 in
theorem hw_356 : hMw 356 := ⟨List.mem_of_getElem? (i := 2758) rfl, List.mem_of_getElem? (i := 242) (by decide +kernel), List.mem_of_getElem? (i := 2757) (by decide +kernel), fun _ => List.mem_of_getElem? (i := 176) (by decide +kernel)⟩
set_option maxRecDepth 20000 in
theorem hw_357 : hMw 357 := ⟨List.mem_of_getElem? (i := 2762) rfl, List.mem_of_getElem? (i := 242) (by decide +kernel), List.mem_of_getElem? (i := 2761) (by decide +kernel), fun _ => List.mem_of_getElem? (i := 177) (by decide +kernel)⟩
set_option maxRecDepth 20000 in
theorem hw_358 : hMw 358 := ⟨List.mem_of_getElem? (i := 2770) rfl, List.mem_of_getElem? (i := 242) (by decide +kernel), List.mem_of_getElem? (i := 2769) (by decide +kernel), fun _ => List.mem_of_getElem? (i := 178) (by decide +kernel)⟩
set_option maxRecDepth 20000 in
theorem hw_359 : hMw 359 := ⟨List.mem_of_getElem? (i := 2774) rfl, List.mem_of_getElem? (i := 242) (by decide +kernel), List.mem_of_getElem? (i := 2773) (by decide +kernel), fun _ => List.mem_of_getElem? (i := 179) (by decide +kernel)⟩
set_option maxRecDepth 20000 in
theorem hw_360 : hMw 360 := ⟨List.mem_of_getElem? (i := 2778) rfl, List.mem_of_getElem? (i := 242) (by decide +kernel), List.mem_of_getElem? (i := 2777) (by decide +kernel), fun _ => List.mem_of_getElem? (i := 180) (by decide +kernel)⟩
set_option maxRecDepth 20000 in
theorem hw_361 : hMw 361 := ⟨List.mem_of_getElem? (i := 2781) rfl, List.mem_of_getElem? (i := 242) (by decide +kernel), List.mem_of_getElem? (i := 2780) (by decide +kernel), fun h => absurd h (by decide)⟩
set_option maxRecDepth 20000 in
theorem hw_362 : hMw 362 := ⟨List.mem_of_getElem? (i := 2786) rfl, List.mem_of_getElem? (i := 242) (by decide +kernel), List.mem_of_getElem? (i := 2785) (by decide +kernel), fun _ => List.mem_of_getElem? (i := 181) (by decide +kernel)⟩
set_option maxRecDepth 20000 in
theorem hw_363 : hMw 363 := ⟨List.mem_of_getElem? (i := 2790) rfl, List.mem_of_getElem? (i := 242) (by decide +kernel), List.mem_of_getElem? (i := 2789) (by decide +kernel), fun _ => List.mem_of_getElem? (i := 182) (by decide +kernel)⟩
set_option maxRecDepth 20000 in
theorem hw_364 : hMw 364 := ⟨List.mem_of_getElem? (i := 2794) rfl, List.mem_of_getElem? (i := 242) (by decide +kernel), List.mem_of_getElem? (i := 2793) (by decide +kernel), fun _ => List.mem_of_getElem? (i := 183) (by decide +kernel)⟩
set_option maxRecDepth 20000 in
theorem hw_365 : hMw 365 := ⟨List.mem_of_getElem? (i := 2798) rfl, List.mem_of_getElem? (i := 242) (by decide +kernel), List.mem_of_getElem? (i := 2797) (by decide +kernel), fun _ => List.mem_of_getElem? (i := 184) (by decide +kernel)⟩
set_option maxRecDepth 20000 in
theorem hw_366 : hMw 366 := ⟨List.mem_of_getElem? (i := 2802) rfl, List.mem_of_getElem? (i := 242) (by decide +kernel), List.mem_of_getElem? (i := 2801) (by decide +kernel), fun _ => List.mem_of_getElem? (i := 185) (by decide +kernel)⟩
set_option maxRecDepth 20000 in
theorem hw_367 : hMw 367 := ⟨List.mem_of_getElem? (i := 2806) rfl, List.mem_of_getElem? (i := 242) (by decide +kernel), List.mem_of_getElem? (i := 2805) (by decide +kernel), fun _ => List.mem_of_getElem? (i := 186) (by decide +kernel)⟩
set_option maxRecDepth 20000 in
theorem hw_368 : hMw 368 := ⟨List.mem_of_getElem? (i := 2812) rfl, List.mem_of_getElem? (i := 242) (by decide +kernel), List.mem_of_getElem? (i := 2811) (by decide +kernel), fun _ => List.mem_of_getElem? (i := 187) (by decide +kernel)⟩
set_option maxRecDepth 20000 in
theorem hw_369 : hMw 369 := ⟨List.mem_of_getElem? (i := 2816) rfl, List.mem_of_getElem? (i := 242) (by decide +kernel), List.mem_of_getElem? (i := 2815) (by decide +kernel), fun _ => List.mem_of_getElem? (i := 188) (by decide +kernel)⟩
set_option maxRecDepth 20000 in
theorem hw_370 : hMw 370 := ⟨List.mem_of_getElem? (i := 2820) rfl, List.mem_of_getElem? (i := 242) (by decide +kernel), List.mem_of_getElem? (i := 2819) (by decide +kernel), fun _ => List.mem_of_getElem? (i := 189) (by decide +kernel)⟩
set_option maxRecDepth 20000 in
theorem hw_371 : hMw 371 := ⟨List.mem_of_getElem? (i := 2825) rfl, List.mem_of_getElem? (i := 242) (by decide +kernel), List.mem_of_getElem? (i := 2824) (by decide +kernel), fun _ => List.mem_of_getElem? (i := 190) (by decide +kernel)⟩
set_option maxRecDepth 20000 in
theorem hw_372 : hMw 372 := ⟨List.mem_of_getElem? (i := 2830) rfl, List.mem_of_getElem? (i := 242) (by decide +kernel), List.mem_of_getElem? (i := 2829) (by decide +kernel), fun _ => List.mem_of_getElem? (i := 191) (by decide +kernel)⟩
set_option maxRecDepth 20000 in
theorem hw_373 : hMw 373 := ⟨List.mem_of_getElem? (i := 2835) rfl, List.mem_of_getElem? (i := 242) (by decide +kernel), List.mem_of_getElem? (i := 2834) (by decide +kernel), fun _ => List.mem_of_getElem? (i := 192) (by decide +kernel)⟩
set_option maxRecDepth 20000 in
theorem hw_374 : hMw 374 := ⟨List.mem_of_getElem? (i := 2840) rfl, List.mem_of_getElem? (i := 242) (by decide +kernel), List.mem_of_getElem? (i := 2839) (by decide +kernel), fun _ => List.mem_of_getElem? (i := 193) (by decide +kernel)⟩
set_option maxRecDepth 20000 in
theorem hw_375 : hMw 375 := ⟨List.mem_of_getElem? (i := 2846) rfl, List.mem_of_getElem? (i := 242) (by decide +kernel), List.mem_of_getElem? (i := 2845) (by decide +kernel), fun _ => List.mem_of_getElem? (i := 194) (by decide +kernel)⟩
set_option maxRecDepth 20000 in
theorem hw_376 : hMw 376 := ⟨List.mem_of_getElem? (i := 2850) rfl, List.mem_of_getElem? (i := 242) (by decide +kernel), List.mem_of_getElem? (i := 2849) (by decide +kernel), fun _ => List.mem_of_getElem? (i := 195) (by decide +kernel)⟩
set_option maxRecDepth 20000 in
theorem hw_377 : hMw 377 := ⟨List.mem_of_getElem? (i := 2857) rfl, List.mem_of_getElem? (i := 242) (by decide +kernel), List.mem_of_getElem? (i := 2856) (by decide +kernel), fun _ => List.mem_of_getElem? (i := 196) (by decide +kernel)⟩
set_option maxRecDepth 20000 in
theorem hw_378 : hMw 378 := ⟨List.mem_of_getElem? (i := 2862) rfl, List.mem_of_getElem? (i := 242) (by decide +kernel), List.mem_of_getElem? (i := 2861) (by decide +kernel), fun _ => List.mem_of_getElem? (i := 197) (by decide +kernel)⟩
set_option maxRecDepth 20000 in
theorem hw_379 : hMw 379 := ⟨List.mem_of_getElem? (i := 2866) rfl, List.mem_of_getElem? (i := 242) (by decide +kernel), List.mem_of_getElem? (i := 2865) (by decide +kernel), fun _ => List.mem_of_getElem? (i := 198) (by decide +kernel)⟩
set_option maxRecDepth 20000 in
theorem hw_380 : hMw 380 := ⟨List.mem_of_getElem? (i := 2871) rfl, List.mem_of_getElem? (i := 242) (by decide +kernel), List.mem_of_getElem? (i := 2870) (by decide +kernel), fun _ => List.mem_of_getElem? (i := 199) (by decide +kernel)⟩
set_option maxRecDepth 20000 in
theorem hw_381 : hMw 381 := ⟨List.mem_of_getElem? (i := 2875) rfl, List.mem_of_getElem? (i := 242) (by decide +kernel), List.mem_of_getElem? (i := 2874) (by decide +kernel), fun _ => List.mem_of_getElem? (i := 200) (by decide +kernel)⟩
set_option maxRecDepth 20000 in
theorem hw_382 : hMw 382 := ⟨List.mem_of_getElem? (i := 2880) rfl, List.mem_of_getElem? (i := 242) (by decide +kernel), List.mem_of_getElem? (i := 2879) (by decide +kernel), fun _ => List.mem_of_getElem? (i := 201) (by decide +kernel)⟩
set_option maxRecDepth 20000 in
theorem hw_383 : hMw 383 := ⟨List.mem_of_getElem? (i := 2884) rfl, List.mem_of_getElem? (i := 242) (by decide +kernel), List.mem_of_getElem? (i := 2883) (by decide +kernel), fun _ => List.mem_of_getElem? (i := 202) (by decide +kernel)⟩
set_option maxRecDepth 20000 in
theorem hw_384 : hMw 384 := ⟨List.mem_of_getElem? (i := 2888) rfl, List.mem_of_getElem? (i := 242) (by decide +kernel), List.mem_of_getElem? (i := 2887) (by decide +kernel), fun _ => List.mem_of_getElem? (i := 203) (by decide +kernel)⟩
set_option maxRecDepth 20000 in
theorem hw_385 : hMw 385 := ⟨List.mem_of_getElem? (i := 2892) rfl, List.mem_of_getElem? (i := 242) (by decide +kernel), List.mem_of_getElem? (i := 2891) (by decide +kernel), fun _ => List.mem_of_getElem? (i := 204) (by decide +kernel)⟩
set_option maxRecDepth 20000 in
theorem hw_386 : hMw 386 := ⟨List.mem_of_getElem? (i := 2896) rfl, List.mem_of_getElem? (i := 242) (by decide +kernel), List.mem_of_getElem? (i := 2895) (by decide +kernel), fun _ => List.mem_of_getElem? (i := 205) (by decide +kernel)⟩
set_option maxRecDepth 20000 in
theorem hw_387 : hMw 387 := ⟨List.mem_of_getElem? (i := 2900) rfl, List.mem_of_getElem? (i := 242) (by decide +kernel), List.mem_of_getElem? (i := 2899) (by decide +kernel), fun _ => List.mem_of_getElem? (i := 206) (by decide +kernel)⟩
set_option maxRecDepth 20000 in
theorem hw_388 : hMw 388 := ⟨List.mem_of_getElem? (i := 2904) rfl, List.mem_of_getElem? (i := 242) (by decide +kernel), List.mem_of_getElem? (i := 2903) (by decide +kernel), fun _ => List.mem_of_getElem? (i := 207) (by decide +kernel)⟩
set_option maxRecDepth 20000 in
theorem hw_389 : hMw 389 := ⟨List.mem_of_getElem? (i := 2909) rfl, List.mem_of_getElem? (i := 242) (by decide +kernel), List.mem_of_getElem? (i := 2908) (by decide +kernel), fun _ => List.mem_of_getElem? (i := 208) (by decide +kernel)⟩
set_option maxRecDepth 20000 in
theorem hw_390 : hMw 390 := ⟨List.mem_of_getElem? (i := 2914) rfl, List.mem_of_getElem? (i := 242) (by decide +kernel), List.mem_of_getElem? (i := 2913) (by decide +kernel), fun _ => List.mem_of_getElem? (i := 209) (by decide +kernel)⟩
set_option maxRecDepth 20000 in
theorem hw_391 : hMw 391 := ⟨List.mem_of_getElem? (i := 2919) rfl, List.mem_of_getElem? (i := 242) (by decide +kernel), List.mem_of_getElem? (i := 2918) (by decide +kernel), fun _ => List.mem_of_getElem? (i := 210) (by decide +kernel)⟩
set_option maxRecDepth 20000 in
theorem hw_392 : hMw 392 := ⟨List.mem_of_getElem? (i := 2924) rfl, List.mem_of_getElem? (i := 242) (by decide +kernel), List.mem_of_getElem? (i := 2923) (by decide +kernel), fun _ => List.mem_of_getElem? (i := 211) (by decide +kernel)⟩
set_option maxRecDepth 20000 in
theorem hw_393 : hMw 393 := ⟨List.mem_of_getElem? (i := 2928) rfl, List.mem_of_getElem? (i := 242) (by decide +kernel), List.mem_of_getElem? (i := 2927) (by decide +kernel), fun _ => List.mem_of_getElem? (i := 212) (by decide +kernel)⟩
set_option maxRecDepth 20000 in
theorem hw_394 : hMw 394 := ⟨List.mem_of_getElem? (i := 2932) rfl, List.mem_of_getElem? (i := 242) (by decide +kernel), List.mem_of_getElem? (i := 2931) (by decide +kernel), fun _ => List.mem_of_getElem? (i := 213) (by decide +kernel)⟩
set_option maxRecDepth 20000 in
theorem hw_395 : hMw 395 := ⟨List.mem_of_getElem? (i := 2937) rfl, List.mem_of_getElem? (i := 242) (by decide +kernel), List.mem_of_getElem? (i := 2936) (by decide +kernel), fun _ => List.mem_of_getElem? (i := 214) (by decide +kernel)⟩
set_option maxRecDepth 20000 in
theorem hw_396 : hMw 396 := ⟨List.mem_of_getElem? (i := 2943) rfl, List.mem_of_getElem? (i := 242) (by decide +kernel), List.mem_of_getElem? (i := 2942) (by decide +kernel), fun _ => List.mem_of_getElem? (i := 215) (by decide +kernel)⟩
set_option maxRecDepth 20000 in
theorem hw_397 : hMw 397 := ⟨List.mem_of_getElem? (i := 2949) rfl, List.mem_of_getElem? (i := 242) (by decide +kernel), List.mem_of_getElem? (i := 2948) (by decide +kernel), fun _ => List.mem_of_getElem? (i := 216) (by decide +kernel)⟩
set_option maxRecDepth 20000 in
theorem hw_398 : hMw 398 := ⟨List.mem_of_getElem? (i := 2953) rfl, List.mem_of_getElem? (i := 242) (by decide +kernel), List.mem_of_getElem? (i := 2952) (by decide +kernel), fun _ => List.mem_of_getElem? (i := 217) (by decide +kernel)⟩
set_option maxRecDepth 20000 in
theorem hw_399 : hMw 399 := ⟨List.mem_of_getElem? (i := 2957) rfl, List.mem_of_getElem? (i := 242) (by decide +kernel), List.mem_of_getElem? (i := 2956) (by decide +kernel), fun _ => List.mem_of_getElem? (i := 218) (by decide +kernel)⟩
set_option maxRecDepth 20000 in
theorem hw_400 : hMw 400 := ⟨List.mem_of_getElem? (i := 2961) rfl, List.mem_of_getElem? (i := 242) (by decide +kernel), List.mem_of_getElem? (i := 2960) (by decide +kernel), fun _ => List.mem_of_getElem? (i := 219) (by decide +kernel)⟩
set_option maxRecDepth 20000 in
theorem hw_401 : hMw 401 := ⟨List.mem_of_getElem? (i := 2965) rfl, List.mem_of_getElem? (i := 242) (by decide +kernel), List.mem_of_getElem? (i := 2964) (by decide +kernel), fun _ => List.mem_of_getElem? (i := 220) (by decide +kernel)⟩
set_option maxRecDepth 20000 in
theorem hw_402 : hMw 402 := ⟨List.mem_of_getElem? (i := 2969) rfl, List.mem_of_getElem? (i := 242) (by decide +kernel), List.mem_of_getElem? (i := 2968) (by decide +kernel), fun _ => List.mem_of_getElem? (i := 221) (by decide +kernel)⟩
set_option maxRecDepth 20000 in
theorem hw_403 : hMw 403 := ⟨List.mem_of_getElem? (i := 2973) rfl, List.mem_of_getElem? (i := 242) (by decide +kernel), List.mem_of_getElem? (i := 2971) (by decide +kernel), fun _ => List.mem_of_getElem? (i := 2972) (by decide +kernel)⟩
set_option maxRecDepth 20000 in
theorem hw_404 : hMw 404 := ⟨List.mem_of_getElem? (i := 2977) rfl, List.mem_of_getElem? (i := 242) (by decide +kernel), List.mem_of_getElem? (i := 2975) (by decide +kernel), fun _ => List.mem_of_getElem? (i := 2976) (by decide +kernel)⟩
set_option maxRecDepth 20000 in
theorem hw_405 : hMw 405 := ⟨List.mem_of_getElem? (i := 2981) rfl, List.mem_of_getElem? (i := 242) (by decide +kernel), List.mem_of_getElem? (i := 2979) (by decide +kernel), fun _ => List.mem_of_getElem? (i := 2980) (by decide +kernel)⟩
set_option maxRecDepth 20000 in
theorem hw_406 : hMw 406 := ⟨List.mem_of_getElem? (i := 2985) rfl, List.mem_of_getElem? (i := 242) (by decide +kernel), List.mem_of_getElem? (i := 2983) (by decide +kernel), fun _ => List.mem_of_getElem? (i := 2984) (by decide +kernel)⟩
set_option maxRecDepth 20000 in
theorem hw_407 : hMw 407 := ⟨List.mem_of_getElem? (i := 2989) rfl, List.mem_of_getElem? (i := 242) (by decide +kernel), List.mem_of_getElem? (i := 2987) (by decide +kernel), fun _ => List.mem_of_getElem? (i := 2988) (by decide +kernel)⟩
set_option maxRecDepth 20000 in
theorem hw_408 : hMw 408 := ⟨List.mem_of_getElem? (i := 2993) rfl, List.mem_of_getElem? (i := 242) (by decide +kernel), List.mem_of_getElem? (i := 2991) (by decide +kernel), fun _ => List.mem_of_getElem? (i := 2992) (by decide +kernel)⟩
set_option maxRecDepth 20000 in
theorem hw_409 : hMw 409 := ⟨List.mem_of_getElem? (i := 2997) rfl, List.mem_of_getElem? (i := 242) (by decide +kernel), List.mem_of_getElem? (i := 2995) (by decide +kernel), fun _ => List.mem_of_getElem? (i := 2996) (by decide +kernel)⟩
set_option maxRecDepth 20000 in
theorem hw_410 : hMw 410 := ⟨List.mem_of_getElem? (i := 3001) rfl, List.mem_of_getElem? (i := 242) (by decide +kernel), List.mem_of_getElem? (i := 2999) (by decide +kernel), fun _ => List.mem_of_getElem? (i := 3000) (by decide +kernel)⟩
set_option maxRecDepth 20000 in
theorem hw_411 : hMw 411 := ⟨List.mem_of_getElem? (i := 3005) rfl, List.mem_of_getElem? (i := 242) (by decide +kernel), List.mem_of_getElem? (i := 3003) (by decide +kernel), fun _ => List.mem_of_getElem? (i := 3004) (by decide +kernel)⟩
set_option maxRecDepth 20000 in
theorem hw_412 : hMw 412 := ⟨List.mem_of_getElem? (i := 3009) rfl, List.mem_of_getElem? (i := 242) (by decide +kernel), List.mem_of_getElem? (i := 3007) (by decide +kernel), fun _ => List.mem_of_getElem? (i := 3008) (by decide +kernel)⟩
set_option maxRecDepth 20000 in
theorem hw_413 : hMw 413 := ⟨List.mem_of_getElem? (i := 3013) rfl, List.mem_of_getElem? (i := 242) (by decide +kernel), List.mem_of_getElem? (i := 3011) (by decide +kernel), fun _ => List.mem_of_getElem? (i := 3012) (by decide +kernel)⟩
set_option maxRecDepth 20000 in
theorem hw_414 : hMw 414 := ⟨List.mem_of_getElem? (i := 3017) rfl, List.mem_of_getElem? (i := 242) (by decide +kernel), List.mem_of_getElem? (i := 3015) (by decide +kernel), fun _ => List.mem_of_getElem? (i := 3016) (by decide +kernel)⟩
set_option maxRecDepth 20000 in
theorem hw_415 : hMw 415 := ⟨List.mem_of_getElem? (i := 3021) rfl, List.mem_of_getElem? (i := 242) (by decide +kernel), List.mem_of_getElem? (i := 3019) (by decide +kernel), fun _ => List.mem_of_getElem? (i := 3020) (by decide +kernel)⟩
set_option maxRecDepth 20000 in
theorem hw_416 : hMw 416 := ⟨List.mem_of_getElem? (i := 3025) rfl, List.mem_of_getElem? (i := 242) (by decide +kernel), List.mem_of_getElem? (i := 3023) (by decide +kernel), fun _ => List.mem_of_getElem? (i := 3024) (by decide +kernel)⟩
set_option maxRecDepth 20000 in
theorem hw_417 : hMw 417 := ⟨List.mem_of_getElem? (i := 3029) rfl, List.mem_of_getElem? (i := 242) (by decide +kernel), List.mem_of_getElem? (i := 3027) (by decide +kernel), fun _ => List.mem_of_getElem? (i := 3028) (by decide +kernel)⟩
set_option maxRecDepth 20000 in
theorem hw_418 : hMw 418 := ⟨List.mem_of_getElem? (i := 3033) rfl, List.mem_of_getElem? (i := 242) (by decide +kernel), List.mem_of_getElem? (i := 3031) (by decide +kernel), fun _ => List.mem_of_getElem? (i := 3032) (by decide +kernel)⟩
set_option maxRecDepth 20000 in
theorem hw_419 : hMw 419 := ⟨List.mem_of_getElem? (i := 3037) rfl, List.mem_of_getElem? (i := 242) (by decide +kernel), List.mem_of_getElem? (i := 3035) (by decide +kernel), fun _ => List.mem_of_getElem? (i := 3036) (by decide +kernel)⟩
set_option maxRecDepth 20000 in
theorem hw_420 : hMw 420 := ⟨List.mem_of_getElem? (i := 3041) rfl, List.mem_of_getElem? (i := 242) (by decide +kernel), List.mem_of_getElem? (i := 3039) (by decide +kernel), fun _ => List.mem_of_getElem? (i := 3040) (by decide +kernel)⟩
set_option maxRecDepth 20000 in
theorem hw_421 : hMw 421 := ⟨List.mem_of_getElem? (i := 3046) rfl, List.mem_of_getElem? (i := 242) (by decide +kernel), List.mem_of_getElem? (i := 3045) (by decide +kernel), fun _ => List.mem_of_getElem? (i := 222) (by decide +kernel)⟩
set_option maxRecDepth 20000 in
theorem hw_422 : hMw 422 := ⟨List.mem_of_getElem? (i := 3050) rfl, List.mem_of_getElem? (i := 242) (by decide +kernel), List.mem_of_getElem? (i := 3048) (by decide +kernel), fun _ => List.mem_of_getElem? (i := 3049) (by decide +kernel)⟩
set_option maxRecDepth 20000 in
theorem hwc_0 : ∀ y ∈ ([0, 1, 2, 3, 4, 5, 6, 7, 8, 9, 10, 11, 12, 13, 14, 15, 16, 17, 18, 19, 20, 21, 22, 23] : List Nat), hMw y := List.forall_mem_cons.mpr ⟨hw_0, List.forall_mem_cons.mpr ⟨hw_1, List.forall_mem_cons.mpr ⟨hw_2, List.forall_mem_cons.mpr ⟨hw_3, List.forall_mem_cons.mpr ⟨hw_4, List.forall_mem_cons.mpr ⟨hw_5, List.forall_mem_cons.mpr ⟨hw_6, List.forall_mem_cons.mpr ⟨hw_7, List.forall_mem_cons.mpr ⟨hw_8, List.forall_mem_cons.mpr ⟨hw_9, List.forall_mem_cons.mpr ⟨hw_10, List.forall_mem_cons.mpr ⟨hw_11, List.forall_mem_cons.mpr ⟨hw_12, List.forall_mem_cons.mpr ⟨hw_13, List.forall_mem_cons.mpr ⟨hw_14, List.forall_mem_cons.mpr ⟨hw_15, List.forall_mem_cons.mpr ⟨hw_16, List.forall_mem_cons.mpr ⟨hw_17, List.forall_mem_cons.mpr ⟨hw_18, List.forall_mem_cons.mpr ⟨hw_19, List.forall_mem_cons.mpr ⟨hw_20, List.forall_mem_cons.mpr ⟨hw_21, List.forall_mem_cons.mpr ⟨hw_22, List.forall_mem_cons.mpr ⟨hw_23, fun _ h => absurd h List.not_mem_nil⟩⟩⟩⟩⟩⟩⟩⟩⟩⟩⟩⟩⟩⟩⟩⟩⟩⟩⟩⟩⟩⟩⟩⟩
set_option maxRecDepth 20000 in
theorem hwc_1 : ∀ y ∈ ([24, 25, 26, 27, 28, 29, 30, 31, 32, 33, 34, 35, 36, 37, 38, 39, 40, 41, 42, 43, 44, 45, 46, 47] : List Nat), hMw y := List.forall_mem_cons.mpr ⟨hw_24, List.forall_mem_cons.mpr ⟨hw_25, List.forall_mem_cons.mpr ⟨hw_26, List.forall_mem_cons.mpr ⟨hw_27, List.forall_mem_cons.mpr ⟨hw_28, List.forall_mem_cons.mpr ⟨hw_29, List.forall_mem_cons.mpr ⟨hw_30, List.forall_mem_cons.mpr ⟨hw_31, List.forall_mem_cons.mpr ⟨hw_32, List.forall_mem_cons.mpr ⟨hw_33, List.forall_mem_cons.mpr ⟨hw_34, List.forall_mem_cons.mpr ⟨hw_35, List.forall_mem_cons.mpr ⟨hw_36, List.forall_mem_cons.mpr ⟨hw_37, List.forall_mem_cons.mpr ⟨hw_38, List.forall_mem_cons.mpr ⟨hw_39, List.forall_mem_cons.mpr ⟨hw_40, List.forall_mem_cons.mpr ⟨hw_41, List.forall_mem_cons.mpr ⟨hw_42, List.forall_mem_cons.mpr ⟨hw_43, List.forall_mem_cons.mpr ⟨hw_44, List.forall_mem_cons.mpr ⟨hw_45, List.forall_mem_cons.mpr ⟨hw_46, List.forall_mem_cons.mpr ⟨hw_47, fun _ h => absurd h List.not_mem_nil⟩⟩⟩⟩⟩⟩⟩⟩⟩⟩⟩⟩⟩⟩⟩⟩⟩⟩⟩⟩⟩⟩⟩⟩
set_option maxRecDepth 20000 in
theorem hwc_2 : ∀ y ∈ ([48, 49, 50, 51, 52, 53, 54, 55, 56, 57, 58, 59, 60, 61, 62, 63, 64, 65, 66, 67, 68, 69, 70, 71] : List Nat), hMw y := List.forall_mem_cons.mpr ⟨hw_48, List.forall_mem_cons.mpr ⟨hw_49, List.forall_mem_cons.mpr ⟨hw_50, List.forall_mem_cons.mpr ⟨hw_51, List.forall_mem_cons.mpr ⟨hw_52, List.forall_mem_cons.mpr ⟨hw_53, List.forall_mem_cons.mpr ⟨hw_54, List.forall_mem_cons.mpr ⟨hw_55, List.forall_mem_cons.mpr ⟨hw_56, List.forall_mem_cons.mpr ⟨hw_57, List.forall_mem_cons.mpr ⟨hw_58, List.forall_mem_cons.mpr ⟨hw_59, List.forall_mem_cons.mpr ⟨hw_60, List.forall_mem_cons.mpr ⟨hw_61, List.forall_mem_cons.mpr ⟨hw_62, List.forall_mem_cons.mpr ⟨hw_63, List.forall_mem_cons.mpr ⟨hw_64, List.forall_mem_cons.mpr ⟨hw_65, List.forall_mem_cons.mpr ⟨hw_66, List.forall_mem_cons.mpr ⟨hw_67, List.forall_mem_cons.mpr ⟨hw_68, List.forall_mem_cons.mpr ⟨hw_69, List.forall_mem_cons.mpr ⟨hw_70, List.forall_mem_cons.mpr ⟨hw_71, fun _ h => absurd h List.not_mem_nil⟩⟩⟩⟩⟩⟩⟩⟩⟩⟩⟩⟩⟩⟩⟩⟩⟩⟩⟩⟩⟩⟩⟩⟩
set_option maxRecDepth 20000 in
theorem hwc_3 : ∀ y ∈ ([72, 73, 74, 75, 76, 77, 78, 79, 80, 81, 82, 83, 84, 85, 86, 87, 88, 89, 90, 91, 92, 93, 94, 95] : List Nat), hMw y := List.forall_mem_cons.mpr ⟨hw_72, List.forall_mem_cons.mpr ⟨hw_73, List.forall_mem_cons.mpr ⟨hw_74, List.forall_mem_cons.mpr ⟨hw_75, List.forall_mem_cons.mpr ⟨hw_76, List.forall_mem_cons.mpr ⟨hw_77, List.forall_mem_cons.mpr ⟨hw_78, List.forall_mem_cons.mpr ⟨hw_79, List.forall_mem_cons.mpr ⟨hw_80, List.forall_mem_cons.mpr ⟨hw_81, List.forall_mem_cons.mpr ⟨hw_82, List.forall_mem_cons.mpr ⟨hw_83, List.forall_mem_cons.mpr ⟨hw_84, List.forall_mem_cons.mpr ⟨hw_85, List.forall_mem_cons.mpr ⟨hw_86, List.forall_mem_cons.mpr ⟨hw_87, List.forall_mem_cons.mpr ⟨hw_88, List.forall_mem_cons.mpr ⟨hw_89, List.forall_mem_cons.mpr ⟨hw_90, List.forall_mem_cons.mpr ⟨hw_91, List.forall_mem_cons.mpr ⟨hw_92, List.forall_mem_cons.mpr ⟨hw_93, List.forall_mem_cons.mpr ⟨hw_94, List.forall_mem_cons.mpr ⟨hw_95, fun _ h => absurd h List.not_mem_nil⟩⟩⟩⟩⟩⟩⟩⟩⟩⟩⟩⟩⟩⟩⟩⟩⟩⟩⟩⟩⟩⟩⟩⟩
set_option maxRecDepth 20000 in
theorem hwc_4 : ∀ y ∈ ([96, 97, 98, 99, 100, 101, 102, 103, 104, 105, 106, 107, 108, 109, 110, 111, 112, 113, 114, 115, 116, 117, 118, 119] : List Nat), hMw y := List.forall_mem_cons.mpr ⟨hw_96, List.forall_mem_cons.mpr ⟨hw_97, List.forall_mem_cons.mpr ⟨hw_98, List.forall_mem_cons.mpr ⟨hw_99, List.forall_mem_cons.mpr ⟨hw_100, List.forall_mem_cons.mpr ⟨hw_101, List.forall_mem_cons.mpr ⟨hw_102, List.forall_mem_cons.mpr ⟨hw_103, List.forall_mem_cons.mpr ⟨hw_104, List.forall_mem_cons.mpr ⟨hw_105, List.forall_mem_cons.mpr ⟨hw_106, List.forall_mem_cons.mpr ⟨hw_107, List.forall_mem_cons.mpr ⟨hw_108, List.forall_mem_cons.mpr ⟨hw_109, List.forall_mem_cons.mpr ⟨hw_110, List.forall_mem_cons.mpr ⟨hw_111, List.forall_mem_cons.mpr ⟨hw_112, List.forall_mem_cons.mpr ⟨hw_113, List.forall_mem_cons.mpr ⟨hw_114, List.forall_mem_cons.mpr ⟨hw_115, List.forall_mem_cons.mpr ⟨hw_116, List.forall_mem_cons.mpr ⟨hw_117, List.forall_mem_cons.mpr ⟨hw_118, List.forall_mem_cons.mpr ⟨hw_119, fun _ h => absurd h List.not_mem_nil⟩⟩⟩⟩⟩⟩⟩⟩⟩⟩⟩⟩⟩⟩⟩⟩⟩⟩⟩⟩⟩⟩⟩⟩
set_option maxRecDepth 20000 in
theorem hwc_5 : ∀ y ∈ ([120, 121, 122, 123, 124, 125, 126, 127, 128, 129, 130, 131, 132, 133, 134, 135, 136, 137, 138, 139, 140, 141, 142, 143] : List Nat), hMw y := List.forall_mem_cons.mpr ⟨hw_120, List.forall_mem_cons.mpr ⟨hw_121, List.forall_mem_cons.mpr ⟨hw_122, List.forall_mem_cons.mpr ⟨hw_123, List.forall_mem_cons.mpr ⟨hw_124, List.forall_mem_cons.mpr ⟨hw_125, List.forall_mem_cons.mpr ⟨hw_126, List.forall_mem_cons.mpr ⟨hw_127, List.forall_mem_cons.mpr ⟨hw_128, List.forall_mem_cons.mpr ⟨hw_129, List.forall_mem_cons.mpr ⟨hw_130, List.forall_mem_cons.mpr ⟨hw_131, List.forall_mem_cons.mpr ⟨hw_132, List.forall_mem_cons.mpr ⟨hw_133, List.forall_mem_cons.mpr ⟨hw_134, List.forall_mem_cons.mpr ⟨hw_135, List.forall_mem_cons.mpr ⟨hw_136, List.forall_mem_cons.mpr ⟨hw_137, List.forall_mem_cons.mpr ⟨hw_138, List.forall_mem_cons.mpr ⟨hw_139, List.forall_mem_cons.mpr ⟨hw_140, List.forall_mem_cons.mpr ⟨hw_141, List.forall_mem_cons.mpr ⟨hw_142, List.forall_mem_cons.mpr ⟨hw_143, fun _ h => absurd h List.not_mem_nil⟩⟩⟩⟩⟩⟩⟩⟩⟩⟩⟩⟩⟩⟩⟩⟩⟩⟩⟩⟩⟩⟩⟩⟩
set_option maxRecDepth 20000 in
theorem hwc_6 : ∀ y ∈ ([144, 145, 146, 147, 148, 149, 150, 151, 152, 153, 154, 155, 156, 157, 158, 159, 160, 161, 162, 163, 164, 165, 166, 167] : List Nat), hMw y := List.forall_mem_cons.mpr ⟨hw_144, List.forall_mem_cons.mpr ⟨hw_145, List.forall_mem_cons.mpr ⟨hw_146, List.forall_mem_cons.mpr ⟨hw_147, List.forall_mem_cons.mpr ⟨hw_148, List.forall_mem_cons.mpr ⟨hw_149, List.forall_mem_cons.mpr ⟨hw_150, List.forall_mem_cons.mpr ⟨hw_151, List.forall_mem_cons.mpr ⟨hw_152, List.forall_mem_cons.mpr ⟨hw_153, List.forall_mem_cons.mpr ⟨hw_154, List.forall_mem_cons.mpr ⟨hw_155, List.forall_mem_cons.mpr ⟨hw_156, List.forall_mem_cons.mpr ⟨hw_157, List.forall_mem_cons.mpr ⟨hw_158, List.forall_mem_cons.mpr ⟨hw_159, List.forall_mem_cons.mpr ⟨hw_160, List.forall_mem_cons.mpr ⟨hw_161, List.forall_mem_cons.mpr ⟨hw_162, List.forall_mem_cons.mpr ⟨hw_163, List.forall_mem_cons.mpr ⟨hw_164, List.forall_mem_cons.mpr ⟨hw_165, List.forall_mem_cons.mpr ⟨hw_166, List.forall_mem_cons.mpr ⟨hw_167, fun _ h => absurd h List.not_mem_nil⟩⟩⟩⟩⟩⟩⟩⟩⟩⟩⟩⟩⟩⟩⟩⟩⟩⟩⟩⟩⟩⟩⟩⟩
set_option maxRecDepth 20000 in
theorem hwc_7 : ∀ y ∈ ([168, 169, 170, 171, 172, 173, 174, 175, 176, 177, 178, 179, 180, 181, 182, 183, 184, 185, 186, 187, 188, 189, 190, 191] : List Nat), hMw y := List.forall_mem_cons.mpr ⟨hw_168, List.forall_mem_cons.mpr ⟨hw_169, List.forall_mem_cons.mpr ⟨hw_170, List.forall_mem_cons.mpr ⟨hw_171, List.forall_mem_cons.mpr ⟨hw_172, List.forall_mem_cons.mpr ⟨hw_173, List.forall_mem_cons.mpr ⟨hw_174, List.forall_mem_cons.mpr ⟨hw_175, List.forall_mem_cons.mpr ⟨hw_176, List.forall_mem_cons.mpr ⟨hw_177, List.forall_mem_cons.mpr ⟨hw_178, List.forall_mem_cons.mpr ⟨hw_179, List.forall_mem_cons.mpr ⟨hw_180, List.forall_mem_cons.mpr ⟨hw_181, List.forall_mem_cons.mpr ⟨hw_182, List.forall_mem_cons.mpr ⟨hw_183, List.forall_mem_cons.mpr ⟨hw_184, List.forall_mem_cons.mpr ⟨hw_185, List.forall_mem_cons.mpr ⟨hw_186, List.forall_mem_cons.mpr ⟨hw_187, List.forall_mem_cons.mpr ⟨hw_188, List.forall_mem_cons.mpr ⟨hw_189, List.forall_mem_cons.mpr ⟨hw_190, List.forall_mem_cons.mpr ⟨hw_191, fun _ h => absurd h List.not_mem_nil⟩⟩⟩⟩⟩⟩⟩⟩⟩⟩⟩⟩⟩⟩⟩⟩⟩⟩⟩⟩⟩⟩⟩⟩
set_option maxRecDepth 20000 in
theorem hwc_8 : ∀ y ∈ ([192, 193, 194, 195, 196, 197, 198, 199, 200, 201, 202, 203, 204, 205, 206, 207, 208, 209, 210, 211, 212, 213, 214, 215] : List Nat), hMw y := List.forall_mem_cons.mpr ⟨hw_192, List.forall_mem_cons.mpr ⟨hw_193, List.forall_mem_cons.mpr ⟨hw_194, List.forall_mem_cons.mpr ⟨hw_195, List.forall_mem_cons.mpr ⟨hw_196, List.forall_mem_cons.mpr ⟨hw_197, List.forall_mem_cons.mpr ⟨hw_198, List.forall_mem_cons.mpr ⟨hw_199, List.forall_mem_cons.mpr ⟨hw_200, List.forall_mem_cons.mpr ⟨hw_201, List.forall_mem_cons.mpr ⟨hw_202, List.forall_mem_cons.mpr ⟨hw_203, List.forall_mem_cons.mpr ⟨hw_204, List.forall_mem_cons.mpr ⟨hw_205, List.forall_mem_cons.mpr ⟨hw_206, List.forall_mem_cons.mpr ⟨hw_207, List.forall_mem_cons.mpr ⟨hw_208, List.forall_mem_cons.mpr ⟨hw_209, List.forall_mem_cons.mpr ⟨hw_210, List.forall_mem_cons.mpr ⟨hw_211, List.forall_mem_cons.mpr ⟨hw_212, List.forall_mem_cons.mpr ⟨hw_213, List.forall_mem_cons.mpr ⟨hw_214, List.forall_mem_cons.mpr ⟨hw_215, fun _ h => absurd h List.not_mem_nil⟩⟩⟩⟩⟩⟩⟩⟩⟩⟩⟩⟩⟩⟩⟩⟩⟩⟩⟩⟩⟩⟩⟩⟩
set_option maxRecDepth 20000 in
theorem hwc_9 : ∀ y ∈ ([216, 217, 218, 219, 220, 221, 222, 223, 224, 225, 226, 227, 228, 229, 230, 231, 232, 233, 234, 235, 236, 237, 238, 239] : List Nat), hMw y := List.forall_mem_cons.mpr ⟨hw_216, List.forall_mem_cons.mpr ⟨hw_217, List.forall_mem_cons.mpr ⟨hw_218, List.forall_mem_cons.mpr ⟨hw_219, List.forall_mem_cons.mpr ⟨hw_220, List.forall_mem_cons.mpr ⟨hw_221, List.forall_mem_cons.mpr ⟨hw_222, List.forall_mem_cons.mpr ⟨hw_223, List.forall_mem_cons.mpr ⟨hw_224, List.forall_mem_cons.mpr ⟨hw_225, List.forall_mem_cons.mpr ⟨hw_226, List.forall_mem_cons.mpr ⟨hw_227, List.forall_mem_cons.mpr ⟨hw_228, List.forall_mem_cons.mpr ⟨hw_229, List.forall_mem_cons.mpr ⟨hw_230, List.forall_mem_cons.mpr ⟨hw_231, List.forall_mem_cons.mpr ⟨hw_232, List.forall_mem_cons.mpr ⟨hw_233, List.forall_mem_cons.mpr ⟨hw_234, List.forall_mem_cons.mpr ⟨hw_235, List.forall_mem_cons.mpr ⟨hw_236, List.forall_mem_cons.mpr ⟨hw_237, List.forall_mem_cons.mpr ⟨hw_238, List.forall_mem_cons.mpr ⟨hw_239, fun _ h => absurd h List.not_mem_nil⟩⟩⟩⟩⟩⟩⟩⟩⟩⟩⟩⟩⟩⟩⟩⟩⟩⟩⟩⟩⟩⟩⟩⟩
set_option maxRecDepth 20000 in
theorem hwc_10 : ∀ y ∈ ([240, 241, 242, 243, 244, 245, 246, 247, 248, 249, 250, 251, 252, 253, 254, 255, 256, 257, 258, 259, 260, 261, 262, 263] : List Nat), hMw y := List.forall_mem_cons.mpr ⟨hw_240, List.forall_mem_cons.mpr ⟨hw_241, List.forall_mem_cons.mpr ⟨hw_242, List.forall_mem_cons.mpr ⟨hw_243, List.forall_mem_cons.mpr ⟨hw_244, List.forall_mem_cons.mpr ⟨hw_245, List.forall_mem_cons.mpr ⟨hw_246, List.forall_mem_cons.mpr ⟨hw_247, List.forall_mem_cons.mpr ⟨hw_248, List.forall_mem_cons.mpr ⟨hw_249, List.forall_mem_cons.mpr ⟨hw_250, List.forall_mem_cons.mpr ⟨hw_251, List.forall_mem_cons.mpr ⟨hw_252, List.forall_mem_cons.mpr ⟨hw_253, List.forall_mem_cons.mpr ⟨hw_254, List.forall_mem_cons.mpr ⟨hw_255, List.forall_mem_cons.mpr ⟨hw_256, List.forall_mem_cons.mpr ⟨hw_257, List.forall_mem_cons.mpr ⟨hw_258, List.forall_mem_cons.mpr ⟨hw_259, List.forall_mem_cons.mpr ⟨hw_260, List.forall_mem_cons.mpr ⟨hw_261, List.forall_mem_cons.mpr ⟨hw_262, List.forall_mem_cons.mpr ⟨hw_263, fun _ h => absurd h List.not_mem_nil⟩⟩⟩⟩⟩⟩⟩⟩⟩⟩⟩⟩⟩⟩⟩⟩⟩⟩⟩⟩⟩⟩⟩⟩
set_option maxRecDepth 20000 in
theorem hwc_11 : ∀ y ∈ ([264, 265, 266, 267, 268, 269, 270, 271, 272, 273, 274, 275, 276, 277, 278, 279, 280, 281, 282, 283, 284, 285, 286, 287] : List Nat), hMw y := List.forall_mem_cons.mpr ⟨hw_264, List.forall_mem_cons.mpr ⟨hw_265, List.forall_mem_cons.mpr ⟨hw_266, List.forall_mem_cons.mpr ⟨hw_267, List.forall_mem_cons.mpr ⟨hw_268, List.forall_mem_cons.mpr ⟨hw_269, List.forall_mem_cons.mpr ⟨hw_270, List.forall_mem_cons.mpr ⟨hw_271, List.forall_mem_cons.mpr ⟨hw_272, List.forall_mem_cons.mpr ⟨hw_273, List.forall_mem_cons.mpr ⟨hw_274, List.forall_mem_cons.mpr ⟨hw_275, List.forall_mem_cons.mpr ⟨hw_276, List.forall_mem_cons.mpr ⟨hw_277, List.forall_mem_cons.mpr ⟨hw_278, List.forall_mem_cons.mpr ⟨hw_279, List.forall_mem_cons.mpr ⟨hw_280, List.forall_mem_cons.mpr ⟨hw_281, List.forall_mem_cons.mpr ⟨hw_282, List.forall_mem_cons.mpr ⟨hw_283, List.forall_mem_cons.mpr ⟨hw_284, List.forall_mem_cons.mpr ⟨hw_285, List.forall_mem_cons.mpr ⟨hw_286, List.forall_mem_cons.mpr ⟨hw_287, fun _ h => absurd h List.not_mem_nil⟩⟩⟩⟩⟩⟩⟩⟩⟩⟩⟩⟩⟩⟩⟩⟩⟩⟩⟩⟩⟩⟩⟩⟩
set_option maxRecDepth 20000 in
theorem hwc_12 : ∀ y ∈ ([288, 289, 290, 291, 292, 293, 294, 295, 296, 297, 298, 299, 300, 301, 302, 303, 304, 305, 306, 307, 308, 309, 310, 311] : List Nat), hMw y := List.forall_mem_cons.mpr ⟨hw_288, List.forall_mem_cons.mpr ⟨hw_289, List.forall_mem_cons.mpr ⟨hw_290, List.forall_mem_cons.mpr ⟨hw_291, List.forall_mem_cons.mpr ⟨hw_292, List.forall_mem_cons.mpr ⟨hw_293, List.forall_mem_cons.mpr ⟨hw_294, List.forall_mem_cons.mpr ⟨hw_295, List.forall_mem_cons.mpr ⟨hw_296, List.forall_mem_cons.mpr ⟨hw_297, List.forall_mem_cons.mpr ⟨hw_298, List.forall_mem_cons.mpr ⟨hw_299, List.forall_mem_cons.mpr ⟨hw_300, List.forall_mem_cons.mpr ⟨hw_301, List.forall_mem_cons.mpr ⟨hw_302, List.forall_mem_cons.mpr ⟨hw_303, List.forall_mem_cons.mpr ⟨hw_304, List.forall_mem_cons.mpr ⟨hw_305, List.forall_mem_cons.mpr ⟨hw_306, List.forall_mem_cons.mpr ⟨hw_307, List.forall_mem_cons.mpr ⟨hw_308, List.forall_mem_cons.mpr ⟨hw_309, List.forall_mem_cons.mpr ⟨hw_310, List.forall_mem_cons.mpr ⟨hw_311, fun _ h => absurd h List.not_mem_nil⟩⟩⟩⟩⟩⟩⟩⟩⟩⟩⟩⟩⟩⟩⟩⟩⟩⟩⟩⟩⟩⟩⟩⟩
set_option maxRecDepth 20000 in
theorem hwc_13 : ∀ y ∈ ([312, 313, 314, 315, 316, 317, 318, 319, 320, 321, 322, 323, 324, 325, 326, 327, 328, 329, 330, 331, 332, 333, 334, 335] : List Nat), hMw y := List.forall_mem_cons.mpr ⟨hw_312, List.forall_mem_cons.mpr ⟨hw_313, List.forall_mem_cons.mpr ⟨hw_314, List.forall_mem_cons.mpr ⟨hw_315, List.forall_mem_cons.mpr ⟨hw_316, List.forall_mem_cons.mpr ⟨hw_317, List.forall_mem_cons.mpr ⟨hw_318, List.forall_mem_cons.mpr ⟨hw_319, List.forall_mem_cons.mpr ⟨hw_320, List.forall_mem_cons.mpr ⟨hw_321, List.forall_mem_cons.mpr ⟨hw_322, List.forall_mem_cons.mpr ⟨hw_323, List.forall_mem_cons.mpr ⟨hw_324, List.forall_mem_cons.mpr ⟨hw_325, List.forall_mem_cons.mpr ⟨hw_326, List.forall_mem_cons.mpr ⟨hw_327, List.forall_mem_cons.mpr ⟨hw_328, List.forall_mem_cons.mpr ⟨hw_329, List.forall_mem_cons.mpr ⟨hw_330, List.forall_mem_cons.mpr ⟨hw_331, List.forall_mem_cons.mpr ⟨hw_332, List.forall_mem_cons.mpr ⟨hw_333, List.forall_mem_cons.mpr ⟨hw_334, List.forall_mem_cons.mpr ⟨hw_335, fun _ h => absurd h List.not_mem_nil⟩⟩⟩⟩⟩⟩⟩⟩⟩⟩⟩⟩⟩⟩⟩⟩⟩⟩⟩⟩⟩⟩⟩⟩
set_option maxRecDepth 20000 in
theorem hwc_14 : ∀ y ∈ ([336, 337, 338, 339, 340, 341, 342, 343, 344, 345, 346, 347, 348, 349, 350, 351, 352, 353, 354, 355, 356, 357, 358, 359] : List Nat), hMw y := List.forall_mem_cons.mpr ⟨hw_336, List.forall_mem_cons.mpr ⟨hw_337, List.forall_mem_cons.mpr ⟨hw_338, List.forall_mem_cons.mpr ⟨hw_339, List.forall_mem_cons.mpr ⟨hw_340, List.forall_mem_cons.mpr ⟨hw_341, List.forall_mem_cons.mpr ⟨hw_342, List.forall_mem_cons.mpr ⟨hw_343, List.forall_mem_cons.mpr ⟨hw_344, List.forall_mem_cons.mpr ⟨hw_345, List.forall_mem_cons.mpr ⟨hw_346, List.forall_mem_cons.mpr ⟨hw_347, List.forall_mem_cons.mpr ⟨hw_348, List.forall_mem_cons.mpr ⟨hw_349, List.forall_mem_cons.mpr ⟨hw_350, List.forall_mem_cons.mpr ⟨hw_351, List.forall_mem_cons.mpr ⟨hw_352, List.forall_mem_cons.mpr ⟨hw_353, List.forall_mem_cons.mpr ⟨hw_354, List.forall_mem_cons.mpr ⟨hw_355, List.forall_mem_cons.mpr ⟨hw_356, List.forall_mem_cons.mpr ⟨hw_357, List.forall_mem_cons.mpr ⟨hw_358, List.forall_mem_cons.mpr ⟨hw_359, fun _ h => absurd h List.not_mem_nil⟩⟩⟩⟩⟩⟩⟩⟩⟩⟩⟩⟩⟩⟩⟩⟩⟩⟩⟩⟩⟩⟩⟩⟩
set_option maxRecDepth 20000 in
theorem hwc_15 : ∀ y ∈ ([360, 361, 362, 363, 364, 365, 366, 367, 368, 369, 370, 371, 372, 373, 374, 375, 376, 377, 378, 379, 380, 381, 382, 383] : List Nat), hMw y := List.forall_mem_cons.mpr ⟨hw_360, List.forall_mem_cons.mpr ⟨hw_361, List.forall_mem_cons.mpr ⟨hw_362, List.forall_mem_cons.mpr ⟨hw_363, List.forall_mem_cons.mpr ⟨hw_364, List.forall_mem_cons.mpr ⟨hw_365, List.forall_mem_cons.mpr ⟨hw_366, List.forall_mem_cons.mpr ⟨hw_367, List.forall_mem_cons.mpr ⟨hw_368, List.forall_mem_cons.mpr ⟨hw_369, List.forall_mem_cons.mpr ⟨hw_370, List.forall_mem_cons.mpr ⟨hw_371, List.forall_mem_cons.mpr ⟨hw_372, List.forall_mem_cons.mpr ⟨hw_373, List.forall_mem_cons.mpr ⟨hw_374, List.forall_mem_cons.mpr ⟨hw_375, List.forall_mem_cons.mpr ⟨hw_376, List.forall_mem_cons.mpr ⟨hw_377, List.forall_mem_cons.mpr ⟨hw_378, List.forall_mem_cons.mpr ⟨hw_379, List.forall_mem_cons.mpr ⟨hw_380, List.forall_mem_cons.mpr ⟨hw_381, List.forall_mem_cons.mpr ⟨hw_382, List.forall_mem_cons.mpr ⟨hw_383, fun _ h => absurd h List.not_mem_nil⟩⟩⟩⟩⟩⟩⟩⟩⟩⟩⟩⟩⟩⟩⟩⟩⟩⟩⟩⟩⟩⟩⟩⟩
set_option maxRecDepth 20000 in
theorem hwc_16 : ∀ y ∈ ([384, 385, 386, 387, 388, 389, 390, 391, 392, 393, 394, 395, 396, 397, 398, 399, 400, 401, 402, 403, 404, 405, 406, 407] : List Nat), hMw y := List.forall_mem_cons.mpr ⟨hw_384, List.forall_mem_cons.mpr ⟨hw_385, List.forall_mem_cons.mpr ⟨hw_386, List.forall_mem_cons.mpr ⟨hw_387, List.forall_mem_cons.mpr ⟨hw_388, List.forall_mem_cons.mpr ⟨hw_389, List.forall_mem_cons.mpr ⟨hw_390, List.forall_mem_cons.mpr ⟨hw_391, List.forall_mem_cons.mpr ⟨hw_392, List.forall_mem_cons.mpr ⟨hw_393, List.forall_mem_cons.mpr ⟨hw_394, List.forall_mem_cons.mpr ⟨hw_395, List.forall_mem_cons.mpr ⟨hw_396, List.forall_mem_cons.mpr ⟨hw_397, List.forall_mem_cons.mpr ⟨hw_398, List.forall_mem_cons.mpr ⟨hw_399, List.forall_mem_cons.mpr ⟨hw_400, List.forall_mem_cons.mpr ⟨hw_401, List.forall_mem_cons.mpr ⟨hw_402, List.forall_mem_cons.mpr ⟨hw_403, List.forall_mem_cons.mpr ⟨hw_404, List.forall_mem_cons.mpr ⟨hw_405, List.forall_mem_cons.mpr ⟨hw_406, List.forall_mem_cons.mpr ⟨hw_407, fun _ h => absurd h List.not_mem_nil⟩⟩⟩⟩⟩⟩⟩⟩⟩⟩⟩⟩⟩⟩⟩⟩⟩⟩⟩⟩⟩⟩⟩⟩
set_option maxRecDepth 20000 in
theorem hwc_17 : ∀ y ∈ ([408, 409, 410, 411, 412, 413, 414, 415, 416, 417, 418, 419, 420, 421, 422] : List Nat), hMw y := List.forall_mem_cons.mpr ⟨hw_408, List.forall_mem_cons.mpr ⟨hw_409, List.forall_mem_cons.mpr ⟨hw_410, List.forall_mem_cons.mpr ⟨hw_411, List.forall_mem_cons.mpr ⟨hw_412, List.forall_mem_cons.mpr ⟨hw_413, List.forall_mem_cons.mpr ⟨hw_414, List.forall_mem_cons.mpr ⟨hw_415, List.forall_mem_cons.mpr ⟨hw_416, List.forall_mem_cons.mpr ⟨hw_417, List.forall_mem_cons.mpr ⟨hw_418, List.forall_mem_cons.mpr ⟨hw_419, List.forall_mem_cons.mpr ⟨hw_420, List.forall_mem_cons.mpr ⟨hw_421, List.forall_mem_cons.mpr ⟨hw_422, fun _ h => absurd h List.not_mem_nil⟩⟩⟩⟩⟩⟩⟩⟩⟩⟩⟩⟩⟩⟩⟩
theorem hmem_app {P : Nat → Prop} {a b : List Nat} (ha : ∀ y ∈ a, P y) (hb : ∀ y ∈ b, P y) : ∀ y ∈ a ++ b, P y := fun y h => (List.mem_append.mp h).elim (ha y) (hb y)
set_option maxRecDepth 20000 in
theorem hMw_of {y : Nat} (h : y < hNM) : hMw y := (hmem_app hwc_0 (hmem_app hwc_1 (hmem_app hwc_2 (hmem_app hwc_3 (hmem_app hwc_4 (hmem_app hwc_5 (hmem_app hwc_6 (hmem_app hwc_7 (hmem_app hwc_8 (hmem_app hwc_9 (hmem_app hwc_10 (hmem_app hwc_11 (hmem_app hwc_12 (hmem_app hwc_13 (hmem_app hwc_14 (hmem_app hwc_15 (hmem_app hwc_16 hwc_17))))))))))))))))) y (by
  have e : List.range hNM = [0, 1, 2, 3, 4, 5, 6, 7, 8, 9, 10, 11, 12, 13, 14, 15, 16, 17, 18, 19, 20, 21, 22, 23] ++ ([24, 25, 26, 27, 28, 29, 30, 31, 32, 33, 34, 35, 36, 37, 38, 39, 40, 41, 42, 43, 44, 45, 46, 47] ++ ([48, 49, 50, 51, 52, 53, 54, 55, 56, 57, 58, 59, 60, 61, 62, 63, 64, 65, 66, 67, 68, 69, 70, 71] ++ ([72, 73, 74, 75, 76, 77, 78, 79, 80, 81, 82, 83, 84, 85, 86, 87, 88, 89, 90, 91, 92, 93, 94, 95] ++ ([96, 97, 98, 99, 100, 101, 102, 103, 104, 105, 106, 107, 108, 109, 110, 111, 112, 113, 114, 115, 116, 117, 118, 119] ++ ([120, 121, 122, 123, 124, 125, 126, 127, 128, 129, 130, 131, 132, 133, 134, 135, 136, 137, 138, 139, 140, 141, 142, 143] ++ ([144, 145, 146, 147, 148, 149, 150, 151, 152, 153, 154, 155, 156, 157, 158, 159, 160, 161, 162, 163, 164, 165, 166, 167] ++ ([168, 169, 170, 171, 172, 173, 174, 175, 176, 177, 178, 179, 180, 181, 182, 183, 184, 185, 186, 187, 188, 189, 190, 191] ++ ([192, 193, 194, 195, 196, 197, 198, 199, 200, 201, 202, 203, 204, 205, 206, 207, 208, 209, 210, 211, 212, 213, 214, 215] ++ ([216, 217, 218, 219, 220, 221, 222, 223, 224, 225, 226, 227, 228, 229, 230, 231, 232, 233, 234, 235, 236, 237, 238, 239] ++ ([240, 241, 242, 243, 244, 245, 246, 247, 248, 249, 250, 251, 252, 253, 254, 255, 256, 257, 258, 259, 260, 261, 262, 263] ++ ([264, 265, 266, 267, 268, 269, 270, 271, 272, 273, 274, 275, 276, 277, 278, 279, 280, 281, 282, 283, 284, 285, 286, 287] ++ ([288, 289, 290, 291, 292, 293, 294, 295, 296, 297, 298, 299, 300, 301, 302, 303, 304, 305, 306, 307, 308, 309, 310, 311] ++ ([312, 313, 314, 315, 316, 317, 318, 319, 320, 321, 322, 323, 324, 325, 326, 327, 328, 329, 330, 331, 332, 333, 334, 335] ++ ([336, 337, 338, 339, 340, 341, 342, 343, 344, 345, 346, 347, 348, 349, 350, 351, 352, 353, 354, 355, 356, 357, 358, 359] ++ ([360, 361, 362, 363, 364, 365, 366, 367, 368, 369, 370, 371, 372, 373, 374, 375, 376, 377, 378, 379, 380, 381, 382, 383] ++ ([384, 385, 386, 387, 388, 389, 390, 391, 392, 393, 394, 395, 396, 397, 398, 399, 400, 401, 402, 403, 404, 405, 406, 407] ++ ([408, 409, 410, 411, 412, 413, 414, 415, 416, 417, 418, 419, 420, 421, 422]))))))))))))))))) := by decide +kernel
  rw [← e]
  exact List.mem_range.mpr h)
