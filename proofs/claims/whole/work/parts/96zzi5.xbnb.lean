/-! The class's mount. -/
theorem T_180_0 : hTab 180 0 = some ((3, 2, 2, []), 1) := rfl
theorem T_180_1 : hTab 180 1 = some ((24, 16, Int.ofNat 4, []), 4) := rfl
theorem T_180_4 : hTab 180 4 = some ((0, 0, 4, []), 5) := rfl
theorem T_180_5 : hTab 180 5 = some ((19, 1, Int.ofNat 16, []), 8) := rfl
theorem T_180_8 : hTab 180 8 = some ((3, 2, 2, []), 9) := rfl
theorem T_180_9 : hTab 180 9 = some ((0, 0, 1, []), 10) := rfl
theorem T_180_10 : hTab 180 10 = some ((31, 172, 0, []), 13) := rfl
theorem T_180_13 : hTab 180 13 = some ((22, 0, Int.ofNat 17, []), 16) := rfl
theorem T_180_16 : hTab 180 16 = some ((0, 0, 0, []), 17) := rfl
theorem T_180_17 : hTab 180 17 = some ((4, 3, 0, []), 18) := rfl
theorem T_180_18 : hTab 180 18 = some ((3, 2, 2, []), 19) := rfl
theorem T_180_19 : hTab 180 19 = some ((3, 2, 2, []), 20) := rfl
theorem T_180_20 : hTab 180 20 = some ((24, 16, Int.ofNat 4, []), 23) := rfl
theorem T_180_23 : hTab 180 23 = some ((0, 0, 2, []), 24) := rfl
theorem T_180_24 : hTab 180 24 = some ((10, 1, 0, []), 25) := rfl
theorem T_180_25 : hTab 180 25 = some ((31, 151, 0, []), 28) := rfl
theorem T_180_28 : hTab 180 28 = some ((4, 4, 0, []), 30) := rfl
theorem T_180_30 : hTab 180 30 = some ((3, 2, 2, []), 31) := rfl
theorem T_180_31 : hTab 180 31 = some ((24, 16, Int.ofNat 4, []), 34) := rfl
theorem T_180_34 : hTab 180 34 = some ((0, 0, 3, []), 35) := rfl
theorem T_180_35 : hTab 180 35 = some ((19, 2, Int.ofNat 62, []), 38) := rfl
theorem T_180_38 : hTab 180 38 = some ((3, 2, 2, []), 39) := rfl
theorem T_180_39 : hTab 180 39 = some ((24, 16, Int.ofNat 4, []), 42) := rfl
theorem T_180_42 : hTab 180 42 = some ((0, 0, 4, []), 43) := rfl
theorem T_180_43 : hTab 180 43 = some ((19, 4, Int.ofNat 62, []), 46) := rfl
theorem T_180_46 : hTab 180 46 = some ((3, 3, 0, []), 47) := rfl
theorem T_180_47 : hTab 180 47 = some ((0, 0, (-1), []), 48) := rfl
theorem T_180_48 : hTab 180 48 = some ((19, 0, Int.ofNat 62, []), 51) := rfl
theorem T_180_51 : hTab 180 51 = some ((3, 4, 0, []), 53) := rfl
theorem T_180_53 : hTab 180 53 = some ((18, 2, Int.ofNat 62, []), 56) := rfl
theorem T_180_56 : hTab 180 56 = some ((3, 4, 0, []), 58) := rfl
theorem T_180_58 : hTab 180 58 = some ((0, 0, 3, []), 59) := rfl
theorem T_180_59 : hTab 180 59 = some ((19, 2, Int.ofNat 65, []), 62) := rfl
theorem T_180_62 : hTab 180 62 = some ((0, 0, 18, []), 64) := rfl
theorem T_180_64 : hTab 180 64 = some ((33, 1, 0, []), 65) := rfl
theorem T_180_65 : hTab 180 65 = some ((3, 0, 2, []), 66) := rfl
theorem T_180_66 : hTab 180 66 = some ((24, 14, Int.ofNat 0, []), 69) := rfl
theorem T_180_69 : hTab 180 69 = some ((3, 4, 0, []), 71) := rfl
theorem T_180_71 : hTab 180 71 = some ((31, 122, 0, []), 74) := rfl
theorem T_180_74 : hTab 180 74 = some ((0, 0, 0, []), 75) := rfl
theorem T_180_75 : hTab 180 75 = some ((3, 0, 2, []), 76) := rfl
theorem T_180_76 : hTab 180 76 = some ((24, 14, Int.ofNat 0, []), 79) := rfl
theorem T_180_79 : hTab 180 79 = some ((3, 4, 0, []), 81) := rfl
theorem T_180_81 : hTab 180 81 = some ((3, 1, 2, []), 82) := rfl
theorem T_180_82 : hTab 180 82 = some ((24, 6, Int.ofNat 7, []), 85) := rfl
theorem T_180_85 : hTab 180 85 = some ((31, 127, 0, []), 88) := rfl
theorem T_180_88 : hTab 180 88 = some ((3, 0, 2, []), 89) := rfl
theorem T_180_89 : hTab 180 89 = some ((24, 14, Int.ofNat 0, []), 92) := rfl
theorem T_180_92 : hTab 180 92 = some ((24, 1, Int.ofNat 2, []), 95) := rfl
theorem T_180_95 : hTab 180 95 = some ((31, 26, 0, []), 98) := rfl
theorem T_180_98 : hTab 180 98 = some ((4, 5, 0, []), 100) := rfl
theorem T_180_100 : hTab 180 100 = some ((3, 0, 2, []), 101) := rfl
theorem T_180_101 : hTab 180 101 = some ((24, 14, Int.ofNat 2, []), 104) := rfl
theorem T_180_104 : hTab 180 104 = some ((3, 4, 0, []), 106) := rfl
theorem T_180_106 : hTab 180 106 = some ((3, 0, 2, []), 107) := rfl
theorem T_180_107 : hTab 180 107 = some ((24, 14, Int.ofNat 0, []), 110) := rfl
theorem T_180_110 : hTab 180 110 = some ((24, 1, Int.ofNat 5, []), 113) := rfl
theorem T_180_113 : hTab 180 113 = some ((0, 0, 0, []), 114) := rfl
theorem T_180_114 : hTab 180 114 = some ((0, 0, 1, []), 115) := rfl
theorem T_180_115 : hTab 180 115 = some ((31, 128, 0, []), 118) := rfl
theorem T_180_118 : hTab 180 118 = some ((3, 5, 0, []), 120) := rfl
theorem T_180_120 : hTab 180 120 = some ((18, 1, Int.ofNat 132, []), 123) := rfl
theorem T_180_123 : hTab 180 123 = some ((3, 0, 2, []), 124) := rfl
theorem T_180_124 : hTab 180 124 = some ((3, 1, 2, []), 125) := rfl
theorem T_180_125 : hTab 180 125 = some ((3, 2, 2, []), 126) := rfl
theorem T_180_126 : hTab 180 126 = some ((31, 173, 0, []), 129) := rfl
theorem T_180_129 : hTab 180 129 = some ((22, 0, Int.ofNat 134, []), 132) := rfl
theorem T_180_132 : hTab 180 132 = some ((3, 5, 0, []), 134) := rfl
theorem T_180_134 : hTab 180 134 = some ((4, 5, 0, []), 136) := rfl
theorem T_180_136 : hTab 180 136 = some ((3, 5, 0, []), 138) := rfl
theorem T_180_138 : hTab 180 138 = some ((18, 1, Int.ofNat 153, []), 141) := rfl
theorem T_180_141 : hTab 180 141 = some ((3, 0, 2, []), 142) := rfl
theorem T_180_142 : hTab 180 142 = some ((3, 1, 2, []), 143) := rfl
theorem T_180_143 : hTab 180 143 = some ((24, 6, Int.ofNat 9, []), 146) := rfl
theorem T_180_146 : hTab 180 146 = some ((3, 3, 0, []), 147) := rfl
theorem T_180_147 : hTab 180 147 = some ((31, 174, 0, []), 150) := rfl
theorem T_180_150 : hTab 180 150 = some ((22, 0, Int.ofNat 155, []), 153) := rfl
theorem T_180_153 : hTab 180 153 = some ((3, 5, 0, []), 155) := rfl
theorem T_180_155 : hTab 180 155 = some ((33, 1, 0, []), 156) := rfl
theorem mN_180 : hmN 180 = 3 := by decide +kernel
theorem mL_180 : hmL 180 = 6 := by decide +kernel
theorem mK_180 : hmK 180 = 1 := by decide +kernel
theorem mO_180 : hmO 180 = 14 := by decide +kernel
section XBNN
variable {fb : Bool} {d n a0 y ga k : Nat} {σ0 σ : hM} {W W0 W1 W2 V P P0 Q : qR} {R R0 R1 R2 V3 : rR} {i j z v s e w f g u p T U t N C F K most : Int} {l wd : List Int} {c1 c2 ch : Ch} {kk : Nat}
theorem x_digitN (hP : PX σ0 W R σ) (h : CMD W k l) (hw : w < 0) : CL fb (d + 3) 151 [vR (some k), vI w] σ (rP (-1) σ) := by
  have h1 := h.1
  have hso : CL fb d 104 [vR (some k), vI w] σ (rP 0 σ) := by
    refine CL_in mL_104 rfl ?_
    show WP fb _ 104 0 [some (vR (some k)), some (vI w)] [] σ _
    refine x_li (z := w) T_104_0 rfl ?_
    refine x_if T_104_1 (fun _ => ?_) (fun h => absurd (show w < 0 by omega) h)
    refine x_ic T_104_21 ?_
    refine x_goto T_104_22 ?_
    refine x_ri T_104_31 ?_
    exact ⟨rfl, rfl⟩
  have heo : CL fb d 106 [vR (some k), vI w] σ (rP 0 σ) := by
    refine CL_in mL_106 rfl ?_
    show WP fb _ 106 0 [some (vR (some k)), some (vI w)] [] σ _
    refine x_li (z := w) T_106_0 rfl ?_
    refine x_if T_106_1 (fun _ => ?_) (fun h => absurd (show w < 0 by omega) h)
    refine x_ic T_106_21 ?_
    refine x_goto T_106_22 ?_
    refine x_ri T_106_31 ?_
    exact ⟨rfl, rfl⟩
  have hle : CL fb (d + 1) 105 [vR (some k), vI w] σ (rP 0 σ) := by
    refine CL_in mL_105 rfl ?_
    show WP fb _ 105 0 [some (vR (some k)), some (vI w)] [] σ _
    refine x_lr (z := some k) T_105_0 rfl ?_
    refine x_li (z := w) T_105_1 rfl ?_
    refine x_cv2 T_105_2 mN_106 mL_106 (Nat.le_of_ble_eq_true rfl) mO_106 (hP.o h.1) (Nat.le_of_ble_eq_true rfl) (heo) ?_
    rintro _ σ ⟨rfl, rfl⟩
    refine cI ?_
    refine x_lr (z := some k) T_105_5 rfl ?_
    refine x_li (z := w) T_105_6 rfl ?_
    refine x_cv2 T_105_7 mN_104 mL_104 (Nat.le_of_ble_eq_true rfl) mO_104 (hP.o h.1) (Nat.le_of_ble_eq_true rfl) (hso) ?_
    rintro _ σ ⟨rfl, rfl⟩
    refine cI ?_
    refine x_ib (w := 0) T_105_10 (fun h => absurd h.1 (by decide)) (by decide) ?_
    refine x_ri T_105_11 ?_
    exact ⟨rfl, rfl⟩
  have hnu : CL fb (d + 2) 150 [vR (some k), vI w, vI 8, vI 1] σ (rP (-1) σ) := by
    refine CL_in mL_150 rfl ?_
    show WP fb _ 150 0 [some (vR (some k)), some (vI w), some (vI 8), some (vI 1), none, none, none, none] [] σ _
    refine x_lr (z := some k) T_150_0 rfl ?_
    refine x_li (z := w) T_150_1 rfl ?_
    refine x_cv2 T_150_2 mN_105 mL_105 (Nat.le_of_ble_eq_true rfl) mO_105 (hP.o h.1) (Nat.le_of_ble_eq_true rfl) (hle) ?_
    rintro _ σ ⟨rfl, rfl⟩
    refine cI ?_
    refine x_si (ls1 := [some (vR (some k)), some (vI w), some (vI 8), some (vI 1), some (vI 0), none, none, none]) T_150_5 rfl ?_
    refine x_ic T_150_7 ?_
    refine x_si (ls1 := [some (vR (some k)), some (vI w), some (vI 8), some (vI 1), some (vI 0), some (vI 0), none, none]) T_150_8 rfl ?_
    refine x_ic T_150_10 ?_
    refine x_si (ls1 := [some (vR (some k)), some (vI w), some (vI 8), some (vI 1), some (vI 0), some (vI 0), some (vI 0), none]) T_150_11 rfl ?_
    refine x_li (z := 0) T_150_13 rfl ?_
    refine x_li (z := 0) T_150_15 rfl ?_
    refine x_ic2 T_150_17 (fun _ => ?_) (fun h => absurd (show 0 ≤ (0 : Int) by decide) h)
    refine x_li (z := 0) T_150_74 rfl ?_
    refine x_ic T_150_76 ?_
    refine x_ic2 T_150_77 (fun _ => ?_) (fun h => absurd (show (0 : Int) < 1 by decide) h)
    refine x_ic T_150_86 ?_
    refine x_goto T_150_87 ?_
    refine x_ri T_150_92 ?_
    exact ⟨rfl, rfl⟩
  refine CL_in mL_151 rfl ?_
  show WP fb _ 151 0 [some (vR (some k)), some (vI w)] [] σ _
  refine x_lr (z := some k) T_151_0 rfl ?_
  refine x_li (z := w) T_151_1 rfl ?_
  refine x_ic T_151_2 ?_
  refine x_ic T_151_4 ?_
  refine x_cv4 T_151_5 mN_150 mL_150 (Nat.le_of_ble_eq_true rfl) mO_150 (hP.o h.1) (Nat.le_of_ble_eq_true rfl) (hnu) ?_
  rintro _ σ ⟨rfl, rfl⟩
  refine cI ?_
  refine x_ri T_151_8 ?_
  exact ⟨rfl, rfl⟩
theorem x_digitA (hP : PX σ0 W R σ) (h : CMD W k l) : CL fb (d + 3) 151 [vR (some k), vI w] σ (fun r σ' => ∃ v : Int, -1 ≤ v ∧ v ≤ 7 ∧ r = some (vI v) ∧ σ' = σ) := by
  by_cases q : w < 0
  · exact (x_digitN (fb := fb) (d := d) hP h q).mono (fun r σ' hr => ⟨-1, by decide, by decide, hr.1, hr.2⟩)
  · refine (x_cdigit (fb := fb) (d := d) hP h (by omega)).mono (fun r σ' hr => ⟨_, ?_, ?_, hr.1, hr.2⟩)
    · split
      · unfold nmN
        split
        · match lnB l w with
          | [] => decide
          | x :: r =>
            have := (nmV_rng (base := 8) (by decide) (x :: r) 0 1 (by decide) (by decide)).1
            exact this
        · decide
      · decide
    · split
      · unfold nmN
        split
        · rename_i q1 q2
          match hq : lnB l w with
          | [] => decide
          | [x] =>
            show (if 48 ≤ x ∧ x ≤ 47 + 8 then 8 * 0 + x - 48 else -1) ≤ 7
            split <;> omega
          | x :: y :: r =>
            rw [hq] at q2
            exact absurd q2 (by simp only [List.length_cons]; omega)
        · decide
      · decide
theorem x_mount18 (hP : PX σ0 W R σ) (hp : 0 ≤ p ∧ p < 8) (hC : CMD W kk l) (hN : ((lnW l).length : Int) = N) (hN2 : ¬ (3 ≤ N ∧ N ≤ 4)) : CL fb (d + 11) 180 [vR (some 2175), vR (some (prO p)), vR (some kk)] σ (rP 18 σ) := by
  have hk := hC.1
  have h5 := hC.2.2.2.2.1.trans hN
  have hN50 : N ≤ 50 := by
    have := (lnW_ok hC.2.2.2.1.2.2.2.2.1).2
    omega
  have hN0 : 0 ≤ N := by omega
  have hdg := x_digitA (fb := fb) (d := d + 7) (w := N - 2) hP hC
  obtain ⟨pr, hpr⟩ : ∃ q, prO p = q := ⟨_, rfl⟩
  rw [hpr]
  by_cases q : N < 3
  · skip
    refine CL_in mL_180 rfl ?_
    show WP fb _ 180 0 [some (vR (some 2175)), some (vR (some pr)), some (vR (some kk)), none, none, none] [] σ _
    refine x_lr (z := some kk) T_180_0 rfl ?_
    refine x_gI (z := N) T_180_1 (Or.inl F_16_4) (hP.o hk) (Eq.trans (hP.gi hk (key := 2516) rfl) h5) ?_
    refine x_ic T_180_4 ?_
    refine x_ic2 T_180_5 (fun _ => ?_) (fun h => absurd (show ¬ N = 4 by omega) h)
    refine x_ic T_180_16 ?_
    refine x_si (ls1 := [some (vR (some 2175)), some (vR (some pr)), some (vR (some kk)), some (vI 0), none, none]) T_180_17 rfl ?_
    refine x_lr (z := some kk) T_180_18 rfl ?_
    refine x_lr (z := some kk) T_180_19 rfl ?_
    refine x_gI (z := N) T_180_20 (Or.inl F_16_4) (hP.o hk) (Eq.trans (hP.gi hk (key := 2516) rfl) h5) ?_
    refine x_ic T_180_23 ?_
    refine x_ib (w := (N - 2)) T_180_24 (fun h => absurd h.1 (by decide)) (w32_id (by omega) (by omega)) ?_
    refine x_cv2 T_180_25 mN_151 mL_151 (Nat.le_of_ble_eq_true rfl) mO_151 (hP.o hk) (Nat.le_of_ble_eq_true rfl) (hdg) ?_
    clear hdg
    rintro _ _ ⟨v, hv1, hv2, rfl, rfl⟩
    refine cI ?_
    refine x_si (ls1 := [some (vR (some 2175)), some (vR (some pr)), some (vR (some kk)), some (vI 0), some (vI v), none]) T_180_28 rfl ?_
    refine x_lr (z := some kk) T_180_30 rfl ?_
    refine x_gI (z := N) T_180_31 (Or.inl F_16_4) (hP.o hk) (Eq.trans (hP.gi hk (key := 2516) rfl) h5) ?_
    refine x_ic T_180_34 ?_
    refine x_ic2 T_180_35 (fun _ => ?_) (fun h => absurd (show N < 3 by omega) h)
    refine x_ic T_180_62 ?_
    refine x_ri T_180_64 ?_
    exact ⟨rfl, rfl⟩
  · skip
    refine CL_in mL_180 rfl ?_
    show WP fb _ 180 0 [some (vR (some 2175)), some (vR (some pr)), some (vR (some kk)), none, none, none] [] σ _
    refine x_lr (z := some kk) T_180_0 rfl ?_
    refine x_gI (z := N) T_180_1 (Or.inl F_16_4) (hP.o hk) (Eq.trans (hP.gi hk (key := 2516) rfl) h5) ?_
    refine x_ic T_180_4 ?_
    refine x_ic2 T_180_5 (fun _ => ?_) (fun h => absurd (show ¬ N = 4 by omega) h)
    refine x_ic T_180_16 ?_
    refine x_si (ls1 := [some (vR (some 2175)), some (vR (some pr)), some (vR (some kk)), some (vI 0), none, none]) T_180_17 rfl ?_
    refine x_lr (z := some kk) T_180_18 rfl ?_
    refine x_lr (z := some kk) T_180_19 rfl ?_
    refine x_gI (z := N) T_180_20 (Or.inl F_16_4) (hP.o hk) (Eq.trans (hP.gi hk (key := 2516) rfl) h5) ?_
    refine x_ic T_180_23 ?_
    refine x_ib (w := (N - 2)) T_180_24 (fun h => absurd h.1 (by decide)) (w32_id (by omega) (by omega)) ?_
    refine x_cv2 T_180_25 mN_151 mL_151 (Nat.le_of_ble_eq_true rfl) mO_151 (hP.o hk) (Nat.le_of_ble_eq_true rfl) (hdg) ?_
    clear hdg
    rintro _ _ ⟨v, hv1, hv2, rfl, rfl⟩
    refine cI ?_
    refine x_si (ls1 := [some (vR (some 2175)), some (vR (some pr)), some (vR (some kk)), some (vI 0), some (vI v), none]) T_180_28 rfl ?_
    refine x_lr (z := some kk) T_180_30 rfl ?_
    refine x_gI (z := N) T_180_31 (Or.inl F_16_4) (hP.o hk) (Eq.trans (hP.gi hk (key := 2516) rfl) h5) ?_
    refine x_ic T_180_34 ?_
    refine x_ic2 T_180_35 (fun h => absurd (show N < 3 from h) (by omega)) (fun _ => ?_)
    refine x_lr (z := some kk) T_180_38 rfl ?_
    refine x_gI (z := N) T_180_39 (Or.inl F_16_4) (hP.o hk) (Eq.trans (hP.gi hk (key := 2516) rfl) h5) ?_
    refine x_ic T_180_42 ?_
    refine x_ic2 T_180_43 (fun _ => ?_) (fun h => absurd (show 4 < N by omega) h)
    refine x_ic T_180_62 ?_
    refine x_ri T_180_64 ?_
    exact ⟨rfl, rfl⟩
/-- the root of a server, by channel one -/
theorem one_at (hX : XW K T U W R P) : XW K T U (chW W 2178 s f 0 1) (oU R 2178 2164 none) P ∧ CHX (chW W 2178 s f 0 1) (oU R 2178 2164 none) 2178 (s, f, 0, 128, -1) ∧ FK 2178 W (chW W 2178 s f 0 1) R (oU R 2178 2164 none) := ⟨XW.chn hX (by decide) (by decide), CHX_new (by rfl), ⟨fun x k hx _ _ => chW_o hx, fun x k hx _ => if_neg (fun c => hx c.1)⟩⟩
/-- mount from where channel one has its server's root -/
theorem mnt_118 {b a c : Bool} {nv : Int} (hP : PX σ0 W R σ) (hX : XW K T U W R Q) (hT : T + 1700 ≤ 2147483000) (hp : 0 ≤ p ∧ p < 8) (hlQ : ¬ Q 2320 p = 0) (hC : CMD W kk l) (hN : ((lnW l).length : Int) = N) (hN2 : N = 3 ∨ N = 4) (h1 : CHX W R 2178 c1) (hcr : chR c1) (o1 : okC T c1) (o2 : and32 c1.2.2.2.1 128 = 0 ↔ ¬ c1.2.2.2.1 = 128) (hpt1 : ptV Q p c1.2.2.2.2) (f5 : N = 4 ↔ ¬ fV b a c = 0) (hG2 : (kWW Q p 0 (lnB l (N - 1))).1 = 0 → chO (T + 300) (kWW Q p 0 (lnB l (N - 1))).2.2) : WP fb (d + 11) 180 118 [some (vR (some 2175)), some (vR (some (prO p))), some (vR (some kk)), some (vI (fV b a c)), some (vI nv), some (vI 0)] [] σ (XCM σ0 K (T + 400) U W R (cBnW Q p N (bfV b) (bhV b a) (bfV c) 0 c1 l)) := by
  have hpo := prO_o hp
  have hrp := prO_rng hp
  have hko := hC.1
  unfold cBnW
  rw [if_neg (show ¬ (0 : Int) < 0 by decide)]
  have hr2 := x_reachTwo (fb := fb) (d := d + 1) hP hX (by omega) hp hlQ hC hN (by omega) h1 hcr
  have hkw2 := KF_kWW (thr := 0) (wd := lnB l (N - 1)) hX.1.2.2.2.1.iv hX.1.2.2.2.2.2.2 hp
  obtain ⟨A2, hA2⟩ : ∃ A, kWW Q p 0 (lnB l (N - 1)) = A := ⟨_, rfl⟩
  rw [hA2] at hr2 hkw2 hG2 ⊢
  obtain ⟨e2, Q2, c2⟩ := A2
  dsimp only at hr2 hkw2 hG2 ⊢
  obtain ⟨hkf2, he2⟩ := hkw2
  by_cases q4 : e2 = 0
  rotate_left
  · rw [if_pos (show 0 < e2 by omega)]
    obtain ⟨F, hF⟩ : ∃ F, fV b a c = F := ⟨_, rfl⟩
    rw [hF]
    obtain ⟨pr, hpr⟩ : ∃ q, prO p = q := ⟨_, rfl⟩
    rw [hpr] at hpo hr2 ⊢
    refine x_li (z := 0) T_180_118 rfl ?_
    refine x_if T_180_120 (fun h => absurd (show ¬ (0 : Int) = 0 from h) (by decide)) (fun _ => ?_)
    refine x_lr (z := some 2175) T_180_123 rfl ?_
    refine x_lr (z := some pr) T_180_124 rfl ?_
    refine x_lr (z := some kk) T_180_125 rfl ?_
    refine x_cv3 T_180_126 mN_173 mL_173 (Nat.le_of_ble_eq_true rfl) mO_173 (hP.o xo_2175) (Nat.le_of_ble_eq_true rfl) (hr2) ?_
    clear hP hr2
    rintro _ σ ⟨rfl, V5, V6, hP, hF6, -, hX6⟩
    have hX6 := hX6 q4
    refine cI ?_
    refine x_goto T_180_129 ?_
    refine x_si (ls1 := [some (vR (some 2175)), some (vR (some pr)), some (vR (some kk)), some (vI F), some (vI nv), some (vI e2)]) T_180_134 rfl ?_
    refine x_li (z := e2) T_180_136 rfl ?_
    refine x_if T_180_138 (fun _ => ?_) (fun h => absurd (show ¬ e2 = 0 by omega) h)
    refine x_li (z := e2) T_180_153 rfl ?_
    refine x_ri T_180_155 ?_
    exact ⟨rfl, V5, V6, hP, XW.mono hX6 (by omega), FCM_fk hF6 (by decide)⟩
  · subst q4
    rw [if_neg (show ¬ (0 : Int) < 0 by decide)]
    obtain ⟨o3, o4⟩ := hG2 rfl
    have l3f := fun (V : qR) (V3 : rR) (hX : XW K (T + 300) U V V3 Q2) => ((hX.1.2.2.1.1 p hp.1 hp.2).2.2.2 (XW.lv hkf2 hlQ)).2.2.1
    obtain ⟨g, hg⟩ : ∃ g, Q2 2323 p = g := ⟨_, rfl⟩
    simp only [hg] at l3f
    have hpl := fun (σ : hM) (V : qR) (V3 : rR) (hP : PX σ0 V V3 σ) (hX6 : XW K (T + 300) U V V3 Q2) (h1 : CHX V V3 2178 c1) (h2 : CHX V V3 2179 c2) (r2 : chR c2) => x_place (fb := fb) (d := d) (N := N) (b := b) (a := a) (c := c) hP hX6 hp hg (by omega) h1 hcr h2 r2 (o1.mono (by omega)) o3 (hpt1.fk hkf2) o2 o4 f5
    have hgRf := fun (V : qR) (V3 : rR) (hX : XW K (T + 300) U V V3 Q2) => (IV.a hX.1.2.2.2.1.iv 2323 0 8 rfl rfl rfl hp.1 hp.2 : 0 ≤ Q2 2323 p ∧ Q2 2323 p ≤ 7)
    simp only [hg] at hgRf
    have hgof := fun (h : 0 ≤ g ∧ g ≤ 7) => grO_o (g := g) ⟨h.1, by omega⟩
    obtain ⟨B, hB⟩ : ∃ B, cBn2 Q2 p N (bfV b) (bhV b a) (bfV c) c1 c2 = B := ⟨_, rfl⟩
    simp only [hB] at hpl ⊢
    obtain ⟨b1, b2, b3⟩ := B
    obtain ⟨F, hF⟩ : ∃ F, fV b a c = F := ⟨_, rfl⟩
    simp only [hF] at hpl ⊢
    obtain ⟨ga, hga⟩ : ∃ q, grO g = q := ⟨_, rfl⟩
    obtain ⟨pr, hpr⟩ : ∃ q, prO p = q := ⟨_, rfl⟩
    rw [hpr] at hpo hr2
    simp only [hpr, hga] at hpl l3f hgof ⊢
    refine x_li (z := 0) T_180_118 rfl ?_
    refine x_if T_180_120 (fun h => absurd (show ¬ (0 : Int) = 0 from h) (by decide)) (fun _ => ?_)
    refine x_lr (z := some 2175) T_180_123 rfl ?_
    refine x_lr (z := some pr) T_180_124 rfl ?_
    refine x_lr (z := some kk) T_180_125 rfl ?_
    refine x_cv3 T_180_126 mN_173 mL_173 (Nat.le_of_ble_eq_true rfl) mO_173 (hP.o xo_2175) (Nat.le_of_ble_eq_true rfl) (hr2) ?_
    clear hP hr2
    rintro _ σ ⟨rfl, V5, V6, hP, hF6, hX6, -⟩
    obtain ⟨hX6, z1, z2, z3⟩ := hX6 (by trivial)
    have l3 := l3f V5 V6 hX6
    have hgo3 := hgof (hgRf V5 V6 hX6)
    have hpl := hpl σ V5 V6 hP hX6 z1 z2 z3
    refine cI ?_
    refine x_goto T_180_129 ?_
    refine x_si (ls1 := [some (vR (some 2175)), some (vR (some pr)), some (vR (some kk)), some (vI F), some (vI nv), some (vI 0)]) T_180_134 rfl ?_
    refine x_li (z := 0) T_180_136 rfl ?_
    refine x_if T_180_138 (fun h => absurd (show ¬ (0 : Int) = 0 from h) (by decide)) (fun _ => ?_)
    refine x_lr (z := some 2175) T_180_141 rfl ?_
    refine x_lr (z := some pr) T_180_142 rfl ?_
    refine x_gR (z := some ga) T_180_143 F_6_9 (hP.o hpo) (Eq.trans (hP.rm hpo rfl (key := 2201) rfl) l3) ?_
    refine x_li (z := F) T_180_146 rfl ?_
    refine x_cv3 T_180_147 mN_174 mL_174 (Nat.le_of_ble_eq_true rfl) mO_174 (hP.o xo_2175) (Nat.le_of_ble_eq_true rfl) (hpl) ?_
    clear hP hpl
    rintro _ σ ⟨rfl, V7, V8, hP, hX8, hF8⟩
    refine cI ?_
    refine x_goto T_180_150 ?_
    refine x_ri T_180_155 ?_
    exact ⟨rfl, V7, V8, hP, XW.mono hX8 (by omega), FCM_tr (FCM_fk hF6 (by decide)) hF8⟩
theorem x_mount (hP : PX σ0 W R σ) (hX : XW K T U W R P) (hT : T + 1900 ≤ 2147483000) (hp : 0 ≤ p ∧ p < 8) (hlv : ¬ P 2320 p = 0) (hC : CMD W kk l) (hN : ((lnW l).length : Int) = N) (hN2 : N = 3 ∨ N = 4) (hG2 : (kWW (kAtP P (dgV (lnB l (N - 2)) 2) (P 2322 p)) p 0 (lnB l (N - 1))).1 = 0 → chO (T + 304) (kWW (kAtP P (dgV (lnB l (N - 2)) 2) (P 2322 p)) p 0 (lnB l (N - 1))).2.2) : CL fb (d + 11) 180 [vR (some 2175), vR (some (prO p)), vR (some kk)] σ (XCM σ0 K (T + 656) U W R (cBnd P p 1 l)) := by
  have hpo := prO_o hp
  have hrp := prO_rng hp
  have hko := hC.1
  have h5 := hC.2.2.2.2.1.trans hN
  have hI := hX.1.2.2.2.1.iv
  have hfl := fun (h : N = 4) => x_flags (fb := fb) (d := d + 9) hP hC (by omega)
  have hdg := x_cdigit (fb := fb) (d := d + 7) (w := N - 2) hP hC (by omega)
  rw [if_pos (by omega)] at hdg
  have hl1 := (lnB_len hC.2.2.2.1.2.2.2.2.1 (w := N - 2) ⟨by omega, by omega⟩).1
  have hda := x_digitA (fb := fb) (d := d + 7) (w := N - 2) hP hC
  -- the number of the server, and the flags
  have hdgo := dg_ok hl1
  have hdge := dg_eq hl1
  obtain ⟨dv, hdv⟩ : ∃ q, dgV (lnB l (N - 2)) 2 = q := ⟨_, rfl⟩
  obtain ⟨nv, hnv⟩ : ∃ q, nmN (lnB l (N - 2)) 8 1 = q := ⟨_, rfl⟩
  rw [hdv, hnv] at hdgo hdge
  rw [hnv] at hdg
  rw [hdv] at hG2
  by_cases qf : N = 4 ∧ ¬ fgs (lnB l 1)
  · have eB : cBnd P p 1 l = (18, P, []) := if_pos (Or.inl ⟨hN.trans qf.1, qf.2⟩)
    rw [eB]
    have hfl := hfl qf.1
    rw [flW_bad qf.2] at hfl
    obtain ⟨pr, hpr⟩ : ∃ q, prO p = q := ⟨_, rfl⟩
    rw [hpr] at hpo ⊢
    refine CL_in mL_180 rfl ?_
    show WP fb _ 180 0 [some (vR (some 2175)), some (vR (some pr)), some (vR (some kk)), none, none, none] [] σ _
    refine x_lr (z := some kk) T_180_0 rfl ?_
    refine x_gI (z := N) T_180_1 (Or.inl F_16_4) (hP.o hko) (Eq.trans (hP.gi hko (key := 2516) rfl) h5) ?_
    refine x_ic T_180_4 ?_
    refine x_ic2 T_180_5 (fun h => absurd (show ¬ N = 4 from h) (by omega)) (fun _ => ?_)
    refine x_lr (z := some kk) T_180_8 rfl ?_
    refine x_ic T_180_9 ?_
    refine x_cv2 T_180_10 mN_172 mL_172 (Nat.le_of_ble_eq_true rfl) mO_172 (hP.o hko) (Nat.le_of_ble_eq_true rfl) (hfl) ?_
    rintro _ σ ⟨rfl, rfl⟩
    refine cI ?_
    refine x_goto T_180_13 ?_
    refine x_si (ls1 := [some (vR (some 2175)), some (vR (some pr)), some (vR (some kk)), some (vI (-1)), none, none]) T_180_17 rfl ?_
    refine x_lr (z := some kk) T_180_18 rfl ?_
    refine x_lr (z := some kk) T_180_19 rfl ?_
    refine x_gI (z := N) T_180_20 (Or.inl F_16_4) (hP.o hko) (Eq.trans (hP.gi hko (key := 2516) rfl) h5) ?_
    refine x_ic T_180_23 ?_
    refine x_ib (w := (N - 2)) T_180_24 (fun h => absurd h.1 (by decide)) (w32_id (by omega) (by omega)) ?_
    refine x_cv2 T_180_25 mN_151 mL_151 (Nat.le_of_ble_eq_true rfl) mO_151 (hP.o hko) (Nat.le_of_ble_eq_true rfl) (hdg) ?_
    rintro _ σ ⟨rfl, rfl⟩
    refine cI ?_
    refine x_si (ls1 := [some (vR (some 2175)), some (vR (some pr)), some (vR (some kk)), some (vI (-1)), some (vI nv), none]) T_180_28 rfl ?_
    refine x_lr (z := some kk) T_180_30 rfl ?_
    refine x_gI (z := N) T_180_31 (Or.inl F_16_4) (hP.o hko) (Eq.trans (hP.gi hko (key := 2516) rfl) h5) ?_
    refine x_ic T_180_34 ?_
    refine x_ic2 T_180_35 (fun h => absurd (show N < 3 from h) (by omega)) (fun _ => ?_)
    refine x_lr (z := some kk) T_180_38 rfl ?_
    refine x_gI (z := N) T_180_39 (Or.inl F_16_4) (hP.o hko) (Eq.trans (hP.gi hko (key := 2516) rfl) h5) ?_
    refine x_ic T_180_42 ?_
    refine x_ic2 T_180_43 (fun h => absurd (show 4 < N from h) (by omega)) (fun _ => ?_)
    refine x_li (z := (-1)) T_180_46 rfl ?_
    refine x_ic T_180_47 ?_
    refine x_ic2 T_180_48 (fun _ => ?_) (fun h => absurd (show ((-1) : Int) = (-1) by decide) h)
    refine x_ic T_180_62 ?_
    refine x_ri T_180_64 ?_
    exact ⟨rfl, W, R, hP, XW.mono hX (by omega), FCM_rfl⟩
  have hfg : N = 4 → fgs (lnB l 1) := fun h => Classical.not_not.mp (fun c => qf ⟨h, c⟩)
  obtain ⟨b, a, c, f1, f2, f3, f4, f5, f6⟩ := fl_bits hN hN2 hfg
  have hrr := fV_rng (b := b) (a := a) (c := c)
  have hgoF : ∀ {Qf : Option AV → hM → Prop}, WP fb (d + 11) 180 17 [some (vR (some 2175)), some (vR (some (prO p))), some (vR (some kk)), none, none, none] [vI (fV b a c)] σ Qf → WP fb (d + 11) 180 0 [some (vR (some 2175)), some (vR (some (prO p))), some (vR (some kk)), none, none, none] [] σ Qf := fun {Qf} hQ => by
    rcases hN2 with q | q
    · have e3 : fV b a c = 0 := by rw [← f1, if_neg (by omega)]
      rw [e3] at hQ
      obtain ⟨pr, hpr⟩ : ∃ q, prO p = q := ⟨_, rfl⟩
      rw [hpr] at hpo hQ ⊢
      refine x_lr (z := some kk) T_180_0 rfl ?_
      refine x_gI (z := N) T_180_1 (Or.inl F_16_4) (hP.o hko) (Eq.trans (hP.gi hko (key := 2516) rfl) h5) ?_
      refine x_ic T_180_4 ?_
      refine x_ic2 T_180_5 (fun _ => ?_) (fun h => absurd (show ¬ N = 4 by omega) h)
      refine x_ic T_180_16 ?_
      exact hQ
    · have hfl := hfl q
      rw [show flW (lnB l 1) = fV b a c by rw [← f1, if_pos q]] at hfl
      obtain ⟨pr, hpr⟩ : ∃ q, prO p = q := ⟨_, rfl⟩
      rw [hpr] at hpo hQ ⊢
      refine x_lr (z := some kk) T_180_0 rfl ?_
      refine x_gI (z := N) T_180_1 (Or.inl F_16_4) (hP.o hko) (Eq.trans (hP.gi hko (key := 2516) rfl) h5) ?_
      refine x_ic T_180_4 ?_
      refine x_ic2 T_180_5 (fun h => absurd (show ¬ N = 4 from h) (by omega)) (fun _ => ?_)
      refine x_lr (z := some kk) T_180_8 rfl ?_
      refine x_ic T_180_9 ?_
      refine x_cv2 T_180_10 mN_172 mL_172 (Nat.le_of_ble_eq_true rfl) mO_172 (hP.o hko) (Nat.le_of_ble_eq_true rfl) (hfl) ?_
      rintro _ σ ⟨rfl, rfl⟩
      refine cI ?_
      refine x_goto T_180_13 ?_
      exact hQ
  by_cases qd : dv < 0
  · have eB : cBnd P p 1 l = (18, P, []) := if_pos (Or.inr ⟨rfl, by rw [hN, hdv]; exact qd⟩)
    rw [eB]
    have h17 : WP fb (d + 11) 180 17 [some (vR (some 2175)), some (vR (some (prO p))), some (vR (some kk)), none, none, none] [vI (fV b a c)] σ (XCM σ0 K (T + 656) U W R (18, P, [])) := by
      obtain ⟨F, hF⟩ : ∃ F, fV b a c = F := ⟨_, rfl⟩
      rw [hF] at hrr ⊢
      obtain ⟨pr, hpr⟩ : ∃ q, prO p = q := ⟨_, rfl⟩
      rw [hpr] at hpo ⊢
      have hor := hdgo.mpr qd
      by_cases q1 : nv < 0
      · skip
        refine x_si (ls1 := [some (vR (some 2175)), some (vR (some pr)), some (vR (some kk)), some (vI F), none, none]) T_180_17 rfl ?_
        refine x_lr (z := some kk) T_180_18 rfl ?_
        refine x_lr (z := some kk) T_180_19 rfl ?_
        refine x_gI (z := N) T_180_20 (Or.inl F_16_4) (hP.o hko) (Eq.trans (hP.gi hko (key := 2516) rfl) h5) ?_
        refine x_ic T_180_23 ?_
        refine x_ib (w := (N - 2)) T_180_24 (fun h => absurd h.1 (by decide)) (w32_id (by omega) (by omega)) ?_
        refine x_cv2 T_180_25 mN_151 mL_151 (Nat.le_of_ble_eq_true rfl) mO_151 (hP.o hko) (Nat.le_of_ble_eq_true rfl) (hdg) ?_
        rintro _ σ ⟨rfl, rfl⟩
        refine cI ?_
        refine x_si (ls1 := [some (vR (some 2175)), some (vR (some pr)), some (vR (some kk)), some (vI F), some (vI nv), none]) T_180_28 rfl ?_
        refine x_lr (z := some kk) T_180_30 rfl ?_
        refine x_gI (z := N) T_180_31 (Or.inl F_16_4) (hP.o hko) (Eq.trans (hP.gi hko (key := 2516) rfl) h5) ?_
        refine x_ic T_180_34 ?_
        refine x_ic2 T_180_35 (fun h => absurd (show N < 3 from h) (by omega)) (fun _ => ?_)
        refine x_lr (z := some kk) T_180_38 rfl ?_
        refine x_gI (z := N) T_180_39 (Or.inl F_16_4) (hP.o hko) (Eq.trans (hP.gi hko (key := 2516) rfl) h5) ?_
        refine x_ic T_180_42 ?_
        refine x_ic2 T_180_43 (fun h => absurd (show 4 < N from h) (by omega)) (fun _ => ?_)
        refine x_li (z := F) T_180_46 rfl ?_
        refine x_ic T_180_47 ?_
        refine x_ic2 T_180_48 (fun h => absurd (show F = (-1) from h) (by omega)) (fun _ => ?_)
        refine x_li (z := nv) T_180_51 rfl ?_
        refine x_if T_180_53 (fun _ => ?_) (fun h => absurd (show nv < 0 by omega) h)
        refine x_ic T_180_62 ?_
        refine x_ri T_180_64 ?_
        exact ⟨rfl, W, R, hP, XW.mono hX (by omega), FCM_rfl⟩
      · skip
        refine x_si (ls1 := [some (vR (some 2175)), some (vR (some pr)), some (vR (some kk)), some (vI F), none, none]) T_180_17 rfl ?_
        refine x_lr (z := some kk) T_180_18 rfl ?_
        refine x_lr (z := some kk) T_180_19 rfl ?_
        refine x_gI (z := N) T_180_20 (Or.inl F_16_4) (hP.o hko) (Eq.trans (hP.gi hko (key := 2516) rfl) h5) ?_
        refine x_ic T_180_23 ?_
        refine x_ib (w := (N - 2)) T_180_24 (fun h => absurd h.1 (by decide)) (w32_id (by omega) (by omega)) ?_
        refine x_cv2 T_180_25 mN_151 mL_151 (Nat.le_of_ble_eq_true rfl) mO_151 (hP.o hko) (Nat.le_of_ble_eq_true rfl) (hdg) ?_
        rintro _ σ ⟨rfl, rfl⟩
        refine cI ?_
        refine x_si (ls1 := [some (vR (some 2175)), some (vR (some pr)), some (vR (some kk)), some (vI F), some (vI nv), none]) T_180_28 rfl ?_
        refine x_lr (z := some kk) T_180_30 rfl ?_
        refine x_gI (z := N) T_180_31 (Or.inl F_16_4) (hP.o hko) (Eq.trans (hP.gi hko (key := 2516) rfl) h5) ?_
        refine x_ic T_180_34 ?_
        refine x_ic2 T_180_35 (fun h => absurd (show N < 3 from h) (by omega)) (fun _ => ?_)
        refine x_lr (z := some kk) T_180_38 rfl ?_
        refine x_gI (z := N) T_180_39 (Or.inl F_16_4) (hP.o hko) (Eq.trans (hP.gi hko (key := 2516) rfl) h5) ?_
        refine x_ic T_180_42 ?_
        refine x_ic2 T_180_43 (fun h => absurd (show 4 < N from h) (by omega)) (fun _ => ?_)
        refine x_li (z := F) T_180_46 rfl ?_
        refine x_ic T_180_47 ?_
        refine x_ic2 T_180_48 (fun h => absurd (show F = (-1) from h) (by omega)) (fun _ => ?_)
        refine x_li (z := nv) T_180_51 rfl ?_
        refine x_if T_180_53 (fun h => absurd (show nv < 0 from h) (by omega)) (fun _ => ?_)
        refine x_li (z := nv) T_180_56 rfl ?_
        refine x_ic T_180_58 ?_
        refine x_ic2 T_180_59 (fun h => absurd (show nv < 3 from h) (by omega)) (fun _ => ?_)
        refine x_ic T_180_62 ?_
        refine x_ri T_180_64 ?_
        exact ⟨rfl, W, R, hP, XW.mono hX (by omega), FCM_rfl⟩
    have hgo := hgoF h17
    obtain ⟨pr, hpr⟩ : ∃ q, prO p = q := ⟨_, rfl⟩
    rw [hpr] at hgo ⊢
    refine CL_in mL_180 rfl ?_
    show WP fb _ 180 0 [some (vR (some 2175)), some (vR (some pr)), some (vR (some kk)), none, none, none] [] σ _
    exact hgo
  obtain ⟨d1, d2, d3⟩ := hdge qd
  subst d1
  have l1 := ((hX.1.2.2.1.1 p hp.1 hp.2).2.2.2 hlv).1
  have hur : 0 ≤ P 2322 p ∧ P 2322 p ≤ 3 := IV.a hI 2322 0 8 rfl rfl rfl (by omega) (by omega)
  obtain ⟨u, hu⟩ : ∃ u, P 2322 p = u := ⟨_, rfl⟩
  rw [hu] at l1 hur hG2
  have hs : 0 ≤ nv ∧ nv < 3 := ⟨d2, d3⟩
  have eB : cBnd P p 1 l = cBnW (kAtP P nv u) p N (bfV b) (bhV b a) (bfV c) (kAtE P nv u) (nv, qNewF P nv, 0, 128, -1) l := by
    have e0 : cBnd P p 1 l = cBnW (cBnA P p 1 (lnB l (((lnW l).length : Int) - 2))).2.1 p ((lnW l).length : Int) (bnF l 98) (bnH l) (bnF l 99) (cBnA P p 1 (lnB l (((lnW l).length : Int) - 2))).1 (cBnA P p 1 (lnB l (((lnW l).length : Int) - 2))).2.2 l := if_neg (fun c => by
      rcases c with c | c
      · exact qf ⟨hN.symm.trans c.1, c.2⟩
      · exact qd (by have := c.2; rw [hN, hdv] at this; exact this))
    have e1 : cBnA P p 1 (lnB l (N - 2)) = (kAtE P nv u, kAtP P nv u, (nv, qNewF P nv, 0, 128, -1)) := by
      unfold cBnA
      rw [if_neg (by decide), hdv, hu]
    rw [e0, hN, ← f2, ← f3, ← f4, e1]
  rw [eB]
  obtain ⟨ord, tt, hXs⟩ := hX.1.1.1 nv hs.1 hs.2
  have hho := x_host (fb := fb) (d := d + 10) (s := nv) hP hs
  have hwk := x_attaching (fb := fb) (d := d + 7) hP ⟨hs, rfl⟩ hXs hI hur
  obtain ⟨nf, hg⟩ : ∃ q, qNewF P nv = q := ⟨_, rfl⟩
  have hgr : nf = -1 ∨ (0 ≤ nf ∧ nf ≤ 47) := by rw [← hg]; exact qNewF_rng
  have eE : kAtE P nv u = if nf < 0 then 12 else tE P nv (mAtt nf u) := by unfold kAtE; rw [hg]
  have eP : kAtP P nv u = if nf < 0 then P else tP P nv (mAtt nf u) := by unfold kAtP; rw [hg]
  rw [hg] at hwk ⊢
  have hak := fun (σ : hM) (W2 : qR) (hP : PX σ0 W2 R σ) (hF : FR1 W W2) (hB : BY W2 138 300 (mFr (mAtt nf u))) => x_askN (fb := fb) (d := d + 3) (g := nf) hP (hX.fr1 hF) (by omega) (s := nv) hs hB (by rw [mAtt_len]; decide) (by rw [mAtt_0]; decide) (fun q => ⟨fun _ => by rw [mAtt_f ⟨by omega, by omega⟩]; omega, fun c => by rw [mAtt_0] at c; exact absurd c (by decide)⟩)
  rw [← eE, ← eP] at hak
  have hE0 : kAtE P nv u = 0 → ¬ nf < 0 := fun q c => by rw [eE, if_pos c] at q; omega
  have hEr := (kAtE_rng (P := P) (s := nv) (u := u)).1
  have hkf : KF (kAtP P nv u) P := KF_at
  obtain ⟨e, he⟩ : ∃ q, kAtE P nv u = q := ⟨_, rfl⟩
  obtain ⟨Q, hQ⟩ : ∃ q, kAtP P nv u = q := ⟨_, rfl⟩
  rw [he] at hak hE0 hEr ⊢
  rw [hQ] at hak hkf hG2 ⊢
  have hlQ : ¬ Q 2320 p = 0 := XW.lv hkf hlv
  have hO := srv_o hs
  have hgp : ∀ V : qR, FR1 W V → V 129 2037 = nf → ∀ (V2 : qR) (V3 : rR), FVS 134 V V2 R V3 → V2 129 2037 = nf := fun V _ hg V2 V3 h => (h.1 _ _ (by decide) (Or.inl (by decide)) (by decide) (by decide) (by decide) (fun c => by unfold ioP at c; omega) (by decide) (by decide)).trans hg
  have hbc := fun (σ : hM) (V : qR) (V3 : rR) (hP : PX σ0 V V3 σ) => x_become (fb := fb) (d := d + 10) (s := nv) (f2 := nf) (p := 0) (e := 1) hP one_o (Or.inr rfl)
  have hone := fun (V : qR) (V3 : rR) (hX3 : XW K (T + 4) U V V3 Q) => one_at (s := nv) (f := nf) hX3
  by_cases q : e = 0
  rotate_left
  · have eW : cBnW Q p N (bfV b) (bhV b a) (bfV c) e (nv, nf, 0, 128, -1) l = (e, Q, []) := if_pos (show 0 < e by omega)
    rw [eW]
    have h17 : WP fb (d + 11) 180 17 [some (vR (some 2175)), some (vR (some (prO p))), some (vR (some kk)), none, none, none] [vI (fV b a c)] σ (XCM σ0 K (T + 656) U W R (e, Q, [])) := by
      obtain ⟨F, hF⟩ : ∃ F, fV b a c = F := ⟨_, rfl⟩
      rw [hF] at hrr ⊢
      obtain ⟨sv, hsw⟩ : ∃ q, 1293 + 294 * nv.toNat = q := ⟨_, rfl⟩
      rw [hsw] at hho hO
      simp only [hsw] at hak
      obtain ⟨pr, hpr⟩ : ∃ q, prO p = q := ⟨_, rfl⟩
      rw [hpr] at hpo l1 ⊢
      refine x_si (ls1 := [some (vR (some 2175)), some (vR (some pr)), some (vR (some kk)), some (vI F), none, none]) T_180_17 rfl ?_
      refine x_lr (z := some kk) T_180_18 rfl ?_
      refine x_lr (z := some kk) T_180_19 rfl ?_
      refine x_gI (z := N) T_180_20 (Or.inl F_16_4) (hP.o hko) (Eq.trans (hP.gi hko (key := 2516) rfl) h5) ?_
      refine x_ic T_180_23 ?_
      refine x_ib (w := (N - 2)) T_180_24 (fun h => absurd h.1 (by decide)) (w32_id (by omega) (by omega)) ?_
      refine x_cv2 T_180_25 mN_151 mL_151 (Nat.le_of_ble_eq_true rfl) mO_151 (hP.o hko) (Nat.le_of_ble_eq_true rfl) (hdg) ?_
      rintro _ σ ⟨rfl, rfl⟩
      refine cI ?_
      refine x_si (ls1 := [some (vR (some 2175)), some (vR (some pr)), some (vR (some kk)), some (vI F), some (vI nv), none]) T_180_28 rfl ?_
      refine x_lr (z := some kk) T_180_30 rfl ?_
      refine x_gI (z := N) T_180_31 (Or.inl F_16_4) (hP.o hko) (Eq.trans (hP.gi hko (key := 2516) rfl) h5) ?_
      refine x_ic T_180_34 ?_
      refine x_ic2 T_180_35 (fun h => absurd (show N < 3 from h) (by omega)) (fun _ => ?_)
      refine x_lr (z := some kk) T_180_38 rfl ?_
      refine x_gI (z := N) T_180_39 (Or.inl F_16_4) (hP.o hko) (Eq.trans (hP.gi hko (key := 2516) rfl) h5) ?_
      refine x_ic T_180_42 ?_
      refine x_ic2 T_180_43 (fun h => absurd (show 4 < N from h) (by omega)) (fun _ => ?_)
      refine x_li (z := F) T_180_46 rfl ?_
      refine x_ic T_180_47 ?_
      refine x_ic2 T_180_48 (fun h => absurd (show F = (-1) from h) (by omega)) (fun _ => ?_)
      refine x_li (z := nv) T_180_51 rfl ?_
      refine x_if T_180_53 (fun h => absurd (show nv < 0 from h) (by omega)) (fun _ => ?_)
      refine x_li (z := nv) T_180_56 rfl ?_
      refine x_ic T_180_58 ?_
      refine x_ic2 T_180_59 (fun _ => ?_) (fun h => absurd (show nv < 3 by omega) h)
      refine x_lr (z := some 2175) T_180_65 rfl ?_
      refine x_gR (z := some 129) T_180_66 F_14_0 (hP.o xo_2175) (hP.rc xo_2175 rfl rfl) ?_
      refine x_li (z := nv) T_180_69 rfl ?_
      refine x_cv2 T_180_71 mN_122 mL_122 (Nat.le_of_ble_eq_true rfl) mO_122 (hP.o xo_129) (Nat.le_of_ble_eq_true rfl) (hho) ?_
      rintro _ σ ⟨rfl, rfl⟩
      refine cR ?_
      refine x_ic T_180_74 ?_
      refine x_lr (z := some 2175) T_180_75 rfl ?_
      refine x_gR (z := some 129) T_180_76 F_14_0 (hP.o xo_2175) (hP.rc xo_2175 rfl rfl) ?_
      refine x_li (z := nv) T_180_79 rfl ?_
      refine x_lr (z := some pr) T_180_81 rfl ?_
      refine x_gI (z := u) T_180_82 (Or.inl F_6_7) (hP.o hpo) (Eq.trans (hP.gi hpo (key := 2199) rfl) l1) ?_
      refine x_cv3 T_180_85 mN_127 mL_127 (Nat.le_of_ble_eq_true rfl) mO_127 (hP.o xo_129) (Nat.le_of_ble_eq_true rfl) (hwk) ?_
      clear hP hwk
      rintro _ σ ⟨rfl, W2, hP, hB2, hF2, hg2⟩
      refine cR ?_
      refine x_lr (z := some 2175) T_180_88 rfl ?_
      refine x_gR (z := some 129) T_180_89 F_14_0 (hP.o xo_2175) (hP.rc xo_2175 rfl rfl) ?_
      refine x_gR (z := some 134) T_180_92 F_1_2 (hP.o xo_129) (hP.rc xo_129 rfl rfl) ?_
      refine x_cv4 T_180_95 mN_26 mL_26 (Nat.le_of_ble_eq_true rfl) mO_26 (hP.o hO) (Nat.le_of_ble_eq_true rfl) (hak σ W2 hP hF2 hB2) ?_
      clear hP hak
      rintro _ σ ⟨rfl, W3, R3, hP, hX3, hB3, hF3⟩
      have hg3 := hgp W2 hF2 hg2 W3 R3 hF3
      have hA3 := FA_tr (FA_fr hF2) (FA_fs hF3)
      obtain ⟨w1, w2, w3⟩ := hone W3 R3 hX3
      refine cI ?_
      refine x_si (ls1 := [some (vR (some 2175)), some (vR (some pr)), some (vR (some kk)), some (vI F), some (vI nv), some (vI e)]) T_180_98 rfl ?_
      refine x_lr (z := some 2175) T_180_100 rfl ?_
      refine x_gR (z := some 2178) T_180_101 F_14_2 (hP.o xo_2175) (hP.rc xo_2175 rfl rfl) ?_
      refine x_li (z := nv) T_180_104 rfl ?_
      refine x_lr (z := some 2175) T_180_106 rfl ?_
      refine x_gR (z := some 129) T_180_107 F_14_0 (hP.o xo_2175) (hP.rc xo_2175 rfl rfl) ?_
      refine x_gI (z := nf) T_180_110 (Or.inl F_1_5) (hP.o xo_129) (Eq.trans (hP.gi xo_129 (key := 2037) rfl) hg3) ?_
      refine x_ic T_180_113 ?_
      refine x_ic T_180_114 ?_
      refine x_cv5 T_180_115 mN_128 mL_128 (Nat.le_of_ble_eq_true rfl) mO_128 (hP.o xo_2178) (Nat.le_of_ble_eq_true rfl) (hbc σ W3 R3 hP) ?_
      clear hP hbc
      rintro _ σ ⟨rfl, hP⟩
      refine cV ?_
      refine x_li (z := e) T_180_118 rfl ?_
      refine x_if T_180_120 (fun _ => ?_) (fun h => absurd (show ¬ e = 0 by omega) h)
      refine x_li (z := e) T_180_132 rfl ?_
      refine x_si (ls1 := [some (vR (some 2175)), some (vR (some pr)), some (vR (some kk)), some (vI F), some (vI nv), some (vI e)]) T_180_134 rfl ?_
      refine x_li (z := e) T_180_136 rfl ?_
      refine x_if T_180_138 (fun _ => ?_) (fun h => absurd (show ¬ e = 0 by omega) h)
      refine x_li (z := e) T_180_153 rfl ?_
      refine x_ri T_180_155 ?_
      exact ⟨rfl, _, _, hP, XW.mono w1 (by omega), FCM_tr (FCM_fa hA3) (FCM_fk w3 (by decide))⟩
    have hgo := hgoF h17
    obtain ⟨pr, hpr⟩ : ∃ q, prO p = q := ⟨_, rfl⟩
    rw [hpr] at hgo ⊢
    refine CL_in mL_180 rfl ?_
    show WP fb _ 180 0 [some (vR (some 2175)), some (vR (some pr)), some (vR (some kk)), none, none, none] [] σ _
    exact hgo
  subst q
  have hnf := hE0 rfl
  obtain ⟨c1, hc1⟩ : ∃ c1 : Ch, (nv, nf, 0, 128, -1) = c1 := ⟨_, rfl⟩
  rw [hc1] at hone ⊢
  have o1 : okC T c1 := by
    rw [← hc1]
    exact ⟨⟨hs.1, by show nv ≤ 2; omega⟩, ⟨by show 0 ≤ nf; omega, by show nf ≤ 47; omega⟩, ⟨by show (0 : Int) ≤ 0; decide, by show (0 : Int) ≤ T + 200; have := hX.1.2.2.2.1; have h42 : 0 ≤ P 2281 42 ∧ P 2281 42 ≤ T := IV.n hI 42 42 rfl rfl (by decide); omega⟩, by show (0 : Int) ≤ 128 ∧ (128 : Int) ≤ 255; decide⟩
  have o2 : and32 c1.2.2.2.1 128 = 0 ↔ ¬ c1.2.2.2.1 = 128 := by rw [← hc1]; exact (by decide +kernel : and32 128 128 = 0 ↔ ¬ (128 : Int) = 128)
  have hcr : chR c1 := o1.chR (by rw [← hc1]; exact (by decide : (-1 : Int) < 64))
  have hpt1 : ptV Q p c1.2.2.2.2 := by rw [← hc1]; exact Or.inl rfl
  have h118 := fun (σ : hM) (V : qR) (V3 : rR) (hP : PX σ0 V V3 σ) (hXV : XW K (T + 4) U V V3 Q) (h1 : CHX V V3 2178 c1) (hF : FCM W V R V3) => WP.mono (mnt_118 (fb := fb) (d := d) (b := b) (a := a) (c := c) (nv := nv) hP hXV (by omega) hp hlQ (hC.fcm hF) hN hN2 h1 hcr (o1.mono (by omega)) o2 hpt1 f5 (fun q => ⟨(hG2 q).1.mono (by omega), (hG2 q).2⟩)) (fun r σ1 hr => XCM.base (T0 := T + 656) hF (by omega) hr)
  obtain ⟨B, hB⟩ : ∃ B, cBnW Q p N (bfV b) (bhV b a) (bfV c) 0 c1 l = B := ⟨_, rfl⟩
  rw [hB]
  simp only [hB] at h118
  have h17 : WP fb (d + 11) 180 17 [some (vR (some 2175)), some (vR (some (prO p))), some (vR (some kk)), none, none, none] [vI (fV b a c)] σ (XCM σ0 K (T + 656) U W R B) := by
    obtain ⟨F, hF⟩ : ∃ F, fV b a c = F := ⟨_, rfl⟩
    simp only [hF] at hrr h118 ⊢
    obtain ⟨sv, hsw⟩ : ∃ q, 1293 + 294 * nv.toNat = q := ⟨_, rfl⟩
    rw [hsw] at hho hO
    simp only [hsw] at hak
    obtain ⟨pr, hpr⟩ : ∃ q, prO p = q := ⟨_, rfl⟩
    rw [hpr] at hpo l1
    simp only [hpr] at h118 ⊢
    refine x_si (ls1 := [some (vR (some 2175)), some (vR (some pr)), some (vR (some kk)), some (vI F), none, none]) T_180_17 rfl ?_
    refine x_lr (z := some kk) T_180_18 rfl ?_
    refine x_lr (z := some kk) T_180_19 rfl ?_
    refine x_gI (z := N) T_180_20 (Or.inl F_16_4) (hP.o hko) (Eq.trans (hP.gi hko (key := 2516) rfl) h5) ?_
    refine x_ic T_180_23 ?_
    refine x_ib (w := (N - 2)) T_180_24 (fun h => absurd h.1 (by decide)) (w32_id (by omega) (by omega)) ?_
    refine x_cv2 T_180_25 mN_151 mL_151 (Nat.le_of_ble_eq_true rfl) mO_151 (hP.o hko) (Nat.le_of_ble_eq_true rfl) (hdg) ?_
    rintro _ σ ⟨rfl, rfl⟩
    refine cI ?_
    refine x_si (ls1 := [some (vR (some 2175)), some (vR (some pr)), some (vR (some kk)), some (vI F), some (vI nv), none]) T_180_28 rfl ?_
    refine x_lr (z := some kk) T_180_30 rfl ?_
    refine x_gI (z := N) T_180_31 (Or.inl F_16_4) (hP.o hko) (Eq.trans (hP.gi hko (key := 2516) rfl) h5) ?_
    refine x_ic T_180_34 ?_
    refine x_ic2 T_180_35 (fun h => absurd (show N < 3 from h) (by omega)) (fun _ => ?_)
    refine x_lr (z := some kk) T_180_38 rfl ?_
    refine x_gI (z := N) T_180_39 (Or.inl F_16_4) (hP.o hko) (Eq.trans (hP.gi hko (key := 2516) rfl) h5) ?_
    refine x_ic T_180_42 ?_
    refine x_ic2 T_180_43 (fun h => absurd (show 4 < N from h) (by omega)) (fun _ => ?_)
    refine x_li (z := F) T_180_46 rfl ?_
    refine x_ic T_180_47 ?_
    refine x_ic2 T_180_48 (fun h => absurd (show F = (-1) from h) (by omega)) (fun _ => ?_)
    refine x_li (z := nv) T_180_51 rfl ?_
    refine x_if T_180_53 (fun h => absurd (show nv < 0 from h) (by omega)) (fun _ => ?_)
    refine x_li (z := nv) T_180_56 rfl ?_
    refine x_ic T_180_58 ?_
    refine x_ic2 T_180_59 (fun _ => ?_) (fun h => absurd (show nv < 3 by omega) h)
    refine x_lr (z := some 2175) T_180_65 rfl ?_
    refine x_gR (z := some 129) T_180_66 F_14_0 (hP.o xo_2175) (hP.rc xo_2175 rfl rfl) ?_
    refine x_li (z := nv) T_180_69 rfl ?_
    refine x_cv2 T_180_71 mN_122 mL_122 (Nat.le_of_ble_eq_true rfl) mO_122 (hP.o xo_129) (Nat.le_of_ble_eq_true rfl) (hho) ?_
    rintro _ σ ⟨rfl, rfl⟩
    refine cR ?_
    refine x_ic T_180_74 ?_
    refine x_lr (z := some 2175) T_180_75 rfl ?_
    refine x_gR (z := some 129) T_180_76 F_14_0 (hP.o xo_2175) (hP.rc xo_2175 rfl rfl) ?_
    refine x_li (z := nv) T_180_79 rfl ?_
    refine x_lr (z := some pr) T_180_81 rfl ?_
    refine x_gI (z := u) T_180_82 (Or.inl F_6_7) (hP.o hpo) (Eq.trans (hP.gi hpo (key := 2199) rfl) l1) ?_
    refine x_cv3 T_180_85 mN_127 mL_127 (Nat.le_of_ble_eq_true rfl) mO_127 (hP.o xo_129) (Nat.le_of_ble_eq_true rfl) (hwk) ?_
    clear hP hwk
    rintro _ σ ⟨rfl, W2, hP, hB2, hF2, hg2⟩
    refine cR ?_
    refine x_lr (z := some 2175) T_180_88 rfl ?_
    refine x_gR (z := some 129) T_180_89 F_14_0 (hP.o xo_2175) (hP.rc xo_2175 rfl rfl) ?_
    refine x_gR (z := some 134) T_180_92 F_1_2 (hP.o xo_129) (hP.rc xo_129 rfl rfl) ?_
    refine x_cv4 T_180_95 mN_26 mL_26 (Nat.le_of_ble_eq_true rfl) mO_26 (hP.o hO) (Nat.le_of_ble_eq_true rfl) (hak σ W2 hP hF2 hB2) ?_
    clear hP hak
    rintro _ σ ⟨rfl, W3, R3, hP, hX3, hB3, hF3⟩
    have hg3 := hgp W2 hF2 hg2 W3 R3 hF3
    have hA3 := FA_tr (FA_fr hF2) (FA_fs hF3)
    obtain ⟨w1, w2, w3⟩ := hone W3 R3 hX3
    have w4 := FCM_tr (FCM_fa hA3) (FCM_fk w3 (by decide))
    refine cI ?_
    refine x_si (ls1 := [some (vR (some 2175)), some (vR (some pr)), some (vR (some kk)), some (vI F), some (vI nv), some (vI 0)]) T_180_98 rfl ?_
    refine x_lr (z := some 2175) T_180_100 rfl ?_
    refine x_gR (z := some 2178) T_180_101 F_14_2 (hP.o xo_2175) (hP.rc xo_2175 rfl rfl) ?_
    refine x_li (z := nv) T_180_104 rfl ?_
    refine x_lr (z := some 2175) T_180_106 rfl ?_
    refine x_gR (z := some 129) T_180_107 F_14_0 (hP.o xo_2175) (hP.rc xo_2175 rfl rfl) ?_
    refine x_gI (z := nf) T_180_110 (Or.inl F_1_5) (hP.o xo_129) (Eq.trans (hP.gi xo_129 (key := 2037) rfl) hg3) ?_
    refine x_ic T_180_113 ?_
    refine x_ic T_180_114 ?_
    refine x_cv5 T_180_115 mN_128 mL_128 (Nat.le_of_ble_eq_true rfl) mO_128 (hP.o xo_2178) (Nat.le_of_ble_eq_true rfl) (hbc σ W3 R3 hP) ?_
    clear hP hbc
    rintro _ σ ⟨rfl, hP⟩
    refine cV ?_
    exact h118 σ _ _ hP w1 w2 w4
  have hgo := hgoF h17
  obtain ⟨pr, hpr⟩ : ∃ q, prO p = q := ⟨_, rfl⟩
  rw [hpr] at hgo ⊢
  refine CL_in mL_180 rfl ?_
  show WP fb _ 180 0 [some (vR (some 2175)), some (vR (some pr)), some (vR (some kk)), none, none, none] [] σ _
  exact hgo
end XBNN
