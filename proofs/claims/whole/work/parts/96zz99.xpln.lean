/-! The class's kernel: a path's plain form. -/
theorem T_120_0 : hTab 120 0 = some ((3, 0, 2, []), 1) := rfl
theorem T_120_1 : hTab 120 1 = some ((24, 1, Int.ofNat 7, []), 4) := rfl
theorem T_120_4 : hTab 120 4 = some ((31, 27, 0, []), 7) := rfl
theorem T_120_7 : hTab 120 7 = some ((3, 0, 2, []), 8) := rfl
theorem T_120_8 : hTab 120 8 = some ((24, 1, Int.ofNat 7, []), 11) := rfl
theorem T_120_11 : hTab 120 11 = some ((3, 0, 2, []), 12) := rfl
theorem T_120_12 : hTab 120 12 = some ((24, 1, Int.ofNat 17, []), 15) := rfl
theorem T_120_15 : hTab 120 15 = some ((0, 0, (-1), []), 16) := rfl
theorem T_120_16 : hTab 120 16 = some ((19, 1, Int.ofNat 24, []), 19) := rfl
theorem T_120_19 : hTab 120 19 = some ((0, 0, 47, []), 21) := rfl
theorem T_120_21 : hTab 120 21 = some ((22, 0, Int.ofNat 26, []), 24) := rfl
theorem T_120_24 : hTab 120 24 = some ((0, 0, 35, []), 26) := rfl
theorem T_120_26 : hTab 120 26 = some ((31, 73, 0, []), 29) := rfl
theorem T_120_29 : hTab 120 29 = some ((7, 0, 0, []), 30) := rfl
theorem T_120_30 : hTab 120 30 = some ((3, 0, 2, []), 31) := rfl
theorem T_120_31 : hTab 120 31 = some ((24, 1, Int.ofNat 17, []), 34) := rfl
theorem T_120_34 : hTab 120 34 = some ((0, 0, (-1), []), 35) := rfl
theorem T_120_35 : hTab 120 35 = some ((19, 0, Int.ofNat 55, []), 38) := rfl
theorem T_120_38 : hTab 120 38 = some ((3, 0, 2, []), 39) := rfl
theorem T_120_39 : hTab 120 39 = some ((24, 1, Int.ofNat 7, []), 42) := rfl
theorem T_120_42 : hTab 120 42 = some ((0, 0, 48, []), 44) := rfl
theorem T_120_44 : hTab 120 44 = some ((3, 0, 2, []), 45) := rfl
theorem T_120_45 : hTab 120 45 = some ((24, 1, Int.ofNat 17, []), 48) := rfl
theorem T_120_48 : hTab 120 48 = some ((10, 0, 0, []), 49) := rfl
theorem T_120_49 : hTab 120 49 = some ((31, 73, 0, []), 52) := rfl
theorem T_120_52 : hTab 120 52 = some ((18, 0, Int.ofNat 59, []), 55) := rfl
theorem T_120_55 : hTab 120 55 = some ((0, 0, 1, []), 56) := rfl
theorem T_120_56 : hTab 120 56 = some ((22, 0, Int.ofNat 60, []), 59) := rfl
theorem T_120_60 : hTab 120 60 = some ((4, 1, 0, []), 61) := rfl
theorem T_120_61 : hTab 120 61 = some ((0, 0, 0, []), 62) := rfl
theorem T_120_62 : hTab 120 62 = some ((4, 2, 0, []), 63) := rfl
theorem T_120_63 : hTab 120 63 = some ((3, 2, 0, []), 64) := rfl
theorem T_120_64 : hTab 120 64 = some ((3, 0, 2, []), 65) := rfl
theorem T_120_65 : hTab 120 65 = some ((24, 1, Int.ofNat 6, []), 68) := rfl
theorem T_120_68 : hTab 120 68 = some ((19, 3, Int.ofNat 156, []), 71) := rfl
theorem T_120_71 : hTab 120 71 = some ((3, 2, 0, []), 72) := rfl
theorem T_120_72 : hTab 120 72 = some ((3, 0, 2, []), 73) := rfl
theorem T_120_73 : hTab 120 73 = some ((24, 1, Int.ofNat 15, []), 76) := rfl
theorem T_120_76 : hTab 120 76 = some ((28, 0, 0, []), 77) := rfl
theorem T_120_77 : hTab 120 77 = some ((19, 3, Int.ofNat 156, []), 80) := rfl
theorem T_120_80 : hTab 120 80 = some ((3, 1, 0, []), 81) := rfl
theorem T_120_81 : hTab 120 81 = some ((18, 0, Int.ofNat 156, []), 84) := rfl
theorem T_120_84 : hTab 120 84 = some ((3, 0, 2, []), 85) := rfl
theorem T_120_85 : hTab 120 85 = some ((24, 1, Int.ofNat 17, []), 88) := rfl
theorem T_120_88 : hTab 120 88 = some ((0, 0, (-1), []), 89) := rfl
theorem T_120_89 : hTab 120 89 = some ((19, 1, Int.ofNat 96, []), 92) := rfl
theorem T_120_92 : hTab 120 92 = some ((3, 2, 0, []), 93) := rfl
theorem T_120_93 : hTab 120 93 = some ((18, 0, Int.ofNat 108, []), 96) := rfl
theorem T_120_96 : hTab 120 96 = some ((3, 0, 2, []), 97) := rfl
theorem T_120_97 : hTab 120 97 = some ((24, 1, Int.ofNat 7, []), 100) := rfl
theorem T_120_100 : hTab 120 100 = some ((0, 0, 47, []), 102) := rfl
theorem T_120_102 : hTab 120 102 = some ((31, 73, 0, []), 105) := rfl
theorem T_120_105 : hTab 120 105 = some ((18, 0, Int.ofNat 112, []), 108) := rfl
theorem T_120_108 : hTab 120 108 = some ((0, 0, 1, []), 109) := rfl
theorem T_120_109 : hTab 120 109 = some ((22, 0, Int.ofNat 113, []), 112) := rfl
theorem T_120_112 : hTab 120 112 = some ((0, 0, 0, []), 113) := rfl
theorem T_120_113 : hTab 120 113 = some ((4, 1, 0, []), 114) := rfl
theorem T_120_114 : hTab 120 114 = some ((3, 1, 0, []), 115) := rfl
theorem T_120_115 : hTab 120 115 = some ((18, 0, Int.ofNat 148, []), 118) := rfl
theorem T_120_118 : hTab 120 118 = some ((3, 0, 2, []), 119) := rfl
theorem T_120_119 : hTab 120 119 = some ((24, 1, Int.ofNat 7, []), 122) := rfl
theorem T_120_122 : hTab 120 122 = some ((3, 0, 2, []), 123) := rfl
theorem T_120_123 : hTab 120 123 = some ((24, 1, Int.ofNat 14, []), 126) := rfl
theorem T_120_126 : hTab 120 126 = some ((3, 0, 2, []), 127) := rfl
theorem T_120_127 : hTab 120 127 = some ((24, 1, Int.ofNat 15, []), 130) := rfl
theorem T_120_130 : hTab 120 130 = some ((3, 2, 0, []), 131) := rfl
theorem T_120_131 : hTab 120 131 = some ((26, 0, 0, []), 132) := rfl
theorem T_120_132 : hTab 120 132 = some ((3, 0, 2, []), 133) := rfl
theorem T_120_133 : hTab 120 133 = some ((24, 1, Int.ofNat 16, []), 136) := rfl
theorem T_120_136 : hTab 120 136 = some ((3, 2, 0, []), 137) := rfl
theorem T_120_137 : hTab 120 137 = some ((26, 0, 0, []), 138) := rfl
theorem T_120_138 : hTab 120 138 = some ((31, 32, 0, []), 141) := rfl
theorem T_120_141 : hTab 120 141 = some ((18, 0, Int.ofNat 148, []), 144) := rfl
theorem T_120_144 : hTab 120 144 = some ((0, 0, 1, []), 145) := rfl
theorem T_120_145 : hTab 120 145 = some ((22, 0, Int.ofNat 149, []), 148) := rfl
theorem T_120_148 : hTab 120 148 = some ((0, 0, 0, []), 149) := rfl
theorem T_120_149 : hTab 120 149 = some ((4, 1, 0, []), 150) := rfl
theorem T_120_150 : hTab 120 150 = some ((5, 2, 1, []), 153) := rfl
theorem T_120_153 : hTab 120 153 = some ((22, 0, Int.ofNat 63, []), 156) := rfl
theorem T_120_156 : hTab 120 156 = some ((3, 1, 0, []), 157) := rfl
theorem T_120_157 : hTab 120 157 = some ((33, 2, 0, []), 158) := rfl
theorem F_1_7 : (hFd 1 7).2.2.1 = 4 := rfl
theorem mN_120 : hmN 120 = 1 := by decide +kernel
theorem mL_120 : hmL 120 = 3 := by decide +kernel
theorem mK_120 : hmK 120 = 1 := by decide +kernel
theorem mO_120 : hmO 120 = 1 := by decide +kernel
abbrev XPL (σ0 : hM) (W : qR) (R : rR) (F : List Int) : Option AV → hM → Prop := fun r σ' => r = some (vI (if 60 < F.length then 0 else 1)) ∧ ∃ W2, PX σ0 W2 R σ' ∧ FB 136 W W2 ∧ (F.length ≤ 60 → BY W2 136 60 F)
section XPLN
variable {fb : Bool} {d b q m k : Nat} {σ0 σ : hM} {W W0 W1 W2 W3 P Q : qR} {R R2 : rR} {i j x z v s e w p o n K T U : Int} {l l0 lo nm : List Int} {ns : List (Int × Int)} {f : Int → Int}
theorem mp_fail (hP : PX σ0 W2 R σ) (hN : NQ W2 ns) (hn : ns.length < 100) (hj : 0 ≤ j ∧ j ≤ 100) (hF : FB 136 W W2) {F : List Int} (h60 : 60 < F.length) : WP fb (d + 1) 120 63 [some (vR (some 129)), some (vI 0), some (vI j)] [] σ (XPL σ0 W R F) := by
  have hn0 := hN.1
  obtain ⟨n, hnn⟩ : ∃ q : Int, (ns.length : Int) = q := ⟨_, rfl⟩
  rw [hnn] at hn0
  have h47 : isA 147 0 100 := ⟨rfl, by decide⟩
  have hend : XPL σ0 W R F (some (vI 0)) σ := ⟨by rw [if_pos h60], W2, hP, hF, fun c => by omega⟩
  by_cases q : j < n
  · skip
    refine x_li (z := j) T_120_63 rfl ?_
    refine x_lr (z := some 129) T_120_64 rfl ?_
    refine x_gI (z := n) T_120_65 (Or.inl F_1_6) (hP.o xo_129) (Eq.trans (hP.gi xo_129 (key := 2038) rfl) hn0) ?_
    refine x_ic2 T_120_68 (fun h => absurd (show n ≤ j from h) (by omega)) (fun _ => ?_)
    refine x_li (z := j) T_120_71 rfl ?_
    refine x_lr (z := some 129) T_120_72 rfl ?_
    refine x_gR (z := some 147) T_120_73 F_1_15 (hP.o xo_129) (hP.rc xo_129 rfl rfl) ?_
    refine x_len T_120_76 (hP.ta h47) ?_
    refine x_ic2 T_120_77 (fun h => absurd (show 100 ≤ j from h) (by omega)) (fun _ => ?_)
    refine x_li (z := 0) T_120_80 rfl ?_
    refine x_if T_120_81 (fun _ => ?_) (fun h => absurd (show (0 : Int) = 0 by rfl) h)
    refine x_li (z := 0) T_120_156 rfl ?_
    refine x_rz T_120_157 rfl ?_
    exact hend
  · skip
    refine x_li (z := j) T_120_63 rfl ?_
    refine x_lr (z := some 129) T_120_64 rfl ?_
    refine x_gI (z := n) T_120_65 (Or.inl F_1_6) (hP.o xo_129) (Eq.trans (hP.gi xo_129 (key := 2038) rfl) hn0) ?_
    refine x_ic2 T_120_68 (fun _ => ?_) (fun h => absurd (show n ≤ j by omega) h)
    refine x_li (z := 0) T_120_156 rfl ?_
    refine x_rz T_120_157 rfl ?_
    exact hend
theorem NQ.fbn (h : NQ W ns) (hF : FB 136 W W2) : NQ W2 ns := ⟨(hF.of (by decide) (by decide)).trans h.1, fun i hi => ⟨(hF _ _ (by omega) (by omega)).trans (h.2 i hi).1, (hF _ _ (by omega) (by omega)).trans (h.2 i hi).2⟩⟩
/-- one name's bytes -/
theorem mp_name (hlo : NV (lo.length : Int) ns) (hB : BY W 145 161 lo) (hN : NQ W ns) (hn : ns.length < 100) (ho : W 129 2049 = o) {x0 : Int × Int} {r : List (Int × Int)} {cur F : List Int} (hP : PX σ0 W2 R σ) (hF : FB 136 W W2) (hC : BY W2 136 60 cur) (hj : j + r.length + 1 = (ns.length : Int)) (hj0 : 0 ≤ j) (hx : ns.getD j.toNat (0, 0) = x0) (eF : F.length = cur.length + (x0.2 - x0.1).toNat + (plF (lg lo) r).length) (hgo : ∀ (σ : hM) (W3 : qR), PX σ0 W3 R σ → FB 136 W W3 → BY W3 136 60 (cur ++ seg (lg lo) x0.1 (x0.2 - x0.1).toNat) → WP fb (d + 1) 120 63 [some (vR (some 129)), some (vI 1), some (vI (j + 1))] [] σ (XPL σ0 W R F)) : WP fb (d + 1) 120 118 [some (vR (some 129)), some (vI 1), some (vI j)] [] σ (XPL σ0 W R F) := by
  have h47 : isA 147 0 100 := ⟨rfl, by decide⟩
  have h48 : isA 148 0 100 := ⟨rfl, by decide⟩
  have hv := hlo j.toNat (by omega)
  have hB2 := hF.by hB (by decide)
  have hN2 := hN.fbn hF
  have hg := hN2.2 j.toNat (by omega)
  rw [hx] at hv hg
  rw [show ((j.toNat : Nat) : Int) = j by omega] at hg
  obtain ⟨x1, x2⟩ := x0
  have hv : 0 ≤ x1 ∧ x1 ≤ x2 ∧ x2 ≤ (lo.length : Int) := hv
  have g1 : W2 147 j = x1 := hg.1
  have g2 : W2 148 j = x2 := hg.2
  have eF : F.length = cur.length + (x2 - x1).toNat + (plF (lg lo) r).length := eF
  have hgo : ∀ (σ : hM) (W3 : qR), PX σ0 W3 R σ → FB 136 W W3 → BY W3 136 60 (cur ++ seg (lg lo) x1 (x2 - x1).toNat) → WP fb (d + 1) 120 63 [some (vR (some 129)), some (vI 1), some (vI (j + 1))] [] σ (XPL σ0 W R F) := hgo
  have had := x_addAll (fb := fb) (d := d) (s := x1) (e := x2) hP hC hB2 (by decide) (Or.inr hv.1) hv.2.2
  have hl := hC.2.2.2.2.1
  by_cases q : cur.length + (x2 - x1).toNat ≤ 60
  · rw [if_pos q, List.take_of_length_le (by rw [List.length_append, seg_len]; exact q)] at had
    refine x_lr (z := some 129) T_120_118 rfl ?_
    refine x_gR (z := some 136) T_120_119 F_1_7 (hP.o xo_129) (hP.rc xo_129 rfl rfl) ?_
    refine x_lr (z := some 129) T_120_122 rfl ?_
    refine x_gR (z := some 145) T_120_123 F_1_14 (hP.o xo_129) (hP.rc xo_129 rfl rfl) ?_
    refine x_lr (z := some 129) T_120_126 rfl ?_
    refine x_gR (z := some 147) T_120_127 F_1_15 (hP.o xo_129) (hP.rc xo_129 rfl rfl) ?_
    refine x_li (z := j) T_120_130 rfl ?_
    refine x_alI (z := x1) T_120_131 (by decide) (hP.ta h47) (by omega) (by omega) (Eq.trans (hP.ai h47 (by omega)) g1) ?_
    refine x_lr (z := some 129) T_120_132 rfl ?_
    refine x_gR (z := some 148) T_120_133 F_1_16 (hP.o xo_129) (hP.rc xo_129 rfl rfl) ?_
    refine x_li (z := j) T_120_136 rfl ?_
    refine x_alI (z := x2) T_120_137 (by decide) (hP.ta h48) (by omega) (by omega) (Eq.trans (hP.ai h48 (by omega)) g2) ?_
    refine x_cv4 T_120_138 mN_32 mL_32 (Nat.le_of_ble_eq_true rfl) mO_32 (hP.o xo_136) (Nat.le_of_ble_eq_true rfl) (had) ?_
    clear hP had
    rintro _ σ ⟨rfl, W3, hP, hB3, hF3⟩
    refine cI ?_
    refine x_if T_120_141 (fun h => absurd (show (1 : Int) = 0 from h) (by decide)) (fun _ => ?_)
    refine x_ic T_120_144 ?_
    refine x_goto T_120_145 ?_
    refine x_si (ls1 := [some (vR (some 129)), some (vI 1), some (vI j)]) T_120_149 rfl ?_
    refine x_inc (w := (j + 1)) (ls1 := [some (vR (some 129)), some (vI 1), some (vI (j + 1))]) T_120_150 rfl (w32_id (by omega) (by omega)) rfl ?_
    refine x_goto T_120_153 ?_
    exact hgo σ W3 hP (FB_tr hF hF3) hB3
  · rw [if_neg q] at had
    refine x_lr (z := some 129) T_120_118 rfl ?_
    refine x_gR (z := some 136) T_120_119 F_1_7 (hP.o xo_129) (hP.rc xo_129 rfl rfl) ?_
    refine x_lr (z := some 129) T_120_122 rfl ?_
    refine x_gR (z := some 145) T_120_123 F_1_14 (hP.o xo_129) (hP.rc xo_129 rfl rfl) ?_
    refine x_lr (z := some 129) T_120_126 rfl ?_
    refine x_gR (z := some 147) T_120_127 F_1_15 (hP.o xo_129) (hP.rc xo_129 rfl rfl) ?_
    refine x_li (z := j) T_120_130 rfl ?_
    refine x_alI (z := x1) T_120_131 (by decide) (hP.ta h47) (by omega) (by omega) (Eq.trans (hP.ai h47 (by omega)) g1) ?_
    refine x_lr (z := some 129) T_120_132 rfl ?_
    refine x_gR (z := some 148) T_120_133 F_1_16 (hP.o xo_129) (hP.rc xo_129 rfl rfl) ?_
    refine x_li (z := j) T_120_136 rfl ?_
    refine x_alI (z := x2) T_120_137 (by decide) (hP.ta h48) (by omega) (by omega) (Eq.trans (hP.ai h48 (by omega)) g2) ?_
    refine x_cv4 T_120_138 mN_32 mL_32 (Nat.le_of_ble_eq_true rfl) mO_32 (hP.o xo_136) (Nat.le_of_ble_eq_true rfl) (had) ?_
    clear hP had
    rintro _ σ ⟨rfl, W3, hP, hB3, hF3⟩
    refine cI ?_
    refine x_if T_120_141 (fun _ => ?_) (fun h => absurd (show (0 : Int) = 0 by rfl) h)
    refine x_ic T_120_148 ?_
    refine x_si (ls1 := [some (vR (some 129)), some (vI 0), some (vI j)]) T_120_149 rfl ?_
    refine x_inc (w := (j + 1)) (ls1 := [some (vR (some 129)), some (vI 0), some (vI (j + 1))]) T_120_150 rfl (w32_id (by omega) (by omega)) rfl ?_
    refine x_goto T_120_153 ?_
    exact mp_fail hP (hN2.fbn hF3) hn ⟨by omega, by omega⟩ (FB_tr hF hF3) (by omega)
theorem mp_loop (hlo : NV (lo.length : Int) ns) (hB : BY W 145 161 lo) (hN : NQ W ns) (hn : ns.length < 100) (ho : W 129 2049 = o) (hor : o = -1 ∨ 0 ≤ o) : ∀ (r : List (Int × Int)) (j : Int) (cur : List Int) (W2 : qR) (σ : hM), j + r.length = (ns.length : Int) → 0 ≤ j → ns.drop j.toNat = r → PX σ0 W2 R σ → FB 136 W W2 → BY W2 136 60 cur → WP fb (d + 1) 120 63 [some (vR (some 129)), some (vI 1), some (vI j)] [] σ (XPL σ0 W R (cur ++ if j = 0 ∧ o = -1 then (plF (lg lo) r).tail else plF (lg lo) r)) := by
  intro r
  induction r with
  | nil =>
    intro j cur W2 σ h1 h2 h3 hP hF hC
    have h1 : j + ((0 : Nat) : Int) = (ns.length : Int) := h1
    have hn0 := (hN.fbn hF).1
    obtain ⟨n, hnn⟩ : ∃ q : Int, (ns.length : Int) = q := ⟨_, rfl⟩
    rw [hnn] at hn0 h1
    have hl := hC.2.2.2.2.1
    have e : (cur ++ if j = 0 ∧ o = -1 then (plF (lg lo) []).tail else plF (lg lo) []) = cur := by
      split
      · exact List.append_nil _
      · exact List.append_nil _
    rw [e]
    refine x_li (z := j) T_120_63 rfl ?_
    refine x_lr (z := some 129) T_120_64 rfl ?_
    refine x_gI (z := n) T_120_65 (Or.inl F_1_6) (hP.o xo_129) (Eq.trans (hP.gi xo_129 (key := 2038) rfl) hn0) ?_
    refine x_ic2 T_120_68 (fun _ => ?_) (fun h => absurd (show n ≤ j by omega) h)
    refine x_li (z := 1) T_120_156 rfl ?_
    refine x_rz T_120_157 rfl ?_
    exact ⟨by rw [if_neg (by omega)], W2, hP, hF, fun _ => hC⟩
  | cons x0 r ih =>
    intro j cur W2 σ h1 h2 h3 hP hF hC
    rw [List.length_cons] at h1
    have h47 : isA 147 0 100 := ⟨rfl, by decide⟩
    have hn0 := (hN.fbn hF).1
    have ho2 : W2 129 2049 = o := (hF.of (by decide) (by decide)).trans ho
    have hx : ns.getD j.toNat (0, 0) = x0 := by
      have := congrArg List.head? h3
      rw [List.head?_drop] at this
      rw [List.getD_eq_getElem?_getD, this]
      rfl
    have hdr : ns.drop (j + 1).toNat = r := by
      rw [show (j + 1).toNat = j.toNat + 1 by omega, ← List.drop_drop, h3]
      rfl
    have hpl : plF (lg lo) (x0 :: r) = 47 :: (seg (lg lo) x0.1 (x0.2 - x0.1).toNat ++ plF (lg lo) r) := rfl
    have hgo := fun (cur2 : List Int) (σ : hM) (W3 : qR) (hP : PX σ0 W3 R σ) (hF : FB 136 W W3) (hC : BY W3 136 60 cur2) => ih (j + 1) cur2 W3 σ (by omega) (by omega) hdr hP hF hC
    rw [if_neg (show ¬ (j + 1 = 0 ∧ o = -1) by omega)] at hgo
    obtain ⟨n, hnn⟩ : ∃ q : Int, (ns.length : Int) = q := ⟨_, rfl⟩
    rw [hnn] at hn0 h1
    have hl := hC.2.2.2.2.1
    by_cases q : j = 0 ∧ o = -1
    · rw [if_pos q, hpl, List.tail_cons]
      have hw := mp_name (fb := fb) (d := d) (F := cur ++ (seg (lg lo) x0.1 (x0.2 - x0.1).toNat ++ plF (lg lo) r)) hlo hB hN hn ho hP hF hC (r := r) (by omega) h2 hx (by rw [List.length_append, List.length_append, seg_len]; omega) (fun σ W3 g1 g2 g3 => by
        have := hgo _ σ W3 g1 g2 g3
        rw [List.append_assoc] at this
        exact this)
      obtain ⟨rfl, rfl⟩ := q
      refine x_li (z := 0) T_120_63 rfl ?_
      refine x_lr (z := some 129) T_120_64 rfl ?_
      refine x_gI (z := n) T_120_65 (Or.inl F_1_6) (hP.o xo_129) (Eq.trans (hP.gi xo_129 (key := 2038) rfl) hn0) ?_
      refine x_ic2 T_120_68 (fun h => absurd (show n ≤ 0 from h) (by omega)) (fun _ => ?_)
      refine x_li (z := 0) T_120_71 rfl ?_
      refine x_lr (z := some 129) T_120_72 rfl ?_
      refine x_gR (z := some 147) T_120_73 F_1_15 (hP.o xo_129) (hP.rc xo_129 rfl rfl) ?_
      refine x_len T_120_76 (hP.ta h47) ?_
      refine x_ic2 T_120_77 (fun h => absurd (show 100 ≤ (0 : Int) from h) (by decide)) (fun _ => ?_)
      refine x_li (z := 1) T_120_80 rfl ?_
      refine x_if T_120_81 (fun h => absurd (show (1 : Int) = 0 from h) (by decide)) (fun _ => ?_)
      refine x_lr (z := some 129) T_120_84 rfl ?_
      refine x_gI (z := (-1)) T_120_85 (Or.inl F_1_17) (hP.o xo_129) (Eq.trans (hP.gi xo_129 (key := 2049) rfl) ho2) ?_
      refine x_ic T_120_88 ?_
      refine x_ic2 T_120_89 (fun h => absurd (show ¬ ((-1) : Int) = (-1) from h) (by decide)) (fun _ => ?_)
      refine x_li (z := 0) T_120_92 rfl ?_
      refine x_if T_120_93 (fun _ => ?_) (fun h => absurd (show (0 : Int) = 0 by rfl) h)
      refine x_ic T_120_108 ?_
      refine x_goto T_120_109 ?_
      refine x_si (ls1 := [some (vR (some 129)), some (vI 1), some (vI 0)]) T_120_113 rfl ?_
      refine x_li (z := 1) T_120_114 rfl ?_
      refine x_if T_120_115 (fun h => absurd (show (1 : Int) = 0 from h) (by decide)) (fun _ => ?_)
      exact hw
    · rw [if_neg q, hpl]
      have hadd := x_add (fb := fb) (d := d) (x := 47) hP hC (by decide)
      by_cases q2 : (cur.length : Int) < ((60 : Nat) : Int)
      · rw [if_pos q2, if_pos q2] at hadd
        have hw := fun (σ : hM) (W3 : qR) (hP : PX σ0 W3 R σ) (hF : FB 136 W W3) (hC : BY W3 136 60 (cur ++ [47])) => mp_name (fb := fb) (d := d) (F := cur ++ 47 :: (seg (lg lo) x0.1 (x0.2 - x0.1).toNat ++ plF (lg lo) r)) hlo hB hN hn ho hP hF hC (r := r) (by omega) h2 hx (by rw [List.length_append, List.length_cons, List.length_append, List.length_append, seg_len]; show _ = cur.length + 1 + _ + _; omega) (fun σ W3 g1 g2 g3 => by
          have := hgo _ σ W3 g1 g2 g3
          rw [List.append_assoc, List.append_assoc] at this
          exact this)
        by_cases q3 : o = -1
        · subst q3
          refine x_li (z := j) T_120_63 rfl ?_
          refine x_lr (z := some 129) T_120_64 rfl ?_
          refine x_gI (z := n) T_120_65 (Or.inl F_1_6) (hP.o xo_129) (Eq.trans (hP.gi xo_129 (key := 2038) rfl) hn0) ?_
          refine x_ic2 T_120_68 (fun h => absurd (show n ≤ j from h) (by omega)) (fun _ => ?_)
          refine x_li (z := j) T_120_71 rfl ?_
          refine x_lr (z := some 129) T_120_72 rfl ?_
          refine x_gR (z := some 147) T_120_73 F_1_15 (hP.o xo_129) (hP.rc xo_129 rfl rfl) ?_
          refine x_len T_120_76 (hP.ta h47) ?_
          refine x_ic2 T_120_77 (fun h => absurd (show 100 ≤ j from h) (by omega)) (fun _ => ?_)
          refine x_li (z := 1) T_120_80 rfl ?_
          refine x_if T_120_81 (fun h => absurd (show (1 : Int) = 0 from h) (by decide)) (fun _ => ?_)
          refine x_lr (z := some 129) T_120_84 rfl ?_
          refine x_gI (z := (-1)) T_120_85 (Or.inl F_1_17) (hP.o xo_129) (Eq.trans (hP.gi xo_129 (key := 2049) rfl) ho2) ?_
          refine x_ic T_120_88 ?_
          refine x_ic2 T_120_89 (fun h => absurd (show ¬ ((-1) : Int) = (-1) from h) (by decide)) (fun _ => ?_)
          refine x_li (z := j) T_120_92 rfl ?_
          refine x_if T_120_93 (fun h => absurd (show j = 0 from h) (by omega)) (fun _ => ?_)
          refine x_lr (z := some 129) T_120_96 rfl ?_
          refine x_gR (z := some 136) T_120_97 F_1_7 (hP.o xo_129) (hP.rc xo_129 rfl rfl) ?_
          refine x_ic T_120_100 ?_
          refine x_cv2 T_120_102 mN_73 mL_73 (Nat.le_of_ble_eq_true rfl) mO_73 (hP.o xo_136) (Nat.le_of_ble_eq_true rfl) (hadd) ?_
          clear hP hadd
          rintro _ σ ⟨rfl, W3, hP, hB3, hF3⟩
          refine cI ?_
          refine x_if T_120_105 (fun h => absurd (show (1 : Int) = 0 from h) (by decide)) (fun _ => ?_)
          refine x_ic T_120_108 ?_
          refine x_goto T_120_109 ?_
          refine x_si (ls1 := [some (vR (some 129)), some (vI 1), some (vI j)]) T_120_113 rfl ?_
          refine x_li (z := 1) T_120_114 rfl ?_
          refine x_if T_120_115 (fun h => absurd (show (1 : Int) = 0 from h) (by decide)) (fun _ => ?_)
          exact hw σ W3 hP (FB_tr hF hF3) hB3
        · skip
          refine x_li (z := j) T_120_63 rfl ?_
          refine x_lr (z := some 129) T_120_64 rfl ?_
          refine x_gI (z := n) T_120_65 (Or.inl F_1_6) (hP.o xo_129) (Eq.trans (hP.gi xo_129 (key := 2038) rfl) hn0) ?_
          refine x_ic2 T_120_68 (fun h => absurd (show n ≤ j from h) (by omega)) (fun _ => ?_)
          refine x_li (z := j) T_120_71 rfl ?_
          refine x_lr (z := some 129) T_120_72 rfl ?_
          refine x_gR (z := some 147) T_120_73 F_1_15 (hP.o xo_129) (hP.rc xo_129 rfl rfl) ?_
          refine x_len T_120_76 (hP.ta h47) ?_
          refine x_ic2 T_120_77 (fun h => absurd (show 100 ≤ j from h) (by omega)) (fun _ => ?_)
          refine x_li (z := 1) T_120_80 rfl ?_
          refine x_if T_120_81 (fun h => absurd (show (1 : Int) = 0 from h) (by decide)) (fun _ => ?_)
          refine x_lr (z := some 129) T_120_84 rfl ?_
          refine x_gI (z := o) T_120_85 (Or.inl F_1_17) (hP.o xo_129) (Eq.trans (hP.gi xo_129 (key := 2049) rfl) ho2) ?_
          refine x_ic T_120_88 ?_
          refine x_ic2 T_120_89 (fun _ => ?_) (fun h => absurd (show ¬ o = (-1) by omega) h)
          refine x_lr (z := some 129) T_120_96 rfl ?_
          refine x_gR (z := some 136) T_120_97 F_1_7 (hP.o xo_129) (hP.rc xo_129 rfl rfl) ?_
          refine x_ic T_120_100 ?_
          refine x_cv2 T_120_102 mN_73 mL_73 (Nat.le_of_ble_eq_true rfl) mO_73 (hP.o xo_136) (Nat.le_of_ble_eq_true rfl) (hadd) ?_
          clear hP hadd
          rintro _ σ ⟨rfl, W3, hP, hB3, hF3⟩
          refine cI ?_
          refine x_if T_120_105 (fun h => absurd (show (1 : Int) = 0 from h) (by decide)) (fun _ => ?_)
          refine x_ic T_120_108 ?_
          refine x_goto T_120_109 ?_
          refine x_si (ls1 := [some (vR (some 129)), some (vI 1), some (vI j)]) T_120_113 rfl ?_
          refine x_li (z := 1) T_120_114 rfl ?_
          refine x_if T_120_115 (fun h => absurd (show (1 : Int) = 0 from h) (by decide)) (fun _ => ?_)
          exact hw σ W3 hP (FB_tr hF hF3) hB3
      · rw [if_neg q2, if_neg q2] at hadd
        have h60 : 60 < (cur ++ 47 :: (seg (lg lo) x0.1 (x0.2 - x0.1).toNat ++ plF (lg lo) r)).length := by rw [List.length_append, List.length_cons]; omega
        by_cases q3 : o = -1
        · subst q3
          refine x_li (z := j) T_120_63 rfl ?_
          refine x_lr (z := some 129) T_120_64 rfl ?_
          refine x_gI (z := n) T_120_65 (Or.inl F_1_6) (hP.o xo_129) (Eq.trans (hP.gi xo_129 (key := 2038) rfl) hn0) ?_
          refine x_ic2 T_120_68 (fun h => absurd (show n ≤ j from h) (by omega)) (fun _ => ?_)
          refine x_li (z := j) T_120_71 rfl ?_
          refine x_lr (z := some 129) T_120_72 rfl ?_
          refine x_gR (z := some 147) T_120_73 F_1_15 (hP.o xo_129) (hP.rc xo_129 rfl rfl) ?_
          refine x_len T_120_76 (hP.ta h47) ?_
          refine x_ic2 T_120_77 (fun h => absurd (show 100 ≤ j from h) (by omega)) (fun _ => ?_)
          refine x_li (z := 1) T_120_80 rfl ?_
          refine x_if T_120_81 (fun h => absurd (show (1 : Int) = 0 from h) (by decide)) (fun _ => ?_)
          refine x_lr (z := some 129) T_120_84 rfl ?_
          refine x_gI (z := (-1)) T_120_85 (Or.inl F_1_17) (hP.o xo_129) (Eq.trans (hP.gi xo_129 (key := 2049) rfl) ho2) ?_
          refine x_ic T_120_88 ?_
          refine x_ic2 T_120_89 (fun h => absurd (show ¬ ((-1) : Int) = (-1) from h) (by decide)) (fun _ => ?_)
          refine x_li (z := j) T_120_92 rfl ?_
          refine x_if T_120_93 (fun h => absurd (show j = 0 from h) (by omega)) (fun _ => ?_)
          refine x_lr (z := some 129) T_120_96 rfl ?_
          refine x_gR (z := some 136) T_120_97 F_1_7 (hP.o xo_129) (hP.rc xo_129 rfl rfl) ?_
          refine x_ic T_120_100 ?_
          refine x_cv2 T_120_102 mN_73 mL_73 (Nat.le_of_ble_eq_true rfl) mO_73 (hP.o xo_136) (Nat.le_of_ble_eq_true rfl) (hadd) ?_
          clear hP hadd
          rintro _ σ ⟨rfl, W3, hP, hB3, hF3⟩
          refine cI ?_
          refine x_if T_120_105 (fun _ => ?_) (fun h => absurd (show (0 : Int) = 0 by rfl) h)
          refine x_ic T_120_112 ?_
          refine x_si (ls1 := [some (vR (some 129)), some (vI 0), some (vI j)]) T_120_113 rfl ?_
          refine x_li (z := 0) T_120_114 rfl ?_
          refine x_if T_120_115 (fun _ => ?_) (fun h => absurd (show (0 : Int) = 0 by rfl) h)
          refine x_ic T_120_148 ?_
          refine x_si (ls1 := [some (vR (some 129)), some (vI 0), some (vI j)]) T_120_149 rfl ?_
          refine x_inc (w := (j + 1)) (ls1 := [some (vR (some 129)), some (vI 0), some (vI (j + 1))]) T_120_150 rfl (w32_id (by omega) (by omega)) rfl ?_
          refine x_goto T_120_153 ?_
          exact mp_fail hP ((hN.fbn hF).fbn hF3) hn ⟨by omega, by omega⟩ (FB_tr hF hF3) h60
        · skip
          refine x_li (z := j) T_120_63 rfl ?_
          refine x_lr (z := some 129) T_120_64 rfl ?_
          refine x_gI (z := n) T_120_65 (Or.inl F_1_6) (hP.o xo_129) (Eq.trans (hP.gi xo_129 (key := 2038) rfl) hn0) ?_
          refine x_ic2 T_120_68 (fun h => absurd (show n ≤ j from h) (by omega)) (fun _ => ?_)
          refine x_li (z := j) T_120_71 rfl ?_
          refine x_lr (z := some 129) T_120_72 rfl ?_
          refine x_gR (z := some 147) T_120_73 F_1_15 (hP.o xo_129) (hP.rc xo_129 rfl rfl) ?_
          refine x_len T_120_76 (hP.ta h47) ?_
          refine x_ic2 T_120_77 (fun h => absurd (show 100 ≤ j from h) (by omega)) (fun _ => ?_)
          refine x_li (z := 1) T_120_80 rfl ?_
          refine x_if T_120_81 (fun h => absurd (show (1 : Int) = 0 from h) (by decide)) (fun _ => ?_)
          refine x_lr (z := some 129) T_120_84 rfl ?_
          refine x_gI (z := o) T_120_85 (Or.inl F_1_17) (hP.o xo_129) (Eq.trans (hP.gi xo_129 (key := 2049) rfl) ho2) ?_
          refine x_ic T_120_88 ?_
          refine x_ic2 T_120_89 (fun _ => ?_) (fun h => absurd (show ¬ o = (-1) by omega) h)
          refine x_lr (z := some 129) T_120_96 rfl ?_
          refine x_gR (z := some 136) T_120_97 F_1_7 (hP.o xo_129) (hP.rc xo_129 rfl rfl) ?_
          refine x_ic T_120_100 ?_
          refine x_cv2 T_120_102 mN_73 mL_73 (Nat.le_of_ble_eq_true rfl) mO_73 (hP.o xo_136) (Nat.le_of_ble_eq_true rfl) (hadd) ?_
          clear hP hadd
          rintro _ σ ⟨rfl, W3, hP, hB3, hF3⟩
          refine cI ?_
          refine x_if T_120_105 (fun _ => ?_) (fun h => absurd (show (0 : Int) = 0 by rfl) h)
          refine x_ic T_120_112 ?_
          refine x_si (ls1 := [some (vR (some 129)), some (vI 0), some (vI j)]) T_120_113 rfl ?_
          refine x_li (z := 0) T_120_114 rfl ?_
          refine x_if T_120_115 (fun _ => ?_) (fun h => absurd (show (0 : Int) = 0 by rfl) h)
          refine x_ic T_120_148 ?_
          refine x_si (ls1 := [some (vR (some 129)), some (vI 0), some (vI j)]) T_120_149 rfl ?_
          refine x_inc (w := (j + 1)) (ls1 := [some (vR (some 129)), some (vI 0), some (vI (j + 1))]) T_120_150 rfl (w32_id (by omega) (by omega)) rfl ?_
          refine x_goto T_120_153 ?_
          exact mp_fail hP ((hN.fbn hF).fbn hF3) hn ⟨by omega, by omega⟩ (FB_tr hF hF3) h60
theorem x_makePlain (hP : PX σ0 W R σ) (hlo : NV (lo.length : Int) ns) (hB : BY W 145 161 lo) (hN : NQ W ns) (hn : ns.length < 100) (ho : W 129 2049 = o) (hor : (o = -1 ∧ b = 1) ∨ ((0 ≤ o ∧ o < 3) ∧ b = 2 ∧ lg lo 0 = 35 ∧ lg lo 1 = 48 + o)) : CL fb (d + 1) 120 [vR (some 129)] σ (XPL σ0 W R (plL o lo (b : Int) ns)) := by
  have hSH : SH 136 60 := ⟨rfl, ⟨rfl, by decide⟩, by decide⟩
  have hcl := x_clear0 (fb := fb) (d := d) hP hSH
  rcases hor with ⟨rfl, hb1⟩ | ⟨h1, h2, h3, h4⟩
  · have hadd := fun (σ : hM) (V : qR) (hP : PX σ0 V R σ) (hB : BY V 136 60 []) => x_add (fb := fb) (d := d) (x := 47) hP hB (by decide)
    have ho2 : ∀ V : qR, FB 136 W V → V 129 2049 = -1 := fun V hF => (hF.of (by decide) (by decide)).trans ho
    have hfin : ∀ (σ : hM) (V : qR), PX σ0 V R σ → FB 136 W V → BY V 136 60 [47] → WP fb (d + 1) 120 63 [some (vR (some 129)), some (vI 1), some (vI 0)] [] σ (XPL σ0 W R (plL (-1) lo (b : Int) ns)) := fun σ V hP hF hC => by
      have := mp_loop (fb := fb) (d := d) hlo hB hN hn ho (Or.inl rfl) ns 0 [47] V σ (by omega) (by decide) rfl hP hF hC
      rw [if_pos ⟨rfl, rfl⟩] at this
      have e : plL (-1) lo (b : Int) ns = [47] ++ (plF (lg lo) ns).tail := by
        unfold plL
        rw [if_pos (show (-1 : Int) < 0 by decide), List.nil_append]
        cases ns with
        | nil => rfl
        | cons x r => rfl
      rw [e]
      exact this
    refine CL_in mL_120 rfl ?_
    show WP fb _ 120 0 [some (vR (some 129)), none, none] [] σ _
    refine x_lr (z := some 129) T_120_0 rfl ?_
    refine x_gR (z := some 136) T_120_1 F_1_7 (hP.o xo_129) (hP.rc xo_129 rfl rfl) ?_
    refine x_cv1 T_120_4 mN_27 mL_27 (Nat.le_of_ble_eq_true rfl) mO_27 (hP.o xo_136) (Nat.le_of_ble_eq_true rfl) (hcl) ?_
    clear hP hcl
    rintro _ σ ⟨rfl, V1, hP, hB1, hF1⟩
    have hq1 := ho2 V1 hF1
    refine cV ?_
    refine x_lr (z := some 129) T_120_7 rfl ?_
    refine x_gR (z := some 136) T_120_8 F_1_7 (hP.o xo_129) (hP.rc xo_129 rfl rfl) ?_
    refine x_lr (z := some 129) T_120_11 rfl ?_
    refine x_gI (z := (-1)) T_120_12 (Or.inl F_1_17) (hP.o xo_129) (Eq.trans (hP.gi xo_129 (key := 2049) rfl) hq1) ?_
    refine x_ic T_120_15 ?_
    refine x_ic2 T_120_16 (fun h => absurd (show ¬ ((-1) : Int) = (-1) from h) (by decide)) (fun _ => ?_)
    refine x_ic T_120_19 ?_
    refine x_goto T_120_21 ?_
    refine x_cv2 T_120_26 mN_73 mL_73 (Nat.le_of_ble_eq_true rfl) mO_73 (hP.o xo_136) (Nat.le_of_ble_eq_true rfl) (hadd σ V1 hP hB1) ?_
    clear hP hadd
    rintro _ σ ⟨rfl, V2, hP, hB2, hF2⟩
    have hq2 := ho2 V2 (FB_tr hF1 hF2)
    refine cI ?_
    refine x_popI T_120_29 ?_
    refine x_lr (z := some 129) T_120_30 rfl ?_
    refine x_gI (z := (-1)) T_120_31 (Or.inl F_1_17) (hP.o xo_129) (Eq.trans (hP.gi xo_129 (key := 2049) rfl) hq2) ?_
    refine x_ic T_120_34 ?_
    refine x_ic2 T_120_35 (fun _ => ?_) (fun h => absurd (show ((-1) : Int) = (-1) by decide) h)
    refine x_ic T_120_55 ?_
    refine x_goto T_120_56 ?_
    refine x_si (ls1 := [some (vR (some 129)), some (vI 1), none]) T_120_60 rfl ?_
    refine x_ic T_120_61 ?_
    refine x_si (ls1 := [some (vR (some 129)), some (vI 1), some (vI 0)]) T_120_62 rfl ?_
    exact hfin σ V2 hP (FB_tr hF1 hF2) hB2
  · have hadd := fun (σ : hM) (V : qR) (hP : PX σ0 V R σ) (hB : BY V 136 60 []) => x_add (fb := fb) (d := d) (x := 35) hP hB (by decide)
    have hadd2 := fun (σ : hM) (V : qR) (hP : PX σ0 V R σ) (hB : BY V 136 60 [35]) => x_add (fb := fb) (d := d) (x := 48 + o) hP hB ⟨by omega, by omega⟩
    have ho2 : ∀ V : qR, FB 136 W V → V 129 2049 = o := fun V hF => (hF.of (by decide) (by decide)).trans ho
    have hfin : ∀ (σ : hM) (V : qR), PX σ0 V R σ → FB 136 W V → BY V 136 60 [35, 48 + o] → WP fb (d + 1) 120 63 [some (vR (some 129)), some (vI 1), some (vI 0)] [] σ (XPL σ0 W R (plL o lo (b : Int) ns)) := fun σ V hP hF hC => by
      have := mp_loop (fb := fb) (d := d) hlo hB hN hn ho (Or.inr h1.1) ns 0 [35, 48 + o] V σ (by omega) (by decide) rfl hP hF hC
      rw [if_neg (show ¬ ((0 : Int) = 0 ∧ o = -1) by omega)] at this
      have e : plL o lo (b : Int) ns = [35, 48 + o] ++ plF (lg lo) ns := by
        unfold plL
        rw [if_neg (show ¬ o < 0 by omega), h2]
        have : seg (lg lo) 0 ((2 : Nat) : Int).toNat = [35, 48 + o] := by
          show [lg lo 0, lg lo (0 + 1)] = _
          rw [h3, show (0 : Int) + 1 = 1 by decide, h4]
        rw [this]
        exact if_neg (fun c => by cases c)
      rw [e]
      exact this
    refine CL_in mL_120 rfl ?_
    show WP fb _ 120 0 [some (vR (some 129)), none, none] [] σ _
    refine x_lr (z := some 129) T_120_0 rfl ?_
    refine x_gR (z := some 136) T_120_1 F_1_7 (hP.o xo_129) (hP.rc xo_129 rfl rfl) ?_
    refine x_cv1 T_120_4 mN_27 mL_27 (Nat.le_of_ble_eq_true rfl) mO_27 (hP.o xo_136) (Nat.le_of_ble_eq_true rfl) (hcl) ?_
    clear hP hcl
    rintro _ σ ⟨rfl, V1, hP, hB1, hF1⟩
    have hq1 := ho2 V1 hF1
    refine cV ?_
    refine x_lr (z := some 129) T_120_7 rfl ?_
    refine x_gR (z := some 136) T_120_8 F_1_7 (hP.o xo_129) (hP.rc xo_129 rfl rfl) ?_
    refine x_lr (z := some 129) T_120_11 rfl ?_
    refine x_gI (z := o) T_120_12 (Or.inl F_1_17) (hP.o xo_129) (Eq.trans (hP.gi xo_129 (key := 2049) rfl) hq1) ?_
    refine x_ic T_120_15 ?_
    refine x_ic2 T_120_16 (fun _ => ?_) (fun h => absurd (show ¬ o = (-1) by omega) h)
    refine x_ic T_120_24 ?_
    refine x_cv2 T_120_26 mN_73 mL_73 (Nat.le_of_ble_eq_true rfl) mO_73 (hP.o xo_136) (Nat.le_of_ble_eq_true rfl) (hadd σ V1 hP hB1) ?_
    clear hP hadd
    rintro _ σ ⟨rfl, V2, hP, hB2, hF2⟩
    have hq2 := ho2 V2 (FB_tr hF1 hF2)
    refine cI ?_
    refine x_popI T_120_29 ?_
    refine x_lr (z := some 129) T_120_30 rfl ?_
    refine x_gI (z := o) T_120_31 (Or.inl F_1_17) (hP.o xo_129) (Eq.trans (hP.gi xo_129 (key := 2049) rfl) hq2) ?_
    refine x_ic T_120_34 ?_
    refine x_ic2 T_120_35 (fun h => absurd (show o = (-1) from h) (by omega)) (fun _ => ?_)
    refine x_lr (z := some 129) T_120_38 rfl ?_
    refine x_gR (z := some 136) T_120_39 F_1_7 (hP.o xo_129) (hP.rc xo_129 rfl rfl) ?_
    refine x_ic T_120_42 ?_
    refine x_lr (z := some 129) T_120_44 rfl ?_
    refine x_gI (z := o) T_120_45 (Or.inl F_1_17) (hP.o xo_129) (Eq.trans (hP.gi xo_129 (key := 2049) rfl) hq2) ?_
    refine x_ib (w := (48 + o)) T_120_48 (fun h => absurd h.1 (by decide)) (w32_id (by omega) (by omega)) ?_
    refine x_cv2 T_120_49 mN_73 mL_73 (Nat.le_of_ble_eq_true rfl) mO_73 (hP.o xo_136) (Nat.le_of_ble_eq_true rfl) (hadd2 σ V2 hP hB2) ?_
    clear hP hadd2
    rintro _ σ ⟨rfl, V3, hP, hB3, hF3⟩
    refine cI ?_
    refine x_if T_120_52 (fun h => absurd (show (1 : Int) = 0 from h) (by decide)) (fun _ => ?_)
    refine x_ic T_120_55 ?_
    refine x_goto T_120_56 ?_
    refine x_si (ls1 := [some (vR (some 129)), some (vI 1), none]) T_120_60 rfl ?_
    refine x_ic T_120_61 ?_
    refine x_si (ls1 := [some (vR (some 129)), some (vI 1), some (vI 0)]) T_120_62 rfl ?_
    exact hfin σ V3 hP (FB_tr (FB_tr hF1 hF2) hF3) hB3
end XPLN
