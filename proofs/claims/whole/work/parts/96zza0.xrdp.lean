/-! The class's kernel: a path is read, and walked. -/
theorem T_118_0 : hTab 118 0 = some ((3, 2, 2, []), 1) := rfl
theorem T_118_1 : hTab 118 1 = some ((3, 3, 0, []), 2) := rfl
theorem T_118_2 : hTab 118 2 = some ((31, 104, 0, []), 5) := rfl
theorem T_118_5 : hTab 118 5 = some ((4, 4, 0, []), 7) := rfl
theorem T_118_7 : hTab 118 7 = some ((3, 2, 2, []), 8) := rfl
theorem T_118_8 : hTab 118 8 = some ((3, 3, 0, []), 9) := rfl
theorem T_118_9 : hTab 118 9 = some ((31, 106, 0, []), 12) := rfl
theorem T_118_12 : hTab 118 12 = some ((4, 5, 0, []), 14) := rfl
theorem T_118_14 : hTab 118 14 = some ((3, 2, 2, []), 15) := rfl
theorem T_118_15 : hTab 118 15 = some ((24, 16, Int.ofNat 0, []), 18) := rfl
theorem T_118_18 : hTab 118 18 = some ((3, 4, 0, []), 20) := rfl
theorem T_118_20 : hTab 118 20 = some ((31, 33, 0, []), 23) := rfl
theorem T_118_23 : hTab 118 23 = some ((4, 6, 0, []), 25) := rfl
theorem T_118_25 : hTab 118 25 = some ((3, 0, 2, []), 26) := rfl
theorem T_118_26 : hTab 118 26 = some ((0, 0, 0, []), 27) := rfl
theorem T_118_27 : hTab 118 27 = some ((25, 1, Int.ofNat 6, []), 30) := rfl
theorem T_118_30 : hTab 118 30 = some ((3, 0, 2, []), 31) := rfl
theorem T_118_31 : hTab 118 31 = some ((0, 0, (-1), []), 32) := rfl
theorem T_118_32 : hTab 118 32 = some ((25, 1, Int.ofNat 17, []), 35) := rfl
theorem T_118_35 : hTab 118 35 = some ((3, 0, 2, []), 36) := rfl
theorem T_118_36 : hTab 118 36 = some ((24, 1, Int.ofNat 14, []), 39) := rfl
theorem T_118_39 : hTab 118 39 = some ((31, 27, 0, []), 42) := rfl
theorem T_118_42 : hTab 118 42 = some ((3, 4, 0, []), 44) := rfl
theorem T_118_44 : hTab 118 44 = some ((3, 5, 0, []), 46) := rfl
theorem T_118_46 : hTab 118 46 = some ((19, 2, Int.ofNat 51, []), 49) := rfl
theorem T_118_51 : hTab 118 51 = some ((3, 6, 0, []), 53) := rfl
theorem T_118_53 : hTab 118 53 = some ((0, 0, 47, []), 55) := rfl
theorem T_118_55 : hTab 118 55 = some ((19, 0, Int.ofNat 95, []), 58) := rfl
theorem T_118_58 : hTab 118 58 = some ((3, 6, 0, []), 60) := rfl
theorem T_118_60 : hTab 118 60 = some ((0, 0, 35, []), 62) := rfl
theorem T_118_62 : hTab 118 62 = some ((19, 0, Int.ofNat 95, []), 65) := rfl
theorem T_118_65 : hTab 118 65 = some ((3, 0, 2, []), 66) := rfl
theorem T_118_66 : hTab 118 66 = some ((24, 1, Int.ofNat 14, []), 69) := rfl
theorem T_118_69 : hTab 118 69 = some ((3, 1, 2, []), 70) := rfl
theorem T_118_70 : hTab 118 70 = some ((24, 6, Int.ofNat 1, []), 73) := rfl
theorem T_118_73 : hTab 118 73 = some ((0, 0, 0, []), 74) := rfl
theorem T_118_74 : hTab 118 74 = some ((3, 1, 2, []), 75) := rfl
theorem T_118_75 : hTab 118 75 = some ((24, 6, Int.ofNat 1, []), 78) := rfl
theorem T_118_78 : hTab 118 78 = some ((31, 28, 0, []), 81) := rfl
theorem T_118_81 : hTab 118 81 = some ((31, 32, 0, []), 84) := rfl
theorem T_118_84 : hTab 118 84 = some ((7, 0, 0, []), 85) := rfl
theorem T_118_85 : hTab 118 85 = some ((3, 0, 2, []), 86) := rfl
theorem T_118_86 : hTab 118 86 = some ((24, 1, Int.ofNat 14, []), 89) := rfl
theorem T_118_89 : hTab 118 89 = some ((0, 0, 47, []), 91) := rfl
theorem T_118_91 : hTab 118 91 = some ((31, 73, 0, []), 94) := rfl
theorem T_118_94 : hTab 118 94 = some ((7, 0, 0, []), 95) := rfl
theorem T_118_95 : hTab 118 95 = some ((3, 0, 2, []), 96) := rfl
theorem T_118_96 : hTab 118 96 = some ((24, 1, Int.ofNat 14, []), 99) := rfl
theorem T_118_99 : hTab 118 99 = some ((3, 2, 2, []), 100) := rfl
theorem T_118_100 : hTab 118 100 = some ((24, 16, Int.ofNat 0, []), 103) := rfl
theorem T_118_103 : hTab 118 103 = some ((3, 4, 0, []), 105) := rfl
theorem T_118_105 : hTab 118 105 = some ((3, 5, 0, []), 107) := rfl
theorem T_118_107 : hTab 118 107 = some ((31, 32, 0, []), 110) := rfl
theorem T_118_110 : hTab 118 110 = some ((7, 0, 0, []), 111) := rfl
theorem T_118_111 : hTab 118 111 = some ((0, 0, 1, []), 112) := rfl
theorem T_118_112 : hTab 118 112 = some ((4, 7, 0, []), 114) := rfl
theorem T_118_114 : hTab 118 114 = some ((3, 0, 2, []), 115) := rfl
theorem T_118_115 : hTab 118 115 = some ((24, 1, Int.ofNat 14, []), 118) := rfl
theorem T_118_118 : hTab 118 118 = some ((0, 0, 0, []), 119) := rfl
theorem T_118_119 : hTab 118 119 = some ((31, 33, 0, []), 122) := rfl
theorem T_118_122 : hTab 118 122 = some ((0, 0, 35, []), 124) := rfl
theorem T_118_124 : hTab 118 124 = some ((19, 1, Int.ofNat 187, []), 127) := rfl
theorem T_118_127 : hTab 118 127 = some ((3, 0, 2, []), 128) := rfl
theorem T_118_128 : hTab 118 128 = some ((3, 0, 2, []), 129) := rfl
theorem T_118_129 : hTab 118 129 = some ((24, 1, Int.ofNat 14, []), 132) := rfl
theorem T_118_132 : hTab 118 132 = some ((0, 0, 1, []), 133) := rfl
theorem T_118_133 : hTab 118 133 = some ((31, 33, 0, []), 136) := rfl
theorem T_118_136 : hTab 118 136 = some ((0, 0, 48, []), 138) := rfl
theorem T_118_138 : hTab 118 138 = some ((10, 1, 0, []), 139) := rfl
theorem T_118_139 : hTab 118 139 = some ((25, 1, Int.ofNat 17, []), 142) := rfl
theorem T_118_142 : hTab 118 142 = some ((0, 0, 2, []), 143) := rfl
theorem T_118_143 : hTab 118 143 = some ((4, 7, 0, []), 145) := rfl
theorem T_118_145 : hTab 118 145 = some ((3, 0, 2, []), 146) := rfl
theorem T_118_146 : hTab 118 146 = some ((24, 1, Int.ofNat 17, []), 149) := rfl
theorem T_118_149 : hTab 118 149 = some ((18, 2, Int.ofNat 185, []), 152) := rfl
theorem T_118_152 : hTab 118 152 = some ((3, 0, 2, []), 153) := rfl
theorem T_118_153 : hTab 118 153 = some ((24, 1, Int.ofNat 17, []), 156) := rfl
theorem T_118_156 : hTab 118 156 = some ((0, 0, 3, []), 157) := rfl
theorem T_118_157 : hTab 118 157 = some ((19, 3, Int.ofNat 185, []), 160) := rfl
theorem T_118_160 : hTab 118 160 = some ((3, 0, 2, []), 161) := rfl
theorem T_118_161 : hTab 118 161 = some ((24, 1, Int.ofNat 14, []), 164) := rfl
theorem T_118_164 : hTab 118 164 = some ((0, 0, 2, []), 165) := rfl
theorem T_118_165 : hTab 118 165 = some ((31, 33, 0, []), 168) := rfl
theorem T_118_168 : hTab 118 168 = some ((0, 0, (-1), []), 169) := rfl
theorem T_118_169 : hTab 118 169 = some ((19, 0, Int.ofNat 187, []), 172) := rfl
theorem T_118_172 : hTab 118 172 = some ((3, 0, 2, []), 173) := rfl
theorem T_118_173 : hTab 118 173 = some ((24, 1, Int.ofNat 14, []), 176) := rfl
theorem T_118_176 : hTab 118 176 = some ((0, 0, 2, []), 177) := rfl
theorem T_118_177 : hTab 118 177 = some ((31, 33, 0, []), 180) := rfl
theorem T_118_180 : hTab 118 180 = some ((0, 0, 47, []), 182) := rfl
theorem T_118_182 : hTab 118 182 = some ((19, 0, Int.ofNat 187, []), 185) := rfl
theorem T_118_185 : hTab 118 185 = some ((0, 0, 5, []), 186) := rfl
theorem T_118_186 : hTab 118 186 = some ((33, 1, 0, []), 187) := rfl
theorem T_118_187 : hTab 118 187 = some ((3, 7, 0, []), 189) := rfl
theorem T_118_189 : hTab 118 189 = some ((4, 8, 0, []), 191) := rfl
theorem T_118_249 : hTab 118 249 = some ((3, 0, 2, []), 250) := rfl
theorem T_118_250 : hTab 118 250 = some ((24, 1, Int.ofNat 6, []), 253) := rfl
theorem T_118_253 : hTab 118 253 = some ((0, 0, 10, []), 255) := rfl
theorem T_118_255 : hTab 118 255 = some ((19, 4, Int.ofNat 269, []), 258) := rfl
theorem T_118_258 : hTab 118 258 = some ((3, 0, 2, []), 259) := rfl
theorem T_118_259 : hTab 118 259 = some ((31, 120, 0, []), 262) := rfl
theorem T_118_262 : hTab 118 262 = some ((18, 0, Int.ofNat 269, []), 265) := rfl
theorem T_118_265 : hTab 118 265 = some ((0, 0, 0, []), 266) := rfl
theorem T_118_266 : hTab 118 266 = some ((22, 0, Int.ofNat 270, []), 269) := rfl
theorem T_118_269 : hTab 118 269 = some ((0, 0, 5, []), 270) := rfl
theorem T_118_270 : hTab 118 270 = some ((33, 1, 0, []), 271) := rfl
theorem F_6_1 : (hFd 6 1).2.2.1 = 4 := rfl
theorem F_16_0 : (hFd 16 0).2.2.1 = 4 := rfl
/-- what reading a path leaves -/
def RPF (W W2 : qR) : Prop := ∀ (x : Nat) (k : Int), ¬ (x = 129 ∧ (k = 2038 ∨ k = 2049)) → ¬ (x = 145 ∧ k = 2065) → ¬ (x = 146 ∧ k < 2000) → ¬ (x = 136 ∧ k = 2065) → ¬ (x = 137 ∧ k < 2000) → ¬ (x = 147 ∧ k < 2000) → ¬ (x = 148 ∧ k < 2000) → W2 x k = W x k
abbrev XRP (σ0 : hM) (W : qR) (R : rR) (raw : List Int) : Option AV → hM → Prop := fun r σ' => r = some (vI (paE raw)) ∧ ∃ W2, PX σ0 W2 R σ' ∧ RPF W W2 ∧ (paE raw = 0 → W2 129 2049 = paO raw ∧ BY W2 145 161 raw ∧ NQ W2 (paN raw) ∧ BY W2 136 60 (paL raw))
section XRDP
variable {fb : Bool} {d b q m k c : Nat} {σ0 σ : hM} {W W0 W1 W2 W3 P Q : qR} {R R2 : rR} {i j x z v s e w p o n K T U a1 e1 c1 h1 : Int} {l l0 lo nm raw pre wd : List Int} {ns : List (Int × Int)} {f : Int → Int}
theorem RPF_rfl : RPF W W := fun _ _ _ _ _ _ _ _ _ => rfl
theorem RPF_tr (h1 : RPF W W1) (h2 : RPF W1 W2) : RPF W W2 := fun x k a b c d e f g => (h2 x k a b c d e f g).trans (h1 x k a b c d e f g)
theorem RPF_nf (h : NF W W2) : RPF W W2 := fun x k a _ _ _ _ b c => h x k (fun q => a ⟨q.1, Or.inl q.2⟩) b c
theorem RPF_fb1 (h : FB 145 W W2) : RPF W W2 := fun x k _ b c _ _ _ _ => h x k b c
theorem RPF_fb2 (h : FB 136 W W2) : RPF W W2 := fun x k _ _ _ b c _ _ => h x k b c
theorem RPF_u1 : RPF W (rU W 129 2038 v) := fun x k a _ _ _ _ _ _ => if_neg (fun q => a ⟨q.1, Or.inl q.2⟩)
theorem RPF_u2 : RPF W (rU W 129 2049 v) := fun x k a _ _ _ _ _ _ => if_neg (fun q => a ⟨q.1, Or.inr q.2⟩)
theorem RPF.by {N : Nat} (h : RPF W W2) (hB : BY W b N l) (hb : b ≠ 145 ∧ b ≠ 136 ∧ b ≠ 147 ∧ b ≠ 129) : BY W2 b N l := by
  obtain ⟨a1, a2, a3, a4, a5, a6, a7⟩ := hB
  have hne : b ≠ 146 ∧ b ≠ 128 ∧ b ≠ 144 ∧ b ≠ 135 ∧ b ≠ 148 ∧ b ≠ 137 := by
    refine ⟨?_, ?_, ?_, ?_, ?_, ?_⟩ <;> (rintro rfl; exact absurd a1 (by decide))
  exact ⟨a1, a2, a3, (h _ _ (by omega) (by omega) (by omega) (by omega) (by omega) (by omega) (by omega)).trans a4, a5, a6, fun i i0 i1 => (h _ _ (by omega) (by omega) (by omega) (by omega) (by omega) (by omega) (by omega)).trans (a7 i i0 i1)⟩
theorem paE_ok (hg : ¬ (lg raw 0 = 35 ∧ (¬ (2 ≤ raw.length ∧ 48 ≤ lg raw 1 ∧ lg raw 1 ≤ 50) ∨ (3 ≤ raw.length ∧ ¬ lg raw 2 = 47)))) : paE raw = if 10 < (paN raw).length then 5 else if 60 < (paL raw).length then 5 else 0 := if_neg hg
/-- the names are known -/
theorem rp_249 {x1 x2 x3 x4 x5 x6 x7 x8 : Option AV} (hP : PX σ0 W2 R σ) (hF : RPF W W2) (hB : BY W2 145 161 raw) (h1 : 1 ≤ raw.length) (hN : NQ W2 (paN raw)) (ho : W2 129 2049 = paO raw) (hg : ¬ (lg raw 0 = 35 ∧ (¬ (2 ≤ raw.length ∧ 48 ≤ lg raw 1 ∧ lg raw 1 ≤ 50) ∨ (3 ≤ raw.length ∧ ¬ lg raw 2 = 47)))) : WP fb (d + 2) 118 249 [some (vR (some 129)), x1, x2, x3, x4, x5, x6, x7, x8] [] σ (XRP σ0 W R raw) := by
  obtain ⟨hv, hl⟩ := paN_ok h1
  have hl2 := hB.2.2.2.2.1
  have eE := paE_ok hg
  have hn0 := hN.1
  have hor : ∃ b : Nat, paB raw = (b : Int) ∧ ((paO raw = -1 ∧ b = 1) ∨ ((0 ≤ paO raw ∧ paO raw < 3) ∧ b = 2 ∧ lg raw 0 = 35 ∧ lg raw 1 = 48 + paO raw)) := by
    by_cases q : lg raw 0 = 35
    · refine ⟨2, if_pos q, Or.inr ?_⟩
      have e : paO raw = lg raw 1 - 48 := if_pos q
      have q2 : 2 ≤ raw.length ∧ 48 ≤ lg raw 1 ∧ lg raw 1 ≤ 50 := Classical.not_not.mp (fun c => hg ⟨q, Or.inl c⟩)
      omega
    · exact ⟨1, if_neg q, Or.inl ⟨if_neg q, rfl⟩⟩
  obtain ⟨b, hb, hor⟩ := hor
  have hmk := x_makePlain (fb := fb) (d := d) (ns := paN raw) hP hv hB hN (by omega) ho hor
  have eL : plL (paO raw) raw (b : Int) (paN raw) = paL raw := by rw [← hb]; rfl
  rw [eL] at hmk
  obtain ⟨n, hnn⟩ : ∃ q : Int, ((paN raw).length : Int) = q := ⟨_, rfl⟩
  rw [hnn] at hn0
  by_cases q : 10 < n
  · rw [if_pos (by omega)] at eE
    refine x_lr (z := some 129) T_118_249 rfl ?_
    refine x_gI (z := n) T_118_250 (Or.inl F_1_6) (hP.o xo_129) (Eq.trans (hP.gi xo_129 (key := 2038) rfl) hn0) ?_
    refine x_ic T_118_253 ?_
    refine x_ic2 T_118_255 (fun _ => ?_) (fun h => absurd (show 10 < n by omega) h)
    refine x_ic T_118_269 ?_
    refine x_ri T_118_270 ?_
    exact ⟨by rw [eE], W2, hP, hF, fun c => by omega⟩
  · rw [if_neg (by omega)] at eE
    by_cases q2 : 60 < (paL raw).length
    · rw [if_pos q2] at eE
      unfold XPL at hmk
      rw [if_pos q2] at hmk
      refine x_lr (z := some 129) T_118_249 rfl ?_
      refine x_gI (z := n) T_118_250 (Or.inl F_1_6) (hP.o xo_129) (Eq.trans (hP.gi xo_129 (key := 2038) rfl) hn0) ?_
      refine x_ic T_118_253 ?_
      refine x_ic2 T_118_255 (fun h => absurd (show 10 < n from h) (by omega)) (fun _ => ?_)
      refine x_lr (z := some 129) T_118_258 rfl ?_
      refine x_cv1 T_118_259 mN_120 mL_120 (Nat.le_of_ble_eq_true rfl) mO_120 (hP.o xo_129) (Nat.le_of_ble_eq_true rfl) (hmk) ?_
      clear hP hmk
      rintro _ σ ⟨rfl, W3, hP, hF3, -⟩
      refine cI ?_
      refine x_if T_118_262 (fun _ => ?_) (fun h => absurd (show (0 : Int) = 0 by rfl) h)
      refine x_ic T_118_269 ?_
      refine x_ri T_118_270 ?_
      exact ⟨by rw [eE], W3, hP, RPF_tr hF (RPF_fb2 hF3), fun c => by omega⟩
    · rw [if_neg q2] at eE
      unfold XPL at hmk
      rw [if_neg q2] at hmk
      refine x_lr (z := some 129) T_118_249 rfl ?_
      refine x_gI (z := n) T_118_250 (Or.inl F_1_6) (hP.o xo_129) (Eq.trans (hP.gi xo_129 (key := 2038) rfl) hn0) ?_
      refine x_ic T_118_253 ?_
      refine x_ic2 T_118_255 (fun h => absurd (show 10 < n from h) (by omega)) (fun _ => ?_)
      refine x_lr (z := some 129) T_118_258 rfl ?_
      refine x_cv1 T_118_259 mN_120 mL_120 (Nat.le_of_ble_eq_true rfl) mO_120 (hP.o xo_129) (Nat.le_of_ble_eq_true rfl) (hmk) ?_
      clear hP hmk
      rintro _ σ ⟨rfl, W3, hP, hF3, hB3⟩
      refine cI ?_
      refine x_if T_118_262 (fun h => absurd (show (1 : Int) = 0 from h) (by decide)) (fun _ => ?_)
      refine x_ic T_118_265 ?_
      refine x_goto T_118_266 ?_
      refine x_ri T_118_270 ?_
      exact ⟨by rw [eE], W3, hP, RPF_tr hF (RPF_fb2 hF3), fun _ => ⟨(hF3.of (by decide) (by decide)).trans ho, hF3.by hB (by decide), hN.fbn hF3, hB3 (by omega)⟩⟩
/-- the names are looked for -/
theorem rp_187 {a1 a2 a3 : Option AV} {y4 y5 y6 : Int} {x8 : Option AV} (hP : PX σ0 W2 R σ) (hF : RPF W W2) (hB : BY W2 145 161 raw) (h1 : 1 ≤ raw.length) (hN : W2 129 2038 = 0) (ho : W2 129 2049 = paO raw) (hg : ¬ (lg raw 0 = 35 ∧ (¬ (2 ≤ raw.length ∧ 48 ≤ lg raw 1 ∧ lg raw 1 ≤ 50) ∨ (3 ≤ raw.length ∧ ¬ lg raw 2 = 47)))) : WP fb (d + 2) 118 187 [some (vR (some 129)), a1, a2, a3, some (vI y4), some (vI y5), some (vI y6), some (vI (paB raw)), x8] [] σ (XRP σ0 W R raw) := by
  have hl2 := hB.2.2.2.2.1
  have hb : 1 ≤ paB raw ∧ paB raw ≤ 2 := by unfold paB; split <;> decide
  have hgo := x_names (fb := fb) (d := d) (R := R) (W := W2) (σ0 := σ0) (Post := XRP σ0 W R raw) (a1 := a1) (a2 := a2) (a3 := a3) (y4 := y4) (y5 := y5) (y6 := y6) (l := raw) rfl (by omega) (L := paN raw) (fun σ W3 k i g1 g2 g3 g4 => rp_249 g1 (RPF_tr hF (RPF_nf g4)) g2 h1 g3 ((g4 _ _ (by decide) (by decide) (by decide)).trans ho) hg) ((raw.length : Int) + 1 - paB raw).toNat (paB raw) (paB raw) [] W2 σ (by omega) (by omega) ⟨Int.le_refl _, by omega⟩ (fun j a b => by omega) (by show 2 * ((0 : Nat) : Int) ≤ _; omega) hP hB ⟨hN, fun i hi => absurd hi (Nat.not_lt_zero i)⟩ NF_rfl (fun M hM => cuL_more M raw.length (paB raw) [] hM (by omega))
  obtain ⟨bb, hbb⟩ : ∃ q, paB raw = q := ⟨_, rfl⟩
  rw [hbb] at hgo ⊢
  refine x_li (z := bb) T_118_187 rfl ?_
  refine x_si (ls1 := [some (vR (some 129)), a1, a2, a3, some (vI y4), some (vI y5), some (vI y6), some (vI bb), some (vI bb)]) T_118_189 rfl ?_
  exact hgo
/-- behind the bytes -/
theorem rp_95 {a1 : Option AV} {x7 x8 : Option AV} (hP : PX σ0 W2 R σ) (hF : RPF W W2) (hB : BY W2 145 161 pre) (hk : tX k = some (Sum.inl 16)) (hC : BY W2 (k + 1) 100 l) (hkr : 2191 ≤ k) (hse : 0 ≤ s ∧ s < e ∧ e ≤ (l.length : Int)) (hwd : pre ++ seg (lg l) s (e - s).toNat = raw) (hpl : pre.length ≤ 61) (hN : W2 129 2038 = 0) (ho : W2 129 2049 = -1) : WP fb (d + 2) 118 95 [some (vR (some 129)), a1, some (vR (some k)), some (vI w), some (vI s), some (vI e), some (vI c1), x7, x8] [] σ (XRP σ0 W R raw) := by
  have hll := hC.2.2.2.2.1
  have hrl : (raw.length : Int) = pre.length + (e - s) := by rw [← hwd, List.length_append, seg_len]; omega
  have had := x_addAll (fb := fb) (d := d + 1) (s := s) (e := e) hP hB hC (by omega) (Or.inr hse.1) hse.2.2
  rw [hwd, List.take_of_length_le (by omega), if_pos (by omega)] at had
  have hkp : ∀ V : qR, FB 145 W2 V → V 129 2038 = 0 ∧ V 129 2049 = -1 := fun V h => ⟨(h.of (by decide) (by decide)).trans hN, (h.of (by decide) (by decide)).trans ho⟩
  have hat := fun (i : Int) (σ : hM) (V : qR) (hP : PX σ0 V R σ) (hB : BY V 145 161 raw) => x_at (fb := fb) (d := d + 1) (i := i) hP hB
  have hat0 := fun (σ : hM) (V : qR) (hP : PX σ0 V R σ) (hB : BY V 145 161 raw) => hat 0 σ V hP hB
  rw [if_pos ⟨by decide, by omega⟩] at hat0
  by_cases q : lg raw 0 = 35
  · have eb : paB raw = 2 := if_pos q
    have eo : paO raw = lg raw 1 - 48 := if_pos q
    have hat1 := fun (σ : hM) (V : qR) (hP : PX σ0 V R σ) (hB : BY V 145 161 raw) => hat 1 σ V hP hB
    have hat2 := fun (σ : hM) (V : qR) (hP : PX σ0 V R σ) (hB : BY V 145 161 raw) => hat 2 σ V hP hB
    rw [q] at hat0
    obtain ⟨u1, hu1⟩ : ∃ u : Int, (if (0 : Int) ≤ 1 ∧ (1 : Int) < (raw.length : Int) then lg raw 1 else -1) = u := ⟨_, rfl⟩
    obtain ⟨u2, hu2⟩ : ∃ u : Int, (if (0 : Int) ≤ 2 ∧ (2 : Int) < (raw.length : Int) then lg raw 2 else -1) = u := ⟨_, rfl⟩
    rw [hu1] at hat1
    rw [hu2] at hat2
    have hend : ∀ (σ : hM) (V : qR), PX σ0 V R σ → RPF W V → (¬ (2 ≤ raw.length ∧ 48 ≤ lg raw 1 ∧ lg raw 1 ≤ 50) ∨ (3 ≤ raw.length ∧ ¬ lg raw 2 = 47)) → XRP σ0 W R raw (some (vI 5)) σ := fun σ V hP hF hb => by
      have e5 : paE raw = 5 := if_pos ⟨q, hb⟩
      exact ⟨by rw [e5], V, hP, hF, fun c => by omega⟩
    have h187 := fun (hgd : ¬ (¬ (2 ≤ raw.length ∧ 48 ≤ lg raw 1 ∧ lg raw 1 ≤ 50) ∨ (3 ≤ raw.length ∧ ¬ lg raw 2 = 47))) (y6 : Int) (x8 : Option AV) (σ : hM) (V : qR) (hP : PX σ0 V R σ) (hF : RPF W V) (hB : BY V 145 161 raw) (h0 : V 129 2038 = 0) (h1 : V 129 2049 = u1 - 48) => rp_187 (fb := fb) (d := d) (a1 := a1) (a2 := some (vR (some k))) (a3 := some (vI w)) (y4 := s) (y5 := e) (y6 := y6) (x8 := x8) hP hF hB (by omega) h0 (by rw [h1, eo]; have := Classical.not_not.mp (not_or.mp hgd).1; clear hgd; rw [← hu1, if_pos ⟨by decide, by omega⟩]) (fun c => hgd c.2)
    rw [eb] at h187
    have hur : -1 ≤ u1 ∧ u1 ≤ 255 := by
      rw [← hu1]
      split
      · have hbt : byt raw := by
          rw [← hwd]
          exact byt_app hB.2.2.2.2.2.1 (byt_seg (fun i i0 i1 => hC.2.2.2.2.2.1 _ (by omega)))
        have := hbt 1 (by decide)
        omega
      · decide
    have hu1a : (2 ≤ raw.length ∧ u1 = lg raw 1) ∨ (raw.length < 2 ∧ u1 = -1) := by rw [← hu1]; split <;> omega
    have hu2a : (3 ≤ raw.length ∧ u2 = lg raw 2) ∨ (raw.length < 3 ∧ u2 = -1) := by rw [← hu2]; split <;> omega
    have hu2b : 0 ≤ lg raw 2 := by
      have hbt : byt raw := by
        rw [← hwd]
        exact byt_app hB.2.2.2.2.2.1 (byt_seg (fun i i0 i1 => hC.2.2.2.2.2.1 _ (by omega)))
      exact (hbt 2 (by decide)).1
    by_cases g1 : u1 - 48 < 0
    · skip
      refine x_lr (z := some 129) T_118_95 rfl ?_
      refine x_gR (z := some 145) T_118_96 F_1_14 (hP.o xo_129) (hP.rc xo_129 rfl rfl) ?_
      refine x_lr (z := some k) T_118_99 rfl ?_
      refine x_gR (z := some (k + 1)) T_118_100 F_16_0 (hP.o hk) (hP.rc hk rfl rfl) ?_
      refine x_li (z := s) T_118_103 rfl ?_
      refine x_li (z := e) T_118_105 rfl ?_
      refine x_cv4 T_118_107 mN_32 mL_32 (Nat.le_of_ble_eq_true rfl) mO_32 (hP.o xo_145) (Nat.le_of_ble_eq_true rfl) (had) ?_
      clear hP had
      rintro _ σ ⟨rfl, V, hP, hB3, hF3⟩
      obtain ⟨z1, z2⟩ := hkp V hF3
      refine cI ?_
      refine x_popI T_118_110 ?_
      refine x_ic T_118_111 ?_
      refine x_si (ls1 := [some (vR (some 129)), a1, some (vR (some k)), some (vI w), some (vI s), some (vI e), some (vI c1), some (vI 1), x8]) T_118_112 rfl ?_
      refine x_lr (z := some 129) T_118_114 rfl ?_
      refine x_gR (z := some 145) T_118_115 F_1_14 (hP.o xo_129) (hP.rc xo_129 rfl rfl) ?_
      refine x_ic T_118_118 ?_
      refine x_cv2 T_118_119 mN_33 mL_33 (Nat.le_of_ble_eq_true rfl) mO_33 (hP.o xo_145) (Nat.le_of_ble_eq_true rfl) (hat0 σ V hP hB3) ?_
      rintro _ σ ⟨rfl, rfl⟩
      refine cI ?_
      refine x_ic T_118_122 ?_
      refine x_ic2 T_118_124 (fun h => absurd (show ¬ (35 : Int) = 35 from h) (by decide)) (fun _ => ?_)
      refine x_lr (z := some 129) T_118_127 rfl ?_
      refine x_lr (z := some 129) T_118_128 rfl ?_
      refine x_gR (z := some 145) T_118_129 F_1_14 (hP.o xo_129) (hP.rc xo_129 rfl rfl) ?_
      refine x_ic T_118_132 ?_
      refine x_cv2 T_118_133 mN_33 mL_33 (Nat.le_of_ble_eq_true rfl) mO_33 (hP.o xo_145) (Nat.le_of_ble_eq_true rfl) (hat1 σ V hP hB3) ?_
      rintro _ σ ⟨rfl, rfl⟩
      refine cI ?_
      refine x_ic T_118_136 ?_
      refine x_ib (w := (u1 - 48)) T_118_138 (fun h => absurd h.1 (by decide)) (w32_id (by omega) (by omega)) ?_
      refine z_pI hP T_118_139 F_1_17 xo_129 (key := 2049) rfl (fun σ hP => ?_)
      refine x_ic T_118_142 ?_
      refine x_si (ls1 := [some (vR (some 129)), a1, some (vR (some k)), some (vI w), some (vI s), some (vI e), some (vI c1), some (vI 2), x8]) T_118_143 rfl ?_
      refine x_lr (z := some 129) T_118_145 rfl ?_
      refine x_gI (z := (u1 - 48)) T_118_146 (Or.inl F_1_17) (hP.o xo_129) (Eq.trans (hP.gi xo_129 (key := 2049) rfl) rU_s) ?_
      refine x_if T_118_149 (fun _ => ?_) (fun h => absurd (show (u1 - 48) < 0 by omega) h)
      refine x_ic T_118_185 ?_
      refine x_ri T_118_186 ?_
      exact hend σ _ hP (RPF_tr (RPF_tr hF (RPF_fb1 hF3)) RPF_u2) (Or.inl (fun c => by rw [if_pos ⟨by decide, by omega⟩] at hu1; omega))
    · by_cases g2 : u1 - 48 < 3
      · have hgd : ¬ (¬ (2 ≤ raw.length ∧ 48 ≤ lg raw 1 ∧ lg raw 1 ≤ 50) ∨ (3 ≤ raw.length ∧ ¬ lg raw 2 = 47)) → ∀ (V : qR) (σ : hM) (x8 : Option AV), PX σ0 (rU V 129 2049 (u1 - 48)) R σ → FB 145 W2 V → BY V 145 161 raw → WP fb (d + 2) 118 187 [some (vR (some 129)), a1, some (vR (some k)), some (vI w), some (vI s), some (vI e), some (vI c1), some (vI 2), x8] [] σ (XRP σ0 W R raw) := fun hg V σ x8 hP hF3 hB3 => by
          obtain ⟨z1, z2⟩ := hkp V hF3
          exact h187 hg c1 x8 σ _ hP (RPF_tr (RPF_tr hF (RPF_fb1 hF3)) RPF_u2) (hB3.key (by decide) (by decide)) ((rU_j (by decide)).trans z1) rU_s
        by_cases g3 : u2 = -1
        · have hg := hgd (by omega)
          subst g3
          refine x_lr (z := some 129) T_118_95 rfl ?_
          refine x_gR (z := some 145) T_118_96 F_1_14 (hP.o xo_129) (hP.rc xo_129 rfl rfl) ?_
          refine x_lr (z := some k) T_118_99 rfl ?_
          refine x_gR (z := some (k + 1)) T_118_100 F_16_0 (hP.o hk) (hP.rc hk rfl rfl) ?_
          refine x_li (z := s) T_118_103 rfl ?_
          refine x_li (z := e) T_118_105 rfl ?_
          refine x_cv4 T_118_107 mN_32 mL_32 (Nat.le_of_ble_eq_true rfl) mO_32 (hP.o xo_145) (Nat.le_of_ble_eq_true rfl) (had) ?_
          clear hP had
          rintro _ σ ⟨rfl, V, hP, hB3, hF3⟩
          obtain ⟨z1, z2⟩ := hkp V hF3
          refine cI ?_
          refine x_popI T_118_110 ?_
          refine x_ic T_118_111 ?_
          refine x_si (ls1 := [some (vR (some 129)), a1, some (vR (some k)), some (vI w), some (vI s), some (vI e), some (vI c1), some (vI 1), x8]) T_118_112 rfl ?_
          refine x_lr (z := some 129) T_118_114 rfl ?_
          refine x_gR (z := some 145) T_118_115 F_1_14 (hP.o xo_129) (hP.rc xo_129 rfl rfl) ?_
          refine x_ic T_118_118 ?_
          refine x_cv2 T_118_119 mN_33 mL_33 (Nat.le_of_ble_eq_true rfl) mO_33 (hP.o xo_145) (Nat.le_of_ble_eq_true rfl) (hat0 σ V hP hB3) ?_
          rintro _ σ ⟨rfl, rfl⟩
          refine cI ?_
          refine x_ic T_118_122 ?_
          refine x_ic2 T_118_124 (fun h => absurd (show ¬ (35 : Int) = 35 from h) (by decide)) (fun _ => ?_)
          refine x_lr (z := some 129) T_118_127 rfl ?_
          refine x_lr (z := some 129) T_118_128 rfl ?_
          refine x_gR (z := some 145) T_118_129 F_1_14 (hP.o xo_129) (hP.rc xo_129 rfl rfl) ?_
          refine x_ic T_118_132 ?_
          refine x_cv2 T_118_133 mN_33 mL_33 (Nat.le_of_ble_eq_true rfl) mO_33 (hP.o xo_145) (Nat.le_of_ble_eq_true rfl) (hat1 σ V hP hB3) ?_
          rintro _ σ ⟨rfl, rfl⟩
          refine cI ?_
          refine x_ic T_118_136 ?_
          refine x_ib (w := (u1 - 48)) T_118_138 (fun h => absurd h.1 (by decide)) (w32_id (by omega) (by omega)) ?_
          refine z_pI hP T_118_139 F_1_17 xo_129 (key := 2049) rfl (fun σ hP => ?_)
          refine x_ic T_118_142 ?_
          refine x_si (ls1 := [some (vR (some 129)), a1, some (vR (some k)), some (vI w), some (vI s), some (vI e), some (vI c1), some (vI 2), x8]) T_118_143 rfl ?_
          refine x_lr (z := some 129) T_118_145 rfl ?_
          refine x_gI (z := (u1 - 48)) T_118_146 (Or.inl F_1_17) (hP.o xo_129) (Eq.trans (hP.gi xo_129 (key := 2049) rfl) rU_s) ?_
          refine x_if T_118_149 (fun h => absurd (show (u1 - 48) < 0 from h) (by omega)) (fun _ => ?_)
          refine x_lr (z := some 129) T_118_152 rfl ?_
          refine x_gI (z := (u1 - 48)) T_118_153 (Or.inl F_1_17) (hP.o xo_129) (Eq.trans (hP.gi xo_129 (key := 2049) rfl) rU_s) ?_
          refine x_ic T_118_156 ?_
          refine x_ic2 T_118_157 (fun h => absurd (show 3 ≤ (u1 - 48) from h) (by omega)) (fun _ => ?_)
          refine x_lr (z := some 129) T_118_160 rfl ?_
          refine x_gR (z := some 145) T_118_161 F_1_14 (hP.o xo_129) (hP.rc xo_129 rfl rfl) ?_
          refine x_ic T_118_164 ?_
          refine x_cv2 T_118_165 mN_33 mL_33 (Nat.le_of_ble_eq_true rfl) mO_33 (hP.o xo_145) (Nat.le_of_ble_eq_true rfl) (hat2 σ _ hP (hB3.key (by decide) (by decide))) ?_
          rintro _ σ ⟨rfl, rfl⟩
          refine cI ?_
          refine x_ic T_118_168 ?_
          refine x_ic2 T_118_169 (fun _ => ?_) (fun h => absurd (show ((-1) : Int) = (-1) by decide) h)
          exact hg V σ x8 hP hF3 hB3
        · by_cases g4 : u2 = 47
          · have hg := hgd (by omega)
            subst g4
            refine x_lr (z := some 129) T_118_95 rfl ?_
            refine x_gR (z := some 145) T_118_96 F_1_14 (hP.o xo_129) (hP.rc xo_129 rfl rfl) ?_
            refine x_lr (z := some k) T_118_99 rfl ?_
            refine x_gR (z := some (k + 1)) T_118_100 F_16_0 (hP.o hk) (hP.rc hk rfl rfl) ?_
            refine x_li (z := s) T_118_103 rfl ?_
            refine x_li (z := e) T_118_105 rfl ?_
            refine x_cv4 T_118_107 mN_32 mL_32 (Nat.le_of_ble_eq_true rfl) mO_32 (hP.o xo_145) (Nat.le_of_ble_eq_true rfl) (had) ?_
            clear hP had
            rintro _ σ ⟨rfl, V, hP, hB3, hF3⟩
            obtain ⟨z1, z2⟩ := hkp V hF3
            refine cI ?_
            refine x_popI T_118_110 ?_
            refine x_ic T_118_111 ?_
            refine x_si (ls1 := [some (vR (some 129)), a1, some (vR (some k)), some (vI w), some (vI s), some (vI e), some (vI c1), some (vI 1), x8]) T_118_112 rfl ?_
            refine x_lr (z := some 129) T_118_114 rfl ?_
            refine x_gR (z := some 145) T_118_115 F_1_14 (hP.o xo_129) (hP.rc xo_129 rfl rfl) ?_
            refine x_ic T_118_118 ?_
            refine x_cv2 T_118_119 mN_33 mL_33 (Nat.le_of_ble_eq_true rfl) mO_33 (hP.o xo_145) (Nat.le_of_ble_eq_true rfl) (hat0 σ V hP hB3) ?_
            rintro _ σ ⟨rfl, rfl⟩
            refine cI ?_
            refine x_ic T_118_122 ?_
            refine x_ic2 T_118_124 (fun h => absurd (show ¬ (35 : Int) = 35 from h) (by decide)) (fun _ => ?_)
            refine x_lr (z := some 129) T_118_127 rfl ?_
            refine x_lr (z := some 129) T_118_128 rfl ?_
            refine x_gR (z := some 145) T_118_129 F_1_14 (hP.o xo_129) (hP.rc xo_129 rfl rfl) ?_
            refine x_ic T_118_132 ?_
            refine x_cv2 T_118_133 mN_33 mL_33 (Nat.le_of_ble_eq_true rfl) mO_33 (hP.o xo_145) (Nat.le_of_ble_eq_true rfl) (hat1 σ V hP hB3) ?_
            rintro _ σ ⟨rfl, rfl⟩
            refine cI ?_
            refine x_ic T_118_136 ?_
            refine x_ib (w := (u1 - 48)) T_118_138 (fun h => absurd h.1 (by decide)) (w32_id (by omega) (by omega)) ?_
            refine z_pI hP T_118_139 F_1_17 xo_129 (key := 2049) rfl (fun σ hP => ?_)
            refine x_ic T_118_142 ?_
            refine x_si (ls1 := [some (vR (some 129)), a1, some (vR (some k)), some (vI w), some (vI s), some (vI e), some (vI c1), some (vI 2), x8]) T_118_143 rfl ?_
            refine x_lr (z := some 129) T_118_145 rfl ?_
            refine x_gI (z := (u1 - 48)) T_118_146 (Or.inl F_1_17) (hP.o xo_129) (Eq.trans (hP.gi xo_129 (key := 2049) rfl) rU_s) ?_
            refine x_if T_118_149 (fun h => absurd (show (u1 - 48) < 0 from h) (by omega)) (fun _ => ?_)
            refine x_lr (z := some 129) T_118_152 rfl ?_
            refine x_gI (z := (u1 - 48)) T_118_153 (Or.inl F_1_17) (hP.o xo_129) (Eq.trans (hP.gi xo_129 (key := 2049) rfl) rU_s) ?_
            refine x_ic T_118_156 ?_
            refine x_ic2 T_118_157 (fun h => absurd (show 3 ≤ (u1 - 48) from h) (by omega)) (fun _ => ?_)
            refine x_lr (z := some 129) T_118_160 rfl ?_
            refine x_gR (z := some 145) T_118_161 F_1_14 (hP.o xo_129) (hP.rc xo_129 rfl rfl) ?_
            refine x_ic T_118_164 ?_
            refine x_cv2 T_118_165 mN_33 mL_33 (Nat.le_of_ble_eq_true rfl) mO_33 (hP.o xo_145) (Nat.le_of_ble_eq_true rfl) (hat2 σ _ hP (hB3.key (by decide) (by decide))) ?_
            rintro _ σ ⟨rfl, rfl⟩
            refine cI ?_
            refine x_ic T_118_168 ?_
            refine x_ic2 T_118_169 (fun h => absurd (show (47 : Int) = (-1) from h) (by decide)) (fun _ => ?_)
            refine x_lr (z := some 129) T_118_172 rfl ?_
            refine x_gR (z := some 145) T_118_173 F_1_14 (hP.o xo_129) (hP.rc xo_129 rfl rfl) ?_
            refine x_ic T_118_176 ?_
            refine x_cv2 T_118_177 mN_33 mL_33 (Nat.le_of_ble_eq_true rfl) mO_33 (hP.o xo_145) (Nat.le_of_ble_eq_true rfl) (hat2 σ _ hP (hB3.key (by decide) (by decide))) ?_
            rintro _ σ ⟨rfl, rfl⟩
            refine cI ?_
            refine x_ic T_118_180 ?_
            refine x_ic2 T_118_182 (fun _ => ?_) (fun h => absurd (show (47 : Int) = 47 by decide) h)
            exact hg V σ x8 hP hF3 hB3
          · skip
            refine x_lr (z := some 129) T_118_95 rfl ?_
            refine x_gR (z := some 145) T_118_96 F_1_14 (hP.o xo_129) (hP.rc xo_129 rfl rfl) ?_
            refine x_lr (z := some k) T_118_99 rfl ?_
            refine x_gR (z := some (k + 1)) T_118_100 F_16_0 (hP.o hk) (hP.rc hk rfl rfl) ?_
            refine x_li (z := s) T_118_103 rfl ?_
            refine x_li (z := e) T_118_105 rfl ?_
            refine x_cv4 T_118_107 mN_32 mL_32 (Nat.le_of_ble_eq_true rfl) mO_32 (hP.o xo_145) (Nat.le_of_ble_eq_true rfl) (had) ?_
            clear hP had
            rintro _ σ ⟨rfl, V, hP, hB3, hF3⟩
            obtain ⟨z1, z2⟩ := hkp V hF3
            refine cI ?_
            refine x_popI T_118_110 ?_
            refine x_ic T_118_111 ?_
            refine x_si (ls1 := [some (vR (some 129)), a1, some (vR (some k)), some (vI w), some (vI s), some (vI e), some (vI c1), some (vI 1), x8]) T_118_112 rfl ?_
            refine x_lr (z := some 129) T_118_114 rfl ?_
            refine x_gR (z := some 145) T_118_115 F_1_14 (hP.o xo_129) (hP.rc xo_129 rfl rfl) ?_
            refine x_ic T_118_118 ?_
            refine x_cv2 T_118_119 mN_33 mL_33 (Nat.le_of_ble_eq_true rfl) mO_33 (hP.o xo_145) (Nat.le_of_ble_eq_true rfl) (hat0 σ V hP hB3) ?_
            rintro _ σ ⟨rfl, rfl⟩
            refine cI ?_
            refine x_ic T_118_122 ?_
            refine x_ic2 T_118_124 (fun h => absurd (show ¬ (35 : Int) = 35 from h) (by decide)) (fun _ => ?_)
            refine x_lr (z := some 129) T_118_127 rfl ?_
            refine x_lr (z := some 129) T_118_128 rfl ?_
            refine x_gR (z := some 145) T_118_129 F_1_14 (hP.o xo_129) (hP.rc xo_129 rfl rfl) ?_
            refine x_ic T_118_132 ?_
            refine x_cv2 T_118_133 mN_33 mL_33 (Nat.le_of_ble_eq_true rfl) mO_33 (hP.o xo_145) (Nat.le_of_ble_eq_true rfl) (hat1 σ V hP hB3) ?_
            rintro _ σ ⟨rfl, rfl⟩
            refine cI ?_
            refine x_ic T_118_136 ?_
            refine x_ib (w := (u1 - 48)) T_118_138 (fun h => absurd h.1 (by decide)) (w32_id (by omega) (by omega)) ?_
            refine z_pI hP T_118_139 F_1_17 xo_129 (key := 2049) rfl (fun σ hP => ?_)
            refine x_ic T_118_142 ?_
            refine x_si (ls1 := [some (vR (some 129)), a1, some (vR (some k)), some (vI w), some (vI s), some (vI e), some (vI c1), some (vI 2), x8]) T_118_143 rfl ?_
            refine x_lr (z := some 129) T_118_145 rfl ?_
            refine x_gI (z := (u1 - 48)) T_118_146 (Or.inl F_1_17) (hP.o xo_129) (Eq.trans (hP.gi xo_129 (key := 2049) rfl) rU_s) ?_
            refine x_if T_118_149 (fun h => absurd (show (u1 - 48) < 0 from h) (by omega)) (fun _ => ?_)
            refine x_lr (z := some 129) T_118_152 rfl ?_
            refine x_gI (z := (u1 - 48)) T_118_153 (Or.inl F_1_17) (hP.o xo_129) (Eq.trans (hP.gi xo_129 (key := 2049) rfl) rU_s) ?_
            refine x_ic T_118_156 ?_
            refine x_ic2 T_118_157 (fun h => absurd (show 3 ≤ (u1 - 48) from h) (by omega)) (fun _ => ?_)
            refine x_lr (z := some 129) T_118_160 rfl ?_
            refine x_gR (z := some 145) T_118_161 F_1_14 (hP.o xo_129) (hP.rc xo_129 rfl rfl) ?_
            refine x_ic T_118_164 ?_
            refine x_cv2 T_118_165 mN_33 mL_33 (Nat.le_of_ble_eq_true rfl) mO_33 (hP.o xo_145) (Nat.le_of_ble_eq_true rfl) (hat2 σ _ hP (hB3.key (by decide) (by decide))) ?_
            rintro _ σ ⟨rfl, rfl⟩
            refine cI ?_
            refine x_ic T_118_168 ?_
            refine x_ic2 T_118_169 (fun h => absurd (show u2 = (-1) from h) (by omega)) (fun _ => ?_)
            refine x_lr (z := some 129) T_118_172 rfl ?_
            refine x_gR (z := some 145) T_118_173 F_1_14 (hP.o xo_129) (hP.rc xo_129 rfl rfl) ?_
            refine x_ic T_118_176 ?_
            refine x_cv2 T_118_177 mN_33 mL_33 (Nat.le_of_ble_eq_true rfl) mO_33 (hP.o xo_145) (Nat.le_of_ble_eq_true rfl) (hat2 σ _ hP (hB3.key (by decide) (by decide))) ?_
            rintro _ σ ⟨rfl, rfl⟩
            refine cI ?_
            refine x_ic T_118_180 ?_
            refine x_ic2 T_118_182 (fun h => absurd (show u2 = 47 from h) (by omega)) (fun _ => ?_)
            refine x_ic T_118_185 ?_
            refine x_ri T_118_186 ?_
            exact hend σ _ hP (RPF_tr (RPF_tr hF (RPF_fb1 hF3)) RPF_u2) (by omega)
      · skip
        refine x_lr (z := some 129) T_118_95 rfl ?_
        refine x_gR (z := some 145) T_118_96 F_1_14 (hP.o xo_129) (hP.rc xo_129 rfl rfl) ?_
        refine x_lr (z := some k) T_118_99 rfl ?_
        refine x_gR (z := some (k + 1)) T_118_100 F_16_0 (hP.o hk) (hP.rc hk rfl rfl) ?_
        refine x_li (z := s) T_118_103 rfl ?_
        refine x_li (z := e) T_118_105 rfl ?_
        refine x_cv4 T_118_107 mN_32 mL_32 (Nat.le_of_ble_eq_true rfl) mO_32 (hP.o xo_145) (Nat.le_of_ble_eq_true rfl) (had) ?_
        clear hP had
        rintro _ σ ⟨rfl, V, hP, hB3, hF3⟩
        obtain ⟨z1, z2⟩ := hkp V hF3
        refine cI ?_
        refine x_popI T_118_110 ?_
        refine x_ic T_118_111 ?_
        refine x_si (ls1 := [some (vR (some 129)), a1, some (vR (some k)), some (vI w), some (vI s), some (vI e), some (vI c1), some (vI 1), x8]) T_118_112 rfl ?_
        refine x_lr (z := some 129) T_118_114 rfl ?_
        refine x_gR (z := some 145) T_118_115 F_1_14 (hP.o xo_129) (hP.rc xo_129 rfl rfl) ?_
        refine x_ic T_118_118 ?_
        refine x_cv2 T_118_119 mN_33 mL_33 (Nat.le_of_ble_eq_true rfl) mO_33 (hP.o xo_145) (Nat.le_of_ble_eq_true rfl) (hat0 σ V hP hB3) ?_
        rintro _ σ ⟨rfl, rfl⟩
        refine cI ?_
        refine x_ic T_118_122 ?_
        refine x_ic2 T_118_124 (fun h => absurd (show ¬ (35 : Int) = 35 from h) (by decide)) (fun _ => ?_)
        refine x_lr (z := some 129) T_118_127 rfl ?_
        refine x_lr (z := some 129) T_118_128 rfl ?_
        refine x_gR (z := some 145) T_118_129 F_1_14 (hP.o xo_129) (hP.rc xo_129 rfl rfl) ?_
        refine x_ic T_118_132 ?_
        refine x_cv2 T_118_133 mN_33 mL_33 (Nat.le_of_ble_eq_true rfl) mO_33 (hP.o xo_145) (Nat.le_of_ble_eq_true rfl) (hat1 σ V hP hB3) ?_
        rintro _ σ ⟨rfl, rfl⟩
        refine cI ?_
        refine x_ic T_118_136 ?_
        refine x_ib (w := (u1 - 48)) T_118_138 (fun h => absurd h.1 (by decide)) (w32_id (by omega) (by omega)) ?_
        refine z_pI hP T_118_139 F_1_17 xo_129 (key := 2049) rfl (fun σ hP => ?_)
        refine x_ic T_118_142 ?_
        refine x_si (ls1 := [some (vR (some 129)), a1, some (vR (some k)), some (vI w), some (vI s), some (vI e), some (vI c1), some (vI 2), x8]) T_118_143 rfl ?_
        refine x_lr (z := some 129) T_118_145 rfl ?_
        refine x_gI (z := (u1 - 48)) T_118_146 (Or.inl F_1_17) (hP.o xo_129) (Eq.trans (hP.gi xo_129 (key := 2049) rfl) rU_s) ?_
        refine x_if T_118_149 (fun h => absurd (show (u1 - 48) < 0 from h) (by omega)) (fun _ => ?_)
        refine x_lr (z := some 129) T_118_152 rfl ?_
        refine x_gI (z := (u1 - 48)) T_118_153 (Or.inl F_1_17) (hP.o xo_129) (Eq.trans (hP.gi xo_129 (key := 2049) rfl) rU_s) ?_
        refine x_ic T_118_156 ?_
        refine x_ic2 T_118_157 (fun _ => ?_) (fun h => absurd (show 3 ≤ (u1 - 48) by omega) h)
        refine x_ic T_118_185 ?_
        refine x_ri T_118_186 ?_
        exact hend σ _ hP (RPF_tr (RPF_tr hF (RPF_fb1 hF3)) RPF_u2) (by omega)
  · have eb : paB raw = 1 := if_neg q
    have eo : paO raw = -1 := if_neg q
    have h187 := fun (y6 : Int) (x8 : Option AV) (σ : hM) (V : qR) (hP : PX σ0 V R σ) (hF : RPF W V) (hB : BY V 145 161 raw) (h0 : V 129 2038 = 0) (h1 : V 129 2049 = -1) => rp_187 (fb := fb) (d := d) (a1 := a1) (a2 := some (vR (some k))) (a3 := some (vI w)) (y4 := s) (y5 := e) (y6 := y6) (x8 := x8) hP hF hB (by omega) h0 (h1.trans eo.symm) (fun c => q c.1)
    rw [eb] at h187
    obtain ⟨u0, hu0⟩ : ∃ u, lg raw 0 = u := ⟨_, rfl⟩
    rw [hu0] at hat0 q
    refine x_lr (z := some 129) T_118_95 rfl ?_
    refine x_gR (z := some 145) T_118_96 F_1_14 (hP.o xo_129) (hP.rc xo_129 rfl rfl) ?_
    refine x_lr (z := some k) T_118_99 rfl ?_
    refine x_gR (z := some (k + 1)) T_118_100 F_16_0 (hP.o hk) (hP.rc hk rfl rfl) ?_
    refine x_li (z := s) T_118_103 rfl ?_
    refine x_li (z := e) T_118_105 rfl ?_
    refine x_cv4 T_118_107 mN_32 mL_32 (Nat.le_of_ble_eq_true rfl) mO_32 (hP.o xo_145) (Nat.le_of_ble_eq_true rfl) (had) ?_
    clear hP had
    rintro _ σ ⟨rfl, V, hP, hB3, hF3⟩
    obtain ⟨z1, z2⟩ := hkp V hF3
    refine cI ?_
    refine x_popI T_118_110 ?_
    refine x_ic T_118_111 ?_
    refine x_si (ls1 := [some (vR (some 129)), a1, some (vR (some k)), some (vI w), some (vI s), some (vI e), some (vI c1), some (vI 1), x8]) T_118_112 rfl ?_
    refine x_lr (z := some 129) T_118_114 rfl ?_
    refine x_gR (z := some 145) T_118_115 F_1_14 (hP.o xo_129) (hP.rc xo_129 rfl rfl) ?_
    refine x_ic T_118_118 ?_
    refine x_cv2 T_118_119 mN_33 mL_33 (Nat.le_of_ble_eq_true rfl) mO_33 (hP.o xo_145) (Nat.le_of_ble_eq_true rfl) (hat0 σ V hP hB3) ?_
    rintro _ σ ⟨rfl, rfl⟩
    refine cI ?_
    refine x_ic T_118_122 ?_
    refine x_ic2 T_118_124 (fun _ => ?_) (fun h => absurd (show ¬ u0 = 35 by omega) h)
    exact h187 _ _ σ V hP (RPF_tr hF (RPF_fb1 hF3)) hB3 z1 z2
/-- a path is read -/
theorem x_readPath {pr : Nat} {dl : List Int} (hP : PX σ0 W R σ) (hC : CMD W k l) (hw : 0 ≤ w ∧ w < ((lnW l).length : Int)) (hpr : tX pr = some (Sum.inl 6)) (hp2 : 229 ≤ pr ∧ pr < 1293) (hD : BY W (pr + 1) 60 dl) (hraw : (if lg (lnB l w) 0 = 47 ∨ lg (lnB l w) 0 = 35 then [] else dl ++ [47]) ++ lnB l w = raw) : CL fb (d + 2) 118 [vR (some 129), vR (some pr), vR (some k), vI w] σ (XRP σ0 W R raw) := by
  obtain ⟨-, a, e, ha, he, h1, h2, h3, h4⟩ := hC.word hw
  have hso := x_startOf (fb := fb) (d := d + 1) hP hC hw ha
  have heo := x_endOf (fb := fb) (d := d + 1) hP hC hw he
  obtain ⟨hk, -, hkr, hB, -, -⟩ := hC
  have hat := x_at (fb := fb) (d := d + 1) (i := a) hP hB
  rw [if_pos ⟨h1, by omega⟩] at hat
  have h0 : lg (lnB l w) 0 = lg l a := by rw [h4, lg_seg _ _ _ _ (by decide) (by omega), Int.add_zero]
  rw [h0, h4] at hraw
  obtain ⟨c1, hc1⟩ : ∃ q, lg l a = q := ⟨_, rfl⟩
  rw [hc1] at hraw hat
  have hSH : SH 145 161 := ⟨rfl, ⟨rfl, by decide⟩, by decide⟩
  have hcl := fun (σ : hM) (V : qR) (hP : PX σ0 V R σ) => x_clear0 (fb := fb) (d := d + 1) hP hSH
  have hB1 : ∀ V : qR, FB 145 (rU (rU W 129 2038 0) 129 2049 (-1)) V → BY V (k + 1) 100 l := fun V h => h.by ((hB.key (by decide) (by decide)).key (by decide) (by decide)) (by omega)
  have hD1 : ∀ V : qR, FB 145 (rU (rU W 129 2038 0) 129 2049 (-1)) V → BY V (pr + 1) 60 dl := fun V h => h.by ((hD.key (by decide) (by decide)).key (by decide) (by decide)) (by omega)
  have hk1 : ∀ V : qR, FB 145 (rU (rU W 129 2038 0) 129 2049 (-1)) V → V 129 2038 = 0 ∧ V 129 2049 = -1 := fun V h => ⟨(h.of (by decide) (by decide)).trans ((rU_j (by decide)).trans rU_s), (h.of (by decide) (by decide)).trans rU_s⟩
  have hf1 : ∀ V : qR, FB 145 (rU (rU W 129 2038 0) 129 2049 (-1)) V → RPF W V := fun V h => RPF_tr (RPF_tr RPF_u1 RPF_u2) (RPF_fb1 h)
  by_cases q : c1 = 47 ∨ c1 = 35
  · rw [if_pos q] at hraw
    have hgo := fun (V : qR) (σ : hM) (hP : PX σ0 V R σ) (hB3 : BY V 145 161 []) (hF3 : FB 145 (rU (rU W 129 2038 0) 129 2049 (-1)) V) => rp_95 (fb := fb) (d := d) (a1 := some (vR (some pr))) (w := w) (c1 := c1) (x7 := none) (x8 := none) hP (hf1 V hF3) hB3 hk (hB1 V hF3) hkr.1 ⟨h1, h2, h3⟩ hraw (by decide) (hk1 V hF3).1 (hk1 V hF3).2
    by_cases q2 : c1 = 47
    · skip
      refine CL_in mL_118 rfl ?_
      show WP fb _ 118 0 [some (vR (some 129)), some (vR (some pr)), some (vR (some k)), some (vI w), none, none, none, none, none] [] σ _
      refine x_lr (z := some k) T_118_0 rfl ?_
      refine x_li (z := w) T_118_1 rfl ?_
      refine x_cv2 T_118_2 mN_104 mL_104 (Nat.le_of_ble_eq_true rfl) mO_104 (hP.o hk) (Nat.le_of_ble_eq_true rfl) (hso) ?_
      rintro _ σ ⟨rfl, rfl⟩
      refine cI ?_
      refine x_si (ls1 := [some (vR (some 129)), some (vR (some pr)), some (vR (some k)), some (vI w), some (vI a), none, none, none, none]) T_118_5 rfl ?_
      refine x_lr (z := some k) T_118_7 rfl ?_
      refine x_li (z := w) T_118_8 rfl ?_
      refine x_cv2 T_118_9 mN_106 mL_106 (Nat.le_of_ble_eq_true rfl) mO_106 (hP.o hk) (Nat.le_of_ble_eq_true rfl) (heo) ?_
      rintro _ σ ⟨rfl, rfl⟩
      refine cI ?_
      refine x_si (ls1 := [some (vR (some 129)), some (vR (some pr)), some (vR (some k)), some (vI w), some (vI a), some (vI e), none, none, none]) T_118_12 rfl ?_
      refine x_lr (z := some k) T_118_14 rfl ?_
      refine x_gR (z := some (k + 1)) T_118_15 F_16_0 (hP.o hk) (hP.rc hk rfl rfl) ?_
      refine x_li (z := a) T_118_18 rfl ?_
      refine x_cv2 T_118_20 mN_33 mL_33 (Nat.le_of_ble_eq_true rfl) mO_33 (hP.o hB.1) (Nat.le_of_ble_eq_true rfl) (hat) ?_
      rintro _ σ ⟨rfl, rfl⟩
      refine cI ?_
      refine x_si (ls1 := [some (vR (some 129)), some (vR (some pr)), some (vR (some k)), some (vI w), some (vI a), some (vI e), some (vI c1), none, none]) T_118_23 rfl ?_
      refine x_lr (z := some 129) T_118_25 rfl ?_
      refine x_ic T_118_26 ?_
      refine z_pI hP T_118_27 F_1_6 xo_129 (key := 2038) rfl (fun σ hP => ?_)
      refine x_lr (z := some 129) T_118_30 rfl ?_
      refine x_ic T_118_31 ?_
      refine z_pI hP T_118_32 F_1_17 xo_129 (key := 2049) rfl (fun σ hP => ?_)
      refine x_lr (z := some 129) T_118_35 rfl ?_
      refine x_gR (z := some 145) T_118_36 F_1_14 (hP.o xo_129) (hP.rc xo_129 rfl rfl) ?_
      refine x_cv1 T_118_39 mN_27 mL_27 (Nat.le_of_ble_eq_true rfl) mO_27 (hP.o xo_145) (Nat.le_of_ble_eq_true rfl) (hcl σ _ hP) ?_
      clear hP hcl
      rintro _ σ ⟨rfl, V, hP, hB3, hF3⟩
      refine cV ?_
      refine x_li (z := a) T_118_42 rfl ?_
      refine x_li (z := e) T_118_44 rfl ?_
      refine x_ic2 T_118_46 (fun _ => ?_) (fun h => absurd (show a < e by omega) h)
      refine x_li (z := c1) T_118_51 rfl ?_
      refine x_ic T_118_53 ?_
      refine x_ic2 T_118_55 (fun _ => ?_) (fun h => absurd (show c1 = 47 by omega) h)
      exact hgo V σ hP hB3 hF3
    · skip
      refine CL_in mL_118 rfl ?_
      show WP fb _ 118 0 [some (vR (some 129)), some (vR (some pr)), some (vR (some k)), some (vI w), none, none, none, none, none] [] σ _
      refine x_lr (z := some k) T_118_0 rfl ?_
      refine x_li (z := w) T_118_1 rfl ?_
      refine x_cv2 T_118_2 mN_104 mL_104 (Nat.le_of_ble_eq_true rfl) mO_104 (hP.o hk) (Nat.le_of_ble_eq_true rfl) (hso) ?_
      rintro _ σ ⟨rfl, rfl⟩
      refine cI ?_
      refine x_si (ls1 := [some (vR (some 129)), some (vR (some pr)), some (vR (some k)), some (vI w), some (vI a), none, none, none, none]) T_118_5 rfl ?_
      refine x_lr (z := some k) T_118_7 rfl ?_
      refine x_li (z := w) T_118_8 rfl ?_
      refine x_cv2 T_118_9 mN_106 mL_106 (Nat.le_of_ble_eq_true rfl) mO_106 (hP.o hk) (Nat.le_of_ble_eq_true rfl) (heo) ?_
      rintro _ σ ⟨rfl, rfl⟩
      refine cI ?_
      refine x_si (ls1 := [some (vR (some 129)), some (vR (some pr)), some (vR (some k)), some (vI w), some (vI a), some (vI e), none, none, none]) T_118_12 rfl ?_
      refine x_lr (z := some k) T_118_14 rfl ?_
      refine x_gR (z := some (k + 1)) T_118_15 F_16_0 (hP.o hk) (hP.rc hk rfl rfl) ?_
      refine x_li (z := a) T_118_18 rfl ?_
      refine x_cv2 T_118_20 mN_33 mL_33 (Nat.le_of_ble_eq_true rfl) mO_33 (hP.o hB.1) (Nat.le_of_ble_eq_true rfl) (hat) ?_
      rintro _ σ ⟨rfl, rfl⟩
      refine cI ?_
      refine x_si (ls1 := [some (vR (some 129)), some (vR (some pr)), some (vR (some k)), some (vI w), some (vI a), some (vI e), some (vI c1), none, none]) T_118_23 rfl ?_
      refine x_lr (z := some 129) T_118_25 rfl ?_
      refine x_ic T_118_26 ?_
      refine z_pI hP T_118_27 F_1_6 xo_129 (key := 2038) rfl (fun σ hP => ?_)
      refine x_lr (z := some 129) T_118_30 rfl ?_
      refine x_ic T_118_31 ?_
      refine z_pI hP T_118_32 F_1_17 xo_129 (key := 2049) rfl (fun σ hP => ?_)
      refine x_lr (z := some 129) T_118_35 rfl ?_
      refine x_gR (z := some 145) T_118_36 F_1_14 (hP.o xo_129) (hP.rc xo_129 rfl rfl) ?_
      refine x_cv1 T_118_39 mN_27 mL_27 (Nat.le_of_ble_eq_true rfl) mO_27 (hP.o xo_145) (Nat.le_of_ble_eq_true rfl) (hcl σ _ hP) ?_
      clear hP hcl
      rintro _ σ ⟨rfl, V, hP, hB3, hF3⟩
      refine cV ?_
      refine x_li (z := a) T_118_42 rfl ?_
      refine x_li (z := e) T_118_44 rfl ?_
      refine x_ic2 T_118_46 (fun _ => ?_) (fun h => absurd (show a < e by omega) h)
      refine x_li (z := c1) T_118_51 rfl ?_
      refine x_ic T_118_53 ?_
      refine x_ic2 T_118_55 (fun h => absurd (show c1 = 47 from h) (by omega)) (fun _ => ?_)
      refine x_li (z := c1) T_118_58 rfl ?_
      refine x_ic T_118_60 ?_
      refine x_ic2 T_118_62 (fun _ => ?_) (fun h => absurd (show c1 = 35 by omega) h)
      exact hgo V σ hP hB3 hF3
  · rw [if_neg q] at hraw
    have hdl := hD.2.2.2.2.1
    have hsz := fun (V : qR) (σ : hM) (hP : PX σ0 V R σ) (hF3 : FB 145 (rU (rU W 129 2038 0) 129 2049 (-1)) V) => x_size (fb := fb) (d := d + 1) (z := (dl.length : Int)) hP (hD1 V hF3) rfl
    have had := fun (V : qR) (σ : hM) (hP : PX σ0 V R σ) (hB3 : BY V 145 161 []) (hF3 : FB 145 (rU (rU W 129 2038 0) 129 2049 (-1)) V) => x_addAll (fb := fb) (d := d + 1) (s := 0) (e := (dl.length : Int)) hP hB3 (hD1 V hF3) (by omega) (Or.inr (by decide)) (Int.le_refl _)
    rw [show List.take 161 (([] : List Int) ++ seg (lg dl) 0 ((dl.length : Int) - 0).toNat) = dl by rw [List.nil_append, show ((dl.length : Int) - 0).toNat = dl.length by omega, seg_all, List.take_of_length_le (by omega)], if_pos (by rw [List.length_nil]; omega)] at had
    have hadd := fun (V : qR) (σ : hM) (hP : PX σ0 V R σ) (hB3 : BY V 145 161 dl) => x_add (fb := fb) (d := d + 1) (x := 47) hP hB3 (by decide)
    rw [if_pos (by omega), if_pos (by omega)] at hadd
    obtain ⟨z, hz⟩ : ∃ q, (dl.length : Int) = q := ⟨_, rfl⟩
    simp only [hz] at hsz had
    have hgo := fun (V : qR) (σ : hM) (hP : PX σ0 V R σ) (hB3 : BY V 145 161 (dl ++ [47])) (hF3 : FB 145 (rU (rU W 129 2038 0) 129 2049 (-1)) V) => rp_95 (fb := fb) (d := d) (a1 := some (vR (some pr))) (w := w) (c1 := c1) (x7 := none) (x8 := none) hP (hf1 V hF3) hB3 hk (hB1 V hF3) hkr.1 ⟨h1, h2, h3⟩ hraw (by rw [List.length_append]; show dl.length + 1 ≤ 61; omega) (hk1 V hF3).1 (hk1 V hF3).2
    refine CL_in mL_118 rfl ?_
    show WP fb _ 118 0 [some (vR (some 129)), some (vR (some pr)), some (vR (some k)), some (vI w), none, none, none, none, none] [] σ _
    refine x_lr (z := some k) T_118_0 rfl ?_
    refine x_li (z := w) T_118_1 rfl ?_
    refine x_cv2 T_118_2 mN_104 mL_104 (Nat.le_of_ble_eq_true rfl) mO_104 (hP.o hk) (Nat.le_of_ble_eq_true rfl) (hso) ?_
    rintro _ σ ⟨rfl, rfl⟩
    refine cI ?_
    refine x_si (ls1 := [some (vR (some 129)), some (vR (some pr)), some (vR (some k)), some (vI w), some (vI a), none, none, none, none]) T_118_5 rfl ?_
    refine x_lr (z := some k) T_118_7 rfl ?_
    refine x_li (z := w) T_118_8 rfl ?_
    refine x_cv2 T_118_9 mN_106 mL_106 (Nat.le_of_ble_eq_true rfl) mO_106 (hP.o hk) (Nat.le_of_ble_eq_true rfl) (heo) ?_
    rintro _ σ ⟨rfl, rfl⟩
    refine cI ?_
    refine x_si (ls1 := [some (vR (some 129)), some (vR (some pr)), some (vR (some k)), some (vI w), some (vI a), some (vI e), none, none, none]) T_118_12 rfl ?_
    refine x_lr (z := some k) T_118_14 rfl ?_
    refine x_gR (z := some (k + 1)) T_118_15 F_16_0 (hP.o hk) (hP.rc hk rfl rfl) ?_
    refine x_li (z := a) T_118_18 rfl ?_
    refine x_cv2 T_118_20 mN_33 mL_33 (Nat.le_of_ble_eq_true rfl) mO_33 (hP.o hB.1) (Nat.le_of_ble_eq_true rfl) (hat) ?_
    rintro _ σ ⟨rfl, rfl⟩
    refine cI ?_
    refine x_si (ls1 := [some (vR (some 129)), some (vR (some pr)), some (vR (some k)), some (vI w), some (vI a), some (vI e), some (vI c1), none, none]) T_118_23 rfl ?_
    refine x_lr (z := some 129) T_118_25 rfl ?_
    refine x_ic T_118_26 ?_
    refine z_pI hP T_118_27 F_1_6 xo_129 (key := 2038) rfl (fun σ hP => ?_)
    refine x_lr (z := some 129) T_118_30 rfl ?_
    refine x_ic T_118_31 ?_
    refine z_pI hP T_118_32 F_1_17 xo_129 (key := 2049) rfl (fun σ hP => ?_)
    refine x_lr (z := some 129) T_118_35 rfl ?_
    refine x_gR (z := some 145) T_118_36 F_1_14 (hP.o xo_129) (hP.rc xo_129 rfl rfl) ?_
    refine x_cv1 T_118_39 mN_27 mL_27 (Nat.le_of_ble_eq_true rfl) mO_27 (hP.o xo_145) (Nat.le_of_ble_eq_true rfl) (hcl σ _ hP) ?_
    clear hP hcl
    rintro _ σ ⟨rfl, V, hP, hB3, hF3⟩
    refine cV ?_
    refine x_li (z := a) T_118_42 rfl ?_
    refine x_li (z := e) T_118_44 rfl ?_
    refine x_ic2 T_118_46 (fun _ => ?_) (fun h => absurd (show a < e by omega) h)
    refine x_li (z := c1) T_118_51 rfl ?_
    refine x_ic T_118_53 ?_
    refine x_ic2 T_118_55 (fun h => absurd (show c1 = 47 from h) (by omega)) (fun _ => ?_)
    refine x_li (z := c1) T_118_58 rfl ?_
    refine x_ic T_118_60 ?_
    refine x_ic2 T_118_62 (fun h => absurd (show c1 = 35 from h) (by omega)) (fun _ => ?_)
    refine x_lr (z := some 129) T_118_65 rfl ?_
    refine x_gR (z := some 145) T_118_66 F_1_14 (hP.o xo_129) (hP.rc xo_129 rfl rfl) ?_
    refine x_lr (z := some pr) T_118_69 rfl ?_
    refine x_gR (z := some (pr + 1)) T_118_70 F_6_1 (hP.o hpr) (hP.rc hpr rfl rfl) ?_
    refine x_ic T_118_73 ?_
    refine x_lr (z := some pr) T_118_74 rfl ?_
    refine x_gR (z := some (pr + 1)) T_118_75 F_6_1 (hP.o hpr) (hP.rc hpr rfl rfl) ?_
    refine x_cv1 T_118_78 mN_28 mL_28 (Nat.le_of_ble_eq_true rfl) mO_28 (hP.o hD.1) (Nat.le_of_ble_eq_true rfl) (hsz V σ hP hF3) ?_
    rintro _ σ ⟨rfl, rfl⟩
    refine cI ?_
    refine x_cv4 T_118_81 mN_32 mL_32 (Nat.le_of_ble_eq_true rfl) mO_32 (hP.o xo_145) (Nat.le_of_ble_eq_true rfl) (had V σ hP hB3 hF3) ?_
    clear hP had
    rintro _ σ ⟨rfl, V4, hP, hB4, hF4⟩
    refine cI ?_
    refine x_popI T_118_84 ?_
    refine x_lr (z := some 129) T_118_85 rfl ?_
    refine x_gR (z := some 145) T_118_86 F_1_14 (hP.o xo_129) (hP.rc xo_129 rfl rfl) ?_
    refine x_ic T_118_89 ?_
    refine x_cv2 T_118_91 mN_73 mL_73 (Nat.le_of_ble_eq_true rfl) mO_73 (hP.o xo_145) (Nat.le_of_ble_eq_true rfl) (hadd V4 σ hP hB4) ?_
    clear hP hadd
    rintro _ σ ⟨rfl, V5, hP, hB5, hF5⟩
    refine cI ?_
    refine x_popI T_118_94 ?_
    exact hgo V5 σ hP hB5 (FB_tr hF3 (FB_tr hF4 hF5))
end XRDP
