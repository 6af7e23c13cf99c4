/-! A path's plain form, laid down; a word parsed. -/
theorem T_331_0 : hTab 331 0 = some ((3, 0, 2, []), 1) := rfl
theorem T_331_1 : hTab 331 1 = some ((24, 17, Int.ofNat 80, []), 4) := rfl
theorem T_331_4 : hTab 331 4 = some ((18, 3, Int.ofNat 11, []), 7) := rfl
theorem T_331_7 : hTab 331 7 = some ((0, 0, 0, []), 8) := rfl
theorem T_331_8 : hTab 331 8 = some ((22, 0, Int.ofNat 12, []), 11) := rfl
theorem T_331_11 : hTab 331 11 = some ((3, 1, 0, []), 12) := rfl
theorem T_331_12 : hTab 331 12 = some ((4, 2, 0, []), 13) := rfl
theorem T_331_13 : hTab 331 13 = some ((0, 0, 0, []), 14) := rfl
theorem T_331_14 : hTab 331 14 = some ((4, 3, 0, []), 15) := rfl
theorem T_331_47 : hTab 331 47 = some ((3, 2, 0, []), 48) := rfl
theorem T_331_48 : hTab 331 48 = some ((18, 1, Int.ofNat 55, []), 51) := rfl
theorem T_331_51 : hTab 331 51 = some ((0, 0, 1, []), 52) := rfl
theorem T_331_52 : hTab 331 52 = some ((22, 0, Int.ofNat 56, []), 55) := rfl
theorem T_331_55 : hTab 331 55 = some ((3, 2, 0, []), 56) := rfl
theorem T_331_56 : hTab 331 56 = some ((4, 2, 0, []), 57) := rfl
theorem T_331_57 : hTab 331 57 = some ((3, 2, 0, []), 58) := rfl
theorem T_331_58 : hTab 331 58 = some ((0, 0, 60, []), 60) := rfl
theorem T_331_60 : hTab 331 60 = some ((19, 5, Int.ofNat 65, []), 63) := rfl
theorem T_331_63 : hTab 331 63 = some ((0, 0, 0, []), 64) := rfl
theorem T_331_64 : hTab 331 64 = some ((33, 2, 0, []), 65) := rfl
theorem T_331_65 : hTab 331 65 = some ((3, 0, 2, []), 66) := rfl
theorem T_331_66 : hTab 331 66 = some ((0, 0, 0, []), 67) := rfl
theorem T_331_67 : hTab 331 67 = some ((25, 17, Int.ofNat 85, []), 70) := rfl
theorem T_331_70 : hTab 331 70 = some ((0, 0, 0, []), 71) := rfl
theorem T_331_71 : hTab 331 71 = some ((4, 3, 0, []), 72) := rfl
theorem T_331_72 : hTab 331 72 = some ((3, 3, 0, []), 73) := rfl
theorem T_331_73 : hTab 331 73 = some ((3, 1, 0, []), 74) := rfl
theorem T_331_74 : hTab 331 74 = some ((19, 3, Int.ofNat 115, []), 77) := rfl
theorem T_331_77 : hTab 331 77 = some ((3, 0, 2, []), 78) := rfl
theorem T_331_78 : hTab 331 78 = some ((24, 17, Int.ofNat 80, []), 81) := rfl
theorem T_331_81 : hTab 331 81 = some ((18, 2, Int.ofNat 115, []), 84) := rfl
theorem T_331_84 : hTab 331 84 = some ((3, 0, 2, []), 85) := rfl
theorem T_331_85 : hTab 331 85 = some ((24, 17, Int.ofNat 84, []), 88) := rfl
theorem T_331_88 : hTab 331 88 = some ((3, 0, 2, []), 89) := rfl
theorem T_331_89 : hTab 331 89 = some ((24, 17, Int.ofNat 85, []), 92) := rfl
theorem T_331_92 : hTab 331 92 = some ((3, 0, 2, []), 93) := rfl
theorem T_331_93 : hTab 331 93 = some ((24, 17, Int.ofNat 78, []), 96) := rfl
theorem T_331_96 : hTab 331 96 = some ((3, 3, 0, []), 97) := rfl
theorem T_331_97 : hTab 331 97 = some ((26, 0, 0, []), 98) := rfl
theorem T_331_98 : hTab 331 98 = some ((27, 0, 0, []), 99) := rfl
theorem T_331_99 : hTab 331 99 = some ((3, 0, 2, []), 100) := rfl
theorem T_331_100 : hTab 331 100 = some ((6, 0, 0, []), 101) := rfl
theorem T_331_101 : hTab 331 101 = some ((24, 17, Int.ofNat 85, []), 104) := rfl
theorem T_331_104 : hTab 331 104 = some ((0, 0, 1, []), 105) := rfl
theorem T_331_105 : hTab 331 105 = some ((10, 0, 0, []), 106) := rfl
theorem T_331_106 : hTab 331 106 = some ((25, 17, Int.ofNat 85, []), 109) := rfl
theorem T_331_109 : hTab 331 109 = some ((5, 3, 1, []), 112) := rfl
theorem T_331_112 : hTab 331 112 = some ((22, 0, Int.ofNat 72, []), 115) := rfl
theorem T_331_115 : hTab 331 115 = some ((0, 0, 0, []), 116) := rfl
theorem T_331_116 : hTab 331 116 = some ((4, 3, 0, []), 117) := rfl
theorem T_331_117 : hTab 331 117 = some ((3, 3, 0, []), 118) := rfl
theorem T_331_118 : hTab 331 118 = some ((3, 0, 2, []), 119) := rfl
theorem T_331_119 : hTab 331 119 = some ((24, 17, Int.ofNat 83, []), 122) := rfl
theorem T_331_122 : hTab 331 122 = some ((19, 3, Int.ofNat 203, []), 125) := rfl
theorem T_331_125 : hTab 331 125 = some ((3, 0, 2, []), 126) := rfl
theorem T_331_126 : hTab 331 126 = some ((24, 17, Int.ofNat 84, []), 129) := rfl
theorem T_331_129 : hTab 331 129 = some ((3, 0, 2, []), 130) := rfl
theorem T_331_130 : hTab 331 130 = some ((24, 17, Int.ofNat 85, []), 133) := rfl
theorem T_331_133 : hTab 331 133 = some ((0, 0, 47, []), 135) := rfl
theorem T_331_135 : hTab 331 135 = some ((27, 0, 0, []), 136) := rfl
theorem T_331_136 : hTab 331 136 = some ((3, 0, 2, []), 137) := rfl
theorem T_331_137 : hTab 331 137 = some ((6, 0, 0, []), 138) := rfl
theorem T_331_138 : hTab 331 138 = some ((24, 17, Int.ofNat 85, []), 141) := rfl
theorem T_331_141 : hTab 331 141 = some ((0, 0, 1, []), 142) := rfl
theorem T_331_142 : hTab 331 142 = some ((10, 0, 0, []), 143) := rfl
theorem T_331_143 : hTab 331 143 = some ((25, 17, Int.ofNat 85, []), 146) := rfl
theorem T_331_146 : hTab 331 146 = some ((3, 0, 2, []), 147) := rfl
theorem T_331_147 : hTab 331 147 = some ((24, 17, Int.ofNat 81, []), 150) := rfl
theorem T_331_150 : hTab 331 150 = some ((3, 3, 0, []), 151) := rfl
theorem T_331_151 : hTab 331 151 = some ((26, 0, 0, []), 152) := rfl
theorem T_331_152 : hTab 331 152 = some ((4, 4, 0, []), 154) := rfl
theorem T_331_154 : hTab 331 154 = some ((3, 4, 0, []), 156) := rfl
theorem T_331_156 : hTab 331 156 = some ((3, 0, 2, []), 157) := rfl
theorem T_331_157 : hTab 331 157 = some ((24, 17, Int.ofNat 82, []), 160) := rfl
theorem T_331_160 : hTab 331 160 = some ((3, 3, 0, []), 161) := rfl
theorem T_331_161 : hTab 331 161 = some ((26, 0, 0, []), 162) := rfl
theorem T_331_162 : hTab 331 162 = some ((19, 3, Int.ofNat 197, []), 165) := rfl
theorem T_331_165 : hTab 331 165 = some ((3, 0, 2, []), 166) := rfl
theorem T_331_166 : hTab 331 166 = some ((24, 17, Int.ofNat 84, []), 169) := rfl
theorem T_331_169 : hTab 331 169 = some ((3, 0, 2, []), 170) := rfl
theorem T_331_170 : hTab 331 170 = some ((24, 17, Int.ofNat 85, []), 173) := rfl
theorem T_331_173 : hTab 331 173 = some ((3, 0, 2, []), 174) := rfl
theorem T_331_174 : hTab 331 174 = some ((24, 17, Int.ofNat 78, []), 177) := rfl
theorem T_331_177 : hTab 331 177 = some ((3, 4, 0, []), 179) := rfl
theorem T_331_179 : hTab 331 179 = some ((26, 0, 0, []), 180) := rfl
theorem T_331_180 : hTab 331 180 = some ((27, 0, 0, []), 181) := rfl
theorem T_331_181 : hTab 331 181 = some ((3, 0, 2, []), 182) := rfl
theorem T_331_182 : hTab 331 182 = some ((6, 0, 0, []), 183) := rfl
theorem T_331_183 : hTab 331 183 = some ((24, 17, Int.ofNat 85, []), 186) := rfl
theorem T_331_186 : hTab 331 186 = some ((0, 0, 1, []), 187) := rfl
theorem T_331_187 : hTab 331 187 = some ((10, 0, 0, []), 188) := rfl
theorem T_331_188 : hTab 331 188 = some ((25, 17, Int.ofNat 85, []), 191) := rfl
theorem T_331_191 : hTab 331 191 = some ((5, 4, 1, []), 194) := rfl
theorem T_331_194 : hTab 331 194 = some ((22, 0, Int.ofNat 154, []), 197) := rfl
theorem T_331_197 : hTab 331 197 = some ((5, 3, 1, []), 200) := rfl
theorem T_331_200 : hTab 331 200 = some ((22, 0, Int.ofNat 117, []), 203) := rfl
theorem T_331_203 : hTab 331 203 = some ((3, 0, 2, []), 204) := rfl
theorem T_331_204 : hTab 331 204 = some ((24, 17, Int.ofNat 85, []), 207) := rfl
theorem T_331_207 : hTab 331 207 = some ((18, 1, Int.ofNat 223, []), 210) := rfl
theorem T_331_210 : hTab 331 210 = some ((3, 0, 2, []), 211) := rfl
theorem T_331_211 : hTab 331 211 = some ((24, 17, Int.ofNat 84, []), 214) := rfl
theorem T_331_214 : hTab 331 214 = some ((0, 0, 0, []), 215) := rfl
theorem T_331_215 : hTab 331 215 = some ((0, 0, 47, []), 217) := rfl
theorem T_331_217 : hTab 331 217 = some ((27, 0, 0, []), 218) := rfl
theorem T_331_218 : hTab 331 218 = some ((3, 0, 2, []), 219) := rfl
theorem T_331_219 : hTab 331 219 = some ((0, 0, 1, []), 220) := rfl
theorem T_331_220 : hTab 331 220 = some ((25, 17, Int.ofNat 85, []), 223) := rfl
theorem T_331_223 : hTab 331 223 = some ((0, 0, 1, []), 224) := rfl
theorem T_331_224 : hTab 331 224 = some ((33, 2, 0, []), 225) := rfl
theorem F_17_84 : (hFd 17 84).2.2.1 = 4 := rfl
theorem F_17_85 : (hFd 17 85).2.2.1 = 0 := rfl
def plL (o : Int) (l : List Int) (b : Int) (ns : List (Int × Int)) : List Int := if (if o < 0 then [] else seg (lg l) 0 b.toNat) ++ plF (lg l) ns = [] then [47] else (if o < 0 then [] else seg (lg l) 0 b.toNat) ++ plF (lg l) ns
/-- bytes, where a server is named, where names begin, names, plain form and refusal of a path -/
def paRaw (P : qR) (p : Int) (w : List Int) : List Int := (if lg w 0 = 47 ∨ lg w 0 = 35 then [] else seg (fun x => P 2325 (60 * p + x)) 0 (P 2326 p).toNat ++ [47]) ++ w
def paOff (l : List Int) : Prop := ¬ (2 ≤ l.length ∧ 48 ≤ lg l 1 ∧ lg l 1 ≤ 50) ∨ (3 ≤ l.length ∧ ¬ lg l 2 = 47)
def paO (l : List Int) : Int := if lg l 0 = 35 then lg l 1 - 48 else -1
def paB (l : List Int) : Int := if lg l 0 = 35 then 2 else 1
def paN (l : List Int) : List (Int × Int) := cuL (lg l) (l.length : Int) l.length (paB l) []
def paL (l : List Int) : List Int := plL (paO l) l (paB l) (paN l)
def paM (l : List Int) : List (List Int) := (paN l).map (fun x => seg (lg l) x.1 (x.2 - x.1).toNat)
/-- why a path is refused, or 0 -/
def paE (l : List Int) : Int := if lg l 0 = 35 ∧ (¬ (2 ≤ l.length ∧ 48 ≤ lg l 1 ∧ lg l 1 ≤ 50) ∨ (3 ≤ l.length ∧ ¬ lg l 2 = 47)) then 5 else if 10 < (paN l).length then 5 else if 60 < (paL l).length then 5 else 0
section MPATH3
variable {fb : Bool} {d : Nat} {σ0 σ : hM} {P Q R S S1 S2 : qR} {T U s w g u p k e t z o : Int} {l nm : List Int} {h : List Ch} {a f : Int → Int} {rows : List Nat} {sc : List Int} {ns : List (Int × Int)} {x : Int × Int}
theorem PLS.snoc {y : Int} (h : PLS S l) (hl : l.length < 60) : PLS (rU (rU S 2349 (l.length : Int) y) 2281 85 ((l.length : Int) + 1)) (l ++ [y]) := by
  refine ⟨by rw [rU_s, List.length_append]; rfl, by rw [List.length_append]; exact hl, fun i h0 h1 => ?_⟩
  rw [List.length_append] at h1
  have h1 : i < ((l.length + 1 : Nat) : Int) := h1
  rw [rU_f (by decide), lg_app h0]
  by_cases q : i = (l.length : Int)
  · rw [q, rU_s, if_neg (by omega), show (l.length : Int) - l.length = 0 by omega]
    rfl
  · rw [rU_k q, if_pos (by omega)]
    exact h.2.2 i h0 (by omega)
/-- what stays while the plain form is laid down -/
def LY (T U : Int) (S S1 : qR) : Prop := IV true T U S1 ∧ SX [2349] [85] S S1
theorem LY.raw (h : LY T U S S1) (i : Int) : S1 2346 i = S 2346 i := h.2.2 _ _ rfl rfl
theorem LY.nf (h : LY T U S S1) (i : Int) : S1 2347 i = S 2347 i := h.2.2 _ _ rfl rfl
theorem LY.nt (h : LY T U S S1) (i : Int) : S1 2348 i = S 2348 i := h.2.2 _ _ rfl rfl
theorem LY.n (h : LY T U S S1) {k : Int} (hk : ¬ k = 85) : S1 2281 k = S 2281 k := h.2.1 k (by show (k == 85 || false) = false; rw [Bool.or_false]; exact beq_eq_false_iff_ne.mpr hk)
theorem LY.snoc {y : Int} (h : LY T U S S1) (hp : PLS S1 l) (hl : l.length < 60) (hy : 0 ≤ y ∧ y ≤ 255) : LY T U S (rU (rU S1 2349 (l.length : Int) y) 2281 85 ((l.length : Int) + 1)) := ⟨(h.1.uA 2349 rfl hy).uN 85 85 rfl (by show 0 ≤ (l.length : Int) + 1 ∧ (l.length : Int) + 1 ≤ 60; omega), SX_un (SX_up h.2 rfl rfl) rfl⟩
theorem m_lay_pre {b n : Int} {rw0 : List Int} (hR : RAWS S rw0) (hb : 1 ≤ b ∧ b ≤ 2) (hbl : 0 ≤ o → b ≤ rw0.length) (ho : S 2281 80 = o) {Q : Option AV → hM → Prop} (hQ : ∀ (σ : hM) (S1 : qR) (l3 : Option AV), PM σ0 P S1 σ → LY T U S S1 → PLS S1 (if o < 0 then [] else seg (lg rw0) 0 b.toNat) → WP fb d 331 115 [some (vR (some 2281)), some (vI b), some (vI n), l3, none] [] σ Q) : ∀ (m : Nat) (i : Int) (σ : hM) (S1 : qR), i + m = b → 0 ≤ i → (o < 0 → i = 0) → PM σ0 P S1 σ → LY T U S S1 → PLS S1 (seg (lg rw0) 0 i.toNat) → WP fb d 331 72 [some (vR (some 2281)), some (vI b), some (vI n), some (vI i), none] [] σ Q := by
  intro m
  induction m with
  | zero =>
    intro i σ S1 h1 h2 h3 hP hL hp
    have hQ2 := hQ σ S1 (some (vI i)) hP hL (by rw [if_neg (fun q => by have := h3 q; omega), show b = i by omega]; exact hp)
    refine x_li (z := i) T_331_72 rfl ?_
    refine x_li (z := b) T_331_73 rfl ?_
    refine x_ic2 T_331_74 (fun _ => ?_) (fun h => absurd (show b ≤ i by omega) h)
    exact hQ2
  | succ m ih =>
    intro i σ S1 h1 h2 h3 hP hL hp
    have ho2 : S1 2281 80 = o := (hL.n (by decide)).trans ho
    by_cases q : o < 0
    · have i0 := h3 q
      subst i0
      have hQ2 := hQ σ S1 (some (vI 0)) hP hL (by rw [if_pos q]; exact hp)
      refine x_li (z := 0) T_331_72 rfl ?_
      refine x_li (z := b) T_331_73 rfl ?_
      refine x_ic2 T_331_74 (fun h => absurd (show b ≤ 0 from h) (by omega)) (fun _ => ?_)
      refine x_lr (z := some 2281) T_331_77 rfl ?_
      refine x_gI (z := o) T_331_78 (Or.inl F_17_80) (PM.t hP) (Eq.trans (PM.nS hP 2281 80 80 rfl rfl rfl) ho2) ?_
      refine x_if T_331_81 (fun _ => ?_) (fun h => absurd (show o < 0 by omega) h)
      exact hQ2
    · have hb2 := hbl (by omega)
      have hx := (hL.raw i).trans (hR.2.2.2 i (by omega) (by omega))
      have hy := hR.2.2.1 i (by omega)
      have hlen : ((seg (lg rw0) 0 i.toNat).length : Int) = i := by rw [seg_len]; omega
      have h85 := hp.1
      rw [hlen] at h85
      refine x_li (z := i) T_331_72 rfl ?_
      refine x_li (z := b) T_331_73 rfl ?_
      refine x_ic2 T_331_74 (fun h => absurd (show b ≤ i from h) (by omega)) (fun _ => ?_)
      refine x_lr (z := some 2281) T_331_77 rfl ?_
      refine x_gI (z := o) T_331_78 (Or.inl F_17_80) (PM.t hP) (Eq.trans (PM.nS hP 2281 80 80 rfl rfl rfl) ho2) ?_
      refine x_if T_331_81 (fun h => absurd (show o < 0 from h) (by omega)) (fun _ => ?_)
      refine x_lr (z := some 2281) T_331_84 rfl ?_
      refine x_gR (z := some 2349) T_331_85 F_17_84 (PM.t hP) (PM.r hP 84 2349 rfl) ?_
      refine x_lr (z := some 2281) T_331_88 rfl ?_
      refine x_gI (z := i) T_331_89 (Or.inl F_17_85) (PM.t hP) (Eq.trans (PM.nS hP 2281 85 85 rfl rfl rfl) h85) ?_
      refine x_lr (z := some 2281) T_331_92 rfl ?_
      refine x_gR (z := some 2346) T_331_93 F_17_78 (PM.t hP) (PM.r hP 78 2346 rfl) ?_
      refine x_li (z := i) T_331_96 rfl ?_
      refine x_alI (z := lg rw0 i) T_331_97 (by decide) (PM.ta hP 2346 0 200 rfl rfl) (by omega) (by omega) (Eq.trans (PM.aS hP 2346 rfl rfl (by omega)) hx) ?_
      refine y_aIS hP T_331_98 2349 60 rfl rfl rfl (by omega) (by omega) (fun σ hP => ?_)
      refine x_lr (z := some 2281) T_331_99 rfl ?_
      refine x_dupR T_331_100 ?_
      refine x_gI (z := i) T_331_101 (Or.inl F_17_85) (PM.t hP) (Eq.trans (Eq.trans (PM.nS hP 2281 85 85 rfl rfl rfl) (rU_f (Nat.ne_of_beq_eq_false rfl))) h85) ?_
      refine x_ic T_331_104 ?_
      refine x_ib (w := (i + 1)) T_331_105 (fun h => absurd h.1 (by decide)) (w32_id (by omega) (by omega)) ?_
      refine y_pIS hP T_331_106 F_17_85 85 rfl rfl (fun σ hP => ?_)
      refine x_inc (w := (i + 1)) (ls1 := [some (vR (some 2281)), some (vI b), some (vI n), some (vI (i + 1)), none]) T_331_109 rfl (w32_id (by omega) (by omega)) rfl ?_
      refine x_goto T_331_112 ?_
      refine ih (i + 1) σ _ (by omega) (by omega) (fun c => absurd c q) hP ?_ ?_
      · have := hL.snoc hp (by omega) hy
        rw [hlen] at this
        exact this
      · have := hp.snoc (y := lg rw0 i) (by omega)
        rw [hlen] at this
        rw [show (i + 1).toNat = i.toNat + 1 by omega, seg_snoc, show (0 : Int) + (i.toNat : Int) = i by omega]
        exact this
theorem m_lay_name {b n j : Int} {rw0 pl : List Int} (hR : RAWS S rw0) (hx1 : 0 ≤ x.1 ∧ x.1 ≤ x.2 ∧ x.2 ≤ rw0.length) (hnt : S 2348 j = x.2) (hj : 0 ≤ j ∧ j < 110) (hpl : (pl.length : Int) + (x.2 - x.1) ≤ 60) {Q : Option AV → hM → Prop} (hQ : ∀ (σ : hM) (S1 : qR), PM σ0 P S1 σ → LY T U S S1 → PLS S1 (pl ++ seg (lg rw0) x.1 (x.2 - x.1).toNat) → WP fb d 331 197 [some (vR (some 2281)), some (vI b), some (vI n), some (vI j), some (vI x.2)] [] σ Q) : ∀ (m : Nat) (i : Int) (σ : hM) (S1 : qR), i + m = x.2 → x.1 ≤ i → PM σ0 P S1 σ → LY T U S S1 → PLS S1 (pl ++ seg (lg rw0) x.1 (i - x.1).toNat) → WP fb d 331 154 [some (vR (some 2281)), some (vI b), some (vI n), some (vI j), some (vI i)] [] σ Q := by
  have hl := hR.2.1
  intro m
  induction m with
  | zero =>
    intro i σ S1 h1 h2 hP hL hp
    have hnt2 := (hL.nt j).trans hnt
    have hi : i = x.2 := by omega
    have hQ2 := hQ σ S1 hP hL (by rw [← hi]; exact hp)
    rw [← hi] at hQ2
    refine x_li (z := i) T_331_154 rfl ?_
    refine x_lr (z := some 2281) T_331_156 rfl ?_
    refine x_gR (z := some 2348) T_331_157 F_17_82 (PM.t hP) (PM.r hP 82 2348 rfl) ?_
    refine x_li (z := j) T_331_160 rfl ?_
    refine x_alI (z := x.2) T_331_161 (by decide) (PM.ta hP 2348 0 110 rfl rfl) (by omega) (by omega) (Eq.trans (PM.aS hP 2348 rfl rfl (by omega)) hnt2) ?_
    refine x_ic2 T_331_162 (fun _ => ?_) (fun h => absurd (show x.2 ≤ i by omega) h)
    exact hQ2
  | succ m ih =>
    intro i σ S1 h1 h2 hP hL hp
    have hnt2 := (hL.nt j).trans hnt
    have hx := (hL.raw i).trans (hR.2.2.2 i (by omega) (by omega))
    have hy := hR.2.2.1 i (by omega)
    have hlen : ((pl ++ seg (lg rw0) x.1 (i - x.1).toNat).length : Int) = pl.length + (i - x.1) := by rw [List.length_append, seg_len]; omega
    have h85 := hp.1
    rw [hlen] at h85
    refine x_li (z := i) T_331_154 rfl ?_
    refine x_lr (z := some 2281) T_331_156 rfl ?_
    refine x_gR (z := some 2348) T_331_157 F_17_82 (PM.t hP) (PM.r hP 82 2348 rfl) ?_
    refine x_li (z := j) T_331_160 rfl ?_
    refine x_alI (z := x.2) T_331_161 (by decide) (PM.ta hP 2348 0 110 rfl rfl) (by omega) (by omega) (Eq.trans (PM.aS hP 2348 rfl rfl (by omega)) hnt2) ?_
    refine x_ic2 T_331_162 (fun h => absurd (show x.2 ≤ i from h) (by omega)) (fun _ => ?_)
    refine x_lr (z := some 2281) T_331_165 rfl ?_
    refine x_gR (z := some 2349) T_331_166 F_17_84 (PM.t hP) (PM.r hP 84 2349 rfl) ?_
    refine x_lr (z := some 2281) T_331_169 rfl ?_
    refine x_gI (z := ((pl.length : Int) + (i - x.1))) T_331_170 (Or.inl F_17_85) (PM.t hP) (Eq.trans (PM.nS hP 2281 85 85 rfl rfl rfl) h85) ?_
    refine x_lr (z := some 2281) T_331_173 rfl ?_
    refine x_gR (z := some 2346) T_331_174 F_17_78 (PM.t hP) (PM.r hP 78 2346 rfl) ?_
    refine x_li (z := i) T_331_177 rfl ?_
    refine x_alI (z := lg rw0 i) T_331_179 (by decide) (PM.ta hP 2346 0 200 rfl rfl) (by omega) (by omega) (Eq.trans (PM.aS hP 2346 rfl rfl (by omega)) hx) ?_
    refine y_aIS hP T_331_180 2349 60 rfl rfl rfl (by omega) (by omega) (fun σ hP => ?_)
    refine x_lr (z := some 2281) T_331_181 rfl ?_
    refine x_dupR T_331_182 ?_
    refine x_gI (z := ((pl.length : Int) + (i - x.1))) T_331_183 (Or.inl F_17_85) (PM.t hP) (Eq.trans (Eq.trans (PM.nS hP 2281 85 85 rfl rfl rfl) (rU_f (Nat.ne_of_beq_eq_false rfl))) h85) ?_
    refine x_ic T_331_186 ?_
    refine x_ib (w := (((pl.length : Int) + (i - x.1)) + 1)) T_331_187 (fun h => absurd h.1 (by decide)) (w32_id (by omega) (by omega)) ?_
    refine y_pIS hP T_331_188 F_17_85 85 rfl rfl (fun σ hP => ?_)
    refine x_inc (w := (i + 1)) (ls1 := [some (vR (some 2281)), some (vI b), some (vI n), some (vI j), some (vI (i + 1))]) T_331_191 rfl (w32_id (by omega) (by omega)) rfl ?_
    refine x_goto T_331_194 ?_
    refine ih (i + 1) σ _ (by omega) (by omega) hP ?_ ?_
    · have := hL.snoc hp (by omega) hy
      rw [hlen] at this
      exact this
    · have := hp.snoc (y := lg rw0 i) (by omega)
      rw [hlen, List.append_assoc] at this
      rw [show (i + 1 - x.1).toNat = (i - x.1).toNat + 1 by omega, seg_snoc, show x.1 + ((i - x.1).toNat : Int) = i by omega]
      exact this
theorem m_lay_fill {b n : Int} {rw0 : List Int} (hR : RAWS S rw0) (h83 : S 2281 83 = w) (hw : w ≤ 110) {Q : Option AV → hM → Prop} : ∀ (r : List (Int × Int)) (j : Int) (pl : List Int) (σ : hM) (S1 : qR) (l4 : Option AV), j + r.length = w → 0 ≤ j → (pl.length : Int) + (plF (lg rw0) r).length ≤ 60 → NR S j r → NV (rw0.length : Int) r → PM σ0 P S1 σ → LY T U S S1 → PLS S1 pl → (∀ (σ : hM) (S1 : qR) (l3 l4 : Option AV), PM σ0 P S1 σ → LY T U S S1 → PLS S1 (pl ++ plF (lg rw0) r) → WP fb d 331 203 [some (vR (some 2281)), some (vI b), some (vI n), l3, l4] [] σ Q) → WP fb d 331 117 [some (vR (some 2281)), some (vI b), some (vI n), some (vI j), l4] [] σ Q := by
  intro r
  induction r with
  | nil =>
    intro j pl σ S1 l4 h1 h2 h3 hN hV hP hL hp hQ
    have h1 : j + ((0 : Nat) : Int) = w := h1
    have h832 := (hL.n (k := 83) (by decide)).trans h83
    have hQ2 := hQ σ S1 (some (vI j)) l4 hP hL (by rw [show plF (lg rw0) [] = [] from rfl, List.append_nil]; exact hp)
    refine x_li (z := j) T_331_117 rfl ?_
    refine x_lr (z := some 2281) T_331_118 rfl ?_
    refine x_gI (z := w) T_331_119 (Or.inl F_17_83) (PM.t hP) (Eq.trans (PM.nS hP 2281 83 83 rfl rfl rfl) h832) ?_
    refine x_ic2 T_331_122 (fun _ => ?_) (fun h => absurd (show w ≤ j by omega) h)
    exact hQ2
  | cons x r ih =>
    intro j pl σ S1 l4 h1 h2 h3 hN hV hP hL hp hQ
    have h1 : j + ((r.length + 1 : Nat) : Int) = w := h1
    obtain ⟨e1, e2⟩ := hN.hd
    obtain ⟨v1, v2, v3⟩ := hV.hd
    rw [plF_cons v2] at h3
    have h832 := (hL.n (k := 83) (by decide)).trans h83
    obtain ⟨q, hq⟩ : ∃ q : Int, (pl.length : Int) = q := ⟨_, rfl⟩
    have h85 := hp.1.trans hq
    have e12 : rU (rU S1 2349 q 47) 2281 85 (q + 1) 2347 j = x.1 := (rU_f (by decide)).trans ((rU_f (by decide)).trans ((hL.nf j).trans e1))
    have hL2 := hL.snoc hp (by omega) (y := 47) (by decide)
    have hp2 := hp.snoc (y := 47) (by omega)
    rw [hq] at hL2 hp2
    refine x_li (z := j) T_331_117 rfl ?_
    refine x_lr (z := some 2281) T_331_118 rfl ?_
    refine x_gI (z := w) T_331_119 (Or.inl F_17_83) (PM.t hP) (Eq.trans (PM.nS hP 2281 83 83 rfl rfl rfl) h832) ?_
    refine x_ic2 T_331_122 (fun h => absurd (show w ≤ j from h) (by omega)) (fun _ => ?_)
    refine x_lr (z := some 2281) T_331_125 rfl ?_
    refine x_gR (z := some 2349) T_331_126 F_17_84 (PM.t hP) (PM.r hP 84 2349 rfl) ?_
    refine x_lr (z := some 2281) T_331_129 rfl ?_
    refine x_gI (z := q) T_331_130 (Or.inl F_17_85) (PM.t hP) (Eq.trans (PM.nS hP 2281 85 85 rfl rfl rfl) h85) ?_
    refine x_ic T_331_133 ?_
    refine y_aIS hP T_331_135 2349 60 rfl rfl rfl (by omega) (by omega) (fun σ hP => ?_)
    refine x_lr (z := some 2281) T_331_136 rfl ?_
    refine x_dupR T_331_137 ?_
    refine x_gI (z := q) T_331_138 (Or.inl F_17_85) (PM.t hP) (Eq.trans (Eq.trans (PM.nS hP 2281 85 85 rfl rfl rfl) (rU_f (Nat.ne_of_beq_eq_false rfl))) h85) ?_
    refine x_ic T_331_141 ?_
    refine x_ib (w := (q + 1)) T_331_142 (fun h => absurd h.1 (by decide)) (w32_id (by omega) (by omega)) ?_
    refine y_pIS hP T_331_143 F_17_85 85 rfl rfl (fun σ hP => ?_)
    refine x_lr (z := some 2281) T_331_146 rfl ?_
    refine x_gR (z := some 2347) T_331_147 F_17_81 (PM.t hP) (PM.r hP 81 2347 rfl) ?_
    refine x_li (z := j) T_331_150 rfl ?_
    refine x_alI (z := S1 2347 j) T_331_151 (by decide) (PM.ta hP 2347 0 110 rfl rfl) (by omega) (by omega) (Eq.trans (PM.aS hP 2347 rfl rfl (by omega)) (Eq.trans (rU_f (Nat.ne_of_beq_eq_false rfl)) (rU_f (Nat.ne_of_beq_eq_false rfl)))) ?_
    refine x_si (ls1 := [some (vR (some 2281)), some (vI b), some (vI n), some (vI j), some (vI (S1 2347 j))]) T_331_152 rfl ?_
    rw [show S1 2347 j = x.1 from (hL.nf j).trans e1]
    refine m_lay_name (S := S) (pl := pl ++ [47]) (x := x) hR ⟨v1, v2, v3⟩ e2 (by omega) (by rw [List.length_append]; show ((pl.length + 1 : Nat) : Int) + (x.2 - x.1) ≤ 60; omega) (fun σ S2 hP2 hL3 hp3 => ?_) (x.2 - x.1).toNat x.1 σ _ (by omega) (Int.le_refl _) hP hL2 (by rw [show (x.1 - x.1).toNat = 0 by omega]; show PLS _ (pl ++ [47] ++ []); rw [List.append_nil]; exact hp2)
    have hsize : (((pl ++ [47] ++ seg (lg rw0) x.1 (x.2 - x.1).toNat).length : Nat) : Int) = pl.length + 1 + (x.2 - x.1) := by
      rw [List.length_append, List.length_append, seg_len]
      show ((pl.length + 1 + (x.2 - x.1).toNat : Nat) : Int) = _
      omega
    have hgo := ih (j + 1) (pl ++ [47] ++ seg (lg rw0) x.1 (x.2 - x.1).toNat) σ S2 (some (vI x.2)) (by omega) (by omega) (by rw [hsize]; omega) hN.tl hV.tl hP2 hL3 hp3 (fun σ S1 l3 l4 a1 a2 a3 => hQ σ S1 l3 l4 a1 a2 (by rw [show plF (lg rw0) (x :: r) = 47 :: (seg (lg rw0) x.1 (x.2 - x.1).toNat ++ plF (lg rw0) r) from rfl]; rw [List.append_assoc, List.append_assoc] at a3; exact a3))
    clear hP
    have hP := hP2
    refine x_inc (w := (j + 1)) (ls1 := [some (vR (some 2281)), some (vI b), some (vI n), some (vI (j + 1)), some (vI x.2)]) T_331_197 rfl (w32_id (by omega) (by omega)) rfl ?_
    refine x_goto T_331_200 ?_
    exact hgo
theorem m_lay {b : Int} (hP : PM σ0 P S σ) (hJ : IV true T U S) (hR : RAWS S l) (hN : NMS S ns) (hV : NV (l.length : Int) ns) (hb : 1 ≤ b ∧ b ≤ 2) (ho : S 2281 80 = o) (hbl : 0 ≤ o → b ≤ l.length) : CL fb d 331 [vR (some 2281), vI b] σ (fun r σ' => ∃ S2, r = some (vI (if 60 < ((plL o l b ns).length : Int) then 0 else 1)) ∧ PM σ0 P S2 σ' ∧ LY T U S S2 ∧ (((plL o l b ns).length : Int) ≤ 60 → PLS S2 (plL o l b ns))) := by
  have h83 := hN.1
  have hl := hR.2.1
  have b83 : 0 ≤ S 2281 83 ∧ S 2281 83 ≤ 110 := IV.n hJ 83 83 rfl rfl (by decide)
  obtain ⟨pre, hpre⟩ : ∃ pre, (if o < 0 then [] else seg (lg l) 0 b.toNat) = pre := ⟨_, rfl⟩
  have hpl : (pre.length : Int) = if o < 0 then 0 else b := by
    rw [← hpre]
    split
    · rfl
    · rw [seg_len]
      omega
  obtain ⟨fl, hfl⟩ : ∃ fl, plF (lg l) ns = fl := ⟨_, rfl⟩
  have hPL : plL o l b ns = if pre ++ fl = [] then [47] else pre ++ fl := by
    unfold plL
    rw [hpre, hfl]
  have hap : ((pre ++ fl).length : Int) = pre.length + fl.length := by rw [List.length_append]; omega
  have hPz : ((plL o l b ns).length : Int) = if (pre.length : Int) + fl.length = 0 then 1 else (pre.length : Int) + fl.length := by
    rw [hPL]
    by_cases q : pre ++ fl = []
    · rw [if_pos q, if_pos (by rw [← hap, q]; rfl)]
      rfl
    · rw [if_neg q, if_neg (fun c => q (List.eq_nil_of_length_eq_zero (by omega)))]
      exact hap
  have main : ∀ (σ : hM) (n0 : Int), PM σ0 P S σ → n0 = pre.length → WP fb d 331 15 [some (vR (some 2281)), some (vI b), some (vI n0), some (vI 0), none] [] σ (fun r σ' => ∃ S2, r = some (vI (if 60 < ((plL o l b ns).length : Int) then 0 else 1)) ∧ PM σ0 P S2 σ' ∧ LY T U S S2 ∧ (((plL o l b ns).length : Int) ≤ 60 → PLS S2 (plL o l b ns))) := by
    intro σ n0 hP hn0
    refine m_lay_n (f := lg l) hP (by omega) rfl b83.2 ns 0 n0 (by omega) (by decide) (by rw [hn0]; omega) (by rw [hn0, hpl]; split <;> omega) hN.nr hV ?_
    rw [hfl]
    have fin : ∀ (n : Int) (l3 : Int), n = ((plL o l b ns).length : Int) → WP fb d 331 56 [some (vR (some 2281)), some (vI b), some (vI (n0 + (fl.length : Int))), some (vI l3), none] [vI n] σ (fun r σ' => ∃ S2, r = some (vI (if 60 < ((plL o l b ns).length : Int) then 0 else 1)) ∧ PM σ0 P S2 σ' ∧ LY T U S S2 ∧ (((plL o l b ns).length : Int) ≤ 60 → PLS S2 (plL o l b ns))) := by
      intro n l3 hn
      rw [← hn]
      by_cases q : 60 < n
      · rw [if_pos q]
        refine x_si (ls1 := [some (vR (some 2281)), some (vI b), some (vI n), some (vI l3), none]) T_331_56 rfl ?_
        refine x_li (z := n) T_331_57 rfl ?_
        refine x_ic T_331_58 ?_
        refine x_ic2 T_331_60 (fun h => absurd (show n ≤ 60 from h) (by omega)) (fun _ => ?_)
        refine x_ic T_331_63 ?_
        refine x_rz T_331_64 rfl ?_
        exact ⟨S, rfl, hP, ⟨hJ, SX_rfl⟩, fun c => by omega⟩
      · rw [if_neg q]
        refine x_si (ls1 := [some (vR (some 2281)), some (vI b), some (vI n), some (vI l3), none]) T_331_56 rfl ?_
        refine x_li (z := n) T_331_57 rfl ?_
        refine x_ic T_331_58 ?_
        refine x_ic2 T_331_60 (fun _ => ?_) (fun h => absurd (show n ≤ 60 by omega) h)
        refine x_lr (z := some 2281) T_331_65 rfl ?_
        refine x_ic T_331_66 ?_
        refine y_pIS hP T_331_67 F_17_85 85 rfl rfl (fun σ hP => ?_)
        refine x_ic T_331_70 ?_
        refine x_si (ls1 := [some (vR (some 2281)), some (vI b), some (vI n), some (vI 0), none]) T_331_71 rfl ?_
        refine m_lay_pre (T := T) (U := U) (S := S) (rw0 := l) hR hb hbl ho (fun σ S1 l3 hP1 hL1 hp1 => ?_) b.toNat 0 σ _ (by omega) (by decide) (fun _ => rfl) hP ⟨hJ.uN 85 85 rfl (by show (0 : Int) ≤ 0 ∧ (0 : Int) ≤ 60; decide), SX_un SX_rfl rfl⟩ ⟨rU_s, by show 0 ≤ 60; decide, fun i i0 i1 => absurd i1 (by show ¬ i < 0; omega)⟩
        rw [hpre] at hp1
        have hgo : ∀ (σ : hM), PM σ0 P S1 σ → WP fb d 331 117 [some (vR (some 2281)), some (vI b), some (vI n), some (vI 0), none] [] σ (fun r σ' => ∃ S2, r = some (vI 1) ∧ PM σ0 P S2 σ' ∧ LY T U S S2 ∧ (n ≤ 60 → PLS S2 (plL o l b ns))) := by
          intro σ hP1
          refine m_lay_fill (T := T) (U := U) (S := S) (rw0 := l) hR rfl b83.2 ns 0 pre σ S1 none (by omega) (by decide) (by rw [hfl]; rw [hPz] at hn; split at hn <;> omega) hN.nr hV hP1 hL1 hp1 ?_
          intro σ S2 l3 l4 hP2 hL2 hp2
          rw [hfl] at hp2
          have h85 := hp2.1
          rw [hap] at h85
          by_cases c : pre ++ fl = []
          · have hc0 : (pre.length : Int) + fl.length = 0 := by rw [← hap, c]; rfl
            have hPL1 : plL o l b ns = [47] := by rw [hPL, if_pos c]
            clear hP
            have hP := hP2
            rw [c] at hp2
            refine x_lr (z := some 2281) T_331_203 rfl ?_
            refine x_gI (z := ((pre.length : Int) + fl.length)) T_331_204 (Or.inl F_17_85) (PM.t hP) (Eq.trans (PM.nS hP 2281 85 85 rfl rfl rfl) h85) ?_
            refine x_if T_331_207 (fun h => absurd (show ¬ ((pre.length : Int) + fl.length) = 0 from h) (by omega)) (fun _ => ?_)
            refine x_lr (z := some 2281) T_331_210 rfl ?_
            refine x_gR (z := some 2349) T_331_211 F_17_84 (PM.t hP) (PM.r hP 84 2349 rfl) ?_
            refine x_ic T_331_214 ?_
            refine x_ic T_331_215 ?_
            refine y_aIS hP T_331_217 2349 60 rfl rfl rfl (by omega) (by omega) (fun σ hP => ?_)
            refine x_lr (z := some 2281) T_331_218 rfl ?_
            refine x_ic T_331_219 ?_
            refine y_pIS hP T_331_220 F_17_85 85 rfl rfl (fun σ hP => ?_)
            refine x_ic T_331_223 ?_
            refine x_rz T_331_224 rfl ?_
            refine ⟨_, rfl, hP, ?_, fun _ => ?_⟩
            · exact ⟨(hL2.1.uA 2349 rfl (by show (0 : Int) ≤ 47 ∧ (47 : Int) ≤ 255; decide)).uN 85 85 rfl (by show (0 : Int) ≤ 1 ∧ (1 : Int) ≤ 60; decide), SX_un (SX_up hL2.2 rfl rfl) rfl⟩
            · rw [hPL1]
              exact hp2.snoc (y := 47) (by decide)
          · have hc0 : ¬ (pre.length : Int) + fl.length = 0 := fun c2 => c (List.eq_nil_of_length_eq_zero (by omega))
            have hPL1 : plL o l b ns = pre ++ fl := by rw [hPL, if_neg c]
            clear hP
            have hP := hP2
            refine x_lr (z := some 2281) T_331_203 rfl ?_
            refine x_gI (z := ((pre.length : Int) + fl.length)) T_331_204 (Or.inl F_17_85) (PM.t hP) (Eq.trans (PM.nS hP 2281 85 85 rfl rfl rfl) h85) ?_
            refine x_if T_331_207 (fun _ => ?_) (fun h => absurd (show ¬ ((pre.length : Int) + fl.length) = 0 by omega) h)
            refine x_ic T_331_223 ?_
            refine x_rz T_331_224 rfl ?_
            exact ⟨_, rfl, hP, hL2, fun _ => by rw [hPL1]; exact hp2⟩
        clear hP
        have hP := hP1
        refine x_ic T_331_115 ?_
        refine x_si (ls1 := [some (vR (some 2281)), some (vI b), some (vI n), some (vI 0), none]) T_331_116 rfl ?_
        exact hgo σ hP
    by_cases q : n0 + (fl.length : Int) = 0
    · have hf := fin 1 (S 2281 83) (by rw [hPz, if_pos (by omega)])
      refine x_li (z := (n0 + (fl.length : Int))) T_331_47 rfl ?_
      refine x_if T_331_48 (fun h => absurd (show ¬ (n0 + (fl.length : Int)) = 0 from h) (by exact fun c => c q)) (fun _ => ?_)
      refine x_ic T_331_51 ?_
      refine x_goto T_331_52 ?_
      exact hf
    · have hf := fin (n0 + (fl.length : Int)) (S 2281 83) (by rw [hPz, if_neg (by omega), hn0])
      refine x_li (z := (n0 + (fl.length : Int))) T_331_47 rfl ?_
      refine x_if T_331_48 (fun _ => ?_) (fun h => absurd (show ¬ (n0 + (fl.length : Int)) = 0 by exact q) h)
      refine x_li (z := (n0 + (fl.length : Int))) T_331_55 rfl ?_
      exact hf
  by_cases q : o < 0
  · rw [if_pos q] at hpl
    refine CL_in mL_331 rfl ?_
    show WP fb _ 331 0 [some (vR (some 2281)), some (vI b), none, none, none] [] σ _
    refine x_lr (z := some 2281) T_331_0 rfl ?_
    refine x_gI (z := o) T_331_1 (Or.inl F_17_80) (PM.t hP) (Eq.trans (PM.nS hP 2281 80 80 rfl rfl rfl) ho) ?_
    refine x_if T_331_4 (fun h => absurd (show 0 ≤ o from h) (by omega)) (fun _ => ?_)
    refine x_ic T_331_7 ?_
    refine x_goto T_331_8 ?_
    refine x_si (ls1 := [some (vR (some 2281)), some (vI b), some (vI 0), none, none]) T_331_12 rfl ?_
    refine x_ic T_331_13 ?_
    refine x_si (ls1 := [some (vR (some 2281)), some (vI b), some (vI 0), some (vI 0), none]) T_331_14 rfl ?_
    exact main σ 0 hP hpl.symm
  · rw [if_neg q] at hpl
    refine CL_in mL_331 rfl ?_
    show WP fb _ 331 0 [some (vR (some 2281)), some (vI b), none, none, none] [] σ _
    refine x_lr (z := some 2281) T_331_0 rfl ?_
    refine x_gI (z := o) T_331_1 (Or.inl F_17_80) (PM.t hP) (Eq.trans (PM.nS hP 2281 80 80 rfl rfl rfl) ho) ?_
    refine x_if T_331_4 (fun _ => ?_) (fun h => absurd (show 0 ≤ o by omega) h)
    refine x_li (z := b) T_331_11 rfl ?_
    refine x_si (ls1 := [some (vR (some 2281)), some (vI b), some (vI b), none, none]) T_331_12 rfl ?_
    refine x_ic T_331_13 ?_
    refine x_si (ls1 := [some (vR (some 2281)), some (vI b), some (vI b), some (vI 0), none]) T_331_14 rfl ?_
    exact main σ b hP hpl.symm
end MPATH3
