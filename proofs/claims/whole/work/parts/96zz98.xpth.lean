/-! The class's kernel: a path's names. -/
theorem T_104_0 : hTab 104 0 = some ((3, 1, 0, []), 1) := rfl
theorem T_104_1 : hTab 104 1 = some ((18, 2, Int.ofNat 21, []), 4) := rfl
theorem T_104_4 : hTab 104 4 = some ((3, 1, 0, []), 5) := rfl
theorem T_104_5 : hTab 104 5 = some ((3, 0, 2, []), 6) := rfl
theorem T_104_6 : hTab 104 6 = some ((24, 16, Int.ofNat 4, []), 9) := rfl
theorem T_104_9 : hTab 104 9 = some ((19, 3, Int.ofNat 21, []), 12) := rfl
theorem T_104_12 : hTab 104 12 = some ((3, 1, 0, []), 13) := rfl
theorem T_104_13 : hTab 104 13 = some ((3, 0, 2, []), 14) := rfl
theorem T_104_14 : hTab 104 14 = some ((24, 16, Int.ofNat 2, []), 17) := rfl
theorem T_104_17 : hTab 104 17 = some ((28, 0, 0, []), 18) := rfl
theorem T_104_18 : hTab 104 18 = some ((19, 2, Int.ofNat 25, []), 21) := rfl
theorem T_104_25 : hTab 104 25 = some ((3, 0, 2, []), 26) := rfl
theorem T_104_26 : hTab 104 26 = some ((24, 16, Int.ofNat 2, []), 29) := rfl
theorem T_104_29 : hTab 104 29 = some ((3, 1, 0, []), 30) := rfl
theorem T_104_30 : hTab 104 30 = some ((26, 0, 0, []), 31) := rfl
theorem T_104_31 : hTab 104 31 = some ((33, 1, 0, []), 32) := rfl
theorem T_106_0 : hTab 106 0 = some ((3, 1, 0, []), 1) := rfl
theorem T_106_1 : hTab 106 1 = some ((18, 2, Int.ofNat 21, []), 4) := rfl
theorem T_106_4 : hTab 106 4 = some ((3, 1, 0, []), 5) := rfl
theorem T_106_5 : hTab 106 5 = some ((3, 0, 2, []), 6) := rfl
theorem T_106_6 : hTab 106 6 = some ((24, 16, Int.ofNat 4, []), 9) := rfl
theorem T_106_9 : hTab 106 9 = some ((19, 3, Int.ofNat 21, []), 12) := rfl
theorem T_106_12 : hTab 106 12 = some ((3, 1, 0, []), 13) := rfl
theorem T_106_13 : hTab 106 13 = some ((3, 0, 2, []), 14) := rfl
theorem T_106_14 : hTab 106 14 = some ((24, 16, Int.ofNat 3, []), 17) := rfl
theorem T_106_17 : hTab 106 17 = some ((28, 0, 0, []), 18) := rfl
theorem T_106_18 : hTab 106 18 = some ((19, 2, Int.ofNat 25, []), 21) := rfl
theorem T_106_25 : hTab 106 25 = some ((3, 0, 2, []), 26) := rfl
theorem T_106_26 : hTab 106 26 = some ((24, 16, Int.ofNat 3, []), 29) := rfl
theorem T_106_29 : hTab 106 29 = some ((3, 1, 0, []), 30) := rfl
theorem T_106_30 : hTab 106 30 = some ((26, 0, 0, []), 31) := rfl
theorem T_106_31 : hTab 106 31 = some ((33, 1, 0, []), 32) := rfl
theorem T_118_191 : hTab 118 191 = some ((3, 8, 0, []), 193) := rfl
theorem T_118_193 : hTab 118 193 = some ((3, 0, 2, []), 194) := rfl
theorem T_118_194 : hTab 118 194 = some ((24, 1, Int.ofNat 14, []), 197) := rfl
theorem T_118_197 : hTab 118 197 = some ((31, 28, 0, []), 200) := rfl
theorem T_118_200 : hTab 118 200 = some ((19, 4, Int.ofNat 249, []), 203) := rfl
theorem T_118_203 : hTab 118 203 = some ((3, 8, 0, []), 205) := rfl
theorem T_118_205 : hTab 118 205 = some ((3, 0, 2, []), 206) := rfl
theorem T_118_206 : hTab 118 206 = some ((24, 1, Int.ofNat 14, []), 209) := rfl
theorem T_118_209 : hTab 118 209 = some ((31, 28, 0, []), 212) := rfl
theorem T_118_212 : hTab 118 212 = some ((19, 0, Int.ofNat 229, []), 215) := rfl
theorem T_118_215 : hTab 118 215 = some ((3, 0, 2, []), 216) := rfl
theorem T_118_216 : hTab 118 216 = some ((24, 1, Int.ofNat 14, []), 219) := rfl
theorem T_118_219 : hTab 118 219 = some ((3, 8, 0, []), 221) := rfl
theorem T_118_221 : hTab 118 221 = some ((31, 33, 0, []), 224) := rfl
theorem T_118_224 : hTab 118 224 = some ((0, 0, 47, []), 226) := rfl
theorem T_118_226 : hTab 118 226 = some ((19, 1, Int.ofNat 243, []), 229) := rfl
theorem T_118_229 : hTab 118 229 = some ((3, 0, 2, []), 230) := rfl
theorem T_118_230 : hTab 118 230 = some ((3, 7, 0, []), 232) := rfl
theorem T_118_232 : hTab 118 232 = some ((3, 8, 0, []), 234) := rfl
theorem T_118_234 : hTab 118 234 = some ((31, 119, 0, []), 237) := rfl
theorem T_118_237 : hTab 118 237 = some ((3, 8, 0, []), 239) := rfl
theorem T_118_239 : hTab 118 239 = some ((0, 0, 1, []), 240) := rfl
theorem T_118_240 : hTab 118 240 = some ((10, 0, 0, []), 241) := rfl
theorem T_118_241 : hTab 118 241 = some ((4, 7, 0, []), 243) := rfl
theorem T_118_243 : hTab 118 243 = some ((5, 8, 1, []), 246) := rfl
theorem T_118_246 : hTab 118 246 = some ((22, 0, Int.ofNat 191, []), 249) := rfl
theorem T_119_0 : hTab 119 0 = some ((3, 0, 2, []), 1) := rfl
theorem T_119_1 : hTab 119 1 = some ((24, 1, Int.ofNat 14, []), 4) := rfl
theorem T_119_4 : hTab 119 4 = some ((3, 1, 0, []), 5) := rfl
theorem T_119_5 : hTab 119 5 = some ((3, 2, 0, []), 6) := rfl
theorem T_119_6 : hTab 119 6 = some ((0, 0, 2, []), 7) := rfl
theorem T_119_7 : hTab 119 7 = some ((31, 57, 0, []), 10) := rfl
theorem T_119_10 : hTab 119 10 = some ((18, 0, Int.ofNat 37, []), 13) := rfl
theorem T_119_13 : hTab 119 13 = some ((3, 0, 2, []), 14) := rfl
theorem T_119_14 : hTab 119 14 = some ((6, 0, 0, []), 15) := rfl
theorem T_119_15 : hTab 119 15 = some ((24, 1, Int.ofNat 6, []), 18) := rfl
theorem T_119_18 : hTab 119 18 = some ((3, 0, 2, []), 19) := rfl
theorem T_119_19 : hTab 119 19 = some ((24, 1, Int.ofNat 6, []), 22) := rfl
theorem T_119_22 : hTab 119 22 = some ((18, 5, Int.ofNat 29, []), 25) := rfl
theorem T_119_25 : hTab 119 25 = some ((0, 0, 1, []), 26) := rfl
theorem T_119_26 : hTab 119 26 = some ((22, 0, Int.ofNat 30, []), 29) := rfl
theorem T_119_29 : hTab 119 29 = some ((0, 0, 0, []), 30) := rfl
theorem T_119_30 : hTab 119 30 = some ((10, 1, 0, []), 31) := rfl
theorem T_119_31 : hTab 119 31 = some ((25, 1, Int.ofNat 6, []), 34) := rfl
theorem T_119_34 : hTab 119 34 = some ((22, 0, Int.ofNat 94, []), 37) := rfl
theorem T_119_37 : hTab 119 37 = some ((3, 1, 0, []), 38) := rfl
theorem T_119_38 : hTab 119 38 = some ((3, 2, 0, []), 39) := rfl
theorem T_119_39 : hTab 119 39 = some ((19, 3, Int.ofNat 94, []), 42) := rfl
theorem T_119_42 : hTab 119 42 = some ((3, 0, 2, []), 43) := rfl
theorem T_119_43 : hTab 119 43 = some ((24, 1, Int.ofNat 14, []), 46) := rfl
theorem T_119_46 : hTab 119 46 = some ((3, 1, 0, []), 47) := rfl
theorem T_119_47 : hTab 119 47 = some ((3, 2, 0, []), 48) := rfl
theorem T_119_48 : hTab 119 48 = some ((0, 0, 1, []), 49) := rfl
theorem T_119_49 : hTab 119 49 = some ((31, 57, 0, []), 52) := rfl
theorem T_119_52 : hTab 119 52 = some ((18, 1, Int.ofNat 94, []), 55) := rfl
theorem T_119_55 : hTab 119 55 = some ((3, 0, 2, []), 56) := rfl
theorem T_119_56 : hTab 119 56 = some ((24, 1, Int.ofNat 6, []), 59) := rfl
theorem T_119_59 : hTab 119 59 = some ((0, 0, 100, []), 61) := rfl
theorem T_119_61 : hTab 119 61 = some ((19, 3, Int.ofNat 94, []), 64) := rfl
theorem T_119_64 : hTab 119 64 = some ((3, 0, 2, []), 65) := rfl
theorem T_119_65 : hTab 119 65 = some ((24, 1, Int.ofNat 15, []), 68) := rfl
theorem T_119_68 : hTab 119 68 = some ((3, 0, 2, []), 69) := rfl
theorem T_119_69 : hTab 119 69 = some ((24, 1, Int.ofNat 6, []), 72) := rfl
theorem T_119_72 : hTab 119 72 = some ((3, 1, 0, []), 73) := rfl
theorem T_119_73 : hTab 119 73 = some ((27, 0, 0, []), 74) := rfl
theorem T_119_74 : hTab 119 74 = some ((3, 0, 2, []), 75) := rfl
theorem T_119_75 : hTab 119 75 = some ((24, 1, Int.ofNat 16, []), 78) := rfl
theorem T_119_78 : hTab 119 78 = some ((3, 0, 2, []), 79) := rfl
theorem T_119_79 : hTab 119 79 = some ((24, 1, Int.ofNat 6, []), 82) := rfl
theorem T_119_82 : hTab 119 82 = some ((3, 2, 0, []), 83) := rfl
theorem T_119_83 : hTab 119 83 = some ((27, 0, 0, []), 84) := rfl
theorem T_119_84 : hTab 119 84 = some ((3, 0, 2, []), 85) := rfl
theorem T_119_85 : hTab 119 85 = some ((6, 0, 0, []), 86) := rfl
theorem T_119_86 : hTab 119 86 = some ((24, 1, Int.ofNat 6, []), 89) := rfl
theorem T_119_89 : hTab 119 89 = some ((0, 0, 1, []), 90) := rfl
theorem T_119_90 : hTab 119 90 = some ((10, 0, 0, []), 91) := rfl
theorem T_119_91 : hTab 119 91 = some ((25, 1, Int.ofNat 6, []), 94) := rfl
theorem T_119_94 : hTab 119 94 = some ((33, 0, 0, []), 95) := rfl
theorem F_16_2 : (hFd 16 2).2.2.1 = 4 := rfl
theorem F_16_3 : (hFd 16 3).2.2.1 = 4 := rfl
theorem F_16_4 : (hFd 16 4).2.2.1 = 0 := rfl
theorem mN_104 : hmN 104 = 2 := by decide +kernel
theorem mL_104 : hmL 104 = 2 := by decide +kernel
theorem mK_104 : hmK 104 = 1 := by decide +kernel
theorem mO_104 : hmO 104 = 16 := by decide +kernel
theorem mN_106 : hmN 106 = 2 := by decide +kernel
theorem mL_106 : hmL 106 = 2 := by decide +kernel
theorem mK_106 : hmK 106 = 1 := by decide +kernel
theorem mO_106 : hmO 106 = 16 := by decide +kernel
theorem mN_118 : hmN 118 = 4 := by decide +kernel
theorem mL_118 : hmL 118 = 9 := by decide +kernel
theorem mK_118 : hmK 118 = 1 := by decide +kernel
theorem mO_118 : hmO 118 = 1 := by decide +kernel
theorem mN_119 : hmN 119 = 3 := by decide +kernel
theorem mL_119 : hmL 119 = 3 := by decide +kernel
theorem mK_119 : hmK 119 = 1 := by decide +kernel
theorem mO_119 : hmO 119 = 1 := by decide +kernel
/-- a command's object: its text, its words -/
def CMD (W : qR) (k : Nat) (l : List Int) : Prop := tX k = some (Sum.inl 16) ∧ (isA (k + 5) 0 100 ∧ isA (k + 6) 0 100) ∧ (2191 ≤ k ∧ k < 2275) ∧ BY W (k + 1) 100 l ∧ W k 2516 = ((lnW l).length : Int) ∧ ∀ i : Nat, i < (lnW l).length → W (k + 5) (i : Int) = ((lnW l).getD i (0, 0)).1 ∧ W (k + 6) (i : Int) = ((lnW l).getD i (0, 0)).2
/-- names that were taken -/
def NQ (W : qR) (ns : List (Int × Int)) : Prop := W 129 2038 = (ns.length : Int) ∧ ∀ i : Nat, i < ns.length → W 147 (i : Int) = (ns.getD i (0, 0)).1 ∧ W 148 (i : Int) = (ns.getD i (0, 0)).2
/-- only names are written -/
def NF (W W2 : qR) : Prop := ∀ (x : Nat) (k : Int), ¬ (x = 129 ∧ k = 2038) → ¬ (x = 147 ∧ k < 2000) → ¬ (x = 148 ∧ k < 2000) → W2 x k = W x k
def tkN (f : Int → Int) (k e : Int) (ns : List (Int × Int)) : List (Int × Int) := if e = k + 2 ∧ f k = 46 ∧ f (k + 1) = 46 then ns.dropLast else if k < e ∧ ¬ (e = k + 1 ∧ f k = 46) then ns ++ [(k, e)] else ns
section XPTH
variable {fb : Bool} {d b q m n k : Nat} {σ0 σ : hM} {W W0 W1 W2 W3 P Q : qR} {R R2 : rR} {i j x z v s e w p K T U : Int} {l l0 lo nm : List Int} {ns : List (Int × Int)} {f : Int → Int}
theorem CMD.word (h : CMD W k l) (hw : 0 ≤ w ∧ w < ((lnW l).length : Int)) : (lnW l).length ≤ 50 ∧ ∃ b c : Int, W (k + 5) w = b ∧ W (k + 6) w = c ∧ 0 ≤ b ∧ b < c ∧ c ≤ (l.length : Int) ∧ lnB l w = seg (lg l) b (c - b).toNat := by
  obtain ⟨-, -, -, h4, -, h6⟩ := h
  obtain ⟨g1, g2⟩ := lnW_ok h4.2.2.2.2.1
  have g3 := g1 w.toNat (by omega)
  have g4 := h6 w.toNat (by omega)
  rw [show ((w.toNat : Nat) : Int) = w by omega] at g4
  exact ⟨g2, _, _, g4.1, g4.2, g3.1, g3.2.1, g3.2.2, rfl⟩
theorem x_startOf (hP : PX σ0 W R σ) (h : CMD W k l) (hw : 0 ≤ w ∧ w < ((lnW l).length : Int)) (hv : W (k + 5) w = v) : CL fb d 104 [vR (some k), vI w] σ (rP v σ) := by
  obtain ⟨g, -⟩ := h.word hw
  obtain ⟨h1, ⟨h2, h2'⟩, h3, h4, h5, h6⟩ := h
  obtain ⟨n, hn⟩ : ∃ q : Int, ((lnW l).length : Int) = q := ⟨_, rfl⟩
  rw [hn] at h5 hw
  refine CL_in mL_104 rfl ?_
  show WP fb _ 104 0 [some (vR (some k)), some (vI w)] [] σ _
  refine x_li (z := w) T_104_0 rfl ?_
  refine x_if T_104_1 (fun h => absurd (show w < 0 from h) (by omega)) (fun _ => ?_)
  refine x_li (z := w) T_104_4 rfl ?_
  refine x_lr (z := some k) T_104_5 rfl ?_
  refine x_gI (z := n) T_104_6 (Or.inl F_16_4) (hP.o h1) (Eq.trans (hP.gi h1 (key := 2516) rfl) h5) ?_
  refine x_ic2 T_104_9 (fun h => absurd (show n ≤ w from h) (by omega)) (fun _ => ?_)
  refine x_li (z := w) T_104_12 rfl ?_
  refine x_lr (z := some k) T_104_13 rfl ?_
  refine x_gR (z := some (k + 5)) T_104_14 F_16_2 (hP.o h1) (hP.rc h1 rfl rfl) ?_
  refine x_len T_104_17 (hP.ta h2) ?_
  refine x_ic2 T_104_18 (fun _ => ?_) (fun h => absurd (show w < 100 by omega) h)
  refine x_lr (z := some k) T_104_25 rfl ?_
  refine x_gR (z := some (k + 5)) T_104_26 F_16_2 (hP.o h1) (hP.rc h1 rfl rfl) ?_
  refine x_li (z := w) T_104_29 rfl ?_
  refine x_alI (z := v) T_104_30 (by decide) (hP.ta h2) (by omega) (by omega) (Eq.trans (hP.ai h2 (by omega)) hv) ?_
  refine x_ri T_104_31 ?_
  exact ⟨rfl, rfl⟩
theorem x_endOf (hP : PX σ0 W R σ) (h : CMD W k l) (hw : 0 ≤ w ∧ w < ((lnW l).length : Int)) (hv : W (k + 6) w = v) : CL fb d 106 [vR (some k), vI w] σ (rP v σ) := by
  obtain ⟨g, -⟩ := h.word hw
  obtain ⟨h1, ⟨h2', h2⟩, h3, h4, h5, h6⟩ := h
  obtain ⟨n, hn⟩ : ∃ q : Int, ((lnW l).length : Int) = q := ⟨_, rfl⟩
  rw [hn] at h5 hw
  refine CL_in mL_106 rfl ?_
  show WP fb _ 106 0 [some (vR (some k)), some (vI w)] [] σ _
  refine x_li (z := w) T_106_0 rfl ?_
  refine x_if T_106_1 (fun h => absurd (show w < 0 from h) (by omega)) (fun _ => ?_)
  refine x_li (z := w) T_106_4 rfl ?_
  refine x_lr (z := some k) T_106_5 rfl ?_
  refine x_gI (z := n) T_106_6 (Or.inl F_16_4) (hP.o h1) (Eq.trans (hP.gi h1 (key := 2516) rfl) h5) ?_
  refine x_ic2 T_106_9 (fun h => absurd (show n ≤ w from h) (by omega)) (fun _ => ?_)
  refine x_li (z := w) T_106_12 rfl ?_
  refine x_lr (z := some k) T_106_13 rfl ?_
  refine x_gR (z := some (k + 6)) T_106_14 F_16_3 (hP.o h1) (hP.rc h1 rfl rfl) ?_
  refine x_len T_106_17 (hP.ta h2) ?_
  refine x_ic2 T_106_18 (fun _ => ?_) (fun h => absurd (show w < 100 by omega) h)
  refine x_lr (z := some k) T_106_25 rfl ?_
  refine x_gR (z := some (k + 6)) T_106_26 F_16_3 (hP.o h1) (hP.rc h1 rfl rfl) ?_
  refine x_li (z := w) T_106_29 rfl ?_
  refine x_alI (z := v) T_106_30 (by decide) (hP.ta h2) (by omega) (by omega) (Eq.trans (hP.ai h2 (by omega)) hv) ?_
  refine x_ri T_106_31 ?_
  exact ⟨rfl, rfl⟩
theorem seg_two {s : Int} : seg f s 2 = [46, 46] ↔ f s = 46 ∧ f (s + 1) = 46 := by
  show [f s, f (s + 1)] = [46, 46] ↔ _
  simp
theorem seg_one {s : Int} : seg f s 1 = [46] ↔ f s = 46 := by
  show [f s] = [46] ↔ _
  simp
theorem NQ.push (h : NQ W ns) (hn : ns.length < 100) : NQ (rU (rU (rU W 147 (ns.length : Int) s) 148 (ns.length : Int) e) 129 2038 ((ns.length : Int) + 1)) (ns ++ [(s, e)]) := by
  refine ⟨by rw [rU_s, List.length_append]; rfl, fun i hi => ?_⟩
  rw [List.length_append] at hi
  have hi : i < ns.length + 1 := hi
  by_cases q : i = ns.length
  · subst q
    rw [gD2]
    refine ⟨?_, ?_⟩
    · rw [rU_f (by decide), rU_f (by decide), rU_s]
    · rw [rU_f (by decide), rU_s]
  · have g := h.2 i (by omega)
    rw [gD1 (by omega)]
    refine ⟨?_, ?_⟩
    · rw [rU_f (by decide), rU_f (by decide), rU_k (by omega)]
      exact g.1
    · rw [rU_f (by decide), rU_k (by omega), rU_f (by decide)]
      exact g.2
theorem NQ.pop (h : NQ W ns) (hv : v = if 0 < (ns.length : Int) then (ns.length : Int) - 1 else 0) : NQ (rU W 129 2038 v) ns.dropLast := by
  refine ⟨by rw [rU_s, hv, List.length_dropLast]; split <;> omega, fun i hi => ?_⟩
  rw [gD3 hi]
  rw [List.length_dropLast] at hi
  have g := h.2 i (by omega)
  exact ⟨(rU_f (by decide)).trans g.1, (rU_f (by decide)).trans g.2⟩
theorem NF_rfl : NF W W := fun _ _ _ _ _ => rfl
theorem NF_tr (h1 : NF W W1) (h2 : NF W1 W2) : NF W W2 := fun x k a b c => (h2 x k a b c).trans (h1 x k a b c)
theorem NF_pop : NF W (rU W 129 2038 v) := fun x k a _ _ => if_neg a
theorem NF_push (h : i < 2000) : NF W (rU (rU (rU W 147 i s) 148 i e) 129 2038 v) := fun x k a b c => by
  show (if x = 129 ∧ k = 2038 then v else if x = 148 ∧ k = i then e else if x = 147 ∧ k = i then s else W x k) = _
  rw [if_neg a, if_neg (fun q => c ⟨q.1, by omega⟩), if_neg (fun q => b ⟨q.1, by omega⟩)]
theorem NF.by (h : NF W W2) (hB : BY W b n l) (hb : b ≠ 129 ∧ b ≠ 146 ∧ b ≠ 147) : BY W2 b n l := by
  obtain ⟨a1, a2, a3, a4, a5, a6, a7⟩ := hB
  have hne : b ≠ 148 ∧ b + 1 ≠ 129 := ⟨fun c => by rw [c] at a1; exact absurd a1 (by decide), fun c => by rw [show b = 128 by omega] at a1; exact absurd a1 (by decide)⟩
  exact ⟨a1, a2, a3, (h _ _ (by omega) (by omega) (by omega)).trans a4, a5, a6, fun i i0 i1 => (h _ _ (by omega) (by omega) (by omega)).trans (a7 i i0 i1)⟩
/-- a name is taken -/
theorem x_takeName (hP : PX σ0 W R σ) (hB : BY W 145 161 l) (hs : 0 ≤ s ∧ s ≤ e ∧ e ≤ (l.length : Int)) (hN : NQ W ns) (hn : ns.length < 100) : CL fb (d + 1) 119 [vR (some 129), vI s, vI e] σ (fun r σ' => r = none ∧ ∃ W2, PX σ0 W2 R σ' ∧ NQ W2 (tkN (lg l) s e ns) ∧ NF W W2) := by
  have hl := hB.2.2.2.2.1
  have h47 : isA 147 0 100 := ⟨rfl, by decide⟩
  have h48 : isA 148 0 100 := ⟨rfl, by decide⟩
  have ha2 := x_areDots (fb := fb) (d := d) (s := s) (e := e) (k := 2) hP hB rfl ⟨by omega, by omega⟩ ⟨by omega, by omega⟩ (by decide)
  have ha1 := x_areDots (fb := fb) (d := d) (s := s) (e := e) (k := 1) hP hB rfl ⟨by omega, by omega⟩ ⟨by omega, by omega⟩ (by decide)
  have hd2 : ((0 ≤ s ∧ e ≤ (l.length : Int)) ∧ e - s = 2 ∧ seg (lg l) s (2 : Int).toNat = List.replicate (2 : Int).toNat 46) ↔ (e = s + 2 ∧ lg l s = 46 ∧ lg l (s + 1) = 46) := by
    show (_ ∧ _ ∧ seg (lg l) s 2 = [46, 46]) ↔ _
    rw [seg_two]
    exact ⟨fun h => ⟨by omega, h.2.2⟩, fun h => ⟨⟨by omega, by omega⟩, by omega, h.2⟩⟩
  have hd1 : ((0 ≤ s ∧ e ≤ (l.length : Int)) ∧ e - s = 1 ∧ seg (lg l) s (1 : Int).toNat = List.replicate (1 : Int).toNat 46) ↔ (e = s + 1 ∧ lg l s = 46) := by
    show (_ ∧ _ ∧ seg (lg l) s 1 = [46]) ↔ _
    rw [seg_one]
    exact ⟨fun h => ⟨by omega, h.2.2⟩, fun h => ⟨⟨by omega, by omega⟩, by omega, h.2⟩⟩
  obtain ⟨hn0, -⟩ := id hN
  have hpu := hN.push (s := s) (e := e) hn
  have hpo := fun v => hN.pop (v := v)
  obtain ⟨nn, hnn⟩ : ∃ q : Int, (ns.length : Int) = q := ⟨_, rfl⟩
  rw [hnn] at hn0 hpu
  simp only [hnn] at hpo
  by_cases q2 : e = s + 2 ∧ lg l s = 46 ∧ lg l (s + 1) = 46
  · rw [if_pos (hd2.mpr q2)] at ha2
    have et : tkN (lg l) s e ns = ns.dropLast := if_pos q2
    rw [et]
    by_cases q0 : 0 < nn
    · have hp := hpo (nn - 1) (if_pos q0).symm
      refine CL_in mL_119 rfl ?_
      show WP fb _ 119 0 [some (vR (some 129)), some (vI s), some (vI e)] [] σ _
      refine x_lr (z := some 129) T_119_0 rfl ?_
      refine x_gR (z := some 145) T_119_1 F_1_14 (hP.o xo_129) (hP.rc xo_129 rfl rfl) ?_
      refine x_li (z := s) T_119_4 rfl ?_
      refine x_li (z := e) T_119_5 rfl ?_
      refine x_ic T_119_6 ?_
      refine x_cv4 T_119_7 mN_57 mL_57 (Nat.le_of_ble_eq_true rfl) mO_57 (hP.o xo_145) (Nat.le_of_ble_eq_true rfl) (ha2) ?_
      rintro _ σ ⟨rfl, rfl⟩
      refine cI ?_
      refine x_if T_119_10 (fun h => absurd (show (1 : Int) = 0 from h) (by decide)) (fun _ => ?_)
      refine x_lr (z := some 129) T_119_13 rfl ?_
      refine x_dupR T_119_14 ?_
      refine x_gI (z := nn) T_119_15 (Or.inl F_1_6) (hP.o xo_129) (Eq.trans (hP.gi xo_129 (key := 2038) rfl) hn0) ?_
      refine x_lr (z := some 129) T_119_18 rfl ?_
      refine x_gI (z := nn) T_119_19 (Or.inl F_1_6) (hP.o xo_129) (Eq.trans (hP.gi xo_129 (key := 2038) rfl) hn0) ?_
      refine x_if T_119_22 (fun h => absurd (show nn ≤ 0 from h) (by omega)) (fun _ => ?_)
      refine x_ic T_119_25 ?_
      refine x_goto T_119_26 ?_
      refine x_ib (w := (nn - 1)) T_119_30 (fun h => absurd h.1 (by decide)) (w32_id (by omega) (by omega)) ?_
      refine z_pI hP T_119_31 F_1_6 xo_129 (key := 2038) rfl (fun σ hP => ?_)
      refine x_goto T_119_34 ?_
      refine x_rv T_119_94 ?_
      exact ⟨rfl, _, hP, hp, NF_pop⟩
    · have hp := hpo 0 (if_neg q0).symm
      have hz : nn = 0 := by omega
      subst hz
      refine CL_in mL_119 rfl ?_
      show WP fb _ 119 0 [some (vR (some 129)), some (vI s), some (vI e)] [] σ _
      refine x_lr (z := some 129) T_119_0 rfl ?_
      refine x_gR (z := some 145) T_119_1 F_1_14 (hP.o xo_129) (hP.rc xo_129 rfl rfl) ?_
      refine x_li (z := s) T_119_4 rfl ?_
      refine x_li (z := e) T_119_5 rfl ?_
      refine x_ic T_119_6 ?_
      refine x_cv4 T_119_7 mN_57 mL_57 (Nat.le_of_ble_eq_true rfl) mO_57 (hP.o xo_145) (Nat.le_of_ble_eq_true rfl) (ha2) ?_
      rintro _ σ ⟨rfl, rfl⟩
      refine cI ?_
      refine x_if T_119_10 (fun h => absurd (show (1 : Int) = 0 from h) (by decide)) (fun _ => ?_)
      refine x_lr (z := some 129) T_119_13 rfl ?_
      refine x_dupR T_119_14 ?_
      refine x_gI (z := 0) T_119_15 (Or.inl F_1_6) (hP.o xo_129) (Eq.trans (hP.gi xo_129 (key := 2038) rfl) hn0) ?_
      refine x_lr (z := some 129) T_119_18 rfl ?_
      refine x_gI (z := 0) T_119_19 (Or.inl F_1_6) (hP.o xo_129) (Eq.trans (hP.gi xo_129 (key := 2038) rfl) hn0) ?_
      refine x_if T_119_22 (fun _ => ?_) (fun h => absurd (show (0 : Int) ≤ 0 by decide) h)
      refine x_ic T_119_29 ?_
      refine x_ib (w := 0) T_119_30 (fun h => absurd h.1 (by decide)) (by decide) ?_
      refine z_pI hP T_119_31 F_1_6 xo_129 (key := 2038) rfl (fun σ hP => ?_)
      refine x_goto T_119_34 ?_
      refine x_rv T_119_94 ?_
      exact ⟨rfl, _, hP, hp, NF_pop⟩
  · rw [if_neg (fun c => q2 (hd2.mp c))] at ha2
    by_cases q3 : s < e ∧ ¬ (e = s + 1 ∧ lg l s = 46)
    · have et : tkN (lg l) s e ns = ns ++ [(s, e)] := (if_neg q2).trans (if_pos q3)
      rw [et]
      rw [if_neg (fun c => q3.2 (hd1.mp c))] at ha1
      refine CL_in mL_119 rfl ?_
      show WP fb _ 119 0 [some (vR (some 129)), some (vI s), some (vI e)] [] σ _
      refine x_lr (z := some 129) T_119_0 rfl ?_
      refine x_gR (z := some 145) T_119_1 F_1_14 (hP.o xo_129) (hP.rc xo_129 rfl rfl) ?_
      refine x_li (z := s) T_119_4 rfl ?_
      refine x_li (z := e) T_119_5 rfl ?_
      refine x_ic T_119_6 ?_
      refine x_cv4 T_119_7 mN_57 mL_57 (Nat.le_of_ble_eq_true rfl) mO_57 (hP.o xo_145) (Nat.le_of_ble_eq_true rfl) (ha2) ?_
      rintro _ σ ⟨rfl, rfl⟩
      refine cI ?_
      refine x_if T_119_10 (fun _ => ?_) (fun h => absurd (show (0 : Int) = 0 by rfl) h)
      refine x_li (z := s) T_119_37 rfl ?_
      refine x_li (z := e) T_119_38 rfl ?_
      refine x_ic2 T_119_39 (fun h => absurd (show e ≤ s from h) (by omega)) (fun _ => ?_)
      refine x_lr (z := some 129) T_119_42 rfl ?_
      refine x_gR (z := some 145) T_119_43 F_1_14 (hP.o xo_129) (hP.rc xo_129 rfl rfl) ?_
      refine x_li (z := s) T_119_46 rfl ?_
      refine x_li (z := e) T_119_47 rfl ?_
      refine x_ic T_119_48 ?_
      refine x_cv4 T_119_49 mN_57 mL_57 (Nat.le_of_ble_eq_true rfl) mO_57 (hP.o xo_145) (Nat.le_of_ble_eq_true rfl) (ha1) ?_
      rintro _ σ ⟨rfl, rfl⟩
      refine cI ?_
      refine x_if T_119_52 (fun h => absurd (show ¬ (0 : Int) = 0 from h) (by decide)) (fun _ => ?_)
      refine x_lr (z := some 129) T_119_55 rfl ?_
      refine x_gI (z := nn) T_119_56 (Or.inl F_1_6) (hP.o xo_129) (Eq.trans (hP.gi xo_129 (key := 2038) rfl) hn0) ?_
      refine x_ic T_119_59 ?_
      refine x_ic2 T_119_61 (fun h => absurd (show 100 ≤ nn from h) (by omega)) (fun _ => ?_)
      refine x_lr (z := some 129) T_119_64 rfl ?_
      refine x_gR (z := some 147) T_119_65 F_1_15 (hP.o xo_129) (hP.rc xo_129 rfl rfl) ?_
      refine x_lr (z := some 129) T_119_68 rfl ?_
      refine x_gI (z := nn) T_119_69 (Or.inl F_1_6) (hP.o xo_129) (Eq.trans (hP.gi xo_129 (key := 2038) rfl) hn0) ?_
      refine x_li (z := s) T_119_72 rfl ?_
      refine z_aI hP T_119_73 h47 (by omega) (by omega) (fun σ hP => ?_)
      refine x_lr (z := some 129) T_119_74 rfl ?_
      refine x_gR (z := some 148) T_119_75 F_1_16 (hP.o xo_129) (hP.rc xo_129 rfl rfl) ?_
      refine x_lr (z := some 129) T_119_78 rfl ?_
      refine x_gI (z := nn) T_119_79 (Or.inl F_1_6) (hP.o xo_129) (Eq.trans (Eq.trans (hP.gi xo_129 (key := 2038) rfl) (rU_j (by omega))) hn0) ?_
      refine x_li (z := e) T_119_82 rfl ?_
      refine z_aI hP T_119_83 h48 (by omega) (by omega) (fun σ hP => ?_)
      refine x_lr (z := some 129) T_119_84 rfl ?_
      refine x_dupR T_119_85 ?_
      refine x_gI (z := nn) T_119_86 (Or.inl F_1_6) (hP.o xo_129) (Eq.trans (Eq.trans (hP.gi xo_129 (key := 2038) rfl) (Eq.trans (rU_j (by omega)) (rU_j (by omega)))) hn0) ?_
      refine x_ic T_119_89 ?_
      refine x_ib (w := (nn + 1)) T_119_90 (fun h => absurd h.1 (by decide)) (w32_id (by omega) (by omega)) ?_
      refine z_pI hP T_119_91 F_1_6 xo_129 (key := 2038) rfl (fun σ hP => ?_)
      refine x_rv T_119_94 ?_
      exact ⟨rfl, _, hP, hpu, NF_push (by omega)⟩
    · have et : tkN (lg l) s e ns = ns := (if_neg q2).trans (if_neg q3)
      rw [et]
      by_cases q4 : s < e
      · have q5 : e = s + 1 ∧ lg l s = 46 := Classical.not_not.mp (fun c => q3 ⟨q4, c⟩)
        rw [if_pos (hd1.mpr q5)] at ha1
        refine CL_in mL_119 rfl ?_
        show WP fb _ 119 0 [some (vR (some 129)), some (vI s), some (vI e)] [] σ _
        refine x_lr (z := some 129) T_119_0 rfl ?_
        refine x_gR (z := some 145) T_119_1 F_1_14 (hP.o xo_129) (hP.rc xo_129 rfl rfl) ?_
        refine x_li (z := s) T_119_4 rfl ?_
        refine x_li (z := e) T_119_5 rfl ?_
        refine x_ic T_119_6 ?_
        refine x_cv4 T_119_7 mN_57 mL_57 (Nat.le_of_ble_eq_true rfl) mO_57 (hP.o xo_145) (Nat.le_of_ble_eq_true rfl) (ha2) ?_
        rintro _ σ ⟨rfl, rfl⟩
        refine cI ?_
        refine x_if T_119_10 (fun _ => ?_) (fun h => absurd (show (0 : Int) = 0 by rfl) h)
        refine x_li (z := s) T_119_37 rfl ?_
        refine x_li (z := e) T_119_38 rfl ?_
        refine x_ic2 T_119_39 (fun h => absurd (show e ≤ s from h) (by omega)) (fun _ => ?_)
        refine x_lr (z := some 129) T_119_42 rfl ?_
        refine x_gR (z := some 145) T_119_43 F_1_14 (hP.o xo_129) (hP.rc xo_129 rfl rfl) ?_
        refine x_li (z := s) T_119_46 rfl ?_
        refine x_li (z := e) T_119_47 rfl ?_
        refine x_ic T_119_48 ?_
        refine x_cv4 T_119_49 mN_57 mL_57 (Nat.le_of_ble_eq_true rfl) mO_57 (hP.o xo_145) (Nat.le_of_ble_eq_true rfl) (ha1) ?_
        rintro _ σ ⟨rfl, rfl⟩
        refine cI ?_
        refine x_if T_119_52 (fun _ => ?_) (fun h => absurd (show ¬ (1 : Int) = 0 by decide) h)
        refine x_rv T_119_94 ?_
        exact ⟨rfl, W, hP, hN, NF_rfl⟩
      · skip
        refine CL_in mL_119 rfl ?_
        show WP fb _ 119 0 [some (vR (some 129)), some (vI s), some (vI e)] [] σ _
        refine x_lr (z := some 129) T_119_0 rfl ?_
        refine x_gR (z := some 145) T_119_1 F_1_14 (hP.o xo_129) (hP.rc xo_129 rfl rfl) ?_
        refine x_li (z := s) T_119_4 rfl ?_
        refine x_li (z := e) T_119_5 rfl ?_
        refine x_ic T_119_6 ?_
        refine x_cv4 T_119_7 mN_57 mL_57 (Nat.le_of_ble_eq_true rfl) mO_57 (hP.o xo_145) (Nat.le_of_ble_eq_true rfl) (ha2) ?_
        rintro _ σ ⟨rfl, rfl⟩
        refine cI ?_
        refine x_if T_119_10 (fun _ => ?_) (fun h => absurd (show (0 : Int) = 0 by rfl) h)
        refine x_li (z := s) T_119_37 rfl ?_
        refine x_li (z := e) T_119_38 rfl ?_
        refine x_ic2 T_119_39 (fun _ => ?_) (fun h => absurd (show e ≤ s by omega) h)
        refine x_rv T_119_94 ?_
        exact ⟨rfl, W, hP, hN, NF_rfl⟩
theorem seE_at : ∀ (n m : Nat) (k : Int), k + n = i → (∀ j : Int, k ≤ j → j < i → ¬ f j = 47) → i ≤ z → (i = z ∨ f i = 47) → n ≤ m → seE f z m k = i
  | 0, 0, k, h, _, _, _, _ => by show k = i; omega
  | 0, m + 1, k, h, _, _, h2, _ => by
    show (if k < z ∧ ¬ f k = 47 then seE f z m (k + 1) else k) = i
    have e : k = i := by omega
    rw [e, if_neg (fun c => by
      rcases h2 with h2 | h2
      · omega
      · exact c.2 h2)]
  | n + 1, 0, k, h, _, _, _, hm => by omega
  | n + 1, m + 1, k, h, h1, h0, h2, hm => by
    show (if k < z ∧ ¬ f k = 47 then seE f z m (k + 1) else k) = i
    rw [if_pos ⟨by omega, h1 k (Int.le_refl k) (by omega)⟩]
    exact seE_at n m (k + 1) (by omega) (fun j j0 j1 => h1 j (by omega) j1) h0 h2 (by omega)
theorem cuL_more : ∀ (M1 M2 : Nat) (k : Int) (ns : List (Int × Int)), z ≤ k + M1 → z ≤ k + M2 → cuL f z M1 k ns = cuL f z M2 k ns
  | 0, 0, _, _, _, _ => rfl
  | 0, M2 + 1, k, ns, h, _ => (if_pos (show z ≤ k by omega)).symm
  | M1 + 1, 0, k, ns, _, h => if_pos (show z ≤ k by omega)
  | M1 + 1, M2 + 1, k, ns, h1, h2 => by
    show (if z ≤ k then ns else cuL f z M1 (seE f z z.toNat k + 1) (tkN f k (seE f z z.toNat k) ns)) = (if z ≤ k then ns else cuL f z M2 (seE f z z.toNat k + 1) (tkN f k (seE f z z.toNat k) ns))
    by_cases q : z ≤ k
    · rw [if_pos q, if_pos q]
    · rw [if_neg q, if_neg q]
      have := (seE_rng (z := z) (f := f) z.toNat k).1
      exact cuL_more M1 M2 _ _ (by omega) (by omega)
theorem tkN_len : ((tkN f s e ns).length : Int) ≤ ns.length + 1 ∧ (e ≤ s → tkN f s e ns = ns) := by
  unfold tkN
  refine ⟨?_, fun h => by rw [if_neg (by omega), if_neg (by omega)]⟩
  split
  · rw [List.length_dropLast]; omega
  · split
    · rw [List.length_append]; show ((ns.length + 1 : Nat) : Int) ≤ _; omega
    · omega
/-- all names -/
theorem x_names {Post : Option AV → hM → Prop} {a1 a2 a3 : Option AV} {y4 y5 y6 : Int} (hz : (l.length : Int) = z) (hz2 : z ≤ 161) {L : List (Int × Int)} (hgo : ∀ (σ : hM) (W2 : qR) (k i : Int), PX σ0 W2 R σ → BY W2 145 161 l → NQ W2 L → NF W W2 → WP fb (d + 2) 118 249 [some (vR (some 129)), a1, a2, a3, some (vI y4), some (vI y5), some (vI y6), some (vI k), some (vI i)] [] σ Post) : ∀ (m : Nat) (i k : Int) (ns : List (Int × Int)) (W2 : qR) (σ : hM), i + m = z + 1 → 0 ≤ k → k ≤ i ∧ (i ≤ z ∨ z < k) → (∀ j : Int, k ≤ j → j < i → ¬ lg l j = 47) → 2 * (ns.length : Int) ≤ k → PX σ0 W2 R σ → BY W2 145 161 l → NQ W2 ns → NF W W2 → (∀ M : Nat, z ≤ k + M → cuL (lg l) z M k ns = L) → WP fb (d + 2) 118 191 [some (vR (some 129)), a1, a2, a3, some (vI y4), some (vI y5), some (vI y6), some (vI k), some (vI i)] [] σ Post := by
  intro m
  induction m with
  | zero =>
    intro i k ns W2 σ h1 h2 h3 h4 h5 hP hB hN hF hL
    have h1 : i + ((0 : Nat) : Int) = z + 1 := h1
    have hsz := x_size (fb := fb) (d := d + 1) hP hB hz
    have e : ns = L := by
      have := hL 0 (by omega)
      exact this
    rw [← e] at hgo
    refine x_li (z := i) T_118_191 rfl ?_
    refine x_lr (z := some 129) T_118_193 rfl ?_
    refine x_gR (z := some 145) T_118_194 F_1_14 (hP.o xo_129) (hP.rc xo_129 rfl rfl) ?_
    refine x_cv1 T_118_197 mN_28 mL_28 (Nat.le_of_ble_eq_true rfl) mO_28 (hP.o xo_145) (Nat.le_of_ble_eq_true rfl) (hsz) ?_
    rintro _ σ ⟨rfl, rfl⟩
    refine cI ?_
    refine x_ic2 T_118_200 (fun _ => ?_) (fun h => absurd (show z < i by omega) h)
    exact hgo σ W2 k i hP hB hN hF
  | succ m ih =>
    intro i k ns W2 σ h1 h2 h3 h4 h5 hP hB hN hF hL
    have h1 : i + ((m + 1 : Nat) : Int) = z + 1 := h1
    have hsz := x_size (fb := fb) (d := d + 1) hP hB hz
    have hat := x_at (fb := fb) (d := d + 1) (i := i) hP hB
    have htk := x_takeName (fb := fb) (d := d) (s := k) (e := i) hP hB ⟨h2, h3.1, by omega⟩ hN (by omega)
    have hend : (i = z ∨ lg l i = 47) → ∀ (σ : hM) (W3 : qR), PX σ0 W3 R σ → NQ W3 (tkN (lg l) k i ns) → NF W2 W3 → WP fb (d + 2) 118 191 [some (vR (some 129)), a1, a2, a3, some (vI y4), some (vI y5), some (vI y6), some (vI (i + 1)), some (vI (i + 1))] [] σ Post := fun hi σ W3 hP hN3 hF3 => by
      obtain ⟨t1, t2⟩ := tkN_len (f := lg l) (s := k) (e := i) (ns := ns)
      refine ih (i + 1) (i + 1) _ W3 σ (by omega) (by omega) (by omega) (fun j a b => by omega) ?_ hP (hF3.by hB (by decide)) hN3 (NF_tr hF hF3) (fun M hM => ?_)
      · by_cases q : k < i
        · omega
        · rw [t2 (by omega)]; omega
      · by_cases q : z ≤ k
        · have e0 := hL 0 (by omega)
          rw [t2 (by omega), ← e0]
          cases M with
          | zero => rfl
          | succ M => exact if_pos (by omega)
        · have e0 := hL (z.toNat + 1) (by omega)
          rw [cuL_more M z.toNat (i + 1) (tkN (lg l) k i ns) hM (by omega)]
          have hse : seE (lg l) z z.toNat k = i := seE_at (i - k).toNat z.toNat k (by omega) h4 (by omega) hi (by omega)
          have e1 : cuL (lg l) z (z.toNat + 1) k ns = cuL (lg l) z z.toNat (i + 1) (tkN (lg l) k i ns) := by
            rw [show cuL (lg l) z (z.toNat + 1) k ns = if z ≤ k then ns else cuL (lg l) z z.toNat (seE (lg l) z z.toNat k + 1) (tkN (lg l) k (seE (lg l) z z.toNat k) ns) from rfl, if_neg q, hse]
          rw [← e1, e0]
    by_cases q : i = z
    · have hg := hend (Or.inl q)
      refine x_li (z := i) T_118_191 rfl ?_
      refine x_lr (z := some 129) T_118_193 rfl ?_
      refine x_gR (z := some 145) T_118_194 F_1_14 (hP.o xo_129) (hP.rc xo_129 rfl rfl) ?_
      refine x_cv1 T_118_197 mN_28 mL_28 (Nat.le_of_ble_eq_true rfl) mO_28 (hP.o xo_145) (Nat.le_of_ble_eq_true rfl) (hsz) ?_
      rintro _ σ ⟨rfl, rfl⟩
      refine cI ?_
      refine x_ic2 T_118_200 (fun h => absurd (show z < i from h) (by omega)) (fun _ => ?_)
      refine x_li (z := i) T_118_203 rfl ?_
      refine x_lr (z := some 129) T_118_205 rfl ?_
      refine x_gR (z := some 145) T_118_206 F_1_14 (hP.o xo_129) (hP.rc xo_129 rfl rfl) ?_
      refine x_cv1 T_118_209 mN_28 mL_28 (Nat.le_of_ble_eq_true rfl) mO_28 (hP.o xo_145) (Nat.le_of_ble_eq_true rfl) (hsz) ?_
      rintro _ σ ⟨rfl, rfl⟩
      refine cI ?_
      refine x_ic2 T_118_212 (fun _ => ?_) (fun h => absurd (show i = z by omega) h)
      refine x_lr (z := some 129) T_118_229 rfl ?_
      refine x_li (z := k) T_118_230 rfl ?_
      refine x_li (z := i) T_118_232 rfl ?_
      refine x_cv3 T_118_234 mN_119 mL_119 (Nat.le_of_ble_eq_true rfl) mO_119 (hP.o xo_129) (Nat.le_of_ble_eq_true rfl) (htk) ?_
      clear hP htk
      rintro _ σ ⟨rfl, W3, hP, hN3, hF3⟩
      refine cV ?_
      refine x_li (z := i) T_118_237 rfl ?_
      refine x_ic T_118_239 ?_
      refine x_ib (w := (i + 1)) T_118_240 (fun h => absurd h.1 (by decide)) (w32_id (by omega) (by omega)) ?_
      refine x_si (ls1 := [some (vR (some 129)), a1, a2, a3, some (vI y4), some (vI y5), some (vI y6), some (vI (i + 1)), some (vI i)]) T_118_241 rfl ?_
      refine x_inc (w := (i + 1)) (ls1 := [some (vR (some 129)), a1, a2, a3, some (vI y4), some (vI y5), some (vI y6), some (vI (i + 1)), some (vI (i + 1))]) T_118_243 rfl (w32_id (by omega) (by omega)) rfl ?_
      refine x_goto T_118_246 ?_
      exact hg σ W3 hP hN3 hF3
    · rw [if_pos ⟨by omega, by omega⟩] at hat
      by_cases q2 : lg l i = 47
      · have hg := hend (Or.inr q2)
        refine x_li (z := i) T_118_191 rfl ?_
        refine x_lr (z := some 129) T_118_193 rfl ?_
        refine x_gR (z := some 145) T_118_194 F_1_14 (hP.o xo_129) (hP.rc xo_129 rfl rfl) ?_
        refine x_cv1 T_118_197 mN_28 mL_28 (Nat.le_of_ble_eq_true rfl) mO_28 (hP.o xo_145) (Nat.le_of_ble_eq_true rfl) (hsz) ?_
        rintro _ σ ⟨rfl, rfl⟩
        refine cI ?_
        refine x_ic2 T_118_200 (fun h => absurd (show z < i from h) (by omega)) (fun _ => ?_)
        refine x_li (z := i) T_118_203 rfl ?_
        refine x_lr (z := some 129) T_118_205 rfl ?_
        refine x_gR (z := some 145) T_118_206 F_1_14 (hP.o xo_129) (hP.rc xo_129 rfl rfl) ?_
        refine x_cv1 T_118_209 mN_28 mL_28 (Nat.le_of_ble_eq_true rfl) mO_28 (hP.o xo_145) (Nat.le_of_ble_eq_true rfl) (hsz) ?_
        rintro _ σ ⟨rfl, rfl⟩
        refine cI ?_
        refine x_ic2 T_118_212 (fun h => absurd (show i = z from h) (by omega)) (fun _ => ?_)
        refine x_lr (z := some 129) T_118_215 rfl ?_
        refine x_gR (z := some 145) T_118_216 F_1_14 (hP.o xo_129) (hP.rc xo_129 rfl rfl) ?_
        refine x_li (z := i) T_118_219 rfl ?_
        refine x_cv2 T_118_221 mN_33 mL_33 (Nat.le_of_ble_eq_true rfl) mO_33 (hP.o xo_145) (Nat.le_of_ble_eq_true rfl) (hat) ?_
        rintro _ σ ⟨rfl, rfl⟩
        refine cI ?_
        refine x_ic T_118_224 ?_
        refine x_ic2 T_118_226 (fun h => absurd (show ¬ (lg l i) = 47 from h) (by omega)) (fun _ => ?_)
        refine x_lr (z := some 129) T_118_229 rfl ?_
        refine x_li (z := k) T_118_230 rfl ?_
        refine x_li (z := i) T_118_232 rfl ?_
        refine x_cv3 T_118_234 mN_119 mL_119 (Nat.le_of_ble_eq_true rfl) mO_119 (hP.o xo_129) (Nat.le_of_ble_eq_true rfl) (htk) ?_
        clear hP htk
        rintro _ σ ⟨rfl, W3, hP, hN3, hF3⟩
        refine cV ?_
        refine x_li (z := i) T_118_237 rfl ?_
        refine x_ic T_118_239 ?_
        refine x_ib (w := (i + 1)) T_118_240 (fun h => absurd h.1 (by decide)) (w32_id (by omega) (by omega)) ?_
        refine x_si (ls1 := [some (vR (some 129)), a1, a2, a3, some (vI y4), some (vI y5), some (vI y6), some (vI (i + 1)), some (vI i)]) T_118_241 rfl ?_
        refine x_inc (w := (i + 1)) (ls1 := [some (vR (some 129)), a1, a2, a3, some (vI y4), some (vI y5), some (vI y6), some (vI (i + 1)), some (vI (i + 1))]) T_118_243 rfl (w32_id (by omega) (by omega)) rfl ?_
        refine x_goto T_118_246 ?_
        exact hg σ W3 hP hN3 hF3
      · have hg := ih (i + 1) k ns W2 σ (by omega) h2 (by omega) (fun j a b => by
          by_cases qj : j = i
          · rw [qj]; exact q2
          · exact h4 j a (by omega)) h5 hP hB hN hF hL
        refine x_li (z := i) T_118_191 rfl ?_
        refine x_lr (z := some 129) T_118_193 rfl ?_
        refine x_gR (z := some 145) T_118_194 F_1_14 (hP.o xo_129) (hP.rc xo_129 rfl rfl) ?_
        refine x_cv1 T_118_197 mN_28 mL_28 (Nat.le_of_ble_eq_true rfl) mO_28 (hP.o xo_145) (Nat.le_of_ble_eq_true rfl) (hsz) ?_
        rintro _ σ ⟨rfl, rfl⟩
        refine cI ?_
        refine x_ic2 T_118_200 (fun h => absurd (show z < i from h) (by omega)) (fun _ => ?_)
        refine x_li (z := i) T_118_203 rfl ?_
        refine x_lr (z := some 129) T_118_205 rfl ?_
        refine x_gR (z := some 145) T_118_206 F_1_14 (hP.o xo_129) (hP.rc xo_129 rfl rfl) ?_
        refine x_cv1 T_118_209 mN_28 mL_28 (Nat.le_of_ble_eq_true rfl) mO_28 (hP.o xo_145) (Nat.le_of_ble_eq_true rfl) (hsz) ?_
        rintro _ σ ⟨rfl, rfl⟩
        refine cI ?_
        refine x_ic2 T_118_212 (fun h => absurd (show i = z from h) (by omega)) (fun _ => ?_)
        refine x_lr (z := some 129) T_118_215 rfl ?_
        refine x_gR (z := some 145) T_118_216 F_1_14 (hP.o xo_129) (hP.rc xo_129 rfl rfl) ?_
        refine x_li (z := i) T_118_219 rfl ?_
        refine x_cv2 T_118_221 mN_33 mL_33 (Nat.le_of_ble_eq_true rfl) mO_33 (hP.o xo_145) (Nat.le_of_ble_eq_true rfl) (hat) ?_
        rintro _ σ ⟨rfl, rfl⟩
        refine cI ?_
        refine x_ic T_118_224 ?_
        refine x_ic2 T_118_226 (fun _ => ?_) (fun h => absurd (show ¬ (lg l i) = 47 by omega) h)
        refine x_inc (w := (i + 1)) (ls1 := [some (vR (some 129)), a1, a2, a3, some (vI y4), some (vI y5), some (vI y6), some (vI k), some (vI (i + 1))]) T_118_243 rfl (w32_id (by omega) (by omega)) rfl ?_
        refine x_goto T_118_246 ?_
        exact hg
end XPTH
