/-! A path's names, its plain form. -/
theorem T_330_0 : hTab 330 0 = some ((3, 0, 2, []), 1) := rfl
theorem T_330_1 : hTab 330 1 = some ((0, 0, 0, []), 2) := rfl
theorem T_330_2 : hTab 330 2 = some ((25, 17, Int.ofNat 83, []), 5) := rfl
theorem T_330_5 : hTab 330 5 = some ((3, 1, 0, []), 6) := rfl
theorem T_330_6 : hTab 330 6 = some ((4, 2, 0, []), 7) := rfl
theorem T_330_7 : hTab 330 7 = some ((3, 2, 0, []), 8) := rfl
theorem T_330_8 : hTab 330 8 = some ((3, 0, 2, []), 9) := rfl
theorem T_330_9 : hTab 330 9 = some ((24, 17, Int.ofNat 79, []), 12) := rfl
theorem T_330_12 : hTab 330 12 = some ((19, 3, Int.ofNat 181, []), 15) := rfl
theorem T_330_15 : hTab 330 15 = some ((3, 2, 0, []), 16) := rfl
theorem T_330_16 : hTab 330 16 = some ((4, 3, 0, []), 17) := rfl
theorem T_330_42 : hTab 330 42 = some ((3, 3, 0, []), 43) := rfl
theorem T_330_43 : hTab 330 43 = some ((3, 2, 0, []), 44) := rfl
theorem T_330_44 : hTab 330 44 = some ((0, 0, 1, []), 45) := rfl
theorem T_330_45 : hTab 330 45 = some ((10, 0, 0, []), 46) := rfl
theorem T_330_46 : hTab 330 46 = some ((19, 1, Int.ofNat 64, []), 49) := rfl
theorem T_330_49 : hTab 330 49 = some ((3, 0, 2, []), 50) := rfl
theorem T_330_50 : hTab 330 50 = some ((24, 17, Int.ofNat 78, []), 53) := rfl
theorem T_330_53 : hTab 330 53 = some ((3, 2, 0, []), 54) := rfl
theorem T_330_54 : hTab 330 54 = some ((26, 0, 0, []), 55) := rfl
theorem T_330_55 : hTab 330 55 = some ((0, 0, 46, []), 57) := rfl
theorem T_330_57 : hTab 330 57 = some ((19, 1, Int.ofNat 64, []), 60) := rfl
theorem T_330_60 : hTab 330 60 = some ((0, 0, 1, []), 61) := rfl
theorem T_330_61 : hTab 330 61 = some ((22, 0, Int.ofNat 65, []), 64) := rfl
theorem T_330_64 : hTab 330 64 = some ((0, 0, 0, []), 65) := rfl
theorem T_330_65 : hTab 330 65 = some ((4, 4, 0, []), 67) := rfl
theorem T_330_67 : hTab 330 67 = some ((3, 3, 0, []), 68) := rfl
theorem T_330_68 : hTab 330 68 = some ((3, 2, 0, []), 69) := rfl
theorem T_330_69 : hTab 330 69 = some ((0, 0, 2, []), 70) := rfl
theorem T_330_70 : hTab 330 70 = some ((10, 0, 0, []), 71) := rfl
theorem T_330_71 : hTab 330 71 = some ((19, 1, Int.ofNat 102, []), 74) := rfl
theorem T_330_74 : hTab 330 74 = some ((3, 0, 2, []), 75) := rfl
theorem T_330_75 : hTab 330 75 = some ((24, 17, Int.ofNat 78, []), 78) := rfl
theorem T_330_78 : hTab 330 78 = some ((3, 2, 0, []), 79) := rfl
theorem T_330_79 : hTab 330 79 = some ((26, 0, 0, []), 80) := rfl
theorem T_330_80 : hTab 330 80 = some ((0, 0, 46, []), 82) := rfl
theorem T_330_82 : hTab 330 82 = some ((19, 1, Int.ofNat 102, []), 85) := rfl
theorem T_330_85 : hTab 330 85 = some ((3, 0, 2, []), 86) := rfl
theorem T_330_86 : hTab 330 86 = some ((24, 17, Int.ofNat 78, []), 89) := rfl
theorem T_330_89 : hTab 330 89 = some ((3, 2, 0, []), 90) := rfl
theorem T_330_90 : hTab 330 90 = some ((0, 0, 1, []), 91) := rfl
theorem T_330_91 : hTab 330 91 = some ((10, 0, 0, []), 92) := rfl
theorem T_330_92 : hTab 330 92 = some ((26, 0, 0, []), 93) := rfl
theorem T_330_93 : hTab 330 93 = some ((0, 0, 46, []), 95) := rfl
theorem T_330_95 : hTab 330 95 = some ((19, 1, Int.ofNat 102, []), 98) := rfl
theorem T_330_98 : hTab 330 98 = some ((0, 0, 1, []), 99) := rfl
theorem T_330_99 : hTab 330 99 = some ((22, 0, Int.ofNat 103, []), 102) := rfl
theorem T_330_102 : hTab 330 102 = some ((0, 0, 0, []), 103) := rfl
theorem T_330_103 : hTab 330 103 = some ((4, 5, 0, []), 105) := rfl
theorem T_330_105 : hTab 330 105 = some ((3, 5, 0, []), 107) := rfl
theorem T_330_107 : hTab 330 107 = some ((18, 0, Int.ofNat 134, []), 110) := rfl
theorem T_330_110 : hTab 330 110 = some ((3, 0, 2, []), 111) := rfl
theorem T_330_111 : hTab 330 111 = some ((3, 0, 2, []), 112) := rfl
theorem T_330_112 : hTab 330 112 = some ((24, 17, Int.ofNat 83, []), 115) := rfl
theorem T_330_115 : hTab 330 115 = some ((18, 5, Int.ofNat 127, []), 118) := rfl
theorem T_330_118 : hTab 330 118 = some ((3, 0, 2, []), 119) := rfl
theorem T_330_119 : hTab 330 119 = some ((24, 17, Int.ofNat 83, []), 122) := rfl
theorem T_330_122 : hTab 330 122 = some ((0, 0, 1, []), 123) := rfl
theorem T_330_123 : hTab 330 123 = some ((10, 1, 0, []), 124) := rfl
theorem T_330_124 : hTab 330 124 = some ((22, 0, Int.ofNat 128, []), 127) := rfl
theorem T_330_127 : hTab 330 127 = some ((0, 0, 0, []), 128) := rfl
theorem T_330_128 : hTab 330 128 = some ((25, 17, Int.ofNat 83, []), 131) := rfl
theorem T_330_131 : hTab 330 131 = some ((22, 0, Int.ofNat 174, []), 134) := rfl
theorem T_330_134 : hTab 330 134 = some ((3, 3, 0, []), 135) := rfl
theorem T_330_135 : hTab 330 135 = some ((3, 2, 0, []), 136) := rfl
theorem T_330_136 : hTab 330 136 = some ((19, 5, Int.ofNat 174, []), 139) := rfl
theorem T_330_139 : hTab 330 139 = some ((3, 4, 0, []), 141) := rfl
theorem T_330_141 : hTab 330 141 = some ((18, 1, Int.ofNat 174, []), 144) := rfl
theorem T_330_144 : hTab 330 144 = some ((3, 0, 2, []), 145) := rfl
theorem T_330_145 : hTab 330 145 = some ((24, 17, Int.ofNat 81, []), 148) := rfl
theorem T_330_148 : hTab 330 148 = some ((3, 0, 2, []), 149) := rfl
theorem T_330_149 : hTab 330 149 = some ((24, 17, Int.ofNat 83, []), 152) := rfl
theorem T_330_152 : hTab 330 152 = some ((3, 2, 0, []), 153) := rfl
theorem T_330_153 : hTab 330 153 = some ((27, 0, 0, []), 154) := rfl
theorem T_330_154 : hTab 330 154 = some ((3, 0, 2, []), 155) := rfl
theorem T_330_155 : hTab 330 155 = some ((24, 17, Int.ofNat 82, []), 158) := rfl
theorem T_330_158 : hTab 330 158 = some ((3, 0, 2, []), 159) := rfl
theorem T_330_159 : hTab 330 159 = some ((24, 17, Int.ofNat 83, []), 162) := rfl
theorem T_330_162 : hTab 330 162 = some ((3, 3, 0, []), 163) := rfl
theorem T_330_163 : hTab 330 163 = some ((27, 0, 0, []), 164) := rfl
theorem T_330_164 : hTab 330 164 = some ((3, 0, 2, []), 165) := rfl
theorem T_330_165 : hTab 330 165 = some ((6, 0, 0, []), 166) := rfl
theorem T_330_166 : hTab 330 166 = some ((24, 17, Int.ofNat 83, []), 169) := rfl
theorem T_330_169 : hTab 330 169 = some ((0, 0, 1, []), 170) := rfl
theorem T_330_170 : hTab 330 170 = some ((10, 0, 0, []), 171) := rfl
theorem T_330_171 : hTab 330 171 = some ((25, 17, Int.ofNat 83, []), 174) := rfl
theorem T_330_174 : hTab 330 174 = some ((3, 3, 0, []), 175) := rfl
theorem T_330_175 : hTab 330 175 = some ((0, 0, 1, []), 176) := rfl
theorem T_330_176 : hTab 330 176 = some ((10, 0, 0, []), 177) := rfl
theorem T_330_177 : hTab 330 177 = some ((4, 2, 0, []), 178) := rfl
theorem T_330_178 : hTab 330 178 = some ((22, 0, Int.ofNat 7, []), 181) := rfl
theorem T_330_181 : hTab 330 181 = some ((33, 0, 0, []), 182) := rfl
theorem T_331_15 : hTab 331 15 = some ((3, 3, 0, []), 16) := rfl
theorem T_331_16 : hTab 331 16 = some ((3, 0, 2, []), 17) := rfl
theorem T_331_17 : hTab 331 17 = some ((24, 17, Int.ofNat 83, []), 20) := rfl
theorem T_331_20 : hTab 331 20 = some ((19, 3, Int.ofNat 47, []), 23) := rfl
theorem T_331_23 : hTab 331 23 = some ((3, 2, 0, []), 24) := rfl
theorem T_331_24 : hTab 331 24 = some ((0, 0, 1, []), 25) := rfl
theorem T_331_25 : hTab 331 25 = some ((3, 0, 2, []), 26) := rfl
theorem T_331_26 : hTab 331 26 = some ((24, 17, Int.ofNat 82, []), 29) := rfl
theorem T_331_29 : hTab 331 29 = some ((3, 3, 0, []), 30) := rfl
theorem T_331_30 : hTab 331 30 = some ((26, 0, 0, []), 31) := rfl
theorem T_331_31 : hTab 331 31 = some ((10, 0, 0, []), 32) := rfl
theorem T_331_32 : hTab 331 32 = some ((3, 0, 2, []), 33) := rfl
theorem T_331_33 : hTab 331 33 = some ((24, 17, Int.ofNat 81, []), 36) := rfl
theorem T_331_36 : hTab 331 36 = some ((3, 3, 0, []), 37) := rfl
theorem T_331_37 : hTab 331 37 = some ((26, 0, 0, []), 38) := rfl
theorem T_331_38 : hTab 331 38 = some ((10, 1, 0, []), 39) := rfl
theorem T_331_39 : hTab 331 39 = some ((10, 0, 0, []), 40) := rfl
theorem T_331_40 : hTab 331 40 = some ((4, 2, 0, []), 41) := rfl
theorem T_331_41 : hTab 331 41 = some ((5, 3, 1, []), 44) := rfl
theorem T_331_44 : hTab 331 44 = some ((22, 0, Int.ofNat 15, []), 47) := rfl
theorem F_17_83 : (hFd 17 83).2.2.1 = 0 := rfl
theorem mN_331 : hmN 331 = 2 := by decide +kernel
theorem mL_331 : hmL 331 = 5 := by decide +kernel
theorem mK_331 : hmK 331 = 1 := by decide +kernel
theorem mO_331 : hmO 331 = 17 := by decide +kernel
def plF (f : Int → Int) : List (Int × Int) → List Int
  | [] => []
  | x :: r => 47 :: (seg f x.1 (x.2 - x.1).toNat ++ plF f r)
/-- names as they should be -/
def NV (z : Int) (ns : List (Int × Int)) : Prop := ∀ i : Nat, i < ns.length → 0 ≤ (ns.getD i (0, 0)).1 ∧ (ns.getD i (0, 0)).1 ≤ (ns.getD i (0, 0)).2 ∧ (ns.getD i (0, 0)).2 ≤ z
/-- rows of names from one on -/
def NR (S : qR) (j : Int) (r : List (Int × Int)) : Prop := ∀ i : Nat, i < r.length → S 2347 (j + i) = (r.getD i (0, 0)).1 ∧ S 2348 (j + i) = (r.getD i (0, 0)).2
section MPATH2
variable {fb : Bool} {d : Nat} {σ0 σ : hM} {P Q R S S1 S2 : qR} {T U s w g u p k e t z : Int} {l nm : List Int} {h : List Ch} {a f : Int → Int} {rows : List Nat} {sc : List Int} {ns : List (Int × Int)} {x : Int × Int}
theorem gD1 {i : Nat} (hi : i < ns.length) : (ns ++ [x]).getD i (0, 0) = ns.getD i (0, 0) := by
  rw [List.getD_eq_getElem?_getD, List.getD_eq_getElem?_getD, List.getElem?_append_left hi]
theorem gD2 : (ns ++ [x]).getD ns.length (0, 0) = x := by
  rw [List.getD_eq_getElem?_getD, List.getElem?_append_right (Nat.le_refl _), Nat.sub_self]
  rfl
theorem gD3 {i : Nat} (hi : i < ns.dropLast.length) : ns.dropLast.getD i (0, 0) = ns.getD i (0, 0) := by
  have h2 : i < ns.length - 1 := by rw [List.length_dropLast] at hi; exact hi
  rw [List.getD_eq_getElem?_getD, List.getD_eq_getElem?_getD, List.getElem?_eq_getElem hi, List.getElem?_eq_getElem (show i < ns.length by omega), List.getElem_dropLast]
theorem NMS.push {b : Int} (hN : NMS S ns) : NMS (rU (rU (rU S 2347 (ns.length : Int) k) 2348 (ns.length : Int) b) 2281 83 ((ns.length : Int) + 1)) (ns ++ [(k, b)]) := by
  refine ⟨by rw [rU_s, List.length_append]; rfl, fun i hi => ?_⟩
  rw [List.length_append] at hi
  have hi : i < ns.length + 1 := hi
  by_cases q : i = ns.length
  · subst q
    rw [gD2]
    refine ⟨?_, ?_⟩
    · rw [rU_f (by decide), rU_f (by decide), rU_s]
    · rw [rU_f (by decide), rU_s]
  · have g := hN.2 i (by omega)
    rw [gD1 (by omega)]
    refine ⟨?_, ?_⟩
    · rw [rU_f (by decide), rU_f (by decide), rU_k (by omega)]
      exact g.1
    · rw [rU_f (by decide), rU_k (by omega), rU_f (by decide)]
      exact g.2
theorem NMS.pop (hN : NMS S ns) {v : Int} (hv : v = if 0 < (ns.length : Int) then (ns.length : Int) - 1 else 0) : NMS (rU S 2281 83 v) ns.dropLast := by
  refine ⟨?_, fun i hi => ?_⟩
  · rw [rU_s, hv, List.length_dropLast]
    split <;> omega
  · rw [gD3 hi, rU_f (by decide), rU_f (by decide)]
    exact hN.2 i (by rw [List.length_dropLast] at hi; omega)
theorem NMS.of (hN : NMS S ns) (h1 : S1 2281 83 = S 2281 83) (h2 : ∀ i, S1 2347 i = S 2347 i) (h3 : ∀ i, S1 2348 i = S 2348 i) : NMS S1 ns := ⟨h1.trans hN.1, fun i hi => by rw [h2, h3]; exact hN.2 i hi⟩
theorem NV.push (hV : NV z ns) (hx : 0 ≤ x.1 ∧ x.1 ≤ x.2 ∧ x.2 ≤ z) : NV z (ns ++ [x]) := fun i hi => by
  rw [List.length_append] at hi
  have hi : i < ns.length + 1 := hi
  by_cases q : i = ns.length
  · subst q
    rw [gD2]
    exact hx
  · rw [gD1 (by omega)]
    exact hV i (by omega)
theorem NV.pop (hV : NV z ns) : NV z ns.dropLast := fun i hi => by
  rw [gD3 hi]
  exact hV i (by rw [List.length_dropLast] at hi; omega)
theorem cuL_ok {f : Int → Int} : ∀ (m : Nat) (k : Int) (ns : List (Int × Int)), 0 ≤ k → NV z ns → 2 * (ns.length : Int) ≤ k → k ≤ z + 1 → NV z (cuL f z m k ns) ∧ 2 * ((cuL f z m k ns).length : Int) ≤ z + 1
  | 0, k, ns, h0, hV, h1, h2 => ⟨hV, by show 2 * (ns.length : Int) ≤ z + 1; omega⟩
  | m + 1, k, ns, h0, hV, h1, h2 => by
    unfold cuL
    split
    · exact ⟨hV, by omega⟩
    · rename_i q
      have he := seE_rng (f := f) (z := z) z.toNat k
      split
      · exact cuL_ok m _ _ (by omega) hV.pop (by rw [List.length_dropLast]; omega) (by omega)
      · split
        · rename_i q3
          refine cuL_ok m _ _ (by omega) (hV.push ⟨h0, by show k ≤ seE f z z.toNat k; omega, by show seE f z z.toNat k ≤ z; omega⟩) ?_ (by omega)
          rw [List.length_append]
          show 2 * ((ns.length + 1 : Nat) : Int) ≤ _
          have : k + 1 ≤ seE f z z.toNat k := by omega
          omega
        · exact cuL_ok m _ _ (by omega) hV (by omega) (by omega)
theorem m_cut_loop {b : Int} (hz : (l.length : Int) = z) : ∀ (m : Nat) (k : Int) (ns : List (Int × Int)) (S1 : qR) (σ : hM) (l3 l4 l5 : Option AV), z ≤ k + m → 1 ≤ k → k ≤ z + 1 → 2 * (ns.length : Int) ≤ k → NV z ns → PM σ0 P S1 σ → IV true T U S1 → SX [2347, 2348] [83] S S1 → RAWS S1 l → NMS S1 ns → WP fb d 330 7 [some (vR (some 2281)), some (vI b), some (vI k), l3, l4, l5] [] σ (fun r σ' => ∃ S2, r = none ∧ PM σ0 P S2 σ' ∧ IV true T U S2 ∧ SX [2347, 2348] [83] S S2 ∧ RAWS S2 l ∧ NMS S2 (cuL (lg l) z m k ns)) := by
  intro m
  induction m with
  | zero =>
    intro k ns S1 σ l3 l4 l5 h1 h2 h3 h4 hV hP hJ hX hR hN
    have h79 := hR.1.trans hz
    refine x_li (z := k) T_330_7 rfl ?_
    refine x_lr (z := some 2281) T_330_8 rfl ?_
    refine x_gI (z := S1 2281 79) T_330_9 (Or.inl F_17_79) (PM.t hP) (PM.nS hP 2281 79 79 rfl rfl rfl) ?_
    refine x_ic2 T_330_12 (fun _ => ?_) (fun h => absurd (show S1 2281 79 ≤ k by omega) h)
    refine x_rv T_330_181 ?_
    exact ⟨S1, rfl, hP, hJ, hX, hR, hN⟩
  | succ m ih =>
    intro k ns S1 σ l3 l4 l5 h1 h2 h3 h4 hV hP hJ hX hR hN
    have h79 := hR.1.trans hz
    obtain ⟨n, hn⟩ : ∃ n : Int, (ns.length : Int) = n := ⟨_, rfl⟩
    have h83 := hN.1.trans hn
    have hl := hR.2.1
    by_cases q : z ≤ k
    · rw [show cuL (lg l) z (m + 1) k ns = ns from if_pos q]
      refine x_li (z := k) T_330_7 rfl ?_
      refine x_lr (z := some 2281) T_330_8 rfl ?_
      refine x_gI (z := S1 2281 79) T_330_9 (Or.inl F_17_79) (PM.t hP) (PM.nS hP 2281 79 79 rfl rfl rfl) ?_
      refine x_ic2 T_330_12 (fun _ => ?_) (fun h => absurd (show S1 2281 79 ≤ k by omega) h)
      refine x_rv T_330_181 ?_
      exact ⟨S1, rfl, hP, hJ, hX, hR, hN⟩
    · obtain ⟨e, he⟩ : ∃ e, seE (lg l) z z.toNat k = e := ⟨_, rfl⟩
      have her := seE_rng (f := lg l) (z := z) z.toNat k
      rw [he] at her
      rw [show cuL (lg l) z (m + 1) k ns = cuL (lg l) z m (e + 1) (if e = k + 2 ∧ lg l k = 46 ∧ lg l (k + 1) = 46 then ns.dropLast else if k < e ∧ ¬ (e = k + 1 ∧ lg l k = 46) then ns ++ [(k, e)] else ns) by rw [← he]; exact if_neg q]
      have hx := hR.2.2.2 k (by omega) (by omega)
      refine x_li (z := k) T_330_7 rfl ?_
      refine x_lr (z := some 2281) T_330_8 rfl ?_
      refine x_gI (z := S1 2281 79) T_330_9 (Or.inl F_17_79) (PM.t hP) (PM.nS hP 2281 79 79 rfl rfl rfl) ?_
      refine x_ic2 T_330_12 (fun h => absurd (show S1 2281 79 ≤ k from h) (by omega)) (fun _ => ?_)
      refine x_li (z := k) T_330_15 rfl ?_
      refine x_si (ls1 := [some (vR (some 2281)), some (vI b), some (vI k), some (vI k), l4, l5]) T_330_16 rfl ?_
      refine m_cut_end hR hP hz ?_ ⟨by omega, by omega⟩ (z - k).toNat k (by omega) (Int.le_refl k) (seE_more _ _ k (by omega) (by omega))
      rw [he]
      refine x_cut (C := e = k + 1 ∧ lg l k = 46) (J := 65) (ls1 := [some (vR (some 2281)), some (vI b), some (vI k), some (vI e), l4, l5]) (sk := fun z => vI z :: []) (fun z65 hz65 => ?_) (fun kJ65 => ?_)
      · refine x_si (ls1 := [some (vR (some 2281)), some (vI b), some (vI k), some (vI e), some (vI z65), l5]) T_330_65 rfl ?_
        refine x_cut (C := e = k + 2 ∧ lg l k = 46 ∧ lg l (k + 1) = 46) (J := 103) (ls1 := [some (vR (some 2281)), some (vI b), some (vI k), some (vI e), some (vI z65), l5]) (sk := fun z => vI z :: []) (fun z103 hz103 => ?_) (fun kJ103 => ?_)
        · refine x_si (ls1 := [some (vR (some 2281)), some (vI b), some (vI k), some (vI e), some (vI z65), some (vI z103)]) T_330_103 rfl ?_
          refine x_li (z := z103) T_330_105 rfl ?_
          refine x_if T_330_107 (fun h107 => ?_) (fun h107 => ?_)
          · replace h107 : ¬ (e = k + 2 ∧ lg l k = 46 ∧ lg l (k + 1) = 46) := ite1_z (hz103.symm.trans h107)
            refine x_li (z := e) T_330_134 rfl ?_
            refine x_li (z := k) T_330_135 rfl ?_
            refine x_ic2 T_330_136 (fun h136 => ?_) (fun h136 => ?_)
            · replace h136 : e ≤ k := h136
              refine x_li (z := e) T_330_174 rfl ?_
              refine x_ic T_330_175 ?_
              refine x_ib (w := (e + 1)) T_330_176 (fun h => absurd h.1 (by decide)) (w32_id (by omega) (by omega)) ?_
              refine x_si (ls1 := [some (vR (some 2281)), some (vI b), some (vI (e + 1)), some (vI e), some (vI z65), some (vI z103)]) T_330_177 rfl ?_
              refine x_goto T_330_178 ?_
              first
                | (rw [if_pos h107]; exact ih (e + 1) _ _ σ _ _ _ (by omega) (by omega) (by omega) (by rw [List.length_dropLast]; omega) hV.pop hP (hJ.uN 83 83 rfl (by show (0 : Int) ≤ _ ∧ _ ≤ (110 : Int); omega)) (SX_un hX rfl) (hR.of (rU_k (by decide)) (fun _ => rU_f (by decide))) (hN.pop (by first | (rw [if_neg (by omega)]) | (rw [if_pos (by omega)]; omega))))
                | (rw [if_neg h107, if_neg (by omega)]; exact ih (e + 1) _ _ σ _ _ _ (by omega) (by omega) (by omega) (by omega) hV hP hJ hX hR hN)
                | (rw [if_neg h107, if_neg (fun c => c.2 h141)]; exact ih (e + 1) _ _ σ _ _ _ (by omega) (by omega) (by omega) (by omega) hV hP hJ hX hR hN)
                | (rw [if_neg h107, if_pos ⟨by omega, h141⟩]; exact ih (e + 1) _ _ σ _ _ _ (by omega) (by omega) (by omega) (by rw [List.length_append]; show 2 * ((ns.length + 1 : Nat) : Int) ≤ e + 1; omega) (hV.push ⟨by omega, by show k ≤ e; omega, by show e ≤ z; omega⟩) hP (((hJ.uA 2347 rfl (by show (0 : Int) ≤ k ∧ k ≤ 200; omega)).uA 2348 rfl (by show (0 : Int) ≤ e ∧ e ≤ 200; omega)).uN 83 83 rfl (by show (0 : Int) ≤ n + 1 ∧ n + 1 ≤ 110; omega)) (SX_un (SX_up (SX_up hX rfl rfl) rfl rfl) rfl) (hR.of ((rU_k (by decide)).trans ((rU_f (by decide)).trans (rU_f (by decide)))) (fun _ => (rU_f (by decide)).trans ((rU_f (by decide)).trans (rU_f (by decide))))) (by rw [← hn]; exact hN.push))
            · replace h136 : ¬ (e ≤ k) := h136
              refine x_li (z := z65) T_330_139 rfl ?_
              refine x_if T_330_141 (fun h141 => ?_) (fun h141 => ?_)
              · replace h141 : (e = k + 1 ∧ lg l k = 46) := ite1_n (fun e => h141 (hz65.trans e))
                refine x_li (z := e) T_330_174 rfl ?_
                refine x_ic T_330_175 ?_
                refine x_ib (w := (e + 1)) T_330_176 (fun h => absurd h.1 (by decide)) (w32_id (by omega) (by omega)) ?_
                refine x_si (ls1 := [some (vR (some 2281)), some (vI b), some (vI (e + 1)), some (vI e), some (vI z65), some (vI z103)]) T_330_177 rfl ?_
                refine x_goto T_330_178 ?_
                first
                  | (rw [if_pos h107]; exact ih (e + 1) _ _ σ _ _ _ (by omega) (by omega) (by omega) (by rw [List.length_dropLast]; omega) hV.pop hP (hJ.uN 83 83 rfl (by show (0 : Int) ≤ _ ∧ _ ≤ (110 : Int); omega)) (SX_un hX rfl) (hR.of (rU_k (by decide)) (fun _ => rU_f (by decide))) (hN.pop (by first | (rw [if_neg (by omega)]) | (rw [if_pos (by omega)]; omega))))
                  | (rw [if_neg h107, if_neg (by omega)]; exact ih (e + 1) _ _ σ _ _ _ (by omega) (by omega) (by omega) (by omega) hV hP hJ hX hR hN)
                  | (rw [if_neg h107, if_neg (fun c => c.2 h141)]; exact ih (e + 1) _ _ σ _ _ _ (by omega) (by omega) (by omega) (by omega) hV hP hJ hX hR hN)
                  | (rw [if_neg h107, if_pos ⟨by omega, h141⟩]; exact ih (e + 1) _ _ σ _ _ _ (by omega) (by omega) (by omega) (by rw [List.length_append]; show 2 * ((ns.length + 1 : Nat) : Int) ≤ e + 1; omega) (hV.push ⟨by omega, by show k ≤ e; omega, by show e ≤ z; omega⟩) hP (((hJ.uA 2347 rfl (by show (0 : Int) ≤ k ∧ k ≤ 200; omega)).uA 2348 rfl (by show (0 : Int) ≤ e ∧ e ≤ 200; omega)).uN 83 83 rfl (by show (0 : Int) ≤ n + 1 ∧ n + 1 ≤ 110; omega)) (SX_un (SX_up (SX_up hX rfl rfl) rfl rfl) rfl) (hR.of ((rU_k (by decide)).trans ((rU_f (by decide)).trans (rU_f (by decide)))) (fun _ => (rU_f (by decide)).trans ((rU_f (by decide)).trans (rU_f (by decide))))) (by rw [← hn]; exact hN.push))
              · replace h141 : ¬ (e = k + 1 ∧ lg l k = 46) := ite1_z (hz65.symm.trans (Classical.not_not.mp h141))
                refine x_lr (z := some 2281) T_330_144 rfl ?_
                refine x_gR (z := some 2347) T_330_145 F_17_81 (PM.t hP) (PM.r hP 81 2347 rfl) ?_
                refine x_lr (z := some 2281) T_330_148 rfl ?_
                refine x_gI (z := n) T_330_149 (Or.inl F_17_83) (PM.t hP) (Eq.trans (PM.nS hP 2281 83 83 rfl rfl rfl) h83) ?_
                refine x_li (z := k) T_330_152 rfl ?_
                refine y_aIS hP T_330_153 2347 110 rfl rfl rfl (by omega) (by omega) (fun σ hP => ?_)
                refine x_lr (z := some 2281) T_330_154 rfl ?_
                refine x_gR (z := some 2348) T_330_155 F_17_82 (PM.t hP) (PM.r hP 82 2348 rfl) ?_
                refine x_lr (z := some 2281) T_330_158 rfl ?_
                refine x_gI (z := n) T_330_159 (Or.inl F_17_83) (PM.t hP) (Eq.trans (Eq.trans (PM.nS hP 2281 83 83 rfl rfl rfl) (rU_f (Nat.ne_of_beq_eq_false rfl))) h83) ?_
                refine x_li (z := e) T_330_162 rfl ?_
                refine y_aIS hP T_330_163 2348 110 rfl rfl rfl (by omega) (by omega) (fun σ hP => ?_)
                refine x_lr (z := some 2281) T_330_164 rfl ?_
                refine x_dupR T_330_165 ?_
                refine x_gI (z := n) T_330_166 (Or.inl F_17_83) (PM.t hP) (Eq.trans (Eq.trans (PM.nS hP 2281 83 83 rfl rfl rfl) (Eq.trans (rU_f (Nat.ne_of_beq_eq_false rfl)) (rU_f (Nat.ne_of_beq_eq_false rfl)))) h83) ?_
                refine x_ic T_330_169 ?_
                refine x_ib (w := (n + 1)) T_330_170 (fun h => absurd h.1 (by decide)) (w32_id (by omega) (by omega)) ?_
                refine y_pIS hP T_330_171 F_17_83 83 rfl rfl (fun σ hP => ?_)
                refine x_li (z := e) T_330_174 rfl ?_
                refine x_ic T_330_175 ?_
                refine x_ib (w := (e + 1)) T_330_176 (fun h => absurd h.1 (by decide)) (w32_id (by omega) (by omega)) ?_
                refine x_si (ls1 := [some (vR (some 2281)), some (vI b), some (vI (e + 1)), some (vI e), some (vI z65), some (vI z103)]) T_330_177 rfl ?_
                refine x_goto T_330_178 ?_
                first
                  | (rw [if_pos h107]; exact ih (e + 1) _ _ σ _ _ _ (by omega) (by omega) (by omega) (by rw [List.length_dropLast]; omega) hV.pop hP (hJ.uN 83 83 rfl (by show (0 : Int) ≤ _ ∧ _ ≤ (110 : Int); omega)) (SX_un hX rfl) (hR.of (rU_k (by decide)) (fun _ => rU_f (by decide))) (hN.pop (by first | (rw [if_neg (by omega)]) | (rw [if_pos (by omega)]; omega))))
                  | (rw [if_neg h107, if_neg (by omega)]; exact ih (e + 1) _ _ σ _ _ _ (by omega) (by omega) (by omega) (by omega) hV hP hJ hX hR hN)
                  | (rw [if_neg h107, if_neg (fun c => c.2 h141)]; exact ih (e + 1) _ _ σ _ _ _ (by omega) (by omega) (by omega) (by omega) hV hP hJ hX hR hN)
                  | (rw [if_neg h107, if_pos ⟨by omega, h141⟩]; exact ih (e + 1) _ _ σ _ _ _ (by omega) (by omega) (by omega) (by rw [List.length_append]; show 2 * ((ns.length + 1 : Nat) : Int) ≤ e + 1; omega) (hV.push ⟨by omega, by show k ≤ e; omega, by show e ≤ z; omega⟩) hP (((hJ.uA 2347 rfl (by show (0 : Int) ≤ k ∧ k ≤ 200; omega)).uA 2348 rfl (by show (0 : Int) ≤ e ∧ e ≤ 200; omega)).uN 83 83 rfl (by show (0 : Int) ≤ n + 1 ∧ n + 1 ≤ 110; omega)) (SX_un (SX_up (SX_up hX rfl rfl) rfl rfl) rfl) (hR.of ((rU_k (by decide)).trans ((rU_f (by decide)).trans (rU_f (by decide)))) (fun _ => (rU_f (by decide)).trans ((rU_f (by decide)).trans (rU_f (by decide))))) (by rw [← hn]; exact hN.push))
          · replace h107 : (e = k + 2 ∧ lg l k = 46 ∧ lg l (k + 1) = 46) := ite1_n (fun e => h107 (hz103.trans e))
            refine x_lr (z := some 2281) T_330_110 rfl ?_
            refine x_lr (z := some 2281) T_330_111 rfl ?_
            refine x_gI (z := n) T_330_112 (Or.inl F_17_83) (PM.t hP) (Eq.trans (PM.nS hP 2281 83 83 rfl rfl rfl) h83) ?_
            refine x_if T_330_115 (fun h115 => ?_) (fun h115 => ?_)
            · replace h115 : n ≤ 0 := h115
              refine x_ic T_330_127 ?_
              refine y_pIS hP T_330_128 F_17_83 83 rfl rfl (fun σ hP => ?_)
              refine x_goto T_330_131 ?_
              refine x_li (z := e) T_330_174 rfl ?_
              refine x_ic T_330_175 ?_
              refine x_ib (w := (e + 1)) T_330_176 (fun h => absurd h.1 (by decide)) (w32_id (by omega) (by omega)) ?_
              refine x_si (ls1 := [some (vR (some 2281)), some (vI b), some (vI (e + 1)), some (vI e), some (vI z65), some (vI z103)]) T_330_177 rfl ?_
              refine x_goto T_330_178 ?_
              first
                | (rw [if_pos h107]; exact ih (e + 1) _ _ σ _ _ _ (by omega) (by omega) (by omega) (by rw [List.length_dropLast]; omega) hV.pop hP (hJ.uN 83 83 rfl (by show (0 : Int) ≤ _ ∧ _ ≤ (110 : Int); omega)) (SX_un hX rfl) (hR.of (rU_k (by decide)) (fun _ => rU_f (by decide))) (hN.pop (by first | (rw [if_neg (by omega)]) | (rw [if_pos (by omega)]; omega))))
                | (rw [if_neg h107, if_neg (by omega)]; exact ih (e + 1) _ _ σ _ _ _ (by omega) (by omega) (by omega) (by omega) hV hP hJ hX hR hN)
                | (rw [if_neg h107, if_neg (fun c => c.2 h141)]; exact ih (e + 1) _ _ σ _ _ _ (by omega) (by omega) (by omega) (by omega) hV hP hJ hX hR hN)
                | (rw [if_neg h107, if_pos ⟨by omega, h141⟩]; exact ih (e + 1) _ _ σ _ _ _ (by omega) (by omega) (by omega) (by rw [List.length_append]; show 2 * ((ns.length + 1 : Nat) : Int) ≤ e + 1; omega) (hV.push ⟨by omega, by show k ≤ e; omega, by show e ≤ z; omega⟩) hP (((hJ.uA 2347 rfl (by show (0 : Int) ≤ k ∧ k ≤ 200; omega)).uA 2348 rfl (by show (0 : Int) ≤ e ∧ e ≤ 200; omega)).uN 83 83 rfl (by show (0 : Int) ≤ n + 1 ∧ n + 1 ≤ 110; omega)) (SX_un (SX_up (SX_up hX rfl rfl) rfl rfl) rfl) (hR.of ((rU_k (by decide)).trans ((rU_f (by decide)).trans (rU_f (by decide)))) (fun _ => (rU_f (by decide)).trans ((rU_f (by decide)).trans (rU_f (by decide))))) (by rw [← hn]; exact hN.push))
            · replace h115 : ¬ (n ≤ 0) := h115
              refine x_lr (z := some 2281) T_330_118 rfl ?_
              refine x_gI (z := n) T_330_119 (Or.inl F_17_83) (PM.t hP) (Eq.trans (PM.nS hP 2281 83 83 rfl rfl rfl) h83) ?_
              refine x_ic T_330_122 ?_
              refine x_ib (w := (n - 1)) T_330_123 (fun h => absurd h.1 (by decide)) (w32_id (by omega) (by omega)) ?_
              refine x_goto T_330_124 ?_
              refine y_pIS hP T_330_128 F_17_83 83 rfl rfl (fun σ hP => ?_)
              refine x_goto T_330_131 ?_
              refine x_li (z := e) T_330_174 rfl ?_
              refine x_ic T_330_175 ?_
              refine x_ib (w := (e + 1)) T_330_176 (fun h => absurd h.1 (by decide)) (w32_id (by omega) (by omega)) ?_
              refine x_si (ls1 := [some (vR (some 2281)), some (vI b), some (vI (e + 1)), some (vI e), some (vI z65), some (vI z103)]) T_330_177 rfl ?_
              refine x_goto T_330_178 ?_
              first
                | (rw [if_pos h107]; exact ih (e + 1) _ _ σ _ _ _ (by omega) (by omega) (by omega) (by rw [List.length_dropLast]; omega) hV.pop hP (hJ.uN 83 83 rfl (by show (0 : Int) ≤ _ ∧ _ ≤ (110 : Int); omega)) (SX_un hX rfl) (hR.of (rU_k (by decide)) (fun _ => rU_f (by decide))) (hN.pop (by first | (rw [if_neg (by omega)]) | (rw [if_pos (by omega)]; omega))))
                | (rw [if_neg h107, if_neg (by omega)]; exact ih (e + 1) _ _ σ _ _ _ (by omega) (by omega) (by omega) (by omega) hV hP hJ hX hR hN)
                | (rw [if_neg h107, if_neg (fun c => c.2 h141)]; exact ih (e + 1) _ _ σ _ _ _ (by omega) (by omega) (by omega) (by omega) hV hP hJ hX hR hN)
                | (rw [if_neg h107, if_pos ⟨by omega, h141⟩]; exact ih (e + 1) _ _ σ _ _ _ (by omega) (by omega) (by omega) (by rw [List.length_append]; show 2 * ((ns.length + 1 : Nat) : Int) ≤ e + 1; omega) (hV.push ⟨by omega, by show k ≤ e; omega, by show e ≤ z; omega⟩) hP (((hJ.uA 2347 rfl (by show (0 : Int) ≤ k ∧ k ≤ 200; omega)).uA 2348 rfl (by show (0 : Int) ≤ e ∧ e ≤ 200; omega)).uN 83 83 rfl (by show (0 : Int) ≤ n + 1 ∧ n + 1 ≤ 110; omega)) (SX_un (SX_up (SX_up hX rfl rfl) rfl rfl) rfl) (hR.of ((rU_k (by decide)).trans ((rU_f (by decide)).trans (rU_f (by decide)))) (fun _ => (rU_f (by decide)).trans ((rU_f (by decide)).trans (rU_f (by decide))))) (by rw [← hn]; exact hN.push))
        · refine x_li (z := e) T_330_67 rfl ?_
          refine x_li (z := k) T_330_68 rfl ?_
          refine x_ic T_330_69 ?_
          refine x_ib (w := (k + 2)) T_330_70 (fun h => absurd h.1 (by decide)) (w32_id (by omega) (by omega)) ?_
          refine x_ic2 T_330_71 (fun h71 => ?_) (fun h71 => ?_)
          · replace h71 : ¬ e = (k + 2) := h71
            refine x_ic T_330_102 ?_
            exact kJ103 0 (if_neg (by omega)).symm
          · replace h71 : ¬ (¬ e = (k + 2)) := h71
            refine x_lr (z := some 2281) T_330_74 rfl ?_
            refine x_gR (z := some 2346) T_330_75 F_17_78 (PM.t hP) (PM.r hP 78 2346 rfl) ?_
            refine x_li (z := k) T_330_78 rfl ?_
            refine x_alI (z := lg l k) T_330_79 (by decide) (PM.ta hP 2346 0 200 rfl rfl) (by omega) (by omega) (Eq.trans (PM.aS hP 2346 rfl rfl (by omega)) hx) ?_
            refine x_ic T_330_80 ?_
            refine x_ic2 T_330_82 (fun h82 => ?_) (fun h82 => ?_)
            · replace h82 : ¬ lg l k = 46 := h82
              refine x_ic T_330_102 ?_
              exact kJ103 0 (if_neg (by omega)).symm
            · replace h82 : ¬ (¬ lg l k = 46) := h82
              refine x_lr (z := some 2281) T_330_85 rfl ?_
              refine x_gR (z := some 2346) T_330_86 F_17_78 (PM.t hP) (PM.r hP 78 2346 rfl) ?_
              refine x_li (z := k) T_330_89 rfl ?_
              refine x_ic T_330_90 ?_
              refine x_ib (w := (k + 1)) T_330_91 (fun h => absurd h.1 (by decide)) (w32_id (by omega) (by omega)) ?_
              refine x_alI (z := lg l (k + 1)) T_330_92 (by decide) (PM.ta hP 2346 0 200 rfl rfl) (by omega) (by omega) (Eq.trans (PM.aS hP 2346 rfl rfl (by omega)) (hR.2.2.2 (k + 1) (by omega) (by omega))) ?_
              refine x_ic T_330_93 ?_
              refine x_ic2 T_330_95 (fun h95 => ?_) (fun h95 => ?_)
              · replace h95 : ¬ lg l (k + 1) = 46 := h95
                refine x_ic T_330_102 ?_
                exact kJ103 0 (if_neg (by omega)).symm
              · replace h95 : ¬ (¬ lg l (k + 1) = 46) := h95
                refine x_ic T_330_98 ?_
                refine x_goto T_330_99 ?_
                exact kJ103 1 (if_pos (by omega)).symm
      · refine x_li (z := e) T_330_42 rfl ?_
        refine x_li (z := k) T_330_43 rfl ?_
        refine x_ic T_330_44 ?_
        refine x_ib (w := (k + 1)) T_330_45 (fun h => absurd h.1 (by decide)) (w32_id (by omega) (by omega)) ?_
        refine x_ic2 T_330_46 (fun h46 => ?_) (fun h46 => ?_)
        · replace h46 : ¬ e = (k + 1) := h46
          refine x_ic T_330_64 ?_
          exact kJ65 0 (if_neg (by omega)).symm
        · replace h46 : ¬ (¬ e = (k + 1)) := h46
          refine x_lr (z := some 2281) T_330_49 rfl ?_
          refine x_gR (z := some 2346) T_330_50 F_17_78 (PM.t hP) (PM.r hP 78 2346 rfl) ?_
          refine x_li (z := k) T_330_53 rfl ?_
          refine x_alI (z := lg l k) T_330_54 (by decide) (PM.ta hP 2346 0 200 rfl rfl) (by omega) (by omega) (Eq.trans (PM.aS hP 2346 rfl rfl (by omega)) hx) ?_
          refine x_ic T_330_55 ?_
          refine x_ic2 T_330_57 (fun h57 => ?_) (fun h57 => ?_)
          · replace h57 : ¬ lg l k = 46 := h57
            refine x_ic T_330_64 ?_
            exact kJ65 0 (if_neg (by omega)).symm
          · replace h57 : ¬ (¬ lg l k = 46) := h57
            refine x_ic T_330_60 ?_
            refine x_goto T_330_61 ?_
            exact kJ65 1 (if_pos (by omega)).symm
theorem m_cut {b : Int} (hP : PM σ0 P S1 σ) (hJ : IV true T U S1) (hR : RAWS S1 l) (hb : 1 ≤ b ∧ b ≤ 2) (hl : 1 ≤ l.length) : CL fb d 330 [vR (some 2281), vI b] σ (fun r σ' => ∃ S2, r = none ∧ PM σ0 P S2 σ' ∧ IV true T U S2 ∧ SX [2347, 2348] [83] S1 S2 ∧ RAWS S2 l ∧ NMS S2 (cuL (lg l) (l.length : Int) l.length b [])) := by
  refine CL_in mL_330 rfl ?_
  show WP fb _ 330 0 [some (vR (some 2281)), some (vI b), none, none, none, none] [] σ _
  refine x_lr (z := some 2281) T_330_0 rfl ?_
  refine x_ic T_330_1 ?_
  refine y_pIS hP T_330_2 F_17_83 83 rfl rfl (fun σ hP => ?_)
  refine x_li (z := b) T_330_5 rfl ?_
  refine x_si (ls1 := [some (vR (some 2281)), some (vI b), some (vI b), none, none, none]) T_330_6 rfl ?_
  exact m_cut_loop rfl l.length b [] _ σ none none none (by omega) hb.1 (by omega) (by show 2 * ((0 : Nat) : Int) ≤ b; omega) (fun i hi => absurd hi (Nat.not_lt_zero i)) hP (hJ.uN 83 83 rfl (by show (0 : Int) ≤ 0 ∧ (0 : Int) ≤ 110; decide)) (SX_un SX_rfl rfl) (hR.of (rU_k (by decide)) (fun _ => rU_f (by decide))) ⟨rU_s, fun i hi => absurd hi (Nat.not_lt_zero i)⟩
theorem NMS.nr (hN : NMS S ns) : NR S 0 ns := fun i hi => by
  rw [show (0 : Int) + (i : Int) = (i : Int) by omega]
  exact hN.2 i hi
theorem NR.tl {j : Int} {r : List (Int × Int)} (h : NR S j (x :: r)) : NR S (j + 1) r := fun i hi => by
  have := h (i + 1) (by show i + 1 < r.length + 1; omega)
  rw [show j + ((i + 1 : Nat) : Int) = j + 1 + (i : Int) by omega] at this
  exact this
theorem NR.hd {j : Int} {r : List (Int × Int)} (h : NR S j (x :: r)) : S 2347 j = x.1 ∧ S 2348 j = x.2 := by
  have := h 0 (by show 0 < r.length + 1; omega)
  rw [show j + ((0 : Nat) : Int) = j by omega] at this
  exact this
theorem NR.of {j : Int} {r : List (Int × Int)} (h : NR S j r) (h2 : ∀ i, S1 2347 i = S 2347 i) (h3 : ∀ i, S1 2348 i = S 2348 i) : NR S1 j r := fun i hi => by
  rw [h2, h3]
  exact h i hi
theorem NV.hd {r : List (Int × Int)} (h : NV z (x :: r)) : 0 ≤ x.1 ∧ x.1 ≤ x.2 ∧ x.2 ≤ z := h 0 (by show 0 < r.length + 1; omega)
theorem NV.tl {r : List (Int × Int)} (h : NV z (x :: r)) : NV z r := fun i hi => h (i + 1) (by show i + 1 < r.length + 1; omega)
theorem plF_cons {f : Int → Int} {r : List (Int × Int)} (h : x.1 ≤ x.2) : ((plF f (x :: r)).length : Int) = 1 + (x.2 - x.1) + ((plF f r).length : Int) := by
  show (((seg f x.1 (x.2 - x.1).toNat ++ plF f r).length + 1 : Nat) : Int) = _
  rw [List.length_append, seg_len]
  omega
theorem m_lay_n {b : Int} (hP : PM σ0 P S σ) (hz : z ≤ 200) (h83 : S 2281 83 = w) (hw : w ≤ 110) {Q : Option AV → hM → Prop} : ∀ (r : List (Int × Int)) (j n : Int), j + r.length = w → 0 ≤ j → 0 ≤ n → n + 201 * r.length ≤ 1000000 → NR S j r → NV z r → WP fb d 331 47 [some (vR (some 2281)), some (vI b), some (vI (n + ((plF f r).length : Int))), some (vI w), none] [] σ Q → WP fb d 331 15 [some (vR (some 2281)), some (vI b), some (vI n), some (vI j), none] [] σ Q := by
  intro r
  induction r with
  | nil =>
    intro j n h1 h2 h3 h4 hR hV hQ
    have h1 : j + ((0 : Nat) : Int) = w := h1
    have hQ : WP fb d 331 47 [some (vR (some 2281)), some (vI b), some (vI (n + ((0 : Nat) : Int))), some (vI w), none] [] σ Q := hQ
    rw [show n + ((0 : Nat) : Int) = n by omega, show w = j by omega] at hQ
    refine x_li (z := j) T_331_15 rfl ?_
    refine x_lr (z := some 2281) T_331_16 rfl ?_
    refine x_gI (z := w) T_331_17 (Or.inl F_17_83) (PM.t hP) (Eq.trans (PM.nS hP 2281 83 83 rfl rfl rfl) h83) ?_
    refine x_ic2 T_331_20 (fun _ => ?_) (fun h => absurd (show w ≤ j by omega) h)
    exact hQ
  | cons x r ih =>
    intro j n h1 h2 h3 h4 hR hV hQ
    have h1 : j + ((r.length + 1 : Nat) : Int) = w := h1
    have h4 : n + 201 * ((r.length + 1 : Nat) : Int) ≤ 1000000 := h4
    obtain ⟨e1, e2⟩ := hR.hd
    obtain ⟨v1, v2, v3⟩ := hV.hd
    rw [plF_cons v2] at hQ
    refine x_li (z := j) T_331_15 rfl ?_
    refine x_lr (z := some 2281) T_331_16 rfl ?_
    refine x_gI (z := w) T_331_17 (Or.inl F_17_83) (PM.t hP) (Eq.trans (PM.nS hP 2281 83 83 rfl rfl rfl) h83) ?_
    refine x_ic2 T_331_20 (fun h => absurd (show w ≤ j from h) (by omega)) (fun _ => ?_)
    refine x_li (z := n) T_331_23 rfl ?_
    refine x_ic T_331_24 ?_
    refine x_lr (z := some 2281) T_331_25 rfl ?_
    refine x_gR (z := some 2348) T_331_26 F_17_82 (PM.t hP) (PM.r hP 82 2348 rfl) ?_
    refine x_li (z := j) T_331_29 rfl ?_
    refine x_alI (z := x.2) T_331_30 (by decide) (PM.ta hP 2348 0 110 rfl rfl) (by omega) (by omega) (Eq.trans (PM.aS hP 2348 rfl rfl (by omega)) e2) ?_
    refine x_ib (w := (1 + x.2)) T_331_31 (fun h => absurd h.1 (by decide)) (w32_id (by omega) (by omega)) ?_
    refine x_lr (z := some 2281) T_331_32 rfl ?_
    refine x_gR (z := some 2347) T_331_33 F_17_81 (PM.t hP) (PM.r hP 81 2347 rfl) ?_
    refine x_li (z := j) T_331_36 rfl ?_
    refine x_alI (z := x.1) T_331_37 (by decide) (PM.ta hP 2347 0 110 rfl rfl) (by omega) (by omega) (Eq.trans (PM.aS hP 2347 rfl rfl (by omega)) e1) ?_
    refine x_ib (w := (1 + x.2 - x.1)) T_331_38 (fun h => absurd h.1 (by decide)) (w32_id (by omega) (by omega)) ?_
    refine x_ib (w := (n + (1 + x.2 - x.1))) T_331_39 (fun h => absurd h.1 (by decide)) (w32_id (by omega) (by omega)) ?_
    refine x_si (ls1 := [some (vR (some 2281)), some (vI b), some (vI (n + (1 + x.2 - x.1))), some (vI j), none]) T_331_40 rfl ?_
    refine x_inc (w := (j + 1)) (ls1 := [some (vR (some 2281)), some (vI b), some (vI (n + (1 + x.2 - x.1))), some (vI (j + 1)), none]) T_331_41 rfl (w32_id (by omega) (by omega)) rfl ?_
    refine x_goto T_331_44 ?_
    refine ih (j + 1) (n + (1 + x.2 - x.1)) (by omega) (by omega) (by omega) (by omega) hR.tl hV.tl ?_
    rw [show n + (1 + x.2 - x.1) + ((plF f r).length : Int) = n + (1 + (x.2 - x.1) + ((plF f r).length : Int)) by omega]
    exact hQ
end MPATH2
