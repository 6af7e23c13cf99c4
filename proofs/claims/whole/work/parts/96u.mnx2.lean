/-! run goes on: the next line of its script. -/
theorem T_398_122 : hTab 398 122 = some ((3, 0, 2, []), 123) := rfl
theorem T_398_123 : hTab 398 123 = some ((3, 1, 0, []), 124) := rfl
theorem T_398_124 : hTab 398 124 = some ((31, 400, 0, []), 127) := rfl
theorem T_398_127 : hTab 398 127 = some ((33, 1, 0, []), 128) := rfl
theorem T_400_0 : hTab 400 0 = some ((3, 0, 2, []), 1) := rfl
theorem T_400_1 : hTab 400 1 = some ((24, 17, Int.ofNat 109, []), 4) := rfl
theorem T_400_4 : hTab 400 4 = some ((3, 0, 2, []), 5) := rfl
theorem T_400_5 : hTab 400 5 = some ((24, 17, Int.ofNat 113, []), 8) := rfl
theorem T_400_8 : hTab 400 8 = some ((26, 0, 0, []), 9) := rfl
theorem T_400_9 : hTab 400 9 = some ((4, 2, 0, []), 10) := rfl
theorem T_400_10 : hTab 400 10 = some ((3, 0, 2, []), 11) := rfl
theorem T_400_11 : hTab 400 11 = some ((24, 17, Int.ofNat 112, []), 14) := rfl
theorem T_400_14 : hTab 400 14 = some ((3, 0, 2, []), 15) := rfl
theorem T_400_15 : hTab 400 15 = some ((24, 17, Int.ofNat 113, []), 18) := rfl
theorem T_400_18 : hTab 400 18 = some ((26, 0, 0, []), 19) := rfl
theorem T_400_19 : hTab 400 19 = some ((4, 3, 0, []), 20) := rfl
theorem T_400_20 : hTab 400 20 = some ((3, 2, 0, []), 21) := rfl
theorem T_400_21 : hTab 400 21 = some ((3, 3, 0, []), 22) := rfl
theorem T_400_22 : hTab 400 22 = some ((19, 2, Int.ofNat 27, []), 25) := rfl
theorem T_400_25 : hTab 400 25 = some ((0, 0, 0, []), 26) := rfl
theorem T_400_26 : hTab 400 26 = some ((33, 1, 0, []), 27) := rfl
theorem T_400_27 : hTab 400 27 = some ((3, 2, 0, []), 28) := rfl
theorem T_400_28 : hTab 400 28 = some ((4, 4, 0, []), 30) := rfl
theorem T_400_30 : hTab 400 30 = some ((3, 4, 0, []), 32) := rfl
theorem T_400_32 : hTab 400 32 = some ((3, 3, 0, []), 33) := rfl
theorem T_400_33 : hTab 400 33 = some ((19, 3, Int.ofNat 63, []), 36) := rfl
theorem T_400_36 : hTab 400 36 = some ((3, 0, 2, []), 37) := rfl
theorem T_400_37 : hTab 400 37 = some ((24, 17, Int.ofNat 111, []), 40) := rfl
theorem T_400_40 : hTab 400 40 = some ((0, 0, 600, []), 43) := rfl
theorem T_400_43 : hTab 400 43 = some ((3, 0, 2, []), 44) := rfl
theorem T_400_44 : hTab 400 44 = some ((24, 17, Int.ofNat 113, []), 47) := rfl
theorem T_400_47 : hTab 400 47 = some ((10, 2, 0, []), 48) := rfl
theorem T_400_48 : hTab 400 48 = some ((3, 4, 0, []), 50) := rfl
theorem T_400_50 : hTab 400 50 = some ((10, 0, 0, []), 51) := rfl
theorem T_400_51 : hTab 400 51 = some ((26, 0, 0, []), 52) := rfl
theorem T_400_52 : hTab 400 52 = some ((0, 0, 10, []), 54) := rfl
theorem T_400_54 : hTab 400 54 = some ((19, 0, Int.ofNat 63, []), 57) := rfl
theorem T_400_57 : hTab 400 57 = some ((5, 4, 1, []), 60) := rfl
theorem T_400_60 : hTab 400 60 = some ((22, 0, Int.ofNat 30, []), 63) := rfl
theorem T_400_63 : hTab 400 63 = some ((3, 0, 2, []), 64) := rfl
theorem T_400_64 : hTab 400 64 = some ((24, 17, Int.ofNat 109, []), 67) := rfl
theorem T_400_67 : hTab 400 67 = some ((3, 0, 2, []), 68) := rfl
theorem T_400_68 : hTab 400 68 = some ((24, 17, Int.ofNat 113, []), 71) := rfl
theorem T_400_71 : hTab 400 71 = some ((3, 4, 0, []), 73) := rfl
theorem T_400_73 : hTab 400 73 = some ((0, 0, 1, []), 74) := rfl
theorem T_400_74 : hTab 400 74 = some ((10, 0, 0, []), 75) := rfl
theorem T_400_75 : hTab 400 75 = some ((27, 0, 0, []), 76) := rfl
theorem T_400_76 : hTab 400 76 = some ((3, 4, 0, []), 78) := rfl
theorem T_400_78 : hTab 400 78 = some ((3, 2, 0, []), 79) := rfl
theorem T_400_79 : hTab 400 79 = some ((19, 5, Int.ofNat 106, []), 82) := rfl
theorem T_400_82 : hTab 400 82 = some ((3, 0, 2, []), 83) := rfl
theorem T_400_83 : hTab 400 83 = some ((24, 17, Int.ofNat 111, []), 86) := rfl
theorem T_400_86 : hTab 400 86 = some ((0, 0, 600, []), 89) := rfl
theorem T_400_89 : hTab 400 89 = some ((3, 0, 2, []), 90) := rfl
theorem T_400_90 : hTab 400 90 = some ((24, 17, Int.ofNat 113, []), 93) := rfl
theorem T_400_93 : hTab 400 93 = some ((10, 2, 0, []), 94) := rfl
theorem T_400_94 : hTab 400 94 = some ((3, 2, 0, []), 95) := rfl
theorem T_400_95 : hTab 400 95 = some ((10, 0, 0, []), 96) := rfl
theorem T_400_96 : hTab 400 96 = some ((26, 0, 0, []), 97) := rfl
theorem T_400_97 : hTab 400 97 = some ((0, 0, 45, []), 99) := rfl
theorem T_400_99 : hTab 400 99 = some ((19, 1, Int.ofNat 106, []), 102) := rfl
theorem T_400_102 : hTab 400 102 = some ((0, 0, 1, []), 103) := rfl
theorem T_400_103 : hTab 400 103 = some ((22, 0, Int.ofNat 107, []), 106) := rfl
theorem T_400_106 : hTab 400 106 = some ((0, 0, 0, []), 107) := rfl
theorem T_400_107 : hTab 400 107 = some ((4, 5, 0, []), 109) := rfl
theorem T_400_109 : hTab 400 109 = some ((3, 0, 2, []), 110) := rfl
theorem T_400_110 : hTab 400 110 = some ((24, 17, Int.ofNat 110, []), 113) := rfl
theorem T_400_113 : hTab 400 113 = some ((3, 0, 2, []), 114) := rfl
theorem T_400_114 : hTab 400 114 = some ((24, 17, Int.ofNat 113, []), 117) := rfl
theorem T_400_117 : hTab 400 117 = some ((3, 5, 0, []), 119) := rfl
theorem T_400_119 : hTab 400 119 = some ((27, 2, 0, []), 120) := rfl
theorem T_400_120 : hTab 400 120 = some ((3, 4, 0, []), 122) := rfl
theorem T_400_122 : hTab 400 122 = some ((3, 2, 0, []), 123) := rfl
theorem T_400_123 : hTab 400 123 = some ((10, 1, 0, []), 124) := rfl
theorem T_400_124 : hTab 400 124 = some ((0, 0, 100, []), 126) := rfl
theorem T_400_126 : hTab 400 126 = some ((19, 5, Int.ofNat 137, []), 129) := rfl
theorem T_400_129 : hTab 400 129 = some ((3, 0, 2, []), 130) := rfl
theorem T_400_130 : hTab 400 130 = some ((3, 1, 0, []), 131) := rfl
theorem T_400_131 : hTab 400 131 = some ((0, 0, 18, []), 133) := rfl
theorem T_400_133 : hTab 400 133 = some ((31, 399, 0, []), 136) := rfl
theorem T_400_136 : hTab 400 136 = some ((33, 1, 0, []), 137) := rfl
theorem T_400_137 : hTab 400 137 = some ((3, 0, 2, []), 138) := rfl
theorem T_400_138 : hTab 400 138 = some ((0, 0, 0, []), 139) := rfl
theorem T_400_139 : hTab 400 139 = some ((25, 17, Int.ofNat 105, []), 142) := rfl
theorem T_400_142 : hTab 400 142 = some ((3, 5, 0, []), 144) := rfl
theorem T_400_144 : hTab 400 144 = some ((18, 0, Int.ofNat 153, []), 147) := rfl
theorem T_400_147 : hTab 400 147 = some ((3, 2, 0, []), 148) := rfl
theorem T_400_148 : hTab 400 148 = some ((0, 0, 1, []), 149) := rfl
theorem T_400_149 : hTab 400 149 = some ((10, 0, 0, []), 150) := rfl
theorem T_400_150 : hTab 400 150 = some ((22, 0, Int.ofNat 154, []), 153) := rfl
theorem T_400_153 : hTab 400 153 = some ((3, 2, 0, []), 154) := rfl
theorem T_400_154 : hTab 400 154 = some ((4, 6, 0, []), 156) := rfl
theorem T_400_156 : hTab 400 156 = some ((3, 6, 0, []), 158) := rfl
theorem T_400_158 : hTab 400 158 = some ((3, 4, 0, []), 160) := rfl
theorem T_400_160 : hTab 400 160 = some ((19, 3, Int.ofNat 204, []), 163) := rfl
theorem T_400_163 : hTab 400 163 = some ((3, 0, 2, []), 164) := rfl
theorem T_400_164 : hTab 400 164 = some ((24, 17, Int.ofNat 104, []), 167) := rfl
theorem T_400_167 : hTab 400 167 = some ((3, 0, 2, []), 168) := rfl
theorem T_400_168 : hTab 400 168 = some ((24, 17, Int.ofNat 105, []), 171) := rfl
theorem T_400_171 : hTab 400 171 = some ((3, 0, 2, []), 172) := rfl
theorem T_400_172 : hTab 400 172 = some ((24, 17, Int.ofNat 111, []), 175) := rfl
theorem T_400_175 : hTab 400 175 = some ((0, 0, 600, []), 178) := rfl
theorem T_400_178 : hTab 400 178 = some ((3, 0, 2, []), 179) := rfl
theorem T_400_179 : hTab 400 179 = some ((24, 17, Int.ofNat 113, []), 182) := rfl
theorem T_400_182 : hTab 400 182 = some ((10, 2, 0, []), 183) := rfl
theorem T_400_183 : hTab 400 183 = some ((3, 6, 0, []), 185) := rfl
theorem T_400_185 : hTab 400 185 = some ((10, 0, 0, []), 186) := rfl
theorem T_400_186 : hTab 400 186 = some ((26, 0, 0, []), 187) := rfl
theorem T_400_187 : hTab 400 187 = some ((27, 0, 0, []), 188) := rfl
theorem T_400_188 : hTab 400 188 = some ((3, 0, 2, []), 189) := rfl
theorem T_400_189 : hTab 400 189 = some ((6, 0, 0, []), 190) := rfl
theorem T_400_190 : hTab 400 190 = some ((24, 17, Int.ofNat 105, []), 193) := rfl
theorem T_400_193 : hTab 400 193 = some ((0, 0, 1, []), 194) := rfl
theorem T_400_194 : hTab 400 194 = some ((10, 0, 0, []), 195) := rfl
theorem T_400_195 : hTab 400 195 = some ((25, 17, Int.ofNat 105, []), 198) := rfl
theorem T_400_198 : hTab 400 198 = some ((5, 6, 1, []), 201) := rfl
theorem T_400_201 : hTab 400 201 = some ((22, 0, Int.ofNat 156, []), 204) := rfl
theorem T_400_204 : hTab 400 204 = some ((3, 0, 2, []), 205) := rfl
theorem T_400_205 : hTab 400 205 = some ((3, 1, 0, []), 206) := rfl
theorem T_400_206 : hTab 400 206 = some ((0, 0, 1, []), 207) := rfl
theorem T_400_207 : hTab 400 207 = some ((31, 310, 0, []), 210) := rfl
theorem T_400_210 : hTab 400 210 = some ((4, 6, 0, []), 212) := rfl
theorem T_400_212 : hTab 400 212 = some ((3, 6, 0, []), 214) := rfl
theorem T_400_214 : hTab 400 214 = some ((18, 5, Int.ofNat 227, []), 217) := rfl
theorem T_400_217 : hTab 400 217 = some ((3, 0, 2, []), 218) := rfl
theorem T_400_218 : hTab 400 218 = some ((3, 1, 0, []), 219) := rfl
theorem T_400_219 : hTab 400 219 = some ((3, 6, 0, []), 221) := rfl
theorem T_400_221 : hTab 400 221 = some ((31, 399, 0, []), 224) := rfl
theorem T_400_224 : hTab 400 224 = some ((22, 0, Int.ofNat 228, []), 227) := rfl
theorem T_400_227 : hTab 400 227 = some ((0, 0, (-1), []), 228) := rfl
theorem T_400_228 : hTab 400 228 = some ((33, 1, 0, []), 229) := rfl
theorem mN_400 : hmN 400 = 2 := by decide +kernel
theorem mL_400 : hmL 400 = 7 := by decide +kernel
theorem mK_400 : hmK 400 = 1 := by decide +kernel
theorem mO_400 : hmO 400 = 17 := by decide +kernel
section MNX2
variable {fb : Bool} {d : Nat} {σ0 σ : hM} {P P1 Q R S S0 S1 S2 : qR} {T U s w g u p k e t z o n N v b c c2 i mu dn pl en fl : Int} {l L tx tt sc : List Int} {h : List Ch} {fs : List Fr} {f fr fr2 : Fr} {J : qR → Prop} {l3v l6v : Option AV}
theorem neE_rng : ∀ (m : Nat) (e : Int), e ≤ neE sc m e ∧ (e ≤ (sc.length : Int) → neE sc m e ≤ (sc.length : Int))
  | 0, e => ⟨Int.le_refl _, fun q => q⟩
  | m + 1, e => by
    unfold neE
    split
    · have := neE_rng m (e + 1)
      exact ⟨by omega, fun _ => this.2 (by omega)⟩
    · exact ⟨Int.le_refl _, fun q => q⟩
theorem neE_more : ∀ (m n : Nat) (e : Int), (sc.length : Int) ≤ e + m → (sc.length : Int) ≤ e + n → neE sc m e = neE sc n e
  | 0, 0, e, _, _ => rfl
  | 0, n + 1, e, h1, h2 => by
    unfold neE
    rw [if_neg (by omega)]
  | m + 1, 0, e, h1, h2 => by
    unfold neE
    rw [if_neg (by omega)]
  | m + 1, n + 1, e, h1, h2 => by
    unfold neE
    split
    · exact neE_more m n (e + 1) (by omega) (by omega)
    · rfl
theorem m_nl_end (hP : PM σ0 P S σ) (hd : S 2281 113 = dn) (hdn : 0 ≤ dn ∧ dn ≤ 12) (hS : SCL S dn sc) (hn : (sc.length : Int) = n) {Q : Option AV → hM → Prop} (hQ : WP fb d 400 63 [some (vR (some 2281)), some (vI p), some (vI pl), some (vI n), some (vI (lnE sc pl)), none, none] [] σ Q) : ∀ (m : Nat) (e : Int), n ≤ e + m → 0 ≤ e → e ≤ n → neE sc m e = lnE sc pl → WP fb d 400 30 [some (vR (some 2281)), some (vI p), some (vI pl), some (vI n), some (vI e), none, none] [] σ Q := by
  have h600 := hS.2.1
  intro m
  induction m with
  | zero =>
    intro e h1 h0 h2 h3
    have h1 : n ≤ e + ((0 : Nat) : Int) := h1
    have h3 : e = lnE sc pl := h3
    rw [← h3] at hQ
    refine x_li (z := e) T_400_30 rfl ?_
    refine x_li (z := n) T_400_32 rfl ?_
    refine x_ic2 T_400_33 (fun _ => ?_) (fun h => absurd (show n ≤ e by omega) h)
    exact hQ
  | succ m ih =>
    intro e h1 h0 h2 h3
    unfold neE at h3
    by_cases q : e < n
    · have hb : S 2370 (600 * dn + e) = lg sc e := hS.2.2 e h0 (by omega)
      obtain ⟨b, hb2⟩ : ∃ b, lg sc e = b := ⟨_, rfl⟩
      rw [hb2] at hb h3
      by_cases q2 : b = 10
      · rw [if_neg (fun c => c.2 q2)] at h3
        rw [← h3] at hQ
        refine x_li (z := e) T_400_30 rfl ?_
        refine x_li (z := n) T_400_32 rfl ?_
        refine x_ic2 T_400_33 (fun h => absurd (show n ≤ e from h) (by omega)) (fun _ => ?_)
        refine x_lr (z := some 2281) T_400_36 rfl ?_
        refine x_gR (z := some 2370) T_400_37 F_17_111 (PM.t hP) (PM.r hP 111 2370 rfl) ?_
        refine x_ic T_400_40 ?_
        refine x_lr (z := some 2281) T_400_43 rfl ?_
        refine x_gI (z := dn) T_400_44 (Or.inl F_17_113) (PM.t hP) (Eq.trans (PM.nS hP 2281 113 113 rfl rfl rfl) hd) ?_
        refine x_ib (w := (600 * dn)) T_400_47 (fun h => absurd h.1 (by decide)) (w32_id (by omega) (by omega)) ?_
        refine x_li (z := e) T_400_48 rfl ?_
        refine x_ib (w := ((600 * dn) + e)) T_400_50 (fun h => absurd h.1 (by decide)) (w32_id (by omega) (by omega)) ?_
        refine x_alI (z := b) T_400_51 (by decide) (PM.ta hP 2370 0 7800 rfl rfl) (by omega) (by omega) (Eq.trans (PM.aS hP 2370 rfl rfl (by omega)) hb) ?_
        refine x_ic T_400_52 ?_
        refine x_ic2 T_400_54 (fun _ => ?_) (fun h => absurd (show b = 10 by omega) h)
        exact hQ
      · rw [if_pos ⟨by omega, q2⟩] at h3
        have hgo := ih (e + 1) (by omega) (by omega) (by omega) h3
        refine x_li (z := e) T_400_30 rfl ?_
        refine x_li (z := n) T_400_32 rfl ?_
        refine x_ic2 T_400_33 (fun h => absurd (show n ≤ e from h) (by omega)) (fun _ => ?_)
        refine x_lr (z := some 2281) T_400_36 rfl ?_
        refine x_gR (z := some 2370) T_400_37 F_17_111 (PM.t hP) (PM.r hP 111 2370 rfl) ?_
        refine x_ic T_400_40 ?_
        refine x_lr (z := some 2281) T_400_43 rfl ?_
        refine x_gI (z := dn) T_400_44 (Or.inl F_17_113) (PM.t hP) (Eq.trans (PM.nS hP 2281 113 113 rfl rfl rfl) hd) ?_
        refine x_ib (w := (600 * dn)) T_400_47 (fun h => absurd h.1 (by decide)) (w32_id (by omega) (by omega)) ?_
        refine x_li (z := e) T_400_48 rfl ?_
        refine x_ib (w := ((600 * dn) + e)) T_400_50 (fun h => absurd h.1 (by decide)) (w32_id (by omega) (by omega)) ?_
        refine x_alI (z := b) T_400_51 (by decide) (PM.ta hP 2370 0 7800 rfl rfl) (by omega) (by omega) (Eq.trans (PM.aS hP 2370 rfl rfl (by omega)) hb) ?_
        refine x_ic T_400_52 ?_
        refine x_ic2 T_400_54 (fun h => absurd (show b = 10 from h) (by omega)) (fun _ => ?_)
        refine x_inc (w := (e + 1)) (ls1 := [some (vR (some 2281)), some (vI p), some (vI pl), some (vI n), some (vI (e + 1)), none, none]) T_400_57 rfl (w32_id (by omega) (by omega)) rfl ?_
        refine x_goto T_400_60 ?_
        exact hgo
    · rw [if_neg (fun c => q (by omega))] at h3
      rw [← h3] at hQ
      refine x_li (z := e) T_400_30 rfl ?_
      refine x_li (z := n) T_400_32 rfl ?_
      refine x_ic2 T_400_33 (fun _ => ?_) (fun h => absurd (show n ≤ e by omega) h)
      exact hQ
/-- the line becomes the source -/
theorem m_nl_src (hd0 : S 2281 113 = dn) (hdn : 0 ≤ dn ∧ dn ≤ 12) (hS : SCL S dn sc) (hbs : byt sc) (hfl : 0 ≤ fl) (hen : en ≤ (sc.length : Int)) (h100 : en - fl ≤ 100) {v5 : Int} {Q : Option AV → hM → Prop} : ∀ (m : Nat) (k : Int) (S1 : qR) (σ : hM), k + m = en → fl ≤ k → PM σ0 P S1 σ → IV true T U S1 → SRP S1 (seg (lg sc) fl (k - fl).toNat) → SX soR soN S S1 → (∀ (σ : hM) (S2 : qR), PM σ0 P S2 σ → IV true T U S2 → SRP S2 (seg (lg sc) fl (en - fl).toNat) → SX soR soN S S2 → WP fb d 400 204 [some (vR (some 2281)), some (vI p), some (vI pl), l3v, some (vI en), some (vI v5), some (vI en)] [] σ Q) → WP fb d 400 156 [some (vR (some 2281)), some (vI p), some (vI pl), l3v, some (vI en), some (vI v5), some (vI k)] [] σ Q := by
  have h600 := hS.2.1
  intro m
  induction m with
  | zero =>
    intro k S1 σ h1 h2 hP hJ hR hX hQ
    have h1 : k + ((0 : Nat) : Int) = en := h1
    have hk : k = en := by omega
    subst hk
    have hgo := hQ σ S1 hP hJ hR hX
    refine x_li (z := k) T_400_156 rfl ?_
    refine x_li (z := k) T_400_158 rfl ?_
    refine x_ic2 T_400_160 (fun _ => ?_) (fun h => absurd (show k ≤ k by omega) h)
    exact hgo
  | succ m ih =>
    intro k S1 σ h1 h2 hP hJ hR hX hQ
    have hb : S1 2370 (600 * dn + k) = lg sc k := (hX.2 _ _ rfl rfl).trans (hS.2.2 k (by omega) (by omega))
    have hd : S1 2281 113 = dn := (hX.1 _ rfl).trans hd0
    have bb := hbs k (by omega)
    obtain ⟨b, hb2⟩ : ∃ b, lg sc k = b := ⟨_, rfl⟩
    rw [hb2] at hb bb
    obtain ⟨z, hz⟩ : ∃ z : Int, ((seg (lg sc) fl (k - fl).toNat).length : Int) = z := ⟨_, rfl⟩
    have hz2 : z = k - fl := by
      rw [← hz, seg_len]
      omega
    have h105 : S1 2281 105 = z := hR.1.trans hz
    have es : seg (lg sc) fl (k + 1 - fl).toNat = seg (lg sc) fl (k - fl).toNat ++ [b] := by
      rw [show (k + 1 - fl).toNat = (k - fl).toNat + 1 by omega, seg_snoc, show fl + ((k - fl).toNat : Int) = k by omega, hb2]
    have hJ2 : IV true T U (rU (rU S1 2364 z b) 2281 105 (z + 1)) := (hJ.uA 2364 rfl bb).uN 105 105 rfl (by show 0 ≤ z + 1 ∧ z + 1 ≤ 200; omega)
    have hgo := fun (σ : hM) (hP : PM σ0 P (rU (rU S1 2364 z b) 2281 105 (z + 1)) σ) => ih (k + 1) _ σ (by omega) (by omega) hP hJ2 (by rw [es]; exact SRP_one hR hz.symm) (SX_so hX) hQ
    refine x_li (z := k) T_400_156 rfl ?_
    refine x_li (z := en) T_400_158 rfl ?_
    refine x_ic2 T_400_160 (fun h => absurd (show en ≤ k from h) (by omega)) (fun _ => ?_)
    refine x_lr (z := some 2281) T_400_163 rfl ?_
    refine x_gR (z := some 2364) T_400_164 F_17_104 (PM.t hP) (PM.r hP 104 2364 rfl) ?_
    refine x_lr (z := some 2281) T_400_167 rfl ?_
    refine x_gI (z := z) T_400_168 (Or.inl F_17_105) (PM.t hP) (Eq.trans (PM.nS hP 2281 105 105 rfl rfl rfl) h105) ?_
    refine x_lr (z := some 2281) T_400_171 rfl ?_
    refine x_gR (z := some 2370) T_400_172 F_17_111 (PM.t hP) (PM.r hP 111 2370 rfl) ?_
    refine x_ic T_400_175 ?_
    refine x_lr (z := some 2281) T_400_178 rfl ?_
    refine x_gI (z := dn) T_400_179 (Or.inl F_17_113) (PM.t hP) (Eq.trans (PM.nS hP 2281 113 113 rfl rfl rfl) hd) ?_
    refine x_ib (w := (600 * dn)) T_400_182 (fun h => absurd h.1 (by decide)) (w32_id (by omega) (by omega)) ?_
    refine x_li (z := k) T_400_183 rfl ?_
    refine x_ib (w := ((600 * dn) + k)) T_400_185 (fun h => absurd h.1 (by decide)) (w32_id (by omega) (by omega)) ?_
    refine x_alI (z := b) T_400_186 (by decide) (PM.ta hP 2370 0 7800 rfl rfl) (by omega) (by omega) (Eq.trans (PM.aS hP 2370 rfl rfl (by omega)) hb) ?_
    refine y_aIS hP T_400_187 2364 200 rfl rfl rfl (by omega) (by omega) (fun σ hP => ?_)
    refine x_lr (z := some 2281) T_400_188 rfl ?_
    refine x_dupR T_400_189 ?_
    refine x_gI (z := z) T_400_190 (Or.inl F_17_105) (PM.t hP) (Eq.trans (Eq.trans (PM.nS hP 2281 105 105 rfl rfl rfl) (rU_f (Nat.ne_of_beq_eq_false rfl))) h105) ?_
    refine x_ic T_400_193 ?_
    refine x_ib (w := (z + 1)) T_400_194 (fun h => absurd h.1 (by decide)) (w32_id (by omega) (by omega)) ?_
    refine y_pIS hP T_400_195 F_17_105 105 rfl rfl (fun σ hP => ?_)
    refine x_inc (w := (k + 1)) (ls1 := [some (vR (some 2281)), some (vI p), some (vI pl), l3v, some (vI en), some (vI v5), some (vI (k + 1))]) T_400_198 rfl (w32_id (by omega) (by omega)) rfl ?_
    refine x_goto T_400_201 ?_
    exact hgo σ hP
theorem m_nextLine (hP : PM σ0 P S σ) (hK : KS T U P S l []) (hp : 0 ≤ p ∧ p < 8) (hF : FST S (fr :: fs)) (hfk : fr.1 = 3) (hok : frOk fr) (hd : S 2281 113 = (fs.length : Int) + 1) (hd12 : (fs.length : Int) + 1 ≤ 12) (hc : S 2281 114 = c) (hc0 : 0 ≤ c ∧ c ≤ 200) (hJp : J P) : CL fb (d + 3) 400 [vR (some 2281), vI p] σ (fun r σ' => ∃ (code2 : Int) (P2 S2 : qR), r = some (vI code2) ∧ PM σ0 P2 S2 σ' ∧ KS T U P2 S2 l [] ∧ J P2 ∧ STP p (-2) fr fs P c code2 P2 S2) := by
  obtain ⟨dn, hdn⟩ : ∃ dn : Int, (fs.length : Int) + 1 = dn := ⟨_, rfl⟩
  obtain ⟨-, hp0, hp601, hl600, hbs⟩ := hok.resolve_left (fun q => by have := q.1; omega)
  obtain ⟨sc, hsc⟩ : ∃ sc, fr.2.2.2.2 = sc := ⟨_, rfl⟩
  obtain ⟨pl, hpl⟩ : ∃ pl, fr.2.2.1 = pl := ⟨_, rfl⟩
  obtain ⟨tt, ht⟩ : ∃ tt, fr.2.1 = tt := ⟨_, rfl⟩
  rw [hsc] at hl600 hbs
  rw [hpl] at hp0 hp601
  have hev : ∀ m, EV p (m + 1) (-2) dn (arOf fs) fr P c = if (sc.length : Int) ≤ pl then (0, P, c) else evR p (lnM sc pl) (if 100 < lnE sc pl - pl then (18, P, c) else evC (EV p m) dn (some tt) (exL P p (some tt) 1 (lnT sc pl)) P c) (fun P1 c1 => EV p m (-2) dn (arOf fs) (3, tt, lnE sc pl + 1, lnM sc pl, sc) P1 c1) := fun m => by
    show (if (-2 : Int) = -1 then _ else _) = _
    rw [if_neg (by decide), if_neg (by rw [hfk]; decide), ht, hpl, hsc]
  have hFX := hF.1
  rw [hdn] at hFX
  have hkd : S 2367 dn = 3 := hFX.1.trans hfk
  have hplr : S 2368 dn = pl := (hFX.2.2.1 (by rw [hfk]; decide)).trans hpl
  have hS : SCL S dn sc := by rw [← hsc]; exact hFX.2.2.2.2 hfk
  obtain ⟨n, hn⟩ : ∃ n : Int, (sc.length : Int) = n := ⟨_, rfl⟩
  have hsz : S 2371 dn = n := hS.1.trans hn
  have hd' := hd.trans hdn
  rw [hn] at hev
  by_cases q1 : n ≤ pl
  · skip
    refine CL_in mL_400 rfl ?_
    show WP fb _ 400 0 [some (vR (some 2281)), some (vI p), none, none, none, none, none] [] σ _
    refine x_lr (z := some 2281) T_400_0 rfl ?_
    refine x_gR (z := some 2368) T_400_1 F_17_109 (PM.t hP) (PM.r hP 109 2368 rfl) ?_
    refine x_lr (z := some 2281) T_400_4 rfl ?_
    refine x_gI (z := dn) T_400_5 (Or.inl F_17_113) (PM.t hP) (Eq.trans (PM.nS hP 2281 113 113 rfl rfl rfl) hd') ?_
    refine x_alI (z := pl) T_400_8 (by decide) (PM.ta hP 2368 0 13 rfl rfl) (by omega) (by omega) (Eq.trans (PM.aS hP 2368 rfl rfl (by omega)) hplr) ?_
    refine x_si (ls1 := [some (vR (some 2281)), some (vI p), some (vI pl), none, none, none, none]) T_400_9 rfl ?_
    refine x_lr (z := some 2281) T_400_10 rfl ?_
    refine x_gR (z := some 2371) T_400_11 F_17_112 (PM.t hP) (PM.r hP 112 2371 rfl) ?_
    refine x_lr (z := some 2281) T_400_14 rfl ?_
    refine x_gI (z := dn) T_400_15 (Or.inl F_17_113) (PM.t hP) (Eq.trans (PM.nS hP 2281 113 113 rfl rfl rfl) hd') ?_
    refine x_alI (z := n) T_400_18 (by decide) (PM.ta hP 2371 0 13 rfl rfl) (by omega) (by omega) (Eq.trans (PM.aS hP 2371 rfl rfl (by omega)) hsz) ?_
    refine x_si (ls1 := [some (vR (some 2281)), some (vI p), some (vI pl), some (vI n), none, none, none]) T_400_19 rfl ?_
    refine x_li (z := pl) T_400_20 rfl ?_
    refine x_li (z := n) T_400_21 rfl ?_
    refine x_ic2 T_400_22 (fun h => absurd (show pl < n from h) (by omega)) (fun _ => ?_)
    refine x_ic T_400_25 ?_
    refine x_ri T_400_26 ?_
    exact ⟨0, P, S, rfl, hP, hK, hJp, Or.inl ⟨c, Int.le_refl 0, Int.le_refl c, hc0.2, hd, hc, hF.2, fun m => by rw [hdn, hev, if_pos q1]⟩⟩
  replace hev := fun m => (hev m).trans (if_neg q1)
  have her : pl ≤ lnE sc pl ∧ lnE sc pl ≤ n := by
    have := neE_rng (sc := sc) sc.length pl
    exact ⟨this.1, by have := this.2 (by omega); unfold lnE; omega⟩
  obtain ⟨en, hen⟩ : ∃ en, lnE sc pl = en := ⟨_, rfl⟩
  have hmr : lnM sc pl = 0 ∨ (lnM sc pl = 1 ∧ pl < en) := by
    unfold lnM
    rw [hen]
    split
    · rename_i q; exact Or.inr ⟨rfl, q.1⟩
    · exact Or.inl rfl
  have hfind := fun {Q : Option AV → hM → Prop} (hQ : WP fb (d + 3) 400 63 [some (vR (some 2281)), some (vI p), some (vI pl), some (vI n), some (vI (lnE sc pl)), none, none] [] σ Q) => m_nl_end (fb := fb) (d := d + 3) hP hd' ⟨by omega, by omega⟩ hS hn hQ sc.length pl (by omega) hp0 (by omega) rfl
  rw [hen] at her hfind hev
  -- from the muting on
  have h107 : ∀ mu : Int, lnM sc pl = mu → ∀ σ : hM, PM σ0 P (rU S 2368 dn (en + 1)) σ → WP fb (d + 3) 400 107 [some (vR (some 2281)), some (vI p), some (vI pl), some (vI n), some (vI en), none, none] [vI mu] σ (fun r σ' => ∃ (code2 : Int) (P2 S2 : qR), r = some (vI code2) ∧ PM σ0 P2 S2 σ' ∧ KS T U P2 S2 l [] ∧ J P2 ∧ STP p (-2) fr fs P c code2 P2 S2) := fun mu hmu σ hP => by
    rw [hmu] at hmr hev
    have eT : lnT sc pl = seg (lg sc) (pl + mu) (en - (pl + mu)).toNat := by
      unfold lnT
      rw [hmu, hen]
    have hJ1 : IV true T U (rU (rU S 2368 dn (en + 1)) 2369 dn mu) := (hK.2.2.1.uA 2368 rfl (by show 0 ≤ en + 1 ∧ en + 1 ≤ 700; omega)).uA 2369 rfl (by show 0 ≤ mu ∧ mu ≤ 1; omega)
    have hX1 : SX fmR fmN S (rU (rU S 2368 dn (en + 1)) 2369 dn mu) := SX_up (SX_up SX_rfl rfl rfl) rfl rfl
    have hok2 : frOk (3, tt, en + 1, mu, sc) := Or.inr ⟨rfl, by show 0 ≤ en + 1; omega, by show en + 1 ≤ 601; omega, hl600, hbs⟩
    have hgo2 : frGo (3, tt, en + 1, mu, sc) := Or.inr ⟨rfl, by show 0 < en + 1; omega⟩
    have hpr : fr.2.2.1 < (3, tt, en + 1, mu, sc).2.2.1 := by show fr.2.2.1 < en + 1; omega
    obtain ⟨S1, hS1⟩ : ∃ S1, rU (rU S 2368 dn (en + 1)) 2369 dn mu = S1 := ⟨_, rfl⟩
    have hF1 : FST S1 ((3, tt, en + 1, mu, sc) :: fs) := by
      rw [← hS1]
      have htx := hFX.txt
      rw [ht] at htx
      refine ⟨⟨?_, ⟨htx.1, htx.2.1, ?_⟩, fun _ => ?_, fun _ => ?_, fun _ => ?_⟩, (hF.2.ne (by omega) (by decide) (by decide)).ne (by omega) (by decide) (by decide)⟩
      · rw [hdn]
        exact (rU_f (by decide)).trans ((rU_f (by decide)).trans hkd)
      · rw [hdn]
        exact (htx.2.2.row (by decide) (by decide)).row (by decide) (by decide)
      · rw [hdn]
        exact (rU_f (by decide)).trans rU_s
      · rw [hdn]
        exact rU_s
      · rw [hdn]
        exact ⟨(rU_f (by decide)).trans ((rU_f (by decide)).trans hS.1), hS.2.1, fun i a b => (rU_f (by decide)).trans ((rU_f (by decide)).trans (hS.2.2 i a b))⟩
    have hd1 : S1 2281 113 = dn := by
      rw [← hS1]
      exact (rU_f (by decide)).trans ((rU_f (by decide)).trans hd')
    have hc1 : S1 2281 114 = c := by
      rw [← hS1]
      exact (rU_f (by decide)).trans ((rU_f (by decide)).trans hc)
    have hSC1 : SCL S1 dn sc := by
      rw [← hdn]
      exact hF1.1.2.2.2.2 rfl
    rw [hS1] at hJ1 hX1
    have hK1 := hK.fm hX1 hJ1
    -- what is answered of an error
    have href : ∀ (e0 c2 : Int) (S5 : qR) (σ : hM), PM σ0 P S5 σ → KS T U P S5 l [] → 0 < e0 → c ≤ c2 ∧ c2 ≤ 200 → S5 2281 113 = dn → S5 2281 114 = c2 → FST S5 ((3, tt, en + 1, mu, sc) :: fs) → (∀ m, EV p (m + 1) (-2) dn (arOf fs) fr P c = evR p mu (e0, P, c2) (fun P1 c1 => EV p m (-2) dn (arOf fs) (3, tt, en + 1, mu, sc) P1 c1)) → ∃ rc, CL fb (d + 2) 399 [vR (some 2281), vI p, vI e0] σ (rP rc σ) ∧ STP p (-2) fr fs P c rc P S5 := fun e0 c2 S5 σ b1 b2 b3 b4 b5 b6 b7 b8 => by
      refine ⟨_, m_returned (mu := mu) (k := 3) b1 b2.1.iv hp b5 ⟨by omega, by omega⟩ (by rw [← hdn]; exact b7.1.1) (by decide) (by rw [← hdn]; exact b7.1.2.2.2.1 hgo2), ?_⟩
      exact STP_ref (mu := mu) (fr2 := (3, tt, en + 1, mu, sc)) (ag := fun _ _ _ => (0, P, c)) b3 b4 (b5.trans hdn.symm) b6 b7 hok2 hfk.symm hpr (fun m => by rw [hdn]; exact b8 m)
    by_cases q2 : 100 < en - pl
    · obtain ⟨rc, hrc, hst⟩ : ∃ rc, (∀ σ : hM, PM σ0 P S1 σ → CL fb (d + 2) 399 [vR (some 2281), vI p, vI 18] σ (rP rc σ)) ∧ STP p (-2) fr fs P c rc P S1 := by
        refine ⟨_, fun σ hP => m_returned (mu := mu) (k := 3) hP hK1.1.iv hp hd1 ⟨by omega, by omega⟩ (by rw [← hdn]; exact hF1.1.1) (by decide) (by rw [← hdn]; exact hF1.1.2.2.2.1 hgo2), ?_⟩
        exact STP_ref (mu := mu) (fr2 := (3, tt, en + 1, mu, sc)) (ag := fun _ _ _ => (0, P, c)) (by decide) ⟨Int.le_refl c, hc0.2⟩ (hd1.trans hdn.symm) hc1 hF1 hok2 hfk.symm hpr (fun m => by rw [hdn, hev, if_pos q2])
      have hmu01 : mu = 0 ∨ mu = 1 := by omega
      refine x_si (ls1 := [some (vR (some 2281)), some (vI p), some (vI pl), some (vI n), some (vI en), some (vI mu), none]) T_400_107 rfl ?_
      refine x_lr (z := some 2281) T_400_109 rfl ?_
      refine x_gR (z := some 2369) T_400_110 F_17_110 (PM.t hP) (PM.r hP 110 2369 rfl) ?_
      refine x_lr (z := some 2281) T_400_113 rfl ?_
      refine x_gI (z := dn) T_400_114 (Or.inl F_17_113) (PM.t hP) (Eq.trans (PM.nS hP 2281 113 113 rfl rfl rfl) hd') ?_
      refine x_li (z := mu) T_400_117 rfl ?_
      refine y_aZS hP T_400_119 (h01_of hmu01) 2369 13 rfl rfl rfl (by omega) (by omega) (fun σ hP => ?_)
      refine x_li (z := en) T_400_120 rfl ?_
      refine x_li (z := pl) T_400_122 rfl ?_
      refine x_ib (w := (en - pl)) T_400_123 (fun h => absurd h.1 (by decide)) (w32_id (by omega) (by omega)) ?_
      refine x_ic T_400_124 ?_
      refine x_ic2 T_400_126 (fun h => absurd (show (en - pl) ≤ 100 from h) (by omega)) (fun _ => ?_)
      refine x_lr (z := some 2281) T_400_129 rfl ?_
      refine x_li (z := p) T_400_130 rfl ?_
      refine x_ic T_400_131 ?_
      refine x_cv3 T_400_133 mN_399 mL_399 (Nat.le_of_ble_eq_true rfl) mO_399 (PM.t hP) (Nat.le_of_ble_eq_true rfl) (hrc σ (by rw [← hS1]; exact hP)) ?_
      rintro _ σ ⟨rfl, rfl⟩
      refine cI ?_
      refine x_ri T_400_136 ?_
      exact ⟨rc, P, S1, rfl, by rw [← hS1]; exact hP, hK1, hJp, hst⟩
    replace hev : ∀ m, EV p (m + 1) (-2) dn (arOf fs) fr P c = evR p mu (evC (EV p m) dn (some tt) (exL P p (some tt) 1 (lnT sc pl)) P c) (fun P1 c1 => EV p m (-2) dn (arOf fs) (3, tt, en + 1, mu, sc) P1 c1) := fun m => by rw [hev, if_neg q2]
    have hJ2 : IV true T U (rU S1 2281 105 0) := hJ1.uN 105 105 rfl (by show (0 : Int) ≤ 0 ∧ (0 : Int) ≤ 200; decide)
    have hX2 : SX soR soN S1 (rU S1 2281 105 0) := SX_un SX_rfl rfl
    have h204 : ∀ (σ : hM) (S3 : qR), PM σ0 P S3 σ → IV true T U S3 → SRP S3 (seg (lg sc) (pl + mu) (en - (pl + mu)).toNat) → SX soR soN S1 S3 → WP fb (d + 3) 400 204 [some (vR (some 2281)), some (vI p), some (vI pl), some (vI n), some (vI en), some (vI mu), some (vI en)] [] σ (fun r σ' => ∃ (code2 : Int) (P2 S2 : qR), r = some (vI code2) ∧ PM σ0 P2 S2 σ' ∧ KS T U P2 S2 l [] ∧ J P2 ∧ STP p (-2) fr fs P c code2 P2 S2) := fun σ S3 b1 b2 b3 b4 => by
      have hd3 : S3 2281 113 = dn := (b4.1 _ rfl).trans hd1
      have hc3 : S3 2281 114 = c := (b4.1 _ rfl).trans hc1
      have hF3 := hF1.so b4
      have hK3 : KS T U P S3 l [] := hK1.fm (SX_fm b4) b2
      have hS3 : SRC S3 (lnT sc pl) := by
        rw [eT]
        exact ⟨b3.1, by rw [seg_len]; omega, byt_seg (fun i x1 x2 => hbs _ (by omega)), b3.2⟩
      have hbg := fun (σ : hM) (hP : PM σ0 P S3 σ) => m_begin2 (fb := fb) (d := d) (ex := 1) (n := dn) (fs := (3, tt, en + 1, mu, sc) :: fs) hP hK.1.iv b2 hp (Or.inr rfl) hS3 hF3 (by show ((fs.length + 1 : Nat) : Int) = dn; omega) (by omega) hd3 hc3 hc0
      have har : arOf ((3, tt, en + 1, mu, sc) :: fs) = some tt := if_pos rfl
      rw [har] at hbg
      obtain ⟨tx, htx2⟩ : ∃ tx, exL P p (some tt) 1 (lnT sc pl) = tx := ⟨_, rfl⟩
      rw [htx2] at hbg hev
      have hrg := bgE_rng (n := dn) (c := c) (tx := tx)
      have hP := b1
      by_cases q3 : bgE dn c tx = 0
      · skip
        refine x_lr (z := some 2281) T_400_204 rfl ?_
        refine x_li (z := p) T_400_205 rfl ?_
        refine x_ic T_400_206 ?_
        refine x_cv3 T_400_207 mN_310 mL_310 (Nat.le_of_ble_eq_true rfl) mO_310 (PM.t hP) (Nat.le_of_ble_eq_true rfl) (hbg σ hP) ?_
        clear hbg
        intro r σ hr
        obtain ⟨S5, hr0, hP, hJ5, hX5, hc5, hg, -⟩ := hr
        rw [q3] at hr0
        subst hr0
        refine cI ?_
        refine x_si (ls1 := [some (vR (some 2281)), some (vI p), some (vI pl), some (vI n), some (vI en), some (vI mu), some (vI 0)]) T_400_210 rfl ?_
        refine x_li (z := 0) T_400_212 rfl ?_
        refine x_if T_400_214 (fun _ => ?_) (fun h => absurd (show (0 : Int) ≤ 0 by decide) h)
        refine x_ic T_400_227 ?_
        refine x_ri T_400_228 ?_
        skip
        obtain ⟨g1, g2⟩ := hg q3
        obtain ⟨x1, x2⟩ := bgE_0 q3
        have e2 : bgC dn c = c + 1 := if_neg (fun e => e.elim x1 x2)
        rw [e2] at hc5
        refine ⟨-1, P, S5, rfl, hP, hK3.fm hX5 hJ5, hJp, Or.inr (Or.inl ⟨rfl, by omega, by omega, tx, (3, tt, en + 1, mu, sc), by omega, hc5, g2, Or.inr ⟨hok2, hgo2, rfl, hfk.symm, hpr, by show mu = 0 ∨ mu = 1; omega, fun m => ?_⟩⟩)⟩
        rw [hdn, hev]
        unfold evC
        rw [if_pos q3, har, show dn + 1 = (fs.length : Int) + 2 by omega]
      · obtain ⟨e0, he0⟩ : ∃ e, bgE dn c tx = e := ⟨_, rfl⟩
        rw [he0] at hrg q3
        have hcr := bgC_rng (n := dn) hc0
        have hevx : ∀ m, EV p (m + 1) (-2) dn (arOf fs) fr P c = evR p mu (e0, P, bgC dn c) (fun P1 c1 => EV p m (-2) dn (arOf fs) (3, tt, en + 1, mu, sc) P1 c1) := fun m => by
          rw [hev]
          unfold evC
          rw [he0, if_neg q3]
        obtain ⟨rc, hrc0⟩ : ∃ rc, (if 0 < e0 ∧ mu = 0 then e0 else if ¬ P 2321 p = 0 then 0 else -2) = rc := ⟨_, rfl⟩
        have hrt := fun (σ : hM) (S5 : qR) (hP : PM σ0 P S5 σ) (g1 : S5 2281 113 = dn) (g2 : FST S5 ((3, tt, en + 1, mu, sc) :: fs)) => m_returned (fb := fb) (d := d + 2) (mu := mu) (k := 3) (r0 := e0) hP hK.1.iv hp g1 ⟨by omega, by omega⟩ (by rw [← hdn]; exact g2.1.1) (by decide) (by rw [← hdn]; exact g2.1.2.2.2.1 hgo2)
        rw [hrc0] at hrt
        refine x_lr (z := some 2281) T_400_204 rfl ?_
        refine x_li (z := p) T_400_205 rfl ?_
        refine x_ic T_400_206 ?_
        refine x_cv3 T_400_207 mN_310 mL_310 (Nat.le_of_ble_eq_true rfl) mO_310 (PM.t hP) (Nat.le_of_ble_eq_true rfl) (hbg σ hP) ?_
        clear hbg
        intro r σ hr
        obtain ⟨S5, hr0, hP, hJ5, hX5, hc5, -, hg⟩ := hr
        rw [he0] at hr0 hg
        subst hr0
        obtain ⟨g1, g2⟩ := hg q3
        refine cI ?_
        refine x_si (ls1 := [some (vR (some 2281)), some (vI p), some (vI pl), some (vI n), some (vI en), some (vI mu), some (vI e0)]) T_400_210 rfl ?_
        refine x_li (z := e0) T_400_212 rfl ?_
        refine x_if T_400_214 (fun h => absurd (show e0 ≤ 0 from h) (by omega)) (fun _ => ?_)
        refine x_lr (z := some 2281) T_400_217 rfl ?_
        refine x_li (z := p) T_400_218 rfl ?_
        refine x_li (z := e0) T_400_219 rfl ?_
        refine x_cv3 T_400_221 mN_399 mL_399 (Nat.le_of_ble_eq_true rfl) mO_399 (PM.t hP) (Nat.le_of_ble_eq_true rfl) (hrt σ S5 hP g1 g2) ?_
        rintro _ σ ⟨rfl, rfl⟩
        refine cI ?_
        refine x_goto T_400_224 ?_
        refine x_ri T_400_228 ?_
        skip
        refine ⟨rc, P, S5, rfl, hP, hK3.fm hX5 hJ5, hJp, ?_⟩
        rw [← hrc0]
        exact STP_ref (mu := mu) (fr2 := (3, tt, en + 1, mu, sc)) (ag := fun _ _ _ => (0, P, c)) (by omega) hcr (by rw [hdn]; exact g1) hc5 g2 hok2 hfk.symm hpr (fun m => by rw [hdn]; exact hevx m)
    have hsrc := fun (σ : hM) (hP : PM σ0 P (rU S1 2281 105 0) σ) => m_nl_src (fb := fb) (d := d + 3) (S := S1) (fl := pl + mu) (en := en) (pl := pl) (l3v := some (vI n)) (v5 := mu) hd1 ⟨by omega, by omega⟩ hSC1 hbs (by omega) (by omega) (by omega) (en - (pl + mu)).toNat (pl + mu) (rU S1 2281 105 0) σ (by omega) (Int.le_refl _) hP hJ2 (by
      rw [show pl + mu - (pl + mu) = 0 by omega]
      exact ⟨rU_s, fun j a b => absurd b (by show ¬ j < ((0 : Nat) : Int); omega)⟩) hX2 h204
    have hd1' : S 2281 113 = dn := hd'
    rcases hmr with c1 | c1
    · subst c1
      rw [show pl + 0 = pl by omega] at hsrc
      rw [← hS1] at hsrc
      refine x_si (ls1 := [some (vR (some 2281)), some (vI p), some (vI pl), some (vI n), some (vI en), some (vI 0), none]) T_400_107 rfl ?_
      refine x_lr (z := some 2281) T_400_109 rfl ?_
      refine x_gR (z := some 2369) T_400_110 F_17_110 (PM.t hP) (PM.r hP 110 2369 rfl) ?_
      refine x_lr (z := some 2281) T_400_113 rfl ?_
      refine x_gI (z := dn) T_400_114 (Or.inl F_17_113) (PM.t hP) (Eq.trans (PM.nS hP 2281 113 113 rfl rfl rfl) hd1') ?_
      refine x_li (z := 0) T_400_117 rfl ?_
      refine y_aZS hP T_400_119 rfl 2369 13 rfl rfl rfl (by omega) (by omega) (fun σ hP => ?_)
      refine x_li (z := en) T_400_120 rfl ?_
      refine x_li (z := pl) T_400_122 rfl ?_
      refine x_ib (w := (en - pl)) T_400_123 (fun h => absurd h.1 (by decide)) (w32_id (by omega) (by omega)) ?_
      refine x_ic T_400_124 ?_
      refine x_ic2 T_400_126 (fun _ => ?_) (fun h => absurd (show (en - pl) ≤ 100 by omega) h)
      refine x_lr (z := some 2281) T_400_137 rfl ?_
      refine x_ic T_400_138 ?_
      refine y_pIS hP T_400_139 F_17_105 105 rfl rfl (fun σ hP => ?_)
      refine x_li (z := 0) T_400_142 rfl ?_
      refine x_if T_400_144 (fun _ => ?_) (fun h => absurd (show (0 : Int) = 0 by decide) h)
      refine x_li (z := pl) T_400_153 rfl ?_
      refine x_si (ls1 := [some (vR (some 2281)), some (vI p), some (vI pl), some (vI n), some (vI en), some (vI 0), some (vI pl)]) T_400_154 rfl ?_
      exact hsrc σ hP
    · obtain ⟨rfl, c2⟩ := c1
      rw [← hS1] at hsrc
      refine x_si (ls1 := [some (vR (some 2281)), some (vI p), some (vI pl), some (vI n), some (vI en), some (vI 1), none]) T_400_107 rfl ?_
      refine x_lr (z := some 2281) T_400_109 rfl ?_
      refine x_gR (z := some 2369) T_400_110 F_17_110 (PM.t hP) (PM.r hP 110 2369 rfl) ?_
      refine x_lr (z := some 2281) T_400_113 rfl ?_
      refine x_gI (z := dn) T_400_114 (Or.inl F_17_113) (PM.t hP) (Eq.trans (PM.nS hP 2281 113 113 rfl rfl rfl) hd1') ?_
      refine x_li (z := 1) T_400_117 rfl ?_
      refine y_aZS hP T_400_119 rfl 2369 13 rfl rfl rfl (by omega) (by omega) (fun σ hP => ?_)
      refine x_li (z := en) T_400_120 rfl ?_
      refine x_li (z := pl) T_400_122 rfl ?_
      refine x_ib (w := (en - pl)) T_400_123 (fun h => absurd h.1 (by decide)) (w32_id (by omega) (by omega)) ?_
      refine x_ic T_400_124 ?_
      refine x_ic2 T_400_126 (fun _ => ?_) (fun h => absurd (show (en - pl) ≤ 100 by omega) h)
      refine x_lr (z := some 2281) T_400_137 rfl ?_
      refine x_ic T_400_138 ?_
      refine y_pIS hP T_400_139 F_17_105 105 rfl rfl (fun σ hP => ?_)
      refine x_li (z := 1) T_400_142 rfl ?_
      refine x_if T_400_144 (fun h => absurd (show (1 : Int) = 0 from h) (by decide)) (fun _ => ?_)
      refine x_li (z := pl) T_400_147 rfl ?_
      refine x_ic T_400_148 ?_
      refine x_ib (w := (pl + 1)) T_400_149 (fun h => absurd h.1 (by decide)) (w32_id (by omega) (by omega)) ?_
      refine x_goto T_400_150 ?_
      refine x_si (ls1 := [some (vR (some 2281)), some (vI p), some (vI pl), some (vI n), some (vI en), some (vI 1), some (vI (pl + 1))]) T_400_154 rfl ?_
      exact hsrc σ hP
  have h63 : WP fb (d + 3) 400 63 [some (vR (some 2281)), some (vI p), some (vI pl), some (vI n), some (vI en), none, none] [] σ (fun r σ' => ∃ (code2 : Int) (P2 S2 : qR), r = some (vI code2) ∧ PM σ0 P2 S2 σ' ∧ KS T U P2 S2 l [] ∧ J P2 ∧ STP p (-2) fr fs P c code2 P2 S2) := by
    by_cases q2 : pl < en
    · have hb : S 2370 (600 * dn + pl) = lg sc pl := hS.2.2 pl hp0 (by omega)
      obtain ⟨b, hb2⟩ : ∃ b, lg sc pl = b := ⟨_, rfl⟩
      rw [hb2] at hb
      by_cases q3 : b = 45
      · have hgo := h107 1 (by unfold lnM; rw [hen, if_pos ⟨q2, hb2.trans q3⟩])
        refine x_lr (z := some 2281) T_400_63 rfl ?_
        refine x_gR (z := some 2368) T_400_64 F_17_109 (PM.t hP) (PM.r hP 109 2368 rfl) ?_
        refine x_lr (z := some 2281) T_400_67 rfl ?_
        refine x_gI (z := dn) T_400_68 (Or.inl F_17_113) (PM.t hP) (Eq.trans (PM.nS hP 2281 113 113 rfl rfl rfl) hd') ?_
        refine x_li (z := en) T_400_71 rfl ?_
        refine x_ic T_400_73 ?_
        refine x_ib (w := (en + 1)) T_400_74 (fun h => absurd h.1 (by decide)) (w32_id (by omega) (by omega)) ?_
        refine y_aIS hP T_400_75 2368 13 rfl rfl rfl (by omega) (by omega) (fun σ hP => ?_)
        refine x_li (z := en) T_400_76 rfl ?_
        refine x_li (z := pl) T_400_78 rfl ?_
        refine x_ic2 T_400_79 (fun h => absurd (show en ≤ pl from h) (by omega)) (fun _ => ?_)
        refine x_lr (z := some 2281) T_400_82 rfl ?_
        refine x_gR (z := some 2370) T_400_83 F_17_111 (PM.t hP) (PM.r hP 111 2370 rfl) ?_
        refine x_ic T_400_86 ?_
        refine x_lr (z := some 2281) T_400_89 rfl ?_
        refine x_gI (z := dn) T_400_90 (Or.inl F_17_113) (PM.t hP) (Eq.trans (Eq.trans (PM.nS hP 2281 113 113 rfl rfl rfl) (rU_f (Nat.ne_of_beq_eq_false rfl))) hd') ?_
        refine x_ib (w := (600 * dn)) T_400_93 (fun h => absurd h.1 (by decide)) (w32_id (by omega) (by omega)) ?_
        refine x_li (z := pl) T_400_94 rfl ?_
        refine x_ib (w := ((600 * dn) + pl)) T_400_95 (fun h => absurd h.1 (by decide)) (w32_id (by omega) (by omega)) ?_
        refine x_alI (z := b) T_400_96 (by decide) (PM.ta hP 2370 0 7800 rfl rfl) (by omega) (by omega) (Eq.trans (Eq.trans (PM.aS hP 2370 rfl rfl (by omega)) (rU_f (Nat.ne_of_beq_eq_false rfl))) hb) ?_
        refine x_ic T_400_97 ?_
        refine x_ic2 T_400_99 (fun h => absurd (show ¬ b = 45 from h) (by omega)) (fun _ => ?_)
        refine x_ic T_400_102 ?_
        refine x_goto T_400_103 ?_
        exact hgo σ hP
      · have hgo := h107 0 (by unfold lnM; rw [if_neg (fun c => q3 (hb2.symm.trans c.2))])
        refine x_lr (z := some 2281) T_400_63 rfl ?_
        refine x_gR (z := some 2368) T_400_64 F_17_109 (PM.t hP) (PM.r hP 109 2368 rfl) ?_
        refine x_lr (z := some 2281) T_400_67 rfl ?_
        refine x_gI (z := dn) T_400_68 (Or.inl F_17_113) (PM.t hP) (Eq.trans (PM.nS hP 2281 113 113 rfl rfl rfl) hd') ?_
        refine x_li (z := en) T_400_71 rfl ?_
        refine x_ic T_400_73 ?_
        refine x_ib (w := (en + 1)) T_400_74 (fun h => absurd h.1 (by decide)) (w32_id (by omega) (by omega)) ?_
        refine y_aIS hP T_400_75 2368 13 rfl rfl rfl (by omega) (by omega) (fun σ hP => ?_)
        refine x_li (z := en) T_400_76 rfl ?_
        refine x_li (z := pl) T_400_78 rfl ?_
        refine x_ic2 T_400_79 (fun h => absurd (show en ≤ pl from h) (by omega)) (fun _ => ?_)
        refine x_lr (z := some 2281) T_400_82 rfl ?_
        refine x_gR (z := some 2370) T_400_83 F_17_111 (PM.t hP) (PM.r hP 111 2370 rfl) ?_
        refine x_ic T_400_86 ?_
        refine x_lr (z := some 2281) T_400_89 rfl ?_
        refine x_gI (z := dn) T_400_90 (Or.inl F_17_113) (PM.t hP) (Eq.trans (Eq.trans (PM.nS hP 2281 113 113 rfl rfl rfl) (rU_f (Nat.ne_of_beq_eq_false rfl))) hd') ?_
        refine x_ib (w := (600 * dn)) T_400_93 (fun h => absurd h.1 (by decide)) (w32_id (by omega) (by omega)) ?_
        refine x_li (z := pl) T_400_94 rfl ?_
        refine x_ib (w := ((600 * dn) + pl)) T_400_95 (fun h => absurd h.1 (by decide)) (w32_id (by omega) (by omega)) ?_
        refine x_alI (z := b) T_400_96 (by decide) (PM.ta hP 2370 0 7800 rfl rfl) (by omega) (by omega) (Eq.trans (Eq.trans (PM.aS hP 2370 rfl rfl (by omega)) (rU_f (Nat.ne_of_beq_eq_false rfl))) hb) ?_
        refine x_ic T_400_97 ?_
        refine x_ic2 T_400_99 (fun _ => ?_) (fun h => absurd (show ¬ b = 45 by omega) h)
        refine x_ic T_400_106 ?_
        exact hgo σ hP
    · have hgo := h107 0 (by unfold lnM; rw [hen, if_neg (fun c => q2 c.1)])
      refine x_lr (z := some 2281) T_400_63 rfl ?_
      refine x_gR (z := some 2368) T_400_64 F_17_109 (PM.t hP) (PM.r hP 109 2368 rfl) ?_
      refine x_lr (z := some 2281) T_400_67 rfl ?_
      refine x_gI (z := dn) T_400_68 (Or.inl F_17_113) (PM.t hP) (Eq.trans (PM.nS hP 2281 113 113 rfl rfl rfl) hd') ?_
      refine x_li (z := en) T_400_71 rfl ?_
      refine x_ic T_400_73 ?_
      refine x_ib (w := (en + 1)) T_400_74 (fun h => absurd h.1 (by decide)) (w32_id (by omega) (by omega)) ?_
      refine y_aIS hP T_400_75 2368 13 rfl rfl rfl (by omega) (by omega) (fun σ hP => ?_)
      refine x_li (z := en) T_400_76 rfl ?_
      refine x_li (z := pl) T_400_78 rfl ?_
      refine x_ic2 T_400_79 (fun _ => ?_) (fun h => absurd (show en ≤ pl by omega) h)
      refine x_ic T_400_106 ?_
      exact hgo σ hP
  have hgo := hfind h63
  refine CL_in mL_400 rfl ?_
  show WP fb _ 400 0 [some (vR (some 2281)), some (vI p), none, none, none, none, none] [] σ _
  refine x_lr (z := some 2281) T_400_0 rfl ?_
  refine x_gR (z := some 2368) T_400_1 F_17_109 (PM.t hP) (PM.r hP 109 2368 rfl) ?_
  refine x_lr (z := some 2281) T_400_4 rfl ?_
  refine x_gI (z := dn) T_400_5 (Or.inl F_17_113) (PM.t hP) (Eq.trans (PM.nS hP 2281 113 113 rfl rfl rfl) hd') ?_
  refine x_alI (z := pl) T_400_8 (by decide) (PM.ta hP 2368 0 13 rfl rfl) (by omega) (by omega) (Eq.trans (PM.aS hP 2368 rfl rfl (by omega)) hplr) ?_
  refine x_si (ls1 := [some (vR (some 2281)), some (vI p), some (vI pl), none, none, none, none]) T_400_9 rfl ?_
  refine x_lr (z := some 2281) T_400_10 rfl ?_
  refine x_gR (z := some 2371) T_400_11 F_17_112 (PM.t hP) (PM.r hP 112 2371 rfl) ?_
  refine x_lr (z := some 2281) T_400_14 rfl ?_
  refine x_gI (z := dn) T_400_15 (Or.inl F_17_113) (PM.t hP) (Eq.trans (PM.nS hP 2281 113 113 rfl rfl rfl) hd') ?_
  refine x_alI (z := n) T_400_18 (by decide) (PM.ta hP 2371 0 13 rfl rfl) (by omega) (by omega) (Eq.trans (PM.aS hP 2371 rfl rfl (by omega)) hsz) ?_
  refine x_si (ls1 := [some (vR (some 2281)), some (vI p), some (vI pl), some (vI n), none, none, none]) T_400_19 rfl ?_
  refine x_li (z := pl) T_400_20 rfl ?_
  refine x_li (z := n) T_400_21 rfl ?_
  refine x_ic2 T_400_22 (fun _ => ?_) (fun h => absurd (show pl < n by omega) h)
  refine x_li (z := pl) T_400_27 rfl ?_
  refine x_si (ls1 := [some (vR (some 2281)), some (vI p), some (vI pl), some (vI n), some (vI pl), none, none]) T_400_28 rfl ?_
  exact hgo
theorem m_next (hP : PM σ0 P S σ) (hK : KS T U P S l []) (hp : 0 ≤ p ∧ p < 8) (hF : FST S (fr :: fs)) (hok : frOk fr) (hd : S 2281 113 = (fs.length : Int) + 1) (hd12 : (fs.length : Int) + 1 ≤ 12) (hc : S 2281 114 = c) (hc0 : 0 ≤ c ∧ c ≤ 200) (hJH : JH p J) (hJp : J P) : CL fb (d + 4) 398 [vR (some 2281), vI p] σ (fun r σ' => ∃ (code2 : Int) (P2 S2 : qR) (l2 : List Int), r = some (vI code2) ∧ PM σ0 P2 S2 σ' ∧ KS T U P2 S2 l2 [] ∧ J P2 ∧ STP p (-2) fr fs P c code2 P2 S2) := by
  rcases hok with q | q
  · refine CL.mono (m_next_for (d := d + 1) hP hK hp hF rfl q.1 (Or.inl q) hd hd12 hc hc0 hJH hJp) (fun r σ1 hr => ?_)
    obtain ⟨a1, a2, a3, a4, a5, a6, a7, a8⟩ := hr
    exact ⟨a1, a2, a3, _, a4, a5, a6, a7, a8⟩
  · have hnl := m_nextLine (fb := fb) (d := d) hP hK hp hF q.1 (Or.inr q) hd hd12 hc hc0 hJp
    have hkd := hF.1.1.trans q.1
    obtain ⟨dn, hdn⟩ : ∃ dn : Int, (fs.length : Int) + 1 = dn := ⟨_, rfl⟩
    rw [hdn] at hd hd12 hkd
    refine CL_in mL_398 rfl ?_
    show WP fb _ 398 0 [some (vR (some 2281)), some (vI p), none, none, none] [] σ _
    refine x_lr (z := some 2281) T_398_0 rfl ?_
    refine x_gR (z := some 2367) T_398_1 F_17_108 (PM.t hP) (PM.r hP 108 2367 rfl) ?_
    refine x_lr (z := some 2281) T_398_4 rfl ?_
    refine x_gI (z := dn) T_398_5 (Or.inl F_17_113) (PM.t hP) (Eq.trans (PM.nS hP 2281 113 113 rfl rfl rfl) hd) ?_
    refine x_alI (z := 3) T_398_8 (by decide) (PM.ta hP 2367 0 13 rfl rfl) (by omega) (by omega) (Eq.trans (PM.aS hP 2367 rfl rfl (by omega)) hkd) ?_
    refine x_ic T_398_9 ?_
    refine x_ic2 T_398_10 (fun _ => ?_) (fun h => absurd (show ¬ (3 : Int) = 2 by decide) h)
    refine x_lr (z := some 2281) T_398_122 rfl ?_
    refine x_li (z := p) T_398_123 rfl ?_
    refine x_cv2 T_398_124 mN_400 mL_400 (Nat.le_of_ble_eq_true rfl) mO_400 (PM.t hP) (Nat.le_of_ble_eq_true rfl) (hnl) ?_
    intro r σ hr
    obtain ⟨c2, P2, S2, rfl, r1, r2, r3, r4⟩ := hr
    refine cI ?_
    refine x_ri T_398_127 ?_
    exact ⟨c2, P2, S2, _, rfl, r1, r2, r3, r4⟩
end MNX2
