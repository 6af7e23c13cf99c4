/-! join2: gathered and made. -/
theorem T_363_93 : hTab 363 93 = some ((3, 2, 0, []), 94) := rfl
theorem T_363_94 : hTab 363 94 = some ((18, 2, Int.ofNat 112, []), 97) := rfl
theorem T_363_97 : hTab 363 97 = some ((3, 4, 0, []), 99) := rfl
theorem T_363_99 : hTab 363 99 = some ((18, 1, Int.ofNat 112, []), 102) := rfl
theorem T_363_102 : hTab 363 102 = some ((3, 5, 0, []), 104) := rfl
theorem T_363_104 : hTab 363 104 = some ((18, 1, Int.ofNat 112, []), 107) := rfl
theorem T_363_107 : hTab 363 107 = some ((3, 0, 2, []), 108) := rfl
theorem T_363_108 : hTab 363 108 = some ((3, 2, 0, []), 109) := rfl
theorem T_363_109 : hTab 363 109 = some ((31, 367, 0, []), 112) := rfl
theorem T_363_112 : hTab 363 112 = some ((3, 2, 0, []), 113) := rfl
theorem T_363_113 : hTab 363 113 = some ((4, 9, 0, []), 115) := rfl
theorem T_363_115 : hTab 363 115 = some ((3, 2, 0, []), 116) := rfl
theorem T_363_116 : hTab 363 116 = some ((18, 3, Int.ofNat 171, []), 119) := rfl
theorem T_363_119 : hTab 363 119 = some ((0, 0, 8, []), 121) := rfl
theorem T_363_121 : hTab 363 121 = some ((3, 7, 0, []), 123) := rfl
theorem T_363_123 : hTab 363 123 = some ((10, 2, 0, []), 124) := rfl
theorem T_363_124 : hTab 363 124 = some ((3, 0, 2, []), 125) := rfl
theorem T_363_125 : hTab 363 125 = some ((24, 17, Int.ofNat 64, []), 128) := rfl
theorem T_363_128 : hTab 363 128 = some ((3, 7, 0, []), 130) := rfl
theorem T_363_130 : hTab 363 130 = some ((26, 0, 0, []), 131) := rfl
theorem T_363_131 : hTab 363 131 = some ((10, 0, 0, []), 132) := rfl
theorem T_363_132 : hTab 363 132 = some ((4, 9, 0, []), 134) := rfl
theorem T_363_134 : hTab 363 134 = some ((3, 0, 2, []), 135) := rfl
theorem T_363_135 : hTab 363 135 = some ((24, 17, Int.ofNat 64, []), 138) := rfl
theorem T_363_138 : hTab 363 138 = some ((3, 7, 0, []), 140) := rfl
theorem T_363_140 : hTab 363 140 = some ((8, 0, 0, []), 141) := rfl
theorem T_363_141 : hTab 363 141 = some ((26, 0, 0, []), 142) := rfl
theorem T_363_142 : hTab 363 142 = some ((0, 0, 1, []), 143) := rfl
theorem T_363_143 : hTab 363 143 = some ((10, 0, 0, []), 144) := rfl
theorem T_363_144 : hTab 363 144 = some ((27, 0, 0, []), 145) := rfl
theorem T_363_145 : hTab 363 145 = some ((3, 0, 2, []), 146) := rfl
theorem T_363_146 : hTab 363 146 = some ((24, 17, Int.ofNat 65, []), 149) := rfl
theorem T_363_149 : hTab 363 149 = some ((3, 9, 0, []), 151) := rfl
theorem T_363_151 : hTab 363 151 = some ((3, 0, 2, []), 152) := rfl
theorem T_363_152 : hTab 363 152 = some ((24, 17, Int.ofNat 86, []), 155) := rfl
theorem T_363_155 : hTab 363 155 = some ((0, 0, 1, []), 156) := rfl
theorem T_363_156 : hTab 363 156 = some ((26, 0, 0, []), 157) := rfl
theorem T_363_157 : hTab 363 157 = some ((27, 0, 0, []), 158) := rfl
theorem T_363_158 : hTab 363 158 = some ((3, 0, 2, []), 159) := rfl
theorem T_363_159 : hTab 363 159 = some ((24, 17, Int.ofNat 66, []), 162) := rfl
theorem T_363_162 : hTab 363 162 = some ((3, 9, 0, []), 164) := rfl
theorem T_363_164 : hTab 363 164 = some ((3, 0, 2, []), 165) := rfl
theorem T_363_165 : hTab 363 165 = some ((24, 17, Int.ofNat 88, []), 168) := rfl
theorem T_363_168 : hTab 363 168 = some ((0, 0, 1, []), 169) := rfl
theorem T_363_169 : hTab 363 169 = some ((26, 0, 0, []), 170) := rfl
theorem T_363_170 : hTab 363 170 = some ((27, 0, 0, []), 171) := rfl
def cJoin (P : qR) (g old fr bf bh mk : Int) (h : List Ch) (c1 : Ch) : qR := cJn (jnQ P g old bf bh c1) (jnPt P g old) (jnL P h c1 old fr bf bh mk) c1 (jnW old bf bh)
section MJOIN4
variable {fb : Bool} {d : Nat} {σ0 σ : hM} {P Q R S S1 S2 : qR} {T U s w g u p k e t z o thr pt off n N v mk fr bf bh old : Int} {l l1 l2 nm wd A : List Int} {h : List Ch} {f : Int → Int} {x : Nw} {c c1 : Ch} {ns : List Nw}
theorem SX_nwsc (hX : SX nwR nwN S S1) : SX scR scN S S1 := hX.mono (fun _ => elem_sub (by decide)) (fun _ => elem_sub (by decide))
theorem m_join_b (hP : PM σ0 P S σ) (hK : KS T U P S l h) (hN : NW S ns) (hn1 : 1 ≤ ns.length) (hp : 0 ≤ p ∧ p < 8) (hg : P 2323 p = g) (hold : old = -1 ∨ (8 * g ≤ old ∧ old < 8 * g + P 2334 g)) (hnew : old < 0 → P 2334 g < 8) (hc1 : h[1]? = some c1) (hbf : bf = 0 ∨ bf = 1) (hbh : bh = 0 ∨ bh = 1) (hw : w = 0 ∨ w = 1) (hT : T + 200 ≤ 2147483000) : WP fb (d + 13) 363 93 [some (vR (some 2281)), some (vI p), some (vI old), some (vI fr), some (vI bf), some (vI bh), some (vI mk), some (vI g), some (vI w), none, none, none] [] σ (fun r σ' => ∃ S2 : qR, r = none ∧ PM σ0 (cJn (jnQ P g old bf bh c1) (jnPt P g old) ns c1 w) S2 σ' ∧ KS (T + 28) U (cJn (jnQ P g old bf bh c1) (jnPt P g old) ns c1 w) S2 l [] ∧ SX scR scN S S2) := by
  have bg : 0 ≤ P 2323 p ∧ P 2323 p ≤ 7 := IV.a hK.1.iv 2323 0 8 rfl rfl rfl (by omega) (by omega)
  rw [hg] at bg
  have bp : 0 ≤ P 2334 g ∧ P 2334 g ≤ 8 := IV.a hK.1.iv 2334 0 8 rfl rfl rfl (by omega) (by omega)
  have hci := HS.ci hK.2.2.1 hK.2.2.2.1 hc1
  obtain ⟨f1, f2, f3, f4, f5⟩ := hK.2.2.2.1.get (z := 1) (i := 1) rfl hc1
  unfold jnQ jnPt
  by_cases q : old < 0
  · rw [if_pos q, if_pos q]
    obtain ⟨np, hnp⟩ : ∃ np, P 2334 g = np := ⟨_, rfl⟩
    rw [hnp] at bp hnew ⊢
    have hn8 := hnew q
    have h1 := GI_one (f := 2334) (j := g) (v := np + 1) (ty := 0) (len := 8) hK.1 rfl (show 0 ≤ np + 1 ∧ np + 1 ≤ 8 by omega) rfl rfl rfl rfl rfl rfl rfl rfl rfl (by decide) (by decide)
    have h2 := GI_one (f := 2335) (j := 8 * g + np) (v := c1.1) (ty := 0) (len := 64) h1 rfl hci.1 rfl rfl rfl rfl rfl rfl rfl rfl rfl (by decide) (by decide)
    have h3 := GI_one (f := 2336) (j := 8 * g + np) (v := c1.2.2.1) (ty := 0) (len := 64) h2 rfl hci.2.2.1 rfl rfl rfl rfl rfl rfl rfl rfl rfl (by decide) (by decide)
    have hPT : ∀ g1 k : Int, 0 ≤ g1 → g1 < 8 → 0 ≤ k → k < rU (rU (rU P 2334 g (np + 1)) 2335 (8 * g + np) c1.1) 2336 (8 * g + np) c1.2.2.1 2334 g1 → ¬ 8 * g1 + k = 8 * g + np → 1 ≤ rU (rU (rU P 2334 g (np + 1)) 2335 (8 * g + np) c1.1) 2336 (8 * g + np) c1.2.2.1 2337 (8 * g1 + k) := fun g1 k a1 a2 a3 a4 a5 => by
      rw [rU_f (by decide), rU_f (by decide)] at a4
      rw [rU_f (by decide), rU_f (by decide), rU_f (by decide)]
      by_cases q2 : g1 = g
      · subst q2
        rw [rU_s] at a4
        exact hK.2.1 g1 k a1 a2 a3 (by omega)
      · rw [rU_k q2] at a4
        exact hK.2.1 g1 k a1 a2 a3 a4
    have htl := fun (σ : hM) hP => WP.mono (m_join_tail (fb := fb) (d := d + 1) (σ0 := σ0) (σ := σ) (p := p) (old := old) (fr := fr) (bf := bf) (bh := bh) (mk := mk) (v0 := g) (pt := 8 * g + np) hP h3 hPT hK.2.2.1 hK.2.2.2.1 hK.2.2.2.2 hN hn1 ⟨by omega, by omega⟩ hc1 hw (by omega)) (Q := fun r σ' => ∃ S2 : qR, r = none ∧ PM σ0 (cJn (rU (rU (rU P 2334 g (np + 1)) 2335 (8 * g + np) c1.1) 2336 (8 * g + np) c1.2.2.1) (8 * g + np) ns c1 w) S2 σ' ∧ KS (T + 28) U (cJn (rU (rU (rU P 2334 g (np + 1)) 2335 (8 * g + np) c1.1) 2336 (8 * g + np) c1.2.2.1) (8 * g + np) ns c1 w) S2 l [] ∧ SX scR scN S S2) (fun r σ1 hr => by
      obtain ⟨S2, r1, r2, r3, r4⟩ := hr
      exact ⟨S2, r1, r2, r3.mono (by omega), r4⟩)
    refine x_li (z := old) T_363_93 rfl ?_
    refine x_if T_363_94 (fun _ => ?_) (fun h => absurd (show old < 0 by omega) h)
    refine x_li (z := old) T_363_112 rfl ?_
    refine x_si (ls1 := [some (vR (some 2281)), some (vI p), some (vI old), some (vI fr), some (vI bf), some (vI bh), some (vI mk), some (vI g), some (vI w), some (vI old), none, none]) T_363_113 rfl ?_
    refine x_li (z := old) T_363_115 rfl ?_
    refine x_if T_363_116 (fun h => absurd (show 0 ≤ old from h) (by omega)) (fun _ => ?_)
    refine x_ic T_363_119 ?_
    refine x_li (z := g) T_363_121 rfl ?_
    refine x_ib (w := (8 * g)) T_363_123 (fun h => absurd h.1 (by decide)) (w32_id (by omega) (by omega)) ?_
    refine x_lr (z := some 2281) T_363_124 rfl ?_
    refine x_gR (z := some 2334) T_363_125 F_17_64 (PM.t hP) (PM.r hP 64 2334 rfl) ?_
    refine x_li (z := g) T_363_128 rfl ?_
    refine x_alI (z := np) T_363_130 (by decide) (PM.ta hP 2334 0 8 rfl rfl) (by omega) (by omega) (Eq.trans (PM.aP hP 2334 rfl rfl (by omega)) hnp) ?_
    refine x_ib (w := ((8 * g) + np)) T_363_131 (fun h => absurd h.1 (by decide)) (w32_id (by omega) (by omega)) ?_
    refine x_si (ls1 := [some (vR (some 2281)), some (vI p), some (vI old), some (vI fr), some (vI bf), some (vI bh), some (vI mk), some (vI g), some (vI w), some (vI ((8 * g) + np)), none, none]) T_363_132 rfl ?_
    refine x_lr (z := some 2281) T_363_134 rfl ?_
    refine x_gR (z := some 2334) T_363_135 F_17_64 (PM.t hP) (PM.r hP 64 2334 rfl) ?_
    refine x_li (z := g) T_363_138 rfl ?_
    refine x_dup2 T_363_140 ?_
    refine x_alI (z := np) T_363_141 (by decide) (PM.ta hP 2334 0 8 rfl rfl) (by omega) (by omega) (Eq.trans (PM.aP hP 2334 rfl rfl (by omega)) hnp) ?_
    refine x_ic T_363_142 ?_
    refine x_ib (w := (np + 1)) T_363_143 (fun h => absurd h.1 (by decide)) (w32_id (by omega) (by omega)) ?_
    refine y_aIP hP T_363_144 2334 8 rfl rfl rfl (by omega) (by omega) (fun σ hP => ?_)
    refine x_lr (z := some 2281) T_363_145 rfl ?_
    refine x_gR (z := some 2335) T_363_146 F_17_65 (PM.t hP) (PM.r hP 65 2335 rfl) ?_
    refine x_li (z := ((8 * g) + np)) T_363_149 rfl ?_
    refine x_lr (z := some 2281) T_363_151 rfl ?_
    refine x_gR (z := some 2350) T_363_152 F_17_86 (PM.t hP) (PM.r hP 86 2350 rfl) ?_
    refine x_ic T_363_155 ?_
    refine x_alI (z := c1.1) T_363_156 (by decide) (PM.ta hP 2350 0 64 rfl rfl) (by omega) (by omega) (Eq.trans (PM.aS hP 2350 rfl rfl (by omega)) f1) ?_
    refine y_aIP hP T_363_157 2335 64 rfl rfl rfl (by omega) (by omega) (fun σ hP => ?_)
    refine x_lr (z := some 2281) T_363_158 rfl ?_
    refine x_gR (z := some 2336) T_363_159 F_17_66 (PM.t hP) (PM.r hP 66 2336 rfl) ?_
    refine x_li (z := ((8 * g) + np)) T_363_162 rfl ?_
    refine x_lr (z := some 2281) T_363_164 rfl ?_
    refine x_gR (z := some 2352) T_363_165 F_17_88 (PM.t hP) (PM.r hP 88 2352 rfl) ?_
    refine x_ic T_363_168 ?_
    refine x_alI (z := c1.2.2.1) T_363_169 (by decide) (PM.ta hP 2352 0 64 rfl rfl) (by omega) (by omega) (Eq.trans (PM.aS hP 2352 rfl rfl (by omega)) f3) ?_
    refine y_aIP hP T_363_170 2336 64 rfl rfl rfl (by omega) (by omega) (fun σ hP => ?_)
    exact htl σ hP
  · rw [if_neg q, if_neg q]
    have ho := hold.resolve_left (by omega)
    have htl := fun (σ : hM) (P : qR) (S : qR) (T : Int) (hP : PM σ0 P S σ) (hK : KS T U P S l h) (hN : NW S ns) (hT : T + 100 ≤ 2147483000) => m_join_tail (fb := fb) (d := d + 1) (p := p) (old := old) (fr := fr) (bf := bf) (bh := bh) (mk := mk) (v0 := g) (pt := old) hP hK.1 (fun g1 k a1 a2 a3 a4 _ => hK.2.1 g1 k a1 a2 a3 a4) hK.2.2.1 hK.2.2.2.1 hK.2.2.2.2 hN hn1 ⟨by omega, by omega⟩ hc1 hw hT
    have htl0 := fun (σ : hM) (hP : PM σ0 P S σ) => WP.mono (htl σ P S T hP hK hN (by omega)) (Q := fun r σ' => ∃ S2 : qR, r = none ∧ PM σ0 (cJn P old ns c1 w) S2 σ' ∧ KS (T + 28) U (cJn P old ns c1 w) S2 l [] ∧ SX scR scN S S2) (fun r σ1 hr => by
      obtain ⟨S2, r1, r2, r3, r4⟩ := hr
      exact ⟨S2, r1, r2, r3.mono (by omega), r4⟩)
    rcases hbf with rfl | rfl
    · rcases hbh with rfl | rfl
      · rw [if_pos ⟨rfl, rfl⟩]
        have hdm := m_dropMembers (fb := fb) (d := d) (pt := old) ⟨by omega, by omega⟩ (by omega) hP hK
        obtain ⟨P3, hP3⟩ : ∃ P3, kDrM old (P 2337 old).toNat 0 P = P3 := ⟨_, rfl⟩
        rw [hP3] at hdm ⊢
        have htl3 := fun (σ : hM) (S3 : qR) (hP : PM σ0 P3 S3 σ) (hK3 : KS (T + 24) U P3 S3 l h) (hS3 : SK S S3) => WP.mono (htl σ P3 S3 (T + 24) hP hK3 (hN.sk hS3) (by omega)) (Q := fun r σ' => ∃ S2 : qR, r = none ∧ PM σ0 (cJn P3 old ns c1 w) S2 σ' ∧ KS (T + 28) U (cJn P3 old ns c1 w) S2 l [] ∧ SX scR scN S S2) (fun r σ1 hr => by
          obtain ⟨S2, r1, r2, r3, r4⟩ := hr
          exact ⟨S2, r1, r2, r3.mono (by omega), SX_tr (SX_sc hS3.sw) r4⟩)
        refine x_li (z := old) T_363_93 rfl ?_
        refine x_if T_363_94 (fun h => absurd (show old < 0 from h) (by omega)) (fun _ => ?_)
        refine x_li (z := 0) T_363_97 rfl ?_
        refine x_if T_363_99 (fun h => absurd (show ¬ (0 : Int) = 0 from h) (by decide)) (fun _ => ?_)
        refine x_li (z := 0) T_363_102 rfl ?_
        refine x_if T_363_104 (fun h => absurd (show ¬ (0 : Int) = 0 from h) (by decide)) (fun _ => ?_)
        refine x_lr (z := some 2281) T_363_107 rfl ?_
        refine x_li (z := old) T_363_108 rfl ?_
        refine x_cv2 T_363_109 mN_367 mL_367 (Nat.le_of_ble_eq_true rfl) mO_367 (PM.t hP) (Nat.le_of_ble_eq_true rfl) (hdm) ?_
        clear hP hdm
        rintro _ σ ⟨S3, rfl, hP, hK3, hS3⟩
        refine cV ?_
        refine x_li (z := old) T_363_112 rfl ?_
        refine x_si (ls1 := [some (vR (some 2281)), some (vI p), some (vI old), some (vI fr), some (vI 0), some (vI 0), some (vI mk), some (vI g), some (vI w), some (vI old), none, none]) T_363_113 rfl ?_
        refine x_li (z := old) T_363_115 rfl ?_
        refine x_if T_363_116 (fun _ => ?_) (fun h => absurd (show 0 ≤ old by omega) h)
        exact htl3 σ S3 hP hK3 hS3
      · rw [if_neg (fun c => absurd c.2 (by decide))]
        refine x_li (z := old) T_363_93 rfl ?_
        refine x_if T_363_94 (fun h => absurd (show old < 0 from h) (by omega)) (fun _ => ?_)
        refine x_li (z := 0) T_363_97 rfl ?_
        refine x_if T_363_99 (fun h => absurd (show ¬ (0 : Int) = 0 from h) (by decide)) (fun _ => ?_)
        refine x_li (z := 1) T_363_102 rfl ?_
        refine x_if T_363_104 (fun _ => ?_) (fun h => absurd (show ¬ (1 : Int) = 0 by decide) h)
        refine x_li (z := old) T_363_112 rfl ?_
        refine x_si (ls1 := [some (vR (some 2281)), some (vI p), some (vI old), some (vI fr), some (vI 0), some (vI 1), some (vI mk), some (vI g), some (vI w), some (vI old), none, none]) T_363_113 rfl ?_
        refine x_li (z := old) T_363_115 rfl ?_
        refine x_if T_363_116 (fun _ => ?_) (fun h => absurd (show 0 ≤ old by omega) h)
        exact htl0 σ hP
    · rw [if_neg (fun c => absurd c.1 (by decide))]
      refine x_li (z := old) T_363_93 rfl ?_
      refine x_if T_363_94 (fun h => absurd (show old < 0 from h) (by omega)) (fun _ => ?_)
      refine x_li (z := 1) T_363_97 rfl ?_
      refine x_if T_363_99 (fun _ => ?_) (fun h => absurd (show ¬ (1 : Int) = 0 by decide) h)
      refine x_li (z := old) T_363_112 rfl ?_
      refine x_si (ls1 := [some (vR (some 2281)), some (vI p), some (vI old), some (vI fr), some (vI 1), some (vI bh), some (vI mk), some (vI g), some (vI w), some (vI old), none, none]) T_363_113 rfl ?_
      refine x_li (z := old) T_363_115 rfl ?_
      refine x_if T_363_116 (fun _ => ?_) (fun h => absurd (show 0 ≤ old by omega) h)
      exact htl0 σ hP
theorem m_join2 (hP : PM σ0 P S σ) (hK : KS T U P S l h) (hp : 0 ≤ p ∧ p < 8) (hg : P 2323 p = g) (hold : old = -1 ∨ (8 * g ≤ old ∧ old < 8 * g + P 2334 g)) (hnew : old < 0 → P 2334 g < 8) (hfr : fr < 64) (hmk : mk = 0 ∨ mk = 1) (h2 : 2 ≤ h.length) (h22 : fr < 0 → h.length = 2) (h8 : h.length ≤ 8) (hc1 : h[1]? = some c1) (hbf : bf = 0 ∨ bf = 1) (hbh : bh = 0 ∨ bh = 1) (hlen : (jnL P h c1 old fr bf bh mk).length ≤ 6) (hn1 : 1 ≤ (jnL P h c1 old fr bf bh mk).length) (hT : T + 200 ≤ 2147483000) : CL fb (d + 13) 363 [vR (some 2281), vI p, vI old, vI fr, vI bf, vI bh, vI mk] σ (fun r σ' => ∃ S2 : qR, r = none ∧ PM σ0 (cJoin P g old fr bf bh mk h c1) S2 σ' ∧ KS (T + 28) U (cJoin P g old fr bf bh mk h c1) S2 l [] ∧ SX scR scN S S2) := by
  have bg : 0 ≤ P 2323 p ∧ P 2323 p ≤ 7 := IV.a hK.1.iv 2323 0 8 rfl rfl rfl (by omega) (by omega)
  have bp : 0 ≤ P 2334 (P 2323 p) ∧ P 2334 (P 2323 p) ≤ 8 := IV.a hK.1.iv 2334 0 8 rfl rfl rfl (by omega) (by omega)
  rw [hg] at bg bp
  have ho64 : old < 64 := by omega
  have hQ : ∀ (w : Int), (w = 0 ∨ w = 1) → jnW old bf bh = w → ∀ (σ : hM) (S2 : qR), PM σ0 P S2 σ → KS T U P S2 l h → NW S2 (jnL P h c1 old fr bf bh mk) → SX nwR nwN S S2 → WP fb (d + 13) 363 93 [some (vR (some 2281)), some (vI p), some (vI old), some (vI fr), some (vI bf), some (vI bh), some (vI mk), some (vI g), some (vI w), none, none, none] [] σ (fun r σ' => ∃ S2 : qR, r = none ∧ PM σ0 (cJoin P g old fr bf bh mk h c1) S2 σ' ∧ KS (T + 28) U (cJoin P g old fr bf bh mk h c1) S2 l [] ∧ SX scR scN S S2) := fun w hw hw2 σ S2 a1 a2 a3 a4 => by
    refine WP.mono (m_join_b (d := d) a1 a2 a3 hn1 hp hg hold hnew hc1 hbf hbh hw hT) ?_
    rintro r σ1 ⟨S3, r1, r2, r3, r4⟩
    unfold cJoin
    rw [hw2]
    exact ⟨S3, r1, r2, r3, SX_tr (SX_nwsc a4) r4⟩
  refine CL_in mL_363 rfl ?_
  show WP fb _ 363 0 [some (vR (some 2281)), some (vI p), some (vI old), some (vI fr), some (vI bf), some (vI bh), some (vI mk), none, none, none, none, none] [] σ _
  by_cases q : old < 0
  · rcases hbf with rfl | rfl
    · rcases hbh with rfl | rfl
      · exact m_join_0 (d := d + 11) q hP hK hp hg ho64 hfr hmk h2 h22 h8 hc1 hlen (hQ 0 (Or.inl rfl) (by unfold jnW; rw [if_neg (by omega)]))
      · exact m_join_2 (d := d + 11) q hP hK hp hg ho64 hfr hmk h2 h22 h8 hc1 hlen (hQ 1 (Or.inr rfl) (by unfold jnW; rw [if_pos (by omega)]))
    · rcases hbh with rfl | rfl
      · exact m_join_4 (d := d + 11) q hP hK hp hg ho64 hfr hmk h2 h22 h8 hc1 hlen (hQ 1 (Or.inr rfl) (by unfold jnW; rw [if_pos (by omega)]))
      · exact m_join_6 (d := d + 11) q hP hK hp hg ho64 hfr hmk h2 h22 h8 hc1 hlen (hQ 1 (Or.inr rfl) (by unfold jnW; rw [if_pos (by omega)]))
  · rcases hbf with rfl | rfl
    · rcases hbh with rfl | rfl
      · exact m_join_1 (d := d + 11) q hP hK hp hg ho64 hfr hmk h2 h22 h8 hc1 hlen (hQ 0 (Or.inl rfl) (by unfold jnW; rw [if_neg (by omega)]))
      · exact m_join_3 (d := d + 11) q hP hK hp hg ho64 hfr hmk h2 h22 h8 hc1 hlen (hQ 0 (Or.inl rfl) (by unfold jnW; rw [if_neg (by omega)]))
    · rcases hbh with rfl | rfl
      · exact m_join_5 (d := d + 11) q hP hK hp hg ho64 hfr hmk h2 h22 h8 hc1 hlen (hQ 0 (Or.inl rfl) (by unfold jnW; rw [if_neg (by omega)]))
      · exact m_join_7 (d := d + 11) q hP hK hp hg ho64 hfr hmk h2 h22 h8 hc1 hlen (hQ 0 (Or.inl rfl) (by unfold jnW; rw [if_neg (by omega)]))
end MJOIN4
