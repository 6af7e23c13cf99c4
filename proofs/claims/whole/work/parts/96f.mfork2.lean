/-! fork: the copies that are held, and the command as a whole. -/
theorem T_382_81 : hTab 382 81 = some ((3, 6, 0, []), 83) := rfl
theorem T_382_83 : hTab 382 83 = some ((3, 0, 2, []), 84) := rfl
theorem T_382_84 : hTab 382 84 = some ((24, 17, Int.ofNat 64, []), 87) := rfl
theorem T_382_87 : hTab 382 87 = some ((3, 5, 0, []), 89) := rfl
theorem T_382_89 : hTab 382 89 = some ((26, 0, 0, []), 90) := rfl
theorem T_382_90 : hTab 382 90 = some ((19, 3, Int.ofNat 187, []), 93) := rfl
theorem T_382_93 : hTab 382 93 = some ((3, 2, 0, []), 94) := rfl
theorem T_382_94 : hTab 382 94 = some ((0, 0, 99, []), 96) := rfl
theorem T_382_96 : hTab 382 96 = some ((19, 1, Int.ofNat 187, []), 99) := rfl
theorem T_382_99 : hTab 382 99 = some ((0, 0, 0, []), 100) := rfl
theorem T_382_100 : hTab 382 100 = some ((4, 7, 0, []), 102) := rfl
theorem T_382_102 : hTab 382 102 = some ((3, 7, 0, []), 104) := rfl
theorem T_382_104 : hTab 382 104 = some ((3, 0, 2, []), 105) := rfl
theorem T_382_105 : hTab 382 105 = some ((24, 17, Int.ofNat 67, []), 108) := rfl
theorem T_382_108 : hTab 382 108 = some ((0, 0, 8, []), 110) := rfl
theorem T_382_110 : hTab 382 110 = some ((3, 5, 0, []), 112) := rfl
theorem T_382_112 : hTab 382 112 = some ((10, 2, 0, []), 113) := rfl
theorem T_382_113 : hTab 382 113 = some ((3, 6, 0, []), 115) := rfl
theorem T_382_115 : hTab 382 115 = some ((10, 0, 0, []), 116) := rfl
theorem T_382_116 : hTab 382 116 = some ((26, 0, 0, []), 117) := rfl
theorem T_382_117 : hTab 382 117 = some ((19, 3, Int.ofNat 181, []), 120) := rfl
theorem T_382_120 : hTab 382 120 = some ((3, 4, 0, []), 122) := rfl
theorem T_382_122 : hTab 382 122 = some ((18, 1, Int.ofNat 181, []), 125) := rfl
theorem T_382_125 : hTab 382 125 = some ((0, 0, 6, []), 127) := rfl
theorem T_382_127 : hTab 382 127 = some ((0, 0, 8, []), 129) := rfl
theorem T_382_129 : hTab 382 129 = some ((3, 5, 0, []), 131) := rfl
theorem T_382_131 : hTab 382 131 = some ((10, 2, 0, []), 132) := rfl
theorem T_382_132 : hTab 382 132 = some ((3, 6, 0, []), 134) := rfl
theorem T_382_134 : hTab 382 134 = some ((10, 0, 0, []), 135) := rfl
theorem T_382_135 : hTab 382 135 = some ((10, 2, 0, []), 136) := rfl
theorem T_382_136 : hTab 382 136 = some ((3, 7, 0, []), 138) := rfl
theorem T_382_138 : hTab 382 138 = some ((10, 0, 0, []), 139) := rfl
theorem T_382_139 : hTab 382 139 = some ((4, 8, 0, []), 141) := rfl
theorem T_382_141 : hTab 382 141 = some ((3, 0, 2, []), 142) := rfl
theorem T_382_142 : hTab 382 142 = some ((3, 0, 2, []), 143) := rfl
theorem T_382_143 : hTab 382 143 = some ((24, 17, Int.ofNat 68, []), 146) := rfl
theorem T_382_146 : hTab 382 146 = some ((3, 8, 0, []), 148) := rfl
theorem T_382_148 : hTab 382 148 = some ((26, 0, 0, []), 149) := rfl
theorem T_382_149 : hTab 382 149 = some ((3, 0, 2, []), 150) := rfl
theorem T_382_150 : hTab 382 150 = some ((24, 17, Int.ofNat 69, []), 153) := rfl
theorem T_382_153 : hTab 382 153 = some ((3, 8, 0, []), 155) := rfl
theorem T_382_155 : hTab 382 155 = some ((26, 0, 0, []), 156) := rfl
theorem T_382_156 : hTab 382 156 = some ((3, 0, 2, []), 157) := rfl
theorem T_382_157 : hTab 382 157 = some ((24, 17, Int.ofNat 70, []), 160) := rfl
theorem T_382_160 : hTab 382 160 = some ((3, 8, 0, []), 162) := rfl
theorem T_382_162 : hTab 382 162 = some ((26, 0, 0, []), 163) := rfl
theorem T_382_163 : hTab 382 163 = some ((3, 0, 2, []), 164) := rfl
theorem T_382_164 : hTab 382 164 = some ((24, 17, Int.ofNat 71, []), 167) := rfl
theorem T_382_167 : hTab 382 167 = some ((3, 8, 0, []), 169) := rfl
theorem T_382_169 : hTab 382 169 = some ((26, 0, 0, []), 170) := rfl
theorem T_382_170 : hTab 382 170 = some ((31, 333, 0, []), 173) := rfl
theorem T_382_173 : hTab 382 173 = some ((4, 4, 0, []), 175) := rfl
theorem T_382_175 : hTab 382 175 = some ((5, 7, 1, []), 178) := rfl
theorem T_382_178 : hTab 382 178 = some ((22, 0, Int.ofNat 102, []), 181) := rfl
theorem T_382_181 : hTab 382 181 = some ((5, 6, 1, []), 184) := rfl
theorem T_382_184 : hTab 382 184 = some ((22, 0, Int.ofNat 81, []), 187) := rfl
/-- copies of all members of a group's points from k on -/
def fkP (g : Int) : Nat → Int → qR → List Ch → Int × qR × List Ch
  | 0, _, P, h => (0, P, h)
  | m + 1, k, P, h => if 0 < (kCps (8 * g + k) (P 2337 (8 * g + k)).toNat 0 P h).1 then kCps (8 * g + k) (P 2337 (8 * g + k)).toNat 0 P h else fkP g m (k + 1) (kCps (8 * g + k) (P 2337 (8 * g + k)).toNat 0 P h).2.1 (kCps (8 * g + k) (P 2337 (8 * g + k)).toNat 0 P h).2.2
def fkHow (wd : List Int) : Int := if (wd.length : Int) = 1 then lg wd 0 else -1
/-- what is held of it -/
def fkK (P : qR) (p how : Int) : Int × qR × List Ch := if 0 < kCpE P 0 (P 2324 p) then (kCpE P 0 (P 2324 p), kCpP P 0 (P 2324 p), []) else if how = 99 then fkP (P 2323 p) (P 2334 (P 2323 p)).toNat 0 (kCpP P 0 (P 2324 p)) [(0, qNewF P 0, 0, 128, -1)] else (0, kCpP P 0 (P 2324 p), [(0, qNewF P 0, 0, 128, -1)])
def hfL (h : List Ch) (i : Int) : Int := (h.getD i.toNat c0).2.1
def fkG (P : qR) (p how : Int) : Int := if how = 115 then P 2323 p else qFg P
def fkB (P : qR) (p q how : Int) (h : List Ch) : qR := gBg (if how = 115 then P else rU P 2334 (qFg P) 0) q (P 2322 p) (fkG P p how) (hfL h 0)
def fkC (P : qR) (p q how : Int) (h : List Ch) : qR := if how = 99 then gCpG (hfL h) (fkB P p q how h) (P 2323 p) (fkG P p how) else fkB P p q how h
def fkE (P : qR) (p q how : Int) (h : List Ch) : qR := gTell (gTell (gFol (fkC P p q how h) p q) p (48 + q)) p 10
def cFork (P : qR) (p : Int) (wd : List Int) : Int × qR × List Ch := if ¬ (fkHow wd = 115 ∨ fkHow wd = 99 ∨ fkHow wd = 101) then (18, P, []) else if qFp P < 0 then (20, P, []) else if 0 < (fkK P p (fkHow wd)).1 then fkK P p (fkHow wd) else (0, fkE (fkK P p (fkHow wd)).2.1 p (qFp P) (fkHow wd) (fkK P p (fkHow wd)).2.2, [])
section MFORK2
variable {fb : Bool} {d : Nat} {σ0 σ : hM} {P Q R S S1 S2 : qR} {T U s w g u p k e t z o q r pt off n N v to how gr np : Int} {l l1 l2 nm wd A : List Int} {h : List Ch} {hf F : Int → Int} {x : Nw} {c c1 c2 : Ch} {ns : List Nw} {l7 l8 : Option AV}
theorem fkP_kf : ∀ (m : Nat) (k : Int) (P : qR) (h : List Ch), KF (fkP g m k P h).2.1 P
  | 0, _, _, _ => KF_rfl
  | m + 1, k, P, h => by
    unfold fkP
    split
    · exact kCps_kf _ _ _ _
    · exact KF_tr (fkP_kf m (k + 1) _ _) (kCps_kf _ _ _ _)
theorem kf_mm {f : Nat} {y : Int} (hk : KF Q P) (h1 : srvRow f = false) (h2 : f ≠ 2281) (h3 : f ≠ 2316) (h4 : f ≠ 2317) : Q f y = P f y := hk f y h1 h2 h3 h4
theorem fkP_app {mm : Int → Int} (hm : ∀ i : Int, 0 ≤ i → i < 8 → 0 ≤ mm i) : ∀ (m : Nat) (k : Int) (P : qR) (h : List Ch), 0 ≤ k → k + m ≤ 8 → (∀ y, 0 ≤ y → y < 8 → P 2337 (8 * g + y) = mm y) → ∃ t, (fkP g m k P h).2.2 = h ++ t ∧ ((fkP g m k P h).1 = 0 → (t.length : Int) = sm mm k m) ∧ 0 ≤ (fkP g m k P h).1
  | 0, _, _, h, _, _, _ => ⟨[], (List.append_nil h).symm, fun _ => rfl, Int.le_refl 0⟩
  | m + 1, k, P, h, h0, h1, h2 => by
    obtain ⟨t, a1, a2, a3⟩ := kCps_app (fr := 8 * g + k) (P 2337 (8 * g + k)).toNat 0 P h
    unfold fkP
    split
    · rename_i q
      exact ⟨t, a1, fun q2 => by omega, a3⟩
    · rename_i q
      obtain ⟨t2, b1, b2, b3⟩ := fkP_app hm m (k + 1) (kCps (8 * g + k) (P 2337 (8 * g + k)).toNat 0 P h).2.1 (kCps (8 * g + k) (P 2337 (8 * g + k)).toNat 0 P h).2.2 (by omega) (by omega) (fun y c1 c2 => (kCps_kf _ _ _ _ _ _ rfl (by decide) (by decide) (by decide)).trans (h2 y c1 c2))
      refine ⟨t ++ t2, by rw [b1, a1, List.append_assoc], fun q2 => ?_, b3⟩
      have e1 := a2 (by omega)
      have e2 := b2 q2
      have e3 := h2 k h0 (by omega)
      have e4 := hm k h0 (by omega)
      show ((t ++ t2).length : Int) = mm k + sm mm (k + 1) m
      rw [List.length_append]
      omega
theorem m_fork_in (hg : 0 ≤ g ∧ g < 8) (hf : 0 ≤ 8 * g + k ∧ 8 * g + k < 64) (hn : n ≤ 6) {Q : Option AV → hM → Prop} : ∀ (m : Nat) (j T : Int) (P S : qR) (h : List Ch) (σ : hM) (l8 : Option AV), j + m = n → 0 ≤ j → P 2337 (8 * g + k) = n → h.length + m < 60 → T + 4 * m + 49 ≤ 2147483000 → PM σ0 P S σ → KS T U P S l h → (∀ (σ : hM) (S2 : qR) (l7 l8 : Option AV), PM σ0 (kCps (8 * g + k) m j P h).2.1 S2 σ → KS (T + 4 * m) U (kCps (8 * g + k) m j P h).2.1 S2 l (kCps (8 * g + k) m j P h).2.2 → SX scR scN S S2 → WP fb (d + 13) 382 181 [some (vR (some 2281)), some (vI p), some (vI how), some (vI q), some (vI (kCps (8 * g + k) m j P h).1), some (vI g), some (vI k), l7, l8] [] σ Q) → WP fb (d + 13) 382 102 [some (vR (some 2281)), some (vI p), some (vI how), some (vI q), some (vI 0), some (vI g), some (vI k), some (vI j), l8] [] σ Q := by
  intro m
  induction m with
  | zero =>
    intro j T P S h σ l8 h1 h2 h5 h3 h4 hP hK hQ
    have h1 : j + ((0 : Nat) : Int) = n := h1
    have hj : j = n := by omega
    subst hj
    have hgo := hQ σ S (some (vI j)) l8 hP (hK.mono (by omega)) SX_rfl
    refine x_li (z := j) T_382_102 rfl ?_
    refine x_lr (z := some 2281) T_382_104 rfl ?_
    refine x_gR (z := some 2337) T_382_105 F_17_67 (PM.t hP) (PM.r hP 67 2337 rfl) ?_
    refine x_ic T_382_108 ?_
    refine x_li (z := g) T_382_110 rfl ?_
    refine x_ib (w := (8 * g)) T_382_112 (fun h => absurd h.1 (by decide)) (w32_id (by omega) (by omega)) ?_
    refine x_li (z := k) T_382_113 rfl ?_
    refine x_ib (w := ((8 * g) + k)) T_382_115 (fun h => absurd h.1 (by decide)) (w32_id (by omega) (by omega)) ?_
    refine x_alI (z := j) T_382_116 (by decide) (PM.ta hP 2337 0 64 rfl rfl) (by omega) (by omega) (Eq.trans (PM.aP hP 2337 rfl rfl (by omega)) h5) ?_
    refine x_ic2 T_382_117 (fun _ => ?_) (fun h => absurd (show j ≤ j by omega) h)
    exact hgo
  | succ m ih =>
    intro j T P S h σ l8 h1 h2 h5 h3 h4 hP hK hQ
    unfold kCps at hQ
    obtain ⟨fr, hfr⟩ : ∃ fr, 8 * g + k = fr := ⟨_, rfl⟩
    have b1 : 0 ≤ P 2338 (6 * fr + j) ∧ P 2338 (6 * fr + j) ≤ 2 := IV.a hK.1.iv 2338 0 384 rfl rfl rfl (by omega) (by omega)
    have b3 : 0 ≤ P 2340 (6 * fr + j) ∧ P 2340 (6 * fr + j) ≤ T + 200 := IV.a hK.1.iv 2340 0 384 rfl rfl rfl (by omega) (by omega)
    have b4 : 0 ≤ P 2341 (6 * fr + j) ∧ P 2341 (6 * fr + j) ≤ 255 := IV.a hK.1.iv 2341 0 384 rfl rfl rfl (by omega) (by omega)
    rw [hfr] at hf h5 hQ ih
    obtain ⟨sv, hsv⟩ : ∃ y, P 2338 (6 * fr + j) = y := ⟨_, rfl⟩
    obtain ⟨fd, hfd⟩ : ∃ y, P 2339 (6 * fr + j) = y := ⟨_, rfl⟩
    obtain ⟨pa, hpa⟩ : ∃ y, P 2340 (6 * fr + j) = y := ⟨_, rfl⟩
    obtain ⟨ki, hki⟩ : ∃ y, P 2341 (6 * fr + j) = y := ⟨_, rfl⟩
    rw [hsv] at b1
    rw [hpa] at b3
    rw [hki] at b4
    rw [hsv, hfd, hpa, hki] at hQ
    have hcp := fun (σ : hM) (hP : PM σ0 P S σ) => m_copy (fb := fb) (d := d) (s := sv) (f := fd) (g := pa) (k := ki) hP hK.2.2.1 hK.1 (by omega) ⟨b1.1, by omega⟩ hK.2.2.2.1 (by omega) b3 b4
    have her := kCpE_rng (P := P) (s := sv) (f := fd)
    have hkf : KF (kCpP P sv fd) P := KF_cp
    obtain ⟨e, he⟩ : ∃ e, kCpE P sv fd = e := ⟨_, rfl⟩
    obtain ⟨P1, hP1⟩ : ∃ P1, kCpP P sv fd = P1 := ⟨_, rfl⟩
    rw [he] at her
    rw [hP1] at hkf
    rw [he, hP1] at hcp hQ
    have h51 : P1 2337 fr = n := (hkf _ _ rfl (by decide) (by decide) (by decide)).trans h5
    by_cases qe : 0 < e
    · rw [if_pos qe] at hQ
      rw [kHoldn (by omega)] at hcp
      have hgo := fun (σ : hM) (S2 : qR) (l7 l8 : Option AV) (hP : PM σ0 P1 S2 σ) (hK2 : KS (T + 4) U P1 S2 l h) (hX2 : SX scR scN S S2) => hQ σ S2 l7 l8 hP (hK2.mono (by omega)) hX2
      by_cases q3 : j + 1 < n
      · skip
        refine x_li (z := j) T_382_102 rfl ?_
        refine x_lr (z := some 2281) T_382_104 rfl ?_
        refine x_gR (z := some 2337) T_382_105 F_17_67 (PM.t hP) (PM.r hP 67 2337 rfl) ?_
        refine x_ic T_382_108 ?_
        refine x_li (z := g) T_382_110 rfl ?_
        refine x_ib (w := (8 * g)) T_382_112 (fun h => absurd h.1 (by decide)) (w32_id (by omega) (by omega)) ?_
        refine x_li (z := k) T_382_113 rfl ?_
        refine x_ib (w := fr) T_382_115 (fun h => absurd h.1 (by decide)) (w32_e (by omega) (by omega) (by omega)) ?_
        refine x_alI (z := n) T_382_116 (by decide) (PM.ta hP 2337 0 64 rfl rfl) (by omega) (by omega) (Eq.trans (PM.aP hP 2337 rfl rfl (by omega)) h5) ?_
        refine x_ic2 T_382_117 (fun h => absurd (show n ≤ j from h) (by omega)) (fun _ => ?_)
        refine x_li (z := 0) T_382_120 rfl ?_
        refine x_if T_382_122 (fun h => absurd (show ¬ (0 : Int) = 0 from h) (by decide)) (fun _ => ?_)
        refine x_ic T_382_125 ?_
        refine x_ic T_382_127 ?_
        refine x_li (z := g) T_382_129 rfl ?_
        refine x_ib (w := (8 * g)) T_382_131 (fun h => absurd h.1 (by decide)) (w32_id (by omega) (by omega)) ?_
        refine x_li (z := k) T_382_132 rfl ?_
        refine x_ib (w := fr) T_382_134 (fun h => absurd h.1 (by decide)) (w32_e (by omega) (by omega) (by omega)) ?_
        refine x_ib (w := (6 * fr)) T_382_135 (fun h => absurd h.1 (by decide)) (w32_id (by omega) (by omega)) ?_
        refine x_li (z := j) T_382_136 rfl ?_
        refine x_ib (w := ((6 * fr) + j)) T_382_138 (fun h => absurd h.1 (by decide)) (w32_id (by omega) (by omega)) ?_
        refine x_si (ls1 := [some (vR (some 2281)), some (vI p), some (vI how), some (vI q), some (vI 0), some (vI g), some (vI k), some (vI j), some (vI ((6 * fr) + j))]) T_382_139 rfl ?_
        refine x_lr (z := some 2281) T_382_141 rfl ?_
        refine x_lr (z := some 2281) T_382_142 rfl ?_
        refine x_gR (z := some 2338) T_382_143 F_17_68 (PM.t hP) (PM.r hP 68 2338 rfl) ?_
        refine x_li (z := ((6 * fr) + j)) T_382_146 rfl ?_
        refine x_alI (z := sv) T_382_148 (by decide) (PM.ta hP 2338 0 384 rfl rfl) (by omega) (by omega) (Eq.trans (PM.aP hP 2338 rfl rfl (by omega)) hsv) ?_
        refine x_lr (z := some 2281) T_382_149 rfl ?_
        refine x_gR (z := some 2339) T_382_150 F_17_69 (PM.t hP) (PM.r hP 69 2339 rfl) ?_
        refine x_li (z := ((6 * fr) + j)) T_382_153 rfl ?_
        refine x_alI (z := fd) T_382_155 (by decide) (PM.ta hP 2339 0 384 rfl rfl) (by omega) (by omega) (Eq.trans (PM.aP hP 2339 rfl rfl (by omega)) hfd) ?_
        refine x_lr (z := some 2281) T_382_156 rfl ?_
        refine x_gR (z := some 2340) T_382_157 F_17_70 (PM.t hP) (PM.r hP 70 2340 rfl) ?_
        refine x_li (z := ((6 * fr) + j)) T_382_160 rfl ?_
        refine x_alI (z := pa) T_382_162 (by decide) (PM.ta hP 2340 0 384 rfl rfl) (by omega) (by omega) (Eq.trans (PM.aP hP 2340 rfl rfl (by omega)) hpa) ?_
        refine x_lr (z := some 2281) T_382_163 rfl ?_
        refine x_gR (z := some 2341) T_382_164 F_17_71 (PM.t hP) (PM.r hP 71 2341 rfl) ?_
        refine x_li (z := ((6 * fr) + j)) T_382_167 rfl ?_
        refine x_alI (z := ki) T_382_169 (by decide) (PM.ta hP 2341 0 384 rfl rfl) (by omega) (by omega) (Eq.trans (PM.aP hP 2341 rfl rfl (by omega)) hki) ?_
        refine x_cv5 T_382_170 mN_333 mL_333 (Nat.le_of_ble_eq_true rfl) mO_333 (PM.t hP) (Nat.le_of_ble_eq_true rfl) (hcp σ hP) ?_
        clear hP hcp
        intro r σ hr
        obtain ⟨S2, rfl, hP, hK2, hX2⟩ := hK.copy hkf hr
        refine cI ?_
        refine x_si (ls1 := [some (vR (some 2281)), some (vI p), some (vI how), some (vI q), some (vI e), some (vI g), some (vI k), some (vI j), some (vI ((6 * fr) + j))]) T_382_173 rfl ?_
        refine x_inc (w := (j + 1)) (ls1 := [some (vR (some 2281)), some (vI p), some (vI how), some (vI q), some (vI e), some (vI g), some (vI k), some (vI (j + 1)), some (vI ((6 * fr) + j))]) T_382_175 rfl (w32_id (by omega) (by omega)) rfl ?_
        refine x_goto T_382_178 ?_
        refine x_li (z := (j + 1)) T_382_102 rfl ?_
        refine x_lr (z := some 2281) T_382_104 rfl ?_
        refine x_gR (z := some 2337) T_382_105 F_17_67 (PM.t hP) (PM.r hP 67 2337 rfl) ?_
        refine x_ic T_382_108 ?_
        refine x_li (z := g) T_382_110 rfl ?_
        refine x_ib (w := (8 * g)) T_382_112 (fun h => absurd h.1 (by decide)) (w32_id (by omega) (by omega)) ?_
        refine x_li (z := k) T_382_113 rfl ?_
        refine x_ib (w := fr) T_382_115 (fun h => absurd h.1 (by decide)) (w32_e (by omega) (by omega) (by omega)) ?_
        refine x_alI (z := n) T_382_116 (by decide) (PM.ta hP 2337 0 64 rfl rfl) (by omega) (by omega) (Eq.trans (PM.aP hP 2337 rfl rfl (by omega)) h51) ?_
        refine x_ic2 T_382_117 (fun h => absurd (show n ≤ (j + 1) from h) (by omega)) (fun _ => ?_)
        refine x_li (z := e) T_382_120 rfl ?_
        refine x_if T_382_122 (fun _ => ?_) (fun h => absurd (show ¬ e = 0 by omega) h)
        exact hgo σ S2 _ _ hP hK2 hX2
      · skip
        refine x_li (z := j) T_382_102 rfl ?_
        refine x_lr (z := some 2281) T_382_104 rfl ?_
        refine x_gR (z := some 2337) T_382_105 F_17_67 (PM.t hP) (PM.r hP 67 2337 rfl) ?_
        refine x_ic T_382_108 ?_
        refine x_li (z := g) T_382_110 rfl ?_
        refine x_ib (w := (8 * g)) T_382_112 (fun h => absurd h.1 (by decide)) (w32_id (by omega) (by omega)) ?_
        refine x_li (z := k) T_382_113 rfl ?_
        refine x_ib (w := fr) T_382_115 (fun h => absurd h.1 (by decide)) (w32_e (by omega) (by omega) (by omega)) ?_
        refine x_alI (z := n) T_382_116 (by decide) (PM.ta hP 2337 0 64 rfl rfl) (by omega) (by omega) (Eq.trans (PM.aP hP 2337 rfl rfl (by omega)) h5) ?_
        refine x_ic2 T_382_117 (fun h => absurd (show n ≤ j from h) (by omega)) (fun _ => ?_)
        refine x_li (z := 0) T_382_120 rfl ?_
        refine x_if T_382_122 (fun h => absurd (show ¬ (0 : Int) = 0 from h) (by decide)) (fun _ => ?_)
        refine x_ic T_382_125 ?_
        refine x_ic T_382_127 ?_
        refine x_li (z := g) T_382_129 rfl ?_
        refine x_ib (w := (8 * g)) T_382_131 (fun h => absurd h.1 (by decide)) (w32_id (by omega) (by omega)) ?_
        refine x_li (z := k) T_382_132 rfl ?_
        refine x_ib (w := fr) T_382_134 (fun h => absurd h.1 (by decide)) (w32_e (by omega) (by omega) (by omega)) ?_
        refine x_ib (w := (6 * fr)) T_382_135 (fun h => absurd h.1 (by decide)) (w32_id (by omega) (by omega)) ?_
        refine x_li (z := j) T_382_136 rfl ?_
        refine x_ib (w := ((6 * fr) + j)) T_382_138 (fun h => absurd h.1 (by decide)) (w32_id (by omega) (by omega)) ?_
        refine x_si (ls1 := [some (vR (some 2281)), some (vI p), some (vI how), some (vI q), some (vI 0), some (vI g), some (vI k), some (vI j), some (vI ((6 * fr) + j))]) T_382_139 rfl ?_
        refine x_lr (z := some 2281) T_382_141 rfl ?_
        refine x_lr (z := some 2281) T_382_142 rfl ?_
        refine x_gR (z := some 2338) T_382_143 F_17_68 (PM.t hP) (PM.r hP 68 2338 rfl) ?_
        refine x_li (z := ((6 * fr) + j)) T_382_146 rfl ?_
        refine x_alI (z := sv) T_382_148 (by decide) (PM.ta hP 2338 0 384 rfl rfl) (by omega) (by omega) (Eq.trans (PM.aP hP 2338 rfl rfl (by omega)) hsv) ?_
        refine x_lr (z := some 2281) T_382_149 rfl ?_
        refine x_gR (z := some 2339) T_382_150 F_17_69 (PM.t hP) (PM.r hP 69 2339 rfl) ?_
        refine x_li (z := ((6 * fr) + j)) T_382_153 rfl ?_
        refine x_alI (z := fd) T_382_155 (by decide) (PM.ta hP 2339 0 384 rfl rfl) (by omega) (by omega) (Eq.trans (PM.aP hP 2339 rfl rfl (by omega)) hfd) ?_
        refine x_lr (z := some 2281) T_382_156 rfl ?_
        refine x_gR (z := some 2340) T_382_157 F_17_70 (PM.t hP) (PM.r hP 70 2340 rfl) ?_
        refine x_li (z := ((6 * fr) + j)) T_382_160 rfl ?_
        refine x_alI (z := pa) T_382_162 (by decide) (PM.ta hP 2340 0 384 rfl rfl) (by omega) (by omega) (Eq.trans (PM.aP hP 2340 rfl rfl (by omega)) hpa) ?_
        refine x_lr (z := some 2281) T_382_163 rfl ?_
        refine x_gR (z := some 2341) T_382_164 F_17_71 (PM.t hP) (PM.r hP 71 2341 rfl) ?_
        refine x_li (z := ((6 * fr) + j)) T_382_167 rfl ?_
        refine x_alI (z := ki) T_382_169 (by decide) (PM.ta hP 2341 0 384 rfl rfl) (by omega) (by omega) (Eq.trans (PM.aP hP 2341 rfl rfl (by omega)) hki) ?_
        refine x_cv5 T_382_170 mN_333 mL_333 (Nat.le_of_ble_eq_true rfl) mO_333 (PM.t hP) (Nat.le_of_ble_eq_true rfl) (hcp σ hP) ?_
        clear hP hcp
        intro r σ hr
        obtain ⟨S2, rfl, hP, hK2, hX2⟩ := hK.copy hkf hr
        refine cI ?_
        refine x_si (ls1 := [some (vR (some 2281)), some (vI p), some (vI how), some (vI q), some (vI e), some (vI g), some (vI k), some (vI j), some (vI ((6 * fr) + j))]) T_382_173 rfl ?_
        refine x_inc (w := (j + 1)) (ls1 := [some (vR (some 2281)), some (vI p), some (vI how), some (vI q), some (vI e), some (vI g), some (vI k), some (vI (j + 1)), some (vI ((6 * fr) + j))]) T_382_175 rfl (w32_id (by omega) (by omega)) rfl ?_
        refine x_goto T_382_178 ?_
        refine x_li (z := (j + 1)) T_382_102 rfl ?_
        refine x_lr (z := some 2281) T_382_104 rfl ?_
        refine x_gR (z := some 2337) T_382_105 F_17_67 (PM.t hP) (PM.r hP 67 2337 rfl) ?_
        refine x_ic T_382_108 ?_
        refine x_li (z := g) T_382_110 rfl ?_
        refine x_ib (w := (8 * g)) T_382_112 (fun h => absurd h.1 (by decide)) (w32_id (by omega) (by omega)) ?_
        refine x_li (z := k) T_382_113 rfl ?_
        refine x_ib (w := fr) T_382_115 (fun h => absurd h.1 (by decide)) (w32_e (by omega) (by omega) (by omega)) ?_
        refine x_alI (z := n) T_382_116 (by decide) (PM.ta hP 2337 0 64 rfl rfl) (by omega) (by omega) (Eq.trans (PM.aP hP 2337 rfl rfl (by omega)) h51) ?_
        refine x_ic2 T_382_117 (fun _ => ?_) (fun h => absurd (show n ≤ (j + 1) by omega) h)
        exact hgo σ S2 _ _ hP hK2 hX2
    · rw [if_neg qe] at hQ
      have q2 : e = 0 := by omega
      subst q2
      rw [kHold0] at hcp
      have hgo := fun (σ : hM) (S2 : qR) (l8 : Option AV) (hP : PM σ0 P1 S2 σ) (hK2 : KS (T + 4) U P1 S2 l (h ++ [(sv, qNewF P sv, pa, ki, -1)])) (hX2 : SX scR scN S S2) => ih (j + 1) (T + 4) P1 S2 (h ++ [(sv, qNewF P sv, pa, ki, -1)]) σ l8 (by omega) (by omega) h51 (by rw [List.length_append]; show h.length + 1 + m < 60; omega) (by omega) hP hK2 (fun σ S3 l7 l8 a2 a3 a4 => hQ σ S3 l7 l8 a2 (a3.mono (by omega)) (SX_tr hX2 a4))
      refine x_li (z := j) T_382_102 rfl ?_
      refine x_lr (z := some 2281) T_382_104 rfl ?_
      refine x_gR (z := some 2337) T_382_105 F_17_67 (PM.t hP) (PM.r hP 67 2337 rfl) ?_
      refine x_ic T_382_108 ?_
      refine x_li (z := g) T_382_110 rfl ?_
      refine x_ib (w := (8 * g)) T_382_112 (fun h => absurd h.1 (by decide)) (w32_id (by omega) (by omega)) ?_
      refine x_li (z := k) T_382_113 rfl ?_
      refine x_ib (w := fr) T_382_115 (fun h => absurd h.1 (by decide)) (w32_e (by omega) (by omega) (by omega)) ?_
      refine x_alI (z := n) T_382_116 (by decide) (PM.ta hP 2337 0 64 rfl rfl) (by omega) (by omega) (Eq.trans (PM.aP hP 2337 rfl rfl (by omega)) h5) ?_
      refine x_ic2 T_382_117 (fun h => absurd (show n ≤ j from h) (by omega)) (fun _ => ?_)
      refine x_li (z := 0) T_382_120 rfl ?_
      refine x_if T_382_122 (fun h => absurd (show ¬ (0 : Int) = 0 from h) (by decide)) (fun _ => ?_)
      refine x_ic T_382_125 ?_
      refine x_ic T_382_127 ?_
      refine x_li (z := g) T_382_129 rfl ?_
      refine x_ib (w := (8 * g)) T_382_131 (fun h => absurd h.1 (by decide)) (w32_id (by omega) (by omega)) ?_
      refine x_li (z := k) T_382_132 rfl ?_
      refine x_ib (w := fr) T_382_134 (fun h => absurd h.1 (by decide)) (w32_e (by omega) (by omega) (by omega)) ?_
      refine x_ib (w := (6 * fr)) T_382_135 (fun h => absurd h.1 (by decide)) (w32_id (by omega) (by omega)) ?_
      refine x_li (z := j) T_382_136 rfl ?_
      refine x_ib (w := ((6 * fr) + j)) T_382_138 (fun h => absurd h.1 (by decide)) (w32_id (by omega) (by omega)) ?_
      refine x_si (ls1 := [some (vR (some 2281)), some (vI p), some (vI how), some (vI q), some (vI 0), some (vI g), some (vI k), some (vI j), some (vI ((6 * fr) + j))]) T_382_139 rfl ?_
      refine x_lr (z := some 2281) T_382_141 rfl ?_
      refine x_lr (z := some 2281) T_382_142 rfl ?_
      refine x_gR (z := some 2338) T_382_143 F_17_68 (PM.t hP) (PM.r hP 68 2338 rfl) ?_
      refine x_li (z := ((6 * fr) + j)) T_382_146 rfl ?_
      refine x_alI (z := sv) T_382_148 (by decide) (PM.ta hP 2338 0 384 rfl rfl) (by omega) (by omega) (Eq.trans (PM.aP hP 2338 rfl rfl (by omega)) hsv) ?_
      refine x_lr (z := some 2281) T_382_149 rfl ?_
      refine x_gR (z := some 2339) T_382_150 F_17_69 (PM.t hP) (PM.r hP 69 2339 rfl) ?_
      refine x_li (z := ((6 * fr) + j)) T_382_153 rfl ?_
      refine x_alI (z := fd) T_382_155 (by decide) (PM.ta hP 2339 0 384 rfl rfl) (by omega) (by omega) (Eq.trans (PM.aP hP 2339 rfl rfl (by omega)) hfd) ?_
      refine x_lr (z := some 2281) T_382_156 rfl ?_
      refine x_gR (z := some 2340) T_382_157 F_17_70 (PM.t hP) (PM.r hP 70 2340 rfl) ?_
      refine x_li (z := ((6 * fr) + j)) T_382_160 rfl ?_
      refine x_alI (z := pa) T_382_162 (by decide) (PM.ta hP 2340 0 384 rfl rfl) (by omega) (by omega) (Eq.trans (PM.aP hP 2340 rfl rfl (by omega)) hpa) ?_
      refine x_lr (z := some 2281) T_382_163 rfl ?_
      refine x_gR (z := some 2341) T_382_164 F_17_71 (PM.t hP) (PM.r hP 71 2341 rfl) ?_
      refine x_li (z := ((6 * fr) + j)) T_382_167 rfl ?_
      refine x_alI (z := ki) T_382_169 (by decide) (PM.ta hP 2341 0 384 rfl rfl) (by omega) (by omega) (Eq.trans (PM.aP hP 2341 rfl rfl (by omega)) hki) ?_
      refine x_cv5 T_382_170 mN_333 mL_333 (Nat.le_of_ble_eq_true rfl) mO_333 (PM.t hP) (Nat.le_of_ble_eq_true rfl) (hcp σ hP) ?_
      clear hP hcp
      intro r σ hr
      obtain ⟨S2, rfl, hP, hK2, hX2⟩ := hK.copy hkf hr
      refine cI ?_
      refine x_si (ls1 := [some (vR (some 2281)), some (vI p), some (vI how), some (vI q), some (vI 0), some (vI g), some (vI k), some (vI j), some (vI ((6 * fr) + j))]) T_382_173 rfl ?_
      refine x_inc (w := (j + 1)) (ls1 := [some (vR (some 2281)), some (vI p), some (vI how), some (vI q), some (vI 0), some (vI g), some (vI k), some (vI (j + 1)), some (vI ((6 * fr) + j))]) T_382_175 rfl (w32_id (by omega) (by omega)) rfl ?_
      refine x_goto T_382_178 ?_
      exact hgo σ S2 _ hP hK2 hX2
/-- behind an error nothing more is copied -/
theorem m_fork_err (hG : GI T U P) (he : 0 < e) (hg : 0 ≤ g ∧ g < 8) (hnp : P 2334 g = np) (hn8 : np ≤ 8) (hP : PM σ0 P S σ) {Q : Option AV → hM → Prop} (hQ : ∀ (k : Int) (l7 l8 : Option AV), WP fb d 382 187 [some (vR (some 2281)), some (vI p), some (vI how), some (vI q), some (vI e), some (vI g), some (vI k), l7, l8] [] σ Q) : ∀ (m : Nat) (k : Int) (l7 l8 : Option AV), k + m = np → 0 ≤ k → WP fb d 382 81 [some (vR (some 2281)), some (vI p), some (vI how), some (vI q), some (vI e), some (vI g), some (vI k), l7, l8] [] σ Q := by
  intro m
  induction m with
  | zero =>
    intro k l7 l8 h1 h2
    have h1 : k + ((0 : Nat) : Int) = np := h1
    have hgo := hQ k l7 l8
    refine x_li (z := k) T_382_81 rfl ?_
    refine x_lr (z := some 2281) T_382_83 rfl ?_
    refine x_gR (z := some 2334) T_382_84 F_17_64 (PM.t hP) (PM.r hP 64 2334 rfl) ?_
    refine x_li (z := g) T_382_87 rfl ?_
    refine x_alI (z := np) T_382_89 (by decide) (PM.ta hP 2334 0 8 rfl rfl) (by omega) (by omega) (Eq.trans (PM.aP hP 2334 rfl rfl (by omega)) hnp) ?_
    refine x_ic2 T_382_90 (fun _ => ?_) (fun h => absurd (show np ≤ k by omega) h)
    exact hgo
  | succ m ih =>
    intro k l7 l8 h1 h2
    have b : 0 ≤ P 2337 (8 * g + k) ∧ P 2337 (8 * g + k) ≤ 6 := IV.a hG.iv 2337 0 64 rfl rfl rfl (by omega) (by omega)
    obtain ⟨y, hy⟩ : ∃ y, P 2337 (8 * g + k) = y := ⟨_, rfl⟩
    by_cases qh : how = 99
    · have hgo := fun l7 => ih (k + 1) l7 l8 (by omega) (by omega)
      by_cases q2 : 0 < y
      · skip
        refine x_li (z := k) T_382_81 rfl ?_
        refine x_lr (z := some 2281) T_382_83 rfl ?_
        refine x_gR (z := some 2334) T_382_84 F_17_64 (PM.t hP) (PM.r hP 64 2334 rfl) ?_
        refine x_li (z := g) T_382_87 rfl ?_
        refine x_alI (z := np) T_382_89 (by decide) (PM.ta hP 2334 0 8 rfl rfl) (by omega) (by omega) (Eq.trans (PM.aP hP 2334 rfl rfl (by omega)) hnp) ?_
        refine x_ic2 T_382_90 (fun h => absurd (show np ≤ k from h) (by omega)) (fun _ => ?_)
        refine x_li (z := how) T_382_93 rfl ?_
        refine x_ic T_382_94 ?_
        refine x_ic2 T_382_96 (fun h => absurd (show ¬ how = 99 from h) (by omega)) (fun _ => ?_)
        refine x_ic T_382_99 ?_
        refine x_si (ls1 := [some (vR (some 2281)), some (vI p), some (vI how), some (vI q), some (vI e), some (vI g), some (vI k), some (vI 0), l8]) T_382_100 rfl ?_
        refine x_li (z := 0) T_382_102 rfl ?_
        refine x_lr (z := some 2281) T_382_104 rfl ?_
        refine x_gR (z := some 2337) T_382_105 F_17_67 (PM.t hP) (PM.r hP 67 2337 rfl) ?_
        refine x_ic T_382_108 ?_
        refine x_li (z := g) T_382_110 rfl ?_
        refine x_ib (w := (8 * g)) T_382_112 (fun h => absurd h.1 (by decide)) (w32_id (by omega) (by omega)) ?_
        refine x_li (z := k) T_382_113 rfl ?_
        refine x_ib (w := ((8 * g) + k)) T_382_115 (fun h => absurd h.1 (by decide)) (w32_id (by omega) (by omega)) ?_
        refine x_alI (z := y) T_382_116 (by decide) (PM.ta hP 2337 0 64 rfl rfl) (by omega) (by omega) (Eq.trans (PM.aP hP 2337 rfl rfl (by omega)) hy) ?_
        refine x_ic2 T_382_117 (fun h => absurd (show y ≤ 0 from h) (by omega)) (fun _ => ?_)
        refine x_li (z := e) T_382_120 rfl ?_
        refine x_if T_382_122 (fun _ => ?_) (fun h => absurd (show ¬ e = 0 by omega) h)
        refine x_inc (w := (k + 1)) (ls1 := [some (vR (some 2281)), some (vI p), some (vI how), some (vI q), some (vI e), some (vI g), some (vI (k + 1)), some (vI 0), l8]) T_382_181 rfl (w32_id (by omega) (by omega)) rfl ?_
        refine x_goto T_382_184 ?_
        exact hgo _
      · skip
        refine x_li (z := k) T_382_81 rfl ?_
        refine x_lr (z := some 2281) T_382_83 rfl ?_
        refine x_gR (z := some 2334) T_382_84 F_17_64 (PM.t hP) (PM.r hP 64 2334 rfl) ?_
        refine x_li (z := g) T_382_87 rfl ?_
        refine x_alI (z := np) T_382_89 (by decide) (PM.ta hP 2334 0 8 rfl rfl) (by omega) (by omega) (Eq.trans (PM.aP hP 2334 rfl rfl (by omega)) hnp) ?_
        refine x_ic2 T_382_90 (fun h => absurd (show np ≤ k from h) (by omega)) (fun _ => ?_)
        refine x_li (z := how) T_382_93 rfl ?_
        refine x_ic T_382_94 ?_
        refine x_ic2 T_382_96 (fun h => absurd (show ¬ how = 99 from h) (by omega)) (fun _ => ?_)
        refine x_ic T_382_99 ?_
        refine x_si (ls1 := [some (vR (some 2281)), some (vI p), some (vI how), some (vI q), some (vI e), some (vI g), some (vI k), some (vI 0), l8]) T_382_100 rfl ?_
        refine x_li (z := 0) T_382_102 rfl ?_
        refine x_lr (z := some 2281) T_382_104 rfl ?_
        refine x_gR (z := some 2337) T_382_105 F_17_67 (PM.t hP) (PM.r hP 67 2337 rfl) ?_
        refine x_ic T_382_108 ?_
        refine x_li (z := g) T_382_110 rfl ?_
        refine x_ib (w := (8 * g)) T_382_112 (fun h => absurd h.1 (by decide)) (w32_id (by omega) (by omega)) ?_
        refine x_li (z := k) T_382_113 rfl ?_
        refine x_ib (w := ((8 * g) + k)) T_382_115 (fun h => absurd h.1 (by decide)) (w32_id (by omega) (by omega)) ?_
        refine x_alI (z := y) T_382_116 (by decide) (PM.ta hP 2337 0 64 rfl rfl) (by omega) (by omega) (Eq.trans (PM.aP hP 2337 rfl rfl (by omega)) hy) ?_
        refine x_ic2 T_382_117 (fun _ => ?_) (fun h => absurd (show y ≤ 0 by omega) h)
        refine x_inc (w := (k + 1)) (ls1 := [some (vR (some 2281)), some (vI p), some (vI how), some (vI q), some (vI e), some (vI g), some (vI (k + 1)), some (vI 0), l8]) T_382_181 rfl (w32_id (by omega) (by omega)) rfl ?_
        refine x_goto T_382_184 ?_
        exact hgo _
    · have hgo := hQ k l7 l8
      refine x_li (z := k) T_382_81 rfl ?_
      refine x_lr (z := some 2281) T_382_83 rfl ?_
      refine x_gR (z := some 2334) T_382_84 F_17_64 (PM.t hP) (PM.r hP 64 2334 rfl) ?_
      refine x_li (z := g) T_382_87 rfl ?_
      refine x_alI (z := np) T_382_89 (by decide) (PM.ta hP 2334 0 8 rfl rfl) (by omega) (by omega) (Eq.trans (PM.aP hP 2334 rfl rfl (by omega)) hnp) ?_
      refine x_ic2 T_382_90 (fun h => absurd (show np ≤ k from h) (by omega)) (fun _ => ?_)
      refine x_li (z := how) T_382_93 rfl ?_
      refine x_ic T_382_94 ?_
      refine x_ic2 T_382_96 (fun _ => ?_) (fun h => absurd (show ¬ how = 99 by omega) h)
      exact hgo
theorem m_fork_out (hg : 0 ≤ g ∧ g < 8) (hn8 : np ≤ 8) {Q : Option AV → hM → Prop} : ∀ (m : Nat) (k T : Int) (P S : qR) (h : List Ch) (σ : hM) (l7 l8 : Option AV), k + m = np → 0 ≤ k → P 2334 g = np → h.length + 6 * m < 60 → T + 24 * m + 80 ≤ 2147483000 → PM σ0 P S σ → KS T U P S l h → (∀ (σ : hM) (S2 : qR) (y : Int) (l7 l8 : Option AV), PM σ0 (fkP g m k P h).2.1 S2 σ → KS (T + 24 * m) U (fkP g m k P h).2.1 S2 l (fkP g m k P h).2.2 → SX scR scN S S2 → WP fb (d + 13) 382 187 [some (vR (some 2281)), some (vI p), some (vI 99), some (vI q), some (vI (fkP g m k P h).1), some (vI g), some (vI y), l7, l8] [] σ Q) → WP fb (d + 13) 382 81 [some (vR (some 2281)), some (vI p), some (vI 99), some (vI q), some (vI 0), some (vI g), some (vI k), l7, l8] [] σ Q := by
  intro m
  induction m with
  | zero =>
    intro k T P S h σ l7 l8 h1 h2 h3 h4 h5 hP hK hQ
    have h1 : k + ((0 : Nat) : Int) = np := h1
    have hgo := hQ σ S k l7 l8 hP (hK.mono (by omega)) SX_rfl
    refine x_li (z := k) T_382_81 rfl ?_
    refine x_lr (z := some 2281) T_382_83 rfl ?_
    refine x_gR (z := some 2334) T_382_84 F_17_64 (PM.t hP) (PM.r hP 64 2334 rfl) ?_
    refine x_li (z := g) T_382_87 rfl ?_
    refine x_alI (z := np) T_382_89 (by decide) (PM.ta hP 2334 0 8 rfl rfl) (by omega) (by omega) (Eq.trans (PM.aP hP 2334 rfl rfl (by omega)) h3) ?_
    refine x_ic2 T_382_90 (fun _ => ?_) (fun h => absurd (show np ≤ k by omega) h)
    exact hgo
  | succ m ih =>
    intro k T P S h σ l7 l8 h1 h2 h3 h4 h5 hP hK hQ
    have b : 0 ≤ P 2337 (8 * g + k) ∧ P 2337 (8 * g + k) ≤ 6 := IV.a hK.1.iv 2337 0 64 rfl rfl rfl (by omega) (by omega)
    unfold fkP at hQ
    obtain ⟨n, hn⟩ : ∃ n, P 2337 (8 * g + k) = n := ⟨_, rfl⟩
    rw [hn] at b hQ
    have hin := fun {Q : Option AV → hM → Prop} => m_fork_in (fb := fb) (d := d) (σ0 := σ0) (U := U) (l := l) (p := p) (q := q) (how := 99) (g := g) (k := k) (n := n) (Q := Q) hg ⟨by omega, by omega⟩ b.2 n.toNat 0 T P S h σ l8 (by omega) (by decide) hn (by omega) (by omega) hP hK
    have hkf := kCps_kf (fr := 8 * g + k) n.toNat 0 P h
    obtain ⟨tl, hap, hln, hnn⟩ := kCps_app (fr := 8 * g + k) n.toNat 0 P h
    obtain ⟨K, hKe⟩ : ∃ K, kCps (8 * g + k) n.toNat 0 P h = K := ⟨_, rfl⟩
    rw [hKe] at hap hln hnn hkf hin hQ
    obtain ⟨e, P1, h1x⟩ := K
    dsimp only at hap hln hnn hkf hin hQ
    have hp1 : P1 2334 g = np := (hkf _ _ rfl (by decide) (by decide) (by decide)).trans h3
    have h102 := hin (Q := Q) (fun σ S2 l7 l8 a1 a2 a3 => by
      by_cases q1 : 0 < e
      · rw [if_pos q1] at hQ
        have hgo := m_fork_err (fb := fb) (d := d + 13) (p := p) (how := 99) (q := q) a2.1 q1 hg hp1 hn8 a1 (Q := Q) (fun y l7 l8 => hQ σ S2 y l7 l8 a1 (a2.mono (by omega)) a3) m (k + 1) l7 l8 (by omega) (by omega)
        refine x_inc (w := (k + 1)) (ls1 := [some (vR (some 2281)), some (vI p), some (vI 99), some (vI q), some (vI e), some (vI g), some (vI (k + 1)), l7, l8]) T_382_181 rfl (w32_id (by omega) (by omega)) rfl ?_
        refine x_goto T_382_184 ?_
        exact hgo
      · rw [if_neg q1] at hQ
        have q2 : e = 0 := by omega
        subst q2
        have hlx : h1x.length = h.length + n.toNat := by rw [hap, List.length_append, hln rfl]
        have hgo := ih (k + 1) (T + 4 * n.toNat) P1 S2 h1x σ l7 l8 (by omega) (by omega) hp1 (by omega) (by omega) a1 a2 (fun σ S3 y l7 l8 b1 b2 b3 => hQ σ S3 y l7 l8 b1 (b2.mono (by omega)) (SX_tr a3 b3))
        refine x_inc (w := (k + 1)) (ls1 := [some (vR (some 2281)), some (vI p), some (vI 99), some (vI q), some (vI 0), some (vI g), some (vI (k + 1)), l7, l8]) T_382_181 rfl (w32_id (by omega) (by omega)) rfl ?_
        refine x_goto T_382_184 ?_
        exact hgo
      )
    refine x_li (z := k) T_382_81 rfl ?_
    refine x_lr (z := some 2281) T_382_83 rfl ?_
    refine x_gR (z := some 2334) T_382_84 F_17_64 (PM.t hP) (PM.r hP 64 2334 rfl) ?_
    refine x_li (z := g) T_382_87 rfl ?_
    refine x_alI (z := np) T_382_89 (by decide) (PM.ta hP 2334 0 8 rfl rfl) (by omega) (by omega) (Eq.trans (PM.aP hP 2334 rfl rfl (by omega)) h3) ?_
    refine x_ic2 T_382_90 (fun h => absurd (show np ≤ k from h) (by omega)) (fun _ => ?_)
    refine x_li (z := 99) T_382_93 rfl ?_
    refine x_ic T_382_94 ?_
    refine x_ic2 T_382_96 (fun h => absurd (show ¬ (99 : Int) = 99 from h) (by decide)) (fun _ => ?_)
    refine x_ic T_382_99 ?_
    refine x_si (ls1 := [some (vR (some 2281)), some (vI p), some (vI 99), some (vI q), some (vI 0), some (vI g), some (vI k), some (vI 0), l8]) T_382_100 rfl ?_
    exact h102
end MFORK2
