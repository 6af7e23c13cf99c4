/-! join2: what is gathered. -/
theorem T_363_0 : hTab 363 0 = some ((3, 0, 2, []), 1) := rfl
theorem T_363_1 : hTab 363 1 = some ((24, 17, Int.ofNat 53, []), 4) := rfl
theorem T_363_4 : hTab 363 4 = some ((3, 1, 0, []), 5) := rfl
theorem T_363_5 : hTab 363 5 = some ((26, 0, 0, []), 6) := rfl
theorem T_363_6 : hTab 363 6 = some ((4, 7, 0, []), 8) := rfl
theorem T_363_8 : hTab 363 8 = some ((3, 0, 2, []), 9) := rfl
theorem T_363_9 : hTab 363 9 = some ((0, 0, 0, []), 10) := rfl
theorem T_363_10 : hTab 363 10 = some ((25, 17, Int.ofNat 99, []), 13) := rfl
theorem T_363_13 : hTab 363 13 = some ((3, 2, 0, []), 14) := rfl
theorem T_363_14 : hTab 363 14 = some ((18, 3, Int.ofNat 31, []), 17) := rfl
theorem T_363_17 : hTab 363 17 = some ((3, 4, 0, []), 19) := rfl
theorem T_363_19 : hTab 363 19 = some ((18, 1, Int.ofNat 27, []), 22) := rfl
theorem T_363_22 : hTab 363 22 = some ((3, 5, 0, []), 24) := rfl
theorem T_363_24 : hTab 363 24 = some ((18, 0, Int.ofNat 31, []), 27) := rfl
theorem T_363_27 : hTab 363 27 = some ((0, 0, 1, []), 28) := rfl
theorem T_363_28 : hTab 363 28 = some ((22, 0, Int.ofNat 32, []), 31) := rfl
theorem T_363_31 : hTab 363 31 = some ((0, 0, 0, []), 32) := rfl
theorem T_363_32 : hTab 363 32 = some ((4, 8, 0, []), 34) := rfl
theorem T_363_34 : hTab 363 34 = some ((3, 8, 0, []), 36) := rfl
theorem T_363_36 : hTab 363 36 = some ((18, 0, Int.ofNat 50, []), 39) := rfl
theorem T_363_39 : hTab 363 39 = some ((3, 5, 0, []), 41) := rfl
theorem T_363_41 : hTab 363 41 = some ((18, 0, Int.ofNat 50, []), 44) := rfl
theorem T_363_44 : hTab 363 44 = some ((3, 0, 2, []), 45) := rfl
theorem T_363_45 : hTab 363 45 = some ((0, 0, 1, []), 46) := rfl
theorem T_363_46 : hTab 363 46 = some ((0, 0, 0, []), 47) := rfl
theorem T_363_47 : hTab 363 47 = some ((31, 364, 0, []), 50) := rfl
theorem T_363_50 : hTab 363 50 = some ((3, 5, 0, []), 52) := rfl
theorem T_363_52 : hTab 363 52 = some ((18, 0, Int.ofNat 60, []), 55) := rfl
theorem T_363_55 : hTab 363 55 = some ((3, 0, 2, []), 56) := rfl
theorem T_363_56 : hTab 363 56 = some ((3, 2, 0, []), 57) := rfl
theorem T_363_57 : hTab 363 57 = some ((31, 365, 0, []), 60) := rfl
theorem T_363_60 : hTab 363 60 = some ((3, 0, 2, []), 61) := rfl
theorem T_363_61 : hTab 363 61 = some ((3, 3, 0, []), 62) := rfl
theorem T_363_62 : hTab 363 62 = some ((3, 6, 0, []), 64) := rfl
theorem T_363_64 : hTab 363 64 = some ((31, 366, 0, []), 67) := rfl
theorem T_363_67 : hTab 363 67 = some ((3, 4, 0, []), 69) := rfl
theorem T_363_69 : hTab 363 69 = some ((18, 0, Int.ofNat 77, []), 72) := rfl
theorem T_363_72 : hTab 363 72 = some ((3, 0, 2, []), 73) := rfl
theorem T_363_73 : hTab 363 73 = some ((3, 2, 0, []), 74) := rfl
theorem T_363_74 : hTab 363 74 = some ((31, 365, 0, []), 77) := rfl
theorem T_363_77 : hTab 363 77 = some ((3, 8, 0, []), 79) := rfl
theorem T_363_79 : hTab 363 79 = some ((18, 0, Int.ofNat 93, []), 82) := rfl
theorem T_363_82 : hTab 363 82 = some ((3, 4, 0, []), 84) := rfl
theorem T_363_84 : hTab 363 84 = some ((18, 0, Int.ofNat 93, []), 87) := rfl
theorem T_363_87 : hTab 363 87 = some ((3, 0, 2, []), 88) := rfl
theorem T_363_88 : hTab 363 88 = some ((0, 0, 1, []), 89) := rfl
theorem T_363_89 : hTab 363 89 = some ((0, 0, 0, []), 90) := rfl
theorem T_363_90 : hTab 363 90 = some ((31, 364, 0, []), 93) := rfl
theorem mN_363 : hmN 363 = 7 := by decide +kernel
theorem mL_363 : hmL 363 = 12 := by decide +kernel
theorem mK_363 : hmK 363 = 1 := by decide +kernel
theorem mO_363 : hmO 363 = 17 := by decide +kernel
def jnL (P : qR) (h : List Ch) (c1 : Ch) (old fr bf bh mk : Int) : List Nw := (if old < 0 ∧ bh = 1 then [chN c1 0] else []) ++ (if bh = 1 then mbs P old else []) ++ news P fr mk h ++ (if bf = 1 then mbs P old else []) ++ (if old < 0 ∧ bf = 1 then [chN c1 0] else [])
/-- is the file itself a member -/
def jnW (old bf bh : Int) : Int := if old < 0 ∧ (bf = 1 ∨ bh = 1) then 1 else 0
section MJOIN
variable {fb : Bool} {d : Nat} {σ0 σ : hM} {P Q R S S1 S2 : qR} {T U s w g u p k e t z o thr pt off n N v mk fr bf bh old : Int} {l l1 l2 nm wd A : List Int} {h : List Ch} {f : Int → Int} {x : Nw} {c c1 : Ch} {ns : List Nw}
theorem KS.nw0 (hK : KS T U P S l h) : KS T U P (rU S 2281 99 0) l h ∧ NW (rU S 2281 99 0) [] ∧ SX nwR nwN S (rU S 2281 99 0) := by
  obtain ⟨a1, a2, a3, a4, a5⟩ := hK
  refine ⟨⟨a1, a2, a3.uN 99 99 rfl (by show (0 : Int) ≤ 0 ∧ (0 : Int) ≤ 6; decide), ⟨(rU_k (by decide)).trans a4.1, a4.2.1, fun i hi => ?_⟩, a5.of (rU_k (by decide)) (rU_k (by decide)) (fun _ => rU_f (by decide)) (fun _ => rU_f (by decide)) (fun _ => rU_f (by decide))⟩, ⟨rU_s, by decide, fun i hi => absurd hi (Nat.not_lt_zero i)⟩, SX_un SX_rfl rfl⟩
  rw [rU_f (by decide), rU_f (by decide), rU_f (by decide), rU_f (by decide), rU_f (by decide)]
  exact a4.2.2 i hi
theorem m_join_0 (q : old < 0) (hP : PM σ0 P S σ) (hK : KS T U P S l h) (hp : 0 ≤ p ∧ p < 8) (hg : P 2323 p = g) (hold : old < 64) (hfr : fr < 64) (hmk : mk = 0 ∨ mk = 1) (h2 : 2 ≤ h.length) (h22 : fr < 0 → h.length = 2) (h8 : h.length ≤ 8) (hc1 : h[1]? = some c1) (hlen : (jnL P h c1 old fr 0 0 mk).length ≤ 6) {Q : Option AV → hM → Prop} (hQ : ∀ (σ : hM) (S2 : qR), PM σ0 P S2 σ → KS T U P S2 l h → NW S2 (jnL P h c1 old fr 0 0 mk) → SX nwR nwN S S2 → WP fb (d + 2) 363 93 [some (vR (some 2281)), some (vI p), some (vI old), some (vI fr), some (vI 0), some (vI 0), some (vI mk), some (vI g), some (vI 0), none, none, none] [] σ Q) : WP fb (d + 2) 363 0 [some (vR (some 2281)), some (vI p), some (vI old), some (vI fr), some (vI 0), some (vI 0), some (vI mk), none, none, none, none, none] [] σ Q := by
  have eL : jnL P h c1 old fr 0 0 mk = [] ++ news P fr mk h := by
    unfold jnL
    simp [q]
  rw [eL] at hlen hQ
  have hl := hlen
  obtain ⟨hK0, hN0, hX0⟩ := hK.nw0
  refine x_lr (z := some 2281) T_363_0 rfl ?_
  refine x_gR (z := some 2323) T_363_1 F_17_53 (PM.t hP) (PM.r hP 53 2323 rfl) ?_
  refine x_li (z := p) T_363_4 rfl ?_
  refine x_alI (z := g) T_363_5 (by decide) (PM.ta hP 2323 0 8 rfl rfl) (by omega) (by omega) (Eq.trans (PM.aP hP 2323 rfl rfl (by omega)) hg) ?_
  refine x_si (ls1 := [some (vR (some 2281)), some (vI p), some (vI old), some (vI fr), some (vI 0), some (vI 0), some (vI mk), some (vI g), none, none, none, none]) T_363_6 rfl ?_
  refine x_lr (z := some 2281) T_363_8 rfl ?_
  refine x_ic T_363_9 ?_
  refine y_pIS hP T_363_10 F_17_99 99 rfl rfl (fun σ hP => ?_)
  refine x_li (z := old) T_363_13 rfl ?_
  refine x_if T_363_14 (fun h => absurd (show 0 ≤ old from h) (by omega)) (fun _ => ?_)
  refine x_li (z := 0) T_363_17 rfl ?_
  refine x_if T_363_19 (fun h => absurd (show ¬ (0 : Int) = 0 from h) (by decide)) (fun _ => ?_)
  refine x_li (z := 0) T_363_22 rfl ?_
  refine x_if T_363_24 (fun _ => ?_) (fun h => absurd (show (0 : Int) = 0 by decide) h)
  refine x_ic T_363_31 ?_
  refine x_si (ls1 := [some (vR (some 2281)), some (vI p), some (vI old), some (vI fr), some (vI 0), some (vI 0), some (vI mk), some (vI g), some (vI 0), none, none, none]) T_363_32 rfl ?_
  refine x_li (z := 0) T_363_34 rfl ?_
  refine x_if T_363_36 (fun _ => ?_) (fun h => absurd (show (0 : Int) = 0 by decide) h)
  refine x_li (z := 0) T_363_50 rfl ?_
  refine x_if T_363_52 (fun _ => ?_) (fun h => absurd (show (0 : Int) = 0 by decide) h)
  refine x_lr (z := some 2281) T_363_60 rfl ?_
  refine x_li (z := fr) T_363_61 rfl ?_
  refine x_li (z := mk) T_363_62 rfl ?_
  refine x_cv3 T_363_64 mN_366 mL_366 (Nat.le_of_ble_eq_true rfl) mO_366 (PM.t hP) (Nat.le_of_ble_eq_true rfl) (m_addNews (fr := fr) (mk := mk) hP hK0 hN0 hfr hmk h2 h22 h8 (by simp only [List.length_append, List.length_cons, List.length_nil] at hl ⊢; omega)) ?_
  clear hP
  rintro _ σ ⟨T1, rfl, hP, hK1, hN1, hX1⟩
  refine cV ?_
  refine x_li (z := 0) T_363_67 rfl ?_
  refine x_if T_363_69 (fun _ => ?_) (fun h => absurd (show (0 : Int) = 0 by decide) h)
  refine x_li (z := 0) T_363_77 rfl ?_
  refine x_if T_363_79 (fun _ => ?_) (fun h => absurd (show (0 : Int) = 0 by decide) h)
  exact hQ σ _ hP hK1 hN1 (SX_tr hX0 (hX1))
theorem m_join_1 (q : ¬ old < 0) (hP : PM σ0 P S σ) (hK : KS T U P S l h) (hp : 0 ≤ p ∧ p < 8) (hg : P 2323 p = g) (hold : old < 64) (hfr : fr < 64) (hmk : mk = 0 ∨ mk = 1) (h2 : 2 ≤ h.length) (h22 : fr < 0 → h.length = 2) (h8 : h.length ≤ 8) (hc1 : h[1]? = some c1) (hlen : (jnL P h c1 old fr 0 0 mk).length ≤ 6) {Q : Option AV → hM → Prop} (hQ : ∀ (σ : hM) (S2 : qR), PM σ0 P S2 σ → KS T U P S2 l h → NW S2 (jnL P h c1 old fr 0 0 mk) → SX nwR nwN S S2 → WP fb (d + 2) 363 93 [some (vR (some 2281)), some (vI p), some (vI old), some (vI fr), some (vI 0), some (vI 0), some (vI mk), some (vI g), some (vI 0), none, none, none] [] σ Q) : WP fb (d + 2) 363 0 [some (vR (some 2281)), some (vI p), some (vI old), some (vI fr), some (vI 0), some (vI 0), some (vI mk), none, none, none, none, none] [] σ Q := by
  have eL : jnL P h c1 old fr 0 0 mk = [] ++ news P fr mk h := by
    unfold jnL
    simp [q]
  rw [eL] at hlen hQ
  have hl := hlen
  obtain ⟨hK0, hN0, hX0⟩ := hK.nw0
  refine x_lr (z := some 2281) T_363_0 rfl ?_
  refine x_gR (z := some 2323) T_363_1 F_17_53 (PM.t hP) (PM.r hP 53 2323 rfl) ?_
  refine x_li (z := p) T_363_4 rfl ?_
  refine x_alI (z := g) T_363_5 (by decide) (PM.ta hP 2323 0 8 rfl rfl) (by omega) (by omega) (Eq.trans (PM.aP hP 2323 rfl rfl (by omega)) hg) ?_
  refine x_si (ls1 := [some (vR (some 2281)), some (vI p), some (vI old), some (vI fr), some (vI 0), some (vI 0), some (vI mk), some (vI g), none, none, none, none]) T_363_6 rfl ?_
  refine x_lr (z := some 2281) T_363_8 rfl ?_
  refine x_ic T_363_9 ?_
  refine y_pIS hP T_363_10 F_17_99 99 rfl rfl (fun σ hP => ?_)
  refine x_li (z := old) T_363_13 rfl ?_
  refine x_if T_363_14 (fun _ => ?_) (fun h => absurd (show 0 ≤ old by omega) h)
  refine x_ic T_363_31 ?_
  refine x_si (ls1 := [some (vR (some 2281)), some (vI p), some (vI old), some (vI fr), some (vI 0), some (vI 0), some (vI mk), some (vI g), some (vI 0), none, none, none]) T_363_32 rfl ?_
  refine x_li (z := 0) T_363_34 rfl ?_
  refine x_if T_363_36 (fun _ => ?_) (fun h => absurd (show (0 : Int) = 0 by decide) h)
  refine x_li (z := 0) T_363_50 rfl ?_
  refine x_if T_363_52 (fun _ => ?_) (fun h => absurd (show (0 : Int) = 0 by decide) h)
  refine x_lr (z := some 2281) T_363_60 rfl ?_
  refine x_li (z := fr) T_363_61 rfl ?_
  refine x_li (z := mk) T_363_62 rfl ?_
  refine x_cv3 T_363_64 mN_366 mL_366 (Nat.le_of_ble_eq_true rfl) mO_366 (PM.t hP) (Nat.le_of_ble_eq_true rfl) (m_addNews (fr := fr) (mk := mk) hP hK0 hN0 hfr hmk h2 h22 h8 (by simp only [List.length_append, List.length_cons, List.length_nil] at hl ⊢; omega)) ?_
  clear hP
  rintro _ σ ⟨T1, rfl, hP, hK1, hN1, hX1⟩
  refine cV ?_
  refine x_li (z := 0) T_363_67 rfl ?_
  refine x_if T_363_69 (fun _ => ?_) (fun h => absurd (show (0 : Int) = 0 by decide) h)
  refine x_li (z := 0) T_363_77 rfl ?_
  refine x_if T_363_79 (fun _ => ?_) (fun h => absurd (show (0 : Int) = 0 by decide) h)
  exact hQ σ _ hP hK1 hN1 (SX_tr hX0 (hX1))
theorem m_join_2 (q : old < 0) (hP : PM σ0 P S σ) (hK : KS T U P S l h) (hp : 0 ≤ p ∧ p < 8) (hg : P 2323 p = g) (hold : old < 64) (hfr : fr < 64) (hmk : mk = 0 ∨ mk = 1) (h2 : 2 ≤ h.length) (h22 : fr < 0 → h.length = 2) (h8 : h.length ≤ 8) (hc1 : h[1]? = some c1) (hlen : (jnL P h c1 old fr 0 1 mk).length ≤ 6) {Q : Option AV → hM → Prop} (hQ : ∀ (σ : hM) (S2 : qR), PM σ0 P S2 σ → KS T U P S2 l h → NW S2 (jnL P h c1 old fr 0 1 mk) → SX nwR nwN S S2 → WP fb (d + 2) 363 93 [some (vR (some 2281)), some (vI p), some (vI old), some (vI fr), some (vI 0), some (vI 1), some (vI mk), some (vI g), some (vI 1), none, none, none] [] σ Q) : WP fb (d + 2) 363 0 [some (vR (some 2281)), some (vI p), some (vI old), some (vI fr), some (vI 0), some (vI 1), some (vI mk), none, none, none, none, none] [] σ Q := by
  have eL : jnL P h c1 old fr 0 1 mk = [] ++ [chN c1 0] ++ mbs P old ++ news P fr mk h := by
    unfold jnL
    simp [q]
  rw [eL] at hlen hQ
  have hl := hlen
  obtain ⟨hK0, hN0, hX0⟩ := hK.nw0
  refine x_lr (z := some 2281) T_363_0 rfl ?_
  refine x_gR (z := some 2323) T_363_1 F_17_53 (PM.t hP) (PM.r hP 53 2323 rfl) ?_
  refine x_li (z := p) T_363_4 rfl ?_
  refine x_alI (z := g) T_363_5 (by decide) (PM.ta hP 2323 0 8 rfl rfl) (by omega) (by omega) (Eq.trans (PM.aP hP 2323 rfl rfl (by omega)) hg) ?_
  refine x_si (ls1 := [some (vR (some 2281)), some (vI p), some (vI old), some (vI fr), some (vI 0), some (vI 1), some (vI mk), some (vI g), none, none, none, none]) T_363_6 rfl ?_
  refine x_lr (z := some 2281) T_363_8 rfl ?_
  refine x_ic T_363_9 ?_
  refine y_pIS hP T_363_10 F_17_99 99 rfl rfl (fun σ hP => ?_)
  refine x_li (z := old) T_363_13 rfl ?_
  refine x_if T_363_14 (fun h => absurd (show 0 ≤ old from h) (by omega)) (fun _ => ?_)
  refine x_li (z := 0) T_363_17 rfl ?_
  refine x_if T_363_19 (fun h => absurd (show ¬ (0 : Int) = 0 from h) (by decide)) (fun _ => ?_)
  refine x_li (z := 1) T_363_22 rfl ?_
  refine x_if T_363_24 (fun h => absurd (show (1 : Int) = 0 from h) (by decide)) (fun _ => ?_)
  refine x_ic T_363_27 ?_
  refine x_goto T_363_28 ?_
  refine x_si (ls1 := [some (vR (some 2281)), some (vI p), some (vI old), some (vI fr), some (vI 0), some (vI 1), some (vI mk), some (vI g), some (vI 1), none, none, none]) T_363_32 rfl ?_
  refine x_li (z := 1) T_363_34 rfl ?_
  refine x_if T_363_36 (fun h => absurd (show (1 : Int) = 0 from h) (by decide)) (fun _ => ?_)
  refine x_li (z := 1) T_363_39 rfl ?_
  refine x_if T_363_41 (fun h => absurd (show (1 : Int) = 0 from h) (by decide)) (fun _ => ?_)
  refine x_lr (z := some 2281) T_363_44 rfl ?_
  refine x_ic T_363_45 ?_
  refine x_ic T_363_46 ?_
  refine x_cv3 T_363_47 mN_364 mL_364 (Nat.le_of_ble_eq_true rfl) mO_364 (PM.t hP) (Nat.le_of_ble_eq_true rfl) (m_addHeld (mk := 0) (z := 1) (i := 1) rfl hc1 hP hK0 hN0 (by simp only [List.length_append, List.length_cons, List.length_nil] at hl ⊢; omega) (Or.inl rfl)) ?_
  clear hP
  rintro _ σ ⟨T1, rfl, hP, hK1, hN1, hX1⟩
  refine cV ?_
  refine x_li (z := 1) T_363_50 rfl ?_
  refine x_if T_363_52 (fun h => absurd (show (1 : Int) = 0 from h) (by decide)) (fun _ => ?_)
  refine x_lr (z := some 2281) T_363_55 rfl ?_
  refine x_li (z := old) T_363_56 rfl ?_
  refine x_cv2 T_363_57 mN_365 mL_365 (Nat.le_of_ble_eq_true rfl) mO_365 (PM.t hP) (Nat.le_of_ble_eq_true rfl) (m_addOld (pt := old) hP hK1 hN1 (by omega) (by simp only [List.length_append, List.length_cons, List.length_nil] at hl ⊢; omega)) ?_
  clear hP
  rintro _ σ ⟨T2, rfl, hP, hK2, hN2, hX2⟩
  refine cV ?_
  refine x_lr (z := some 2281) T_363_60 rfl ?_
  refine x_li (z := fr) T_363_61 rfl ?_
  refine x_li (z := mk) T_363_62 rfl ?_
  refine x_cv3 T_363_64 mN_366 mL_366 (Nat.le_of_ble_eq_true rfl) mO_366 (PM.t hP) (Nat.le_of_ble_eq_true rfl) (m_addNews (fr := fr) (mk := mk) hP hK2 hN2 hfr hmk h2 h22 h8 (by simp only [List.length_append, List.length_cons, List.length_nil] at hl ⊢; omega)) ?_
  clear hP
  rintro _ σ ⟨T3, rfl, hP, hK3, hN3, hX3⟩
  refine cV ?_
  refine x_li (z := 0) T_363_67 rfl ?_
  refine x_if T_363_69 (fun _ => ?_) (fun h => absurd (show (0 : Int) = 0 by decide) h)
  refine x_li (z := 1) T_363_77 rfl ?_
  refine x_if T_363_79 (fun h => absurd (show (1 : Int) = 0 from h) (by decide)) (fun _ => ?_)
  refine x_li (z := 0) T_363_82 rfl ?_
  refine x_if T_363_84 (fun _ => ?_) (fun h => absurd (show (0 : Int) = 0 by decide) h)
  exact hQ σ _ hP hK3 hN3 (SX_tr hX0 (SX_tr (SX_tr (hX1) hX2) hX3))
theorem m_join_3 (q : ¬ old < 0) (hP : PM σ0 P S σ) (hK : KS T U P S l h) (hp : 0 ≤ p ∧ p < 8) (hg : P 2323 p = g) (hold : old < 64) (hfr : fr < 64) (hmk : mk = 0 ∨ mk = 1) (h2 : 2 ≤ h.length) (h22 : fr < 0 → h.length = 2) (h8 : h.length ≤ 8) (hc1 : h[1]? = some c1) (hlen : (jnL P h c1 old fr 0 1 mk).length ≤ 6) {Q : Option AV → hM → Prop} (hQ : ∀ (σ : hM) (S2 : qR), PM σ0 P S2 σ → KS T U P S2 l h → NW S2 (jnL P h c1 old fr 0 1 mk) → SX nwR nwN S S2 → WP fb (d + 2) 363 93 [some (vR (some 2281)), some (vI p), some (vI old), some (vI fr), some (vI 0), some (vI 1), some (vI mk), some (vI g), some (vI 0), none, none, none] [] σ Q) : WP fb (d + 2) 363 0 [some (vR (some 2281)), some (vI p), some (vI old), some (vI fr), some (vI 0), some (vI 1), some (vI mk), none, none, none, none, none] [] σ Q := by
  have eL : jnL P h c1 old fr 0 1 mk = [] ++ mbs P old ++ news P fr mk h := by
    unfold jnL
    simp [q]
  rw [eL] at hlen hQ
  have hl := hlen
  obtain ⟨hK0, hN0, hX0⟩ := hK.nw0
  refine x_lr (z := some 2281) T_363_0 rfl ?_
  refine x_gR (z := some 2323) T_363_1 F_17_53 (PM.t hP) (PM.r hP 53 2323 rfl) ?_
  refine x_li (z := p) T_363_4 rfl ?_
  refine x_alI (z := g) T_363_5 (by decide) (PM.ta hP 2323 0 8 rfl rfl) (by omega) (by omega) (Eq.trans (PM.aP hP 2323 rfl rfl (by omega)) hg) ?_
  refine x_si (ls1 := [some (vR (some 2281)), some (vI p), some (vI old), some (vI fr), some (vI 0), some (vI 1), some (vI mk), some (vI g), none, none, none, none]) T_363_6 rfl ?_
  refine x_lr (z := some 2281) T_363_8 rfl ?_
  refine x_ic T_363_9 ?_
  refine y_pIS hP T_363_10 F_17_99 99 rfl rfl (fun σ hP => ?_)
  refine x_li (z := old) T_363_13 rfl ?_
  refine x_if T_363_14 (fun _ => ?_) (fun h => absurd (show 0 ≤ old by omega) h)
  refine x_ic T_363_31 ?_
  refine x_si (ls1 := [some (vR (some 2281)), some (vI p), some (vI old), some (vI fr), some (vI 0), some (vI 1), some (vI mk), some (vI g), some (vI 0), none, none, none]) T_363_32 rfl ?_
  refine x_li (z := 0) T_363_34 rfl ?_
  refine x_if T_363_36 (fun _ => ?_) (fun h => absurd (show (0 : Int) = 0 by decide) h)
  refine x_li (z := 1) T_363_50 rfl ?_
  refine x_if T_363_52 (fun h => absurd (show (1 : Int) = 0 from h) (by decide)) (fun _ => ?_)
  refine x_lr (z := some 2281) T_363_55 rfl ?_
  refine x_li (z := old) T_363_56 rfl ?_
  refine x_cv2 T_363_57 mN_365 mL_365 (Nat.le_of_ble_eq_true rfl) mO_365 (PM.t hP) (Nat.le_of_ble_eq_true rfl) (m_addOld (pt := old) hP hK0 hN0 (by omega) (by simp only [List.length_append, List.length_cons, List.length_nil] at hl ⊢; omega)) ?_
  clear hP
  rintro _ σ ⟨T1, rfl, hP, hK1, hN1, hX1⟩
  refine cV ?_
  refine x_lr (z := some 2281) T_363_60 rfl ?_
  refine x_li (z := fr) T_363_61 rfl ?_
  refine x_li (z := mk) T_363_62 rfl ?_
  refine x_cv3 T_363_64 mN_366 mL_366 (Nat.le_of_ble_eq_true rfl) mO_366 (PM.t hP) (Nat.le_of_ble_eq_true rfl) (m_addNews (fr := fr) (mk := mk) hP hK1 hN1 hfr hmk h2 h22 h8 (by simp only [List.length_append, List.length_cons, List.length_nil] at hl ⊢; omega)) ?_
  clear hP
  rintro _ σ ⟨T2, rfl, hP, hK2, hN2, hX2⟩
  refine cV ?_
  refine x_li (z := 0) T_363_67 rfl ?_
  refine x_if T_363_69 (fun _ => ?_) (fun h => absurd (show (0 : Int) = 0 by decide) h)
  refine x_li (z := 0) T_363_77 rfl ?_
  refine x_if T_363_79 (fun _ => ?_) (fun h => absurd (show (0 : Int) = 0 by decide) h)
  exact hQ σ _ hP hK2 hN2 (SX_tr hX0 (SX_tr (hX1) hX2))
theorem m_join_4 (q : old < 0) (hP : PM σ0 P S σ) (hK : KS T U P S l h) (hp : 0 ≤ p ∧ p < 8) (hg : P 2323 p = g) (hold : old < 64) (hfr : fr < 64) (hmk : mk = 0 ∨ mk = 1) (h2 : 2 ≤ h.length) (h22 : fr < 0 → h.length = 2) (h8 : h.length ≤ 8) (hc1 : h[1]? = some c1) (hlen : (jnL P h c1 old fr 1 0 mk).length ≤ 6) {Q : Option AV → hM → Prop} (hQ : ∀ (σ : hM) (S2 : qR), PM σ0 P S2 σ → KS T U P S2 l h → NW S2 (jnL P h c1 old fr 1 0 mk) → SX nwR nwN S S2 → WP fb (d + 2) 363 93 [some (vR (some 2281)), some (vI p), some (vI old), some (vI fr), some (vI 1), some (vI 0), some (vI mk), some (vI g), some (vI 1), none, none, none] [] σ Q) : WP fb (d + 2) 363 0 [some (vR (some 2281)), some (vI p), some (vI old), some (vI fr), some (vI 1), some (vI 0), some (vI mk), none, none, none, none, none] [] σ Q := by
  have eL : jnL P h c1 old fr 1 0 mk = [] ++ news P fr mk h ++ mbs P old ++ [chN c1 0] := by
    unfold jnL
    simp [q]
  rw [eL] at hlen hQ
  have hl := hlen
  obtain ⟨hK0, hN0, hX0⟩ := hK.nw0
  refine x_lr (z := some 2281) T_363_0 rfl ?_
  refine x_gR (z := some 2323) T_363_1 F_17_53 (PM.t hP) (PM.r hP 53 2323 rfl) ?_
  refine x_li (z := p) T_363_4 rfl ?_
  refine x_alI (z := g) T_363_5 (by decide) (PM.ta hP 2323 0 8 rfl rfl) (by omega) (by omega) (Eq.trans (PM.aP hP 2323 rfl rfl (by omega)) hg) ?_
  refine x_si (ls1 := [some (vR (some 2281)), some (vI p), some (vI old), some (vI fr), some (vI 1), some (vI 0), some (vI mk), some (vI g), none, none, none, none]) T_363_6 rfl ?_
  refine x_lr (z := some 2281) T_363_8 rfl ?_
  refine x_ic T_363_9 ?_
  refine y_pIS hP T_363_10 F_17_99 99 rfl rfl (fun σ hP => ?_)
  refine x_li (z := old) T_363_13 rfl ?_
  refine x_if T_363_14 (fun h => absurd (show 0 ≤ old from h) (by omega)) (fun _ => ?_)
  refine x_li (z := 1) T_363_17 rfl ?_
  refine x_if T_363_19 (fun _ => ?_) (fun h => absurd (show ¬ (1 : Int) = 0 by decide) h)
  refine x_ic T_363_27 ?_
  refine x_goto T_363_28 ?_
  refine x_si (ls1 := [some (vR (some 2281)), some (vI p), some (vI old), some (vI fr), some (vI 1), some (vI 0), some (vI mk), some (vI g), some (vI 1), none, none, none]) T_363_32 rfl ?_
  refine x_li (z := 1) T_363_34 rfl ?_
  refine x_if T_363_36 (fun h => absurd (show (1 : Int) = 0 from h) (by decide)) (fun _ => ?_)
  refine x_li (z := 0) T_363_39 rfl ?_
  refine x_if T_363_41 (fun _ => ?_) (fun h => absurd (show (0 : Int) = 0 by decide) h)
  refine x_li (z := 0) T_363_50 rfl ?_
  refine x_if T_363_52 (fun _ => ?_) (fun h => absurd (show (0 : Int) = 0 by decide) h)
  refine x_lr (z := some 2281) T_363_60 rfl ?_
  refine x_li (z := fr) T_363_61 rfl ?_
  refine x_li (z := mk) T_363_62 rfl ?_
  refine x_cv3 T_363_64 mN_366 mL_366 (Nat.le_of_ble_eq_true rfl) mO_366 (PM.t hP) (Nat.le_of_ble_eq_true rfl) (m_addNews (fr := fr) (mk := mk) hP hK0 hN0 hfr hmk h2 h22 h8 (by simp only [List.length_append, List.length_cons, List.length_nil] at hl ⊢; omega)) ?_
  clear hP
  rintro _ σ ⟨T1, rfl, hP, hK1, hN1, hX1⟩
  refine cV ?_
  refine x_li (z := 1) T_363_67 rfl ?_
  refine x_if T_363_69 (fun h => absurd (show (1 : Int) = 0 from h) (by decide)) (fun _ => ?_)
  refine x_lr (z := some 2281) T_363_72 rfl ?_
  refine x_li (z := old) T_363_73 rfl ?_
  refine x_cv2 T_363_74 mN_365 mL_365 (Nat.le_of_ble_eq_true rfl) mO_365 (PM.t hP) (Nat.le_of_ble_eq_true rfl) (m_addOld (pt := old) hP hK1 hN1 (by omega) (by simp only [List.length_append, List.length_cons, List.length_nil] at hl ⊢; omega)) ?_
  clear hP
  rintro _ σ ⟨T2, rfl, hP, hK2, hN2, hX2⟩
  refine cV ?_
  refine x_li (z := 1) T_363_77 rfl ?_
  refine x_if T_363_79 (fun h => absurd (show (1 : Int) = 0 from h) (by decide)) (fun _ => ?_)
  refine x_li (z := 1) T_363_82 rfl ?_
  refine x_if T_363_84 (fun h => absurd (show (1 : Int) = 0 from h) (by decide)) (fun _ => ?_)
  refine x_lr (z := some 2281) T_363_87 rfl ?_
  refine x_ic T_363_88 ?_
  refine x_ic T_363_89 ?_
  refine x_cv3 T_363_90 mN_364 mL_364 (Nat.le_of_ble_eq_true rfl) mO_364 (PM.t hP) (Nat.le_of_ble_eq_true rfl) (m_addHeld (mk := 0) (z := 1) (i := 1) rfl hc1 hP hK2 hN2 (by simp only [List.length_append, List.length_cons, List.length_nil] at hl ⊢; omega) (Or.inl rfl)) ?_
  clear hP
  rintro _ σ ⟨T3, rfl, hP, hK3, hN3, hX3⟩
  refine cV ?_
  exact hQ σ _ hP hK3 hN3 (SX_tr hX0 (SX_tr (SX_tr (hX1) hX2) hX3))
theorem m_join_5 (q : ¬ old < 0) (hP : PM σ0 P S σ) (hK : KS T U P S l h) (hp : 0 ≤ p ∧ p < 8) (hg : P 2323 p = g) (hold : old < 64) (hfr : fr < 64) (hmk : mk = 0 ∨ mk = 1) (h2 : 2 ≤ h.length) (h22 : fr < 0 → h.length = 2) (h8 : h.length ≤ 8) (hc1 : h[1]? = some c1) (hlen : (jnL P h c1 old fr 1 0 mk).length ≤ 6) {Q : Option AV → hM → Prop} (hQ : ∀ (σ : hM) (S2 : qR), PM σ0 P S2 σ → KS T U P S2 l h → NW S2 (jnL P h c1 old fr 1 0 mk) → SX nwR nwN S S2 → WP fb (d + 2) 363 93 [some (vR (some 2281)), some (vI p), some (vI old), some (vI fr), some (vI 1), some (vI 0), some (vI mk), some (vI g), some (vI 0), none, none, none] [] σ Q) : WP fb (d + 2) 363 0 [some (vR (some 2281)), some (vI p), some (vI old), some (vI fr), some (vI 1), some (vI 0), some (vI mk), none, none, none, none, none] [] σ Q := by
  have eL : jnL P h c1 old fr 1 0 mk = [] ++ news P fr mk h ++ mbs P old := by
    unfold jnL
    simp [q]
  rw [eL] at hlen hQ
  have hl := hlen
  obtain ⟨hK0, hN0, hX0⟩ := hK.nw0
  refine x_lr (z := some 2281) T_363_0 rfl ?_
  refine x_gR (z := some 2323) T_363_1 F_17_53 (PM.t hP) (PM.r hP 53 2323 rfl) ?_
  refine x_li (z := p) T_363_4 rfl ?_
  refine x_alI (z := g) T_363_5 (by decide) (PM.ta hP 2323 0 8 rfl rfl) (by omega) (by omega) (Eq.trans (PM.aP hP 2323 rfl rfl (by omega)) hg) ?_
  refine x_si (ls1 := [some (vR (some 2281)), some (vI p), some (vI old), some (vI fr), some (vI 1), some (vI 0), some (vI mk), some (vI g), none, none, none, none]) T_363_6 rfl ?_
  refine x_lr (z := some 2281) T_363_8 rfl ?_
  refine x_ic T_363_9 ?_
  refine y_pIS hP T_363_10 F_17_99 99 rfl rfl (fun σ hP => ?_)
  refine x_li (z := old) T_363_13 rfl ?_
  refine x_if T_363_14 (fun _ => ?_) (fun h => absurd (show 0 ≤ old by omega) h)
  refine x_ic T_363_31 ?_
  refine x_si (ls1 := [some (vR (some 2281)), some (vI p), some (vI old), some (vI fr), some (vI 1), some (vI 0), some (vI mk), some (vI g), some (vI 0), none, none, none]) T_363_32 rfl ?_
  refine x_li (z := 0) T_363_34 rfl ?_
  refine x_if T_363_36 (fun _ => ?_) (fun h => absurd (show (0 : Int) = 0 by decide) h)
  refine x_li (z := 0) T_363_50 rfl ?_
  refine x_if T_363_52 (fun _ => ?_) (fun h => absurd (show (0 : Int) = 0 by decide) h)
  refine x_lr (z := some 2281) T_363_60 rfl ?_
  refine x_li (z := fr) T_363_61 rfl ?_
  refine x_li (z := mk) T_363_62 rfl ?_
  refine x_cv3 T_363_64 mN_366 mL_366 (Nat.le_of_ble_eq_true rfl) mO_366 (PM.t hP) (Nat.le_of_ble_eq_true rfl) (m_addNews (fr := fr) (mk := mk) hP hK0 hN0 hfr hmk h2 h22 h8 (by simp only [List.length_append, List.length_cons, List.length_nil] at hl ⊢; omega)) ?_
  clear hP
  rintro _ σ ⟨T1, rfl, hP, hK1, hN1, hX1⟩
  refine cV ?_
  refine x_li (z := 1) T_363_67 rfl ?_
  refine x_if T_363_69 (fun h => absurd (show (1 : Int) = 0 from h) (by decide)) (fun _ => ?_)
  refine x_lr (z := some 2281) T_363_72 rfl ?_
  refine x_li (z := old) T_363_73 rfl ?_
  refine x_cv2 T_363_74 mN_365 mL_365 (Nat.le_of_ble_eq_true rfl) mO_365 (PM.t hP) (Nat.le_of_ble_eq_true rfl) (m_addOld (pt := old) hP hK1 hN1 (by omega) (by simp only [List.length_append, List.length_cons, List.length_nil] at hl ⊢; omega)) ?_
  clear hP
  rintro _ σ ⟨T2, rfl, hP, hK2, hN2, hX2⟩
  refine cV ?_
  refine x_li (z := 0) T_363_77 rfl ?_
  refine x_if T_363_79 (fun _ => ?_) (fun h => absurd (show (0 : Int) = 0 by decide) h)
  exact hQ σ _ hP hK2 hN2 (SX_tr hX0 (SX_tr (hX1) hX2))
theorem m_join_6 (q : old < 0) (hP : PM σ0 P S σ) (hK : KS T U P S l h) (hp : 0 ≤ p ∧ p < 8) (hg : P 2323 p = g) (hold : old < 64) (hfr : fr < 64) (hmk : mk = 0 ∨ mk = 1) (h2 : 2 ≤ h.length) (h22 : fr < 0 → h.length = 2) (h8 : h.length ≤ 8) (hc1 : h[1]? = some c1) (hlen : (jnL P h c1 old fr 1 1 mk).length ≤ 6) {Q : Option AV → hM → Prop} (hQ : ∀ (σ : hM) (S2 : qR), PM σ0 P S2 σ → KS T U P S2 l h → NW S2 (jnL P h c1 old fr 1 1 mk) → SX nwR nwN S S2 → WP fb (d + 2) 363 93 [some (vR (some 2281)), some (vI p), some (vI old), some (vI fr), some (vI 1), some (vI 1), some (vI mk), some (vI g), some (vI 1), none, none, none] [] σ Q) : WP fb (d + 2) 363 0 [some (vR (some 2281)), some (vI p), some (vI old), some (vI fr), some (vI 1), some (vI 1), some (vI mk), none, none, none, none, none] [] σ Q := by
  have eL : jnL P h c1 old fr 1 1 mk = [] ++ [chN c1 0] ++ mbs P old ++ news P fr mk h ++ mbs P old ++ [chN c1 0] := by
    unfold jnL
    simp [q]
  rw [eL] at hlen hQ
  have hl := hlen
  obtain ⟨hK0, hN0, hX0⟩ := hK.nw0
  refine x_lr (z := some 2281) T_363_0 rfl ?_
  refine x_gR (z := some 2323) T_363_1 F_17_53 (PM.t hP) (PM.r hP 53 2323 rfl) ?_
  refine x_li (z := p) T_363_4 rfl ?_
  refine x_alI (z := g) T_363_5 (by decide) (PM.ta hP 2323 0 8 rfl rfl) (by omega) (by omega) (Eq.trans (PM.aP hP 2323 rfl rfl (by omega)) hg) ?_
  refine x_si (ls1 := [some (vR (some 2281)), some (vI p), some (vI old), some (vI fr), some (vI 1), some (vI 1), some (vI mk), some (vI g), none, none, none, none]) T_363_6 rfl ?_
  refine x_lr (z := some 2281) T_363_8 rfl ?_
  refine x_ic T_363_9 ?_
  refine y_pIS hP T_363_10 F_17_99 99 rfl rfl (fun σ hP => ?_)
  refine x_li (z := old) T_363_13 rfl ?_
  refine x_if T_363_14 (fun h => absurd (show 0 ≤ old from h) (by omega)) (fun _ => ?_)
  refine x_li (z := 1) T_363_17 rfl ?_
  refine x_if T_363_19 (fun _ => ?_) (fun h => absurd (show ¬ (1 : Int) = 0 by decide) h)
  refine x_ic T_363_27 ?_
  refine x_goto T_363_28 ?_
  refine x_si (ls1 := [some (vR (some 2281)), some (vI p), some (vI old), some (vI fr), some (vI 1), some (vI 1), some (vI mk), some (vI g), some (vI 1), none, none, none]) T_363_32 rfl ?_
  refine x_li (z := 1) T_363_34 rfl ?_
  refine x_if T_363_36 (fun h => absurd (show (1 : Int) = 0 from h) (by decide)) (fun _ => ?_)
  refine x_li (z := 1) T_363_39 rfl ?_
  refine x_if T_363_41 (fun h => absurd (show (1 : Int) = 0 from h) (by decide)) (fun _ => ?_)
  refine x_lr (z := some 2281) T_363_44 rfl ?_
  refine x_ic T_363_45 ?_
  refine x_ic T_363_46 ?_
  refine x_cv3 T_363_47 mN_364 mL_364 (Nat.le_of_ble_eq_true rfl) mO_364 (PM.t hP) (Nat.le_of_ble_eq_true rfl) (m_addHeld (mk := 0) (z := 1) (i := 1) rfl hc1 hP hK0 hN0 (by simp only [List.length_append, List.length_cons, List.length_nil] at hl ⊢; omega) (Or.inl rfl)) ?_
  clear hP
  rintro _ σ ⟨T1, rfl, hP, hK1, hN1, hX1⟩
  refine cV ?_
  refine x_li (z := 1) T_363_50 rfl ?_
  refine x_if T_363_52 (fun h => absurd (show (1 : Int) = 0 from h) (by decide)) (fun _ => ?_)
  refine x_lr (z := some 2281) T_363_55 rfl ?_
  refine x_li (z := old) T_363_56 rfl ?_
  refine x_cv2 T_363_57 mN_365 mL_365 (Nat.le_of_ble_eq_true rfl) mO_365 (PM.t hP) (Nat.le_of_ble_eq_true rfl) (m_addOld (pt := old) hP hK1 hN1 (by omega) (by simp only [List.length_append, List.length_cons, List.length_nil] at hl ⊢; omega)) ?_
  clear hP
  rintro _ σ ⟨T2, rfl, hP, hK2, hN2, hX2⟩
  refine cV ?_
  refine x_lr (z := some 2281) T_363_60 rfl ?_
  refine x_li (z := fr) T_363_61 rfl ?_
  refine x_li (z := mk) T_363_62 rfl ?_
  refine x_cv3 T_363_64 mN_366 mL_366 (Nat.le_of_ble_eq_true rfl) mO_366 (PM.t hP) (Nat.le_of_ble_eq_true rfl) (m_addNews (fr := fr) (mk := mk) hP hK2 hN2 hfr hmk h2 h22 h8 (by simp only [List.length_append, List.length_cons, List.length_nil] at hl ⊢; omega)) ?_
  clear hP
  rintro _ σ ⟨T3, rfl, hP, hK3, hN3, hX3⟩
  refine cV ?_
  refine x_li (z := 1) T_363_67 rfl ?_
  refine x_if T_363_69 (fun h => absurd (show (1 : Int) = 0 from h) (by decide)) (fun _ => ?_)
  refine x_lr (z := some 2281) T_363_72 rfl ?_
  refine x_li (z := old) T_363_73 rfl ?_
  refine x_cv2 T_363_74 mN_365 mL_365 (Nat.le_of_ble_eq_true rfl) mO_365 (PM.t hP) (Nat.le_of_ble_eq_true rfl) (m_addOld (pt := old) hP hK3 hN3 (by omega) (by simp only [List.length_append, List.length_cons, List.length_nil] at hl ⊢; omega)) ?_
  clear hP
  rintro _ σ ⟨T4, rfl, hP, hK4, hN4, hX4⟩
  refine cV ?_
  refine x_li (z := 1) T_363_77 rfl ?_
  refine x_if T_363_79 (fun h => absurd (show (1 : Int) = 0 from h) (by decide)) (fun _ => ?_)
  refine x_li (z := 1) T_363_82 rfl ?_
  refine x_if T_363_84 (fun h => absurd (show (1 : Int) = 0 from h) (by decide)) (fun _ => ?_)
  refine x_lr (z := some 2281) T_363_87 rfl ?_
  refine x_ic T_363_88 ?_
  refine x_ic T_363_89 ?_
  refine x_cv3 T_363_90 mN_364 mL_364 (Nat.le_of_ble_eq_true rfl) mO_364 (PM.t hP) (Nat.le_of_ble_eq_true rfl) (m_addHeld (mk := 0) (z := 1) (i := 1) rfl hc1 hP hK4 hN4 (by simp only [List.length_append, List.length_cons, List.length_nil] at hl ⊢; omega) (Or.inl rfl)) ?_
  clear hP
  rintro _ σ ⟨T5, rfl, hP, hK5, hN5, hX5⟩
  refine cV ?_
  exact hQ σ _ hP hK5 hN5 (SX_tr hX0 (SX_tr (SX_tr (SX_tr (SX_tr (hX1) hX2) hX3) hX4) hX5))
theorem m_join_7 (q : ¬ old < 0) (hP : PM σ0 P S σ) (hK : KS T U P S l h) (hp : 0 ≤ p ∧ p < 8) (hg : P 2323 p = g) (hold : old < 64) (hfr : fr < 64) (hmk : mk = 0 ∨ mk = 1) (h2 : 2 ≤ h.length) (h22 : fr < 0 → h.length = 2) (h8 : h.length ≤ 8) (hc1 : h[1]? = some c1) (hlen : (jnL P h c1 old fr 1 1 mk).length ≤ 6) {Q : Option AV → hM → Prop} (hQ : ∀ (σ : hM) (S2 : qR), PM σ0 P S2 σ → KS T U P S2 l h → NW S2 (jnL P h c1 old fr 1 1 mk) → SX nwR nwN S S2 → WP fb (d + 2) 363 93 [some (vR (some 2281)), some (vI p), some (vI old), some (vI fr), some (vI 1), some (vI 1), some (vI mk), some (vI g), some (vI 0), none, none, none] [] σ Q) : WP fb (d + 2) 363 0 [some (vR (some 2281)), some (vI p), some (vI old), some (vI fr), some (vI 1), some (vI 1), some (vI mk), none, none, none, none, none] [] σ Q := by
  have eL : jnL P h c1 old fr 1 1 mk = [] ++ mbs P old ++ news P fr mk h ++ mbs P old := by
    unfold jnL
    simp [q]
  rw [eL] at hlen hQ
  have hl := hlen
  obtain ⟨hK0, hN0, hX0⟩ := hK.nw0
  refine x_lr (z := some 2281) T_363_0 rfl ?_
  refine x_gR (z := some 2323) T_363_1 F_17_53 (PM.t hP) (PM.r hP 53 2323 rfl) ?_
  refine x_li (z := p) T_363_4 rfl ?_
  refine x_alI (z := g) T_363_5 (by decide) (PM.ta hP 2323 0 8 rfl rfl) (by omega) (by omega) (Eq.trans (PM.aP hP 2323 rfl rfl (by omega)) hg) ?_
  refine x_si (ls1 := [some (vR (some 2281)), some (vI p), some (vI old), some (vI fr), some (vI 1), some (vI 1), some (vI mk), some (vI g), none, none, none, none]) T_363_6 rfl ?_
  refine x_lr (z := some 2281) T_363_8 rfl ?_
  refine x_ic T_363_9 ?_
  refine y_pIS hP T_363_10 F_17_99 99 rfl rfl (fun σ hP => ?_)
  refine x_li (z := old) T_363_13 rfl ?_
  refine x_if T_363_14 (fun _ => ?_) (fun h => absurd (show 0 ≤ old by omega) h)
  refine x_ic T_363_31 ?_
  refine x_si (ls1 := [some (vR (some 2281)), some (vI p), some (vI old), some (vI fr), some (vI 1), some (vI 1), some (vI mk), some (vI g), some (vI 0), none, none, none]) T_363_32 rfl ?_
  refine x_li (z := 0) T_363_34 rfl ?_
  refine x_if T_363_36 (fun _ => ?_) (fun h => absurd (show (0 : Int) = 0 by decide) h)
  refine x_li (z := 1) T_363_50 rfl ?_
  refine x_if T_363_52 (fun h => absurd (show (1 : Int) = 0 from h) (by decide)) (fun _ => ?_)
  refine x_lr (z := some 2281) T_363_55 rfl ?_
  refine x_li (z := old) T_363_56 rfl ?_
  refine x_cv2 T_363_57 mN_365 mL_365 (Nat.le_of_ble_eq_true rfl) mO_365 (PM.t hP) (Nat.le_of_ble_eq_true rfl) (m_addOld (pt := old) hP hK0 hN0 (by omega) (by simp only [List.length_append, List.length_cons, List.length_nil] at hl ⊢; omega)) ?_
  clear hP
  rintro _ σ ⟨T1, rfl, hP, hK1, hN1, hX1⟩
  refine cV ?_
  refine x_lr (z := some 2281) T_363_60 rfl ?_
  refine x_li (z := fr) T_363_61 rfl ?_
  refine x_li (z := mk) T_363_62 rfl ?_
  refine x_cv3 T_363_64 mN_366 mL_366 (Nat.le_of_ble_eq_true rfl) mO_366 (PM.t hP) (Nat.le_of_ble_eq_true rfl) (m_addNews (fr := fr) (mk := mk) hP hK1 hN1 hfr hmk h2 h22 h8 (by simp only [List.length_append, List.length_cons, List.length_nil] at hl ⊢; omega)) ?_
  clear hP
  rintro _ σ ⟨T2, rfl, hP, hK2, hN2, hX2⟩
  refine cV ?_
  refine x_li (z := 1) T_363_67 rfl ?_
  refine x_if T_363_69 (fun h => absurd (show (1 : Int) = 0 from h) (by decide)) (fun _ => ?_)
  refine x_lr (z := some 2281) T_363_72 rfl ?_
  refine x_li (z := old) T_363_73 rfl ?_
  refine x_cv2 T_363_74 mN_365 mL_365 (Nat.le_of_ble_eq_true rfl) mO_365 (PM.t hP) (Nat.le_of_ble_eq_true rfl) (m_addOld (pt := old) hP hK2 hN2 (by omega) (by simp only [List.length_append, List.length_cons, List.length_nil] at hl ⊢; omega)) ?_
  clear hP
  rintro _ σ ⟨T3, rfl, hP, hK3, hN3, hX3⟩
  refine cV ?_
  refine x_li (z := 0) T_363_77 rfl ?_
  refine x_if T_363_79 (fun _ => ?_) (fun h => absurd (show (0 : Int) = 0 by decide) h)
  exact hQ σ _ hP hK3 hN3 (SX_tr hX0 (SX_tr (SX_tr (hX1) hX2) hX3))
end MJOIN
