/-! Members to be: the new ones; members given back. -/
theorem T_366_0 : hTab 366 0 = some ((3, 1, 0, []), 1) := rfl
theorem T_366_1 : hTab 366 1 = some ((18, 3, Int.ofNat 10, []), 4) := rfl
theorem T_366_4 : hTab 366 4 = some ((3, 0, 2, []), 5) := rfl
theorem T_366_5 : hTab 366 5 = some ((0, 0, 0, []), 6) := rfl
theorem T_366_6 : hTab 366 6 = some ((3, 2, 0, []), 7) := rfl
theorem T_366_7 : hTab 366 7 = some ((31, 364, 0, []), 10) := rfl
theorem T_366_10 : hTab 366 10 = some ((0, 0, 2, []), 11) := rfl
theorem T_366_11 : hTab 366 11 = some ((4, 3, 0, []), 12) := rfl
theorem T_366_12 : hTab 366 12 = some ((3, 3, 0, []), 13) := rfl
theorem T_366_13 : hTab 366 13 = some ((3, 0, 2, []), 14) := rfl
theorem T_366_14 : hTab 366 14 = some ((24, 17, Int.ofNat 91, []), 17) := rfl
theorem T_366_17 : hTab 366 17 = some ((19, 3, Int.ofNat 56, []), 20) := rfl
theorem T_366_20 : hTab 366 20 = some ((3, 0, 2, []), 21) := rfl
theorem T_366_21 : hTab 366 21 = some ((3, 3, 0, []), 22) := rfl
theorem T_366_22 : hTab 366 22 = some ((3, 2, 0, []), 23) := rfl
theorem T_366_23 : hTab 366 23 = some ((18, 1, Int.ofNat 42, []), 26) := rfl
theorem T_366_26 : hTab 366 26 = some ((3, 0, 2, []), 27) := rfl
theorem T_366_27 : hTab 366 27 = some ((24, 17, Int.ofNat 72, []), 30) := rfl
theorem T_366_30 : hTab 366 30 = some ((0, 0, 6, []), 32) := rfl
theorem T_366_32 : hTab 366 32 = some ((3, 1, 0, []), 33) := rfl
theorem T_366_33 : hTab 366 33 = some ((10, 2, 0, []), 34) := rfl
theorem T_366_34 : hTab 366 34 = some ((3, 3, 0, []), 35) := rfl
theorem T_366_35 : hTab 366 35 = some ((10, 0, 0, []), 36) := rfl
theorem T_366_36 : hTab 366 36 = some ((0, 0, 2, []), 37) := rfl
theorem T_366_37 : hTab 366 37 = some ((10, 1, 0, []), 38) := rfl
theorem T_366_38 : hTab 366 38 = some ((26, 2, 0, []), 39) := rfl
theorem T_366_39 : hTab 366 39 = some ((18, 0, Int.ofNat 46, []), 42) := rfl
theorem T_366_42 : hTab 366 42 = some ((0, 0, 1, []), 43) := rfl
theorem T_366_43 : hTab 366 43 = some ((22, 0, Int.ofNat 47, []), 46) := rfl
theorem T_366_46 : hTab 366 46 = some ((0, 0, 0, []), 47) := rfl
theorem T_366_47 : hTab 366 47 = some ((31, 364, 0, []), 50) := rfl
theorem T_366_50 : hTab 366 50 = some ((5, 3, 1, []), 53) := rfl
theorem T_366_53 : hTab 366 53 = some ((22, 0, Int.ofNat 12, []), 56) := rfl
theorem T_366_56 : hTab 366 56 = some ((33, 0, 0, []), 57) := rfl
theorem T_367_0 : hTab 367 0 = some ((0, 0, 0, []), 1) := rfl
theorem T_367_1 : hTab 367 1 = some ((4, 2, 0, []), 2) := rfl
theorem T_367_2 : hTab 367 2 = some ((3, 2, 0, []), 3) := rfl
theorem T_367_3 : hTab 367 3 = some ((3, 0, 2, []), 4) := rfl
theorem T_367_4 : hTab 367 4 = some ((24, 17, Int.ofNat 67, []), 7) := rfl
theorem T_367_7 : hTab 367 7 = some ((3, 1, 0, []), 8) := rfl
theorem T_367_8 : hTab 367 8 = some ((26, 0, 0, []), 9) := rfl
theorem T_367_9 : hTab 367 9 = some ((19, 3, Int.ofNat 47, []), 12) := rfl
theorem T_367_12 : hTab 367 12 = some ((3, 0, 2, []), 13) := rfl
theorem T_367_13 : hTab 367 13 = some ((0, 0, 120, []), 15) := rfl
theorem T_367_15 : hTab 367 15 = some ((3, 0, 2, []), 16) := rfl
theorem T_367_16 : hTab 367 16 = some ((24, 17, Int.ofNat 68, []), 19) := rfl
theorem T_367_19 : hTab 367 19 = some ((0, 0, 6, []), 21) := rfl
theorem T_367_21 : hTab 367 21 = some ((3, 1, 0, []), 22) := rfl
theorem T_367_22 : hTab 367 22 = some ((10, 2, 0, []), 23) := rfl
theorem T_367_23 : hTab 367 23 = some ((3, 2, 0, []), 24) := rfl
theorem T_367_24 : hTab 367 24 = some ((10, 0, 0, []), 25) := rfl
theorem T_367_25 : hTab 367 25 = some ((26, 0, 0, []), 26) := rfl
theorem T_367_26 : hTab 367 26 = some ((3, 0, 2, []), 27) := rfl
theorem T_367_27 : hTab 367 27 = some ((24, 17, Int.ofNat 69, []), 30) := rfl
theorem T_367_30 : hTab 367 30 = some ((0, 0, 6, []), 32) := rfl
theorem T_367_32 : hTab 367 32 = some ((3, 1, 0, []), 33) := rfl
theorem T_367_33 : hTab 367 33 = some ((10, 2, 0, []), 34) := rfl
theorem T_367_34 : hTab 367 34 = some ((3, 2, 0, []), 35) := rfl
theorem T_367_35 : hTab 367 35 = some ((10, 0, 0, []), 36) := rfl
theorem T_367_36 : hTab 367 36 = some ((26, 0, 0, []), 37) := rfl
theorem T_367_37 : hTab 367 37 = some ((31, 345, 0, []), 40) := rfl
theorem T_367_40 : hTab 367 40 = some ((7, 0, 0, []), 41) := rfl
theorem T_367_41 : hTab 367 41 = some ((5, 2, 1, []), 44) := rfl
theorem T_367_44 : hTab 367 44 = some ((22, 0, Int.ofNat 2, []), 47) := rfl
theorem T_367_47 : hTab 367 47 = some ((33, 0, 0, []), 48) := rfl
theorem mN_366 : hmN 366 = 3 := by decide +kernel
theorem mL_366 : hmL 366 = 4 := by decide +kernel
theorem mK_366 : hmK 366 = 1 := by decide +kernel
theorem mO_366 : hmO 366 = 17 := by decide +kernel
theorem mN_367 : hmN 367 = 2 := by decide +kernel
theorem mL_367 : hmL 367 = 3 := by decide +kernel
theorem mK_367 : hmK 367 = 1 := by decide +kernel
theorem mO_367 : hmO 367 = 17 := by decide +kernel
def nwL (P : qR) (fr mk : Int) : List Ch → Int → List Nw
  | [], _ => []
  | c :: r, j => chN c (if mk = 1 ∨ ¬ P 2342 (6 * fr + j) = 0 then 1 else 0) :: nwL P fr mk r (j + 1)
def news (P : qR) (fr mk : Int) (h : List Ch) : List Nw := if fr < 0 then [chN (h.headD c0) mk] else nwL P fr mk (h.drop 2) 0
section MNEWS2
variable {fb : Bool} {d : Nat} {σ0 σ : hM} {P Q R S S1 S2 : qR} {T U s w g u p k e t z o thr pt off n N v mk fr : Int} {l l1 l2 nm wd A : List Int} {h : List Ch} {f : Int → Int} {x : Nw} {c : Ch} {ns : List Nw}
theorem nwL_len : ∀ (r : List Ch) (j : Int), (nwL P fr mk r j).length = r.length
  | [], _ => rfl
  | c :: r, j => by
    show (nwL P fr mk r (j + 1)).length + 1 = r.length + 1
    rw [nwL_len r (j + 1)]
theorem m_addNews_loop (hf : 0 ≤ fr ∧ fr < 64) (hm : mk = 0 ∨ mk = 1) : ∀ (r : List Ch) (i : Nat) (j : Int) (ns : List Nw) (S : qR) (σ : hM), i + r.length = h.length → (i : Int) = j + 2 → 0 ≤ j → (∀ m : Nat, m < r.length → h[i + m]? = r[m]?) → ns.length + r.length ≤ 6 → j + r.length ≤ 6 → PM σ0 P S σ → KS T U P S l h → NW S ns → WP fb (d + 1) 366 12 [some (vR (some 2281)), some (vI fr), some (vI mk), some (vI (i : Int))] [] σ (KN T U σ0 P S l h (ns ++ nwL P fr mk r j)) := by
  intro r
  induction r with
  | nil =>
    intro i j ns S σ h1 h2 h3 h4 h5 h6 hP hK hN
    rw [show ns ++ nwL P fr mk [] j = ns from List.append_nil ns]
    have h1 : i + 0 = h.length := h1
    have h91 := hK.2.2.2.1.1
    obtain ⟨n, hn⟩ : ∃ n : Int, (h.length : Int) = n := ⟨_, rfl⟩
    rw [hn] at h91
    have hi : (i : Int) = n := by omega
    rw [hi]
    refine x_li (z := n) T_366_12 rfl ?_
    refine x_lr (z := some 2281) T_366_13 rfl ?_
    refine x_gI (z := n) T_366_14 (Or.inl F_17_91) (PM.t hP) (Eq.trans (PM.nS hP 2281 91 91 rfl rfl rfl) h91) ?_
    refine x_ic2 T_366_17 (fun _ => ?_) (fun h => absurd (show n ≤ n by omega) h)
    refine x_rv T_366_56 ?_
    exact ⟨S, rfl, hP, hK, hN, SX_rfl⟩
  | cons c r ih =>
    intro i j ns S σ h1 h2 h3 h4 h5 h6 hP hK hN
    have h1 : i + (r.length + 1) = h.length := h1
    have h5 : ns.length + (r.length + 1) ≤ 6 := h5
    have h6 : j + ((r.length + 1 : Nat) : Int) ≤ 6 := h6
    have hc : h[i]? = some c := by
      have := h4 0 (Nat.succ_pos _)
      exact this
    have h4' : ∀ m : Nat, m < r.length → h[i + 1 + m]? = r[m]? := fun m hm => by
      have := h4 (m + 1) (Nat.succ_lt_succ hm)
      rw [show i + (m + 1) = i + 1 + m by omega] at this
      exact this
    have h91 := hK.2.2.2.1.1
    have h60 := hK.2.2.2.1.2.1
    have b5 : 0 ≤ P 2342 (6 * fr + j) ∧ P 2342 (6 * fr + j) ≤ 1 := IV.a hK.1.iv 2342 2 384 rfl rfl rfl (by omega) (by omega)
    obtain ⟨mm, hmm⟩ : ∃ mm, P 2342 (6 * fr + j) = mm := ⟨_, rfl⟩
    have hgo : ∀ (v : Int), (if mk = 1 ∨ ¬ mm = 0 then (1 : Int) else 0) = v → (∀ (σ : hM) (S2 : qR), PM σ0 P S2 σ → KS T U P S2 l h → NW S2 (ns ++ [chN c v]) → SX nwR nwN S S2 → WP fb (d + 1) 366 12 [some (vR (some 2281)), some (vI fr), some (vI mk), some (vI ((i : Int) + 1))] [] σ (KN T U σ0 P S l h (ns ++ nwL P fr mk (c :: r) j))) := fun v hv σ S2 a1 a2 a3 a4 => by
      have := ih (i + 1) (j + 1) (ns ++ [chN c v]) S2 σ (by omega) (by omega) (by omega) h4' (by rw [List.length_append]; show ns.length + 1 + r.length ≤ 6; omega) (by omega) a1 a2 a3
      rw [show ((i + 1 : Nat) : Int) = (i : Int) + 1 by omega] at this
      refine WP.mono this ?_
      rintro r1 σ1 ⟨S3, r1, r2, r3, r4, r5⟩
      refine ⟨S3, r1, r2, r3, ?_, SX_tr a4 r5⟩
      have e : ns ++ nwL P fr mk (c :: r) j = ns ++ [chN c v] ++ nwL P fr mk r (j + 1) := by
        rw [List.append_assoc]
        show ns ++ (chN c (if mk = 1 ∨ ¬ P 2342 (6 * fr + j) = 0 then 1 else 0) :: nwL P fr mk r (j + 1)) = _
        rw [hmm, hv]
        rfl
      rw [e]
      exact r4
    have had := fun (v : Int) (hv : v = 0 ∨ v = 1) => m_addHeld (fb := fb) (d := d) (mk := v) (z := (i : Int)) rfl hc hP hK hN (by omega) hv
    obtain ⟨n, hn⟩ : ∃ n : Int, (h.length : Int) = n := ⟨_, rfl⟩
    rw [hn] at h91
    obtain ⟨y, hy⟩ : ∃ y : Int, (i : Int) = y := ⟨_, rfl⟩
    rw [hy] at had hgo ⊢
    have hix : 6 * fr + y - 2 = 6 * fr + j := by omega
    rcases hm with rfl | rfl
    · by_cases q : mm = 0
      · have hg := hgo 0 (if_neg (fun c => c.elim (by decide) (fun c => c q)))
        have ha := had 0 (Or.inl rfl)
        refine x_li (z := y) T_366_12 rfl ?_
        refine x_lr (z := some 2281) T_366_13 rfl ?_
        refine x_gI (z := n) T_366_14 (Or.inl F_17_91) (PM.t hP) (Eq.trans (PM.nS hP 2281 91 91 rfl rfl rfl) h91) ?_
        refine x_ic2 T_366_17 (fun h => absurd (show n ≤ y from h) (by omega)) (fun _ => ?_)
        refine x_lr (z := some 2281) T_366_20 rfl ?_
        refine x_li (z := y) T_366_21 rfl ?_
        refine x_li (z := 0) T_366_22 rfl ?_
        refine x_if T_366_23 (fun h => absurd (show ¬ (0 : Int) = 0 from h) (by decide)) (fun _ => ?_)
        refine x_lr (z := some 2281) T_366_26 rfl ?_
        refine x_gR (z := some 2342) T_366_27 F_17_72 (PM.t hP) (PM.r hP 72 2342 rfl) ?_
        refine x_ic T_366_30 ?_
        refine x_li (z := fr) T_366_32 rfl ?_
        refine x_ib (w := (6 * fr)) T_366_33 (fun h => absurd h.1 (by decide)) (w32_id (by omega) (by omega)) ?_
        refine x_li (z := y) T_366_34 rfl ?_
        refine x_ib (w := ((6 * fr) + y)) T_366_35 (fun h => absurd h.1 (by decide)) (w32_id (by omega) (by omega)) ?_
        refine x_ic T_366_36 ?_
        refine x_ib (w := (6 * fr + j)) T_366_37 (fun h => absurd h.1 (by decide)) (w32_e (by omega) (by omega) (by omega)) ?_
        refine x_alI (z := mm) T_366_38 (by decide) (PM.ta hP 2342 2 384 rfl rfl) (by omega) (by omega) (Eq.trans (PM.aP hP 2342 rfl rfl (by omega)) hmm) ?_
        refine x_if T_366_39 (fun _ => ?_) (fun h => absurd (show mm = 0 by omega) h)
        refine x_ic T_366_46 ?_
        refine x_cv3 T_366_47 mN_364 mL_364 (Nat.le_of_ble_eq_true rfl) mO_364 (PM.t hP) (Nat.le_of_ble_eq_true rfl) (ha) ?_
        clear hP
        rintro _ σ ⟨S2, rfl, hP, hK2, hN2, hX2⟩
        refine cV ?_
        refine x_inc (w := (y + 1)) (ls1 := [some (vR (some 2281)), some (vI fr), some (vI 0), some (vI (y + 1))]) T_366_50 rfl (w32_id (by omega) (by omega)) rfl ?_
        refine x_goto T_366_53 ?_
        exact hg σ S2 hP hK2 hN2 hX2
      · have hg := hgo 1 (if_pos (Or.inr q))
        have ha := had 1 (Or.inr rfl)
        refine x_li (z := y) T_366_12 rfl ?_
        refine x_lr (z := some 2281) T_366_13 rfl ?_
        refine x_gI (z := n) T_366_14 (Or.inl F_17_91) (PM.t hP) (Eq.trans (PM.nS hP 2281 91 91 rfl rfl rfl) h91) ?_
        refine x_ic2 T_366_17 (fun h => absurd (show n ≤ y from h) (by omega)) (fun _ => ?_)
        refine x_lr (z := some 2281) T_366_20 rfl ?_
        refine x_li (z := y) T_366_21 rfl ?_
        refine x_li (z := 0) T_366_22 rfl ?_
        refine x_if T_366_23 (fun h => absurd (show ¬ (0 : Int) = 0 from h) (by decide)) (fun _ => ?_)
        refine x_lr (z := some 2281) T_366_26 rfl ?_
        refine x_gR (z := some 2342) T_366_27 F_17_72 (PM.t hP) (PM.r hP 72 2342 rfl) ?_
        refine x_ic T_366_30 ?_
        refine x_li (z := fr) T_366_32 rfl ?_
        refine x_ib (w := (6 * fr)) T_366_33 (fun h => absurd h.1 (by decide)) (w32_id (by omega) (by omega)) ?_
        refine x_li (z := y) T_366_34 rfl ?_
        refine x_ib (w := ((6 * fr) + y)) T_366_35 (fun h => absurd h.1 (by decide)) (w32_id (by omega) (by omega)) ?_
        refine x_ic T_366_36 ?_
        refine x_ib (w := (6 * fr + j)) T_366_37 (fun h => absurd h.1 (by decide)) (w32_e (by omega) (by omega) (by omega)) ?_
        refine x_alI (z := mm) T_366_38 (by decide) (PM.ta hP 2342 2 384 rfl rfl) (by omega) (by omega) (Eq.trans (PM.aP hP 2342 rfl rfl (by omega)) hmm) ?_
        refine x_if T_366_39 (fun h => absurd (show mm = 0 from h) (by omega)) (fun _ => ?_)
        refine x_ic T_366_42 ?_
        refine x_goto T_366_43 ?_
        refine x_cv3 T_366_47 mN_364 mL_364 (Nat.le_of_ble_eq_true rfl) mO_364 (PM.t hP) (Nat.le_of_ble_eq_true rfl) (ha) ?_
        clear hP
        rintro _ σ ⟨S2, rfl, hP, hK2, hN2, hX2⟩
        refine cV ?_
        refine x_inc (w := (y + 1)) (ls1 := [some (vR (some 2281)), some (vI fr), some (vI 0), some (vI (y + 1))]) T_366_50 rfl (w32_id (by omega) (by omega)) rfl ?_
        refine x_goto T_366_53 ?_
        exact hg σ S2 hP hK2 hN2 hX2
    · have hg := hgo 1 (if_pos (Or.inl rfl))
      have ha := had 1 (Or.inr rfl)
      refine x_li (z := y) T_366_12 rfl ?_
      refine x_lr (z := some 2281) T_366_13 rfl ?_
      refine x_gI (z := n) T_366_14 (Or.inl F_17_91) (PM.t hP) (Eq.trans (PM.nS hP 2281 91 91 rfl rfl rfl) h91) ?_
      refine x_ic2 T_366_17 (fun h => absurd (show n ≤ y from h) (by omega)) (fun _ => ?_)
      refine x_lr (z := some 2281) T_366_20 rfl ?_
      refine x_li (z := y) T_366_21 rfl ?_
      refine x_li (z := 1) T_366_22 rfl ?_
      refine x_if T_366_23 (fun _ => ?_) (fun h => absurd (show ¬ (1 : Int) = 0 by decide) h)
      refine x_ic T_366_42 ?_
      refine x_goto T_366_43 ?_
      refine x_cv3 T_366_47 mN_364 mL_364 (Nat.le_of_ble_eq_true rfl) mO_364 (PM.t hP) (Nat.le_of_ble_eq_true rfl) (ha) ?_
      clear hP
      rintro _ σ ⟨S2, rfl, hP, hK2, hN2, hX2⟩
      refine cV ?_
      refine x_inc (w := (y + 1)) (ls1 := [some (vR (some 2281)), some (vI fr), some (vI 1), some (vI (y + 1))]) T_366_50 rfl (w32_id (by omega) (by omega)) rfl ?_
      refine x_goto T_366_53 ?_
      exact hg σ S2 hP hK2 hN2 hX2
theorem m_addNews (hP : PM σ0 P S σ) (hK : KS T U P S l h) (hN : NW S ns) (hf : fr < 64) (hm : mk = 0 ∨ mk = 1) (h2 : 2 ≤ h.length) (h22 : fr < 0 → h.length = 2) (h8 : h.length ≤ 8) (h6 : (ns ++ news P fr mk h).length ≤ 6) : CL fb (d + 1) 366 [vR (some 2281), vI fr, vI mk] σ (KN T U σ0 P S l h (ns ++ news P fr mk h)) := by
  unfold news at h6 ⊢
  have h91 := hK.2.2.2.1.1
  by_cases q : fr < 0
  · rw [if_pos q] at h6 ⊢
    rw [List.length_append] at h6
    have h6 : ns.length + 1 ≤ 6 := h6
    have e2 := h22 q
    have hc : h[0]? = some (h.headD c0) := by
      cases h with
      | nil => cases e2
      | cons a t => rfl
    have ha := m_addHeld (fb := fb) (d := d) (mk := mk) (z := 0) (i := 0) rfl hc hP hK hN (by omega) hm
    refine CL_in mL_366 rfl ?_
    show WP fb _ 366 0 [some (vR (some 2281)), some (vI fr), some (vI mk), none] [] σ _
    refine x_li (z := fr) T_366_0 rfl ?_
    refine x_if T_366_1 (fun h => absurd (show 0 ≤ fr from h) (by omega)) (fun _ => ?_)
    refine x_lr (z := some 2281) T_366_4 rfl ?_
    refine x_ic T_366_5 ?_
    refine x_li (z := mk) T_366_6 rfl ?_
    refine x_cv3 T_366_7 mN_364 mL_364 (Nat.le_of_ble_eq_true rfl) mO_364 (PM.t hP) (Nat.le_of_ble_eq_true rfl) (ha) ?_
    clear hP
    rintro _ σ ⟨S2, rfl, hP, hK2, hN2, hX2⟩
    have h91 : S2 2281 91 = 2 := hK2.2.2.2.1.1.trans (by omega)
    refine cV ?_
    refine x_ic T_366_10 ?_
    refine x_si (ls1 := [some (vR (some 2281)), some (vI fr), some (vI mk), some (vI 2)]) T_366_11 rfl ?_
    refine x_li (z := 2) T_366_12 rfl ?_
    refine x_lr (z := some 2281) T_366_13 rfl ?_
    refine x_gI (z := 2) T_366_14 (Or.inl F_17_91) (PM.t hP) (Eq.trans (PM.nS hP 2281 91 91 rfl rfl rfl) h91) ?_
    refine x_ic2 T_366_17 (fun _ => ?_) (fun h => absurd (show 2 ≤ (2 : Int) by decide) h)
    refine x_rv T_366_56 ?_
    exact ⟨S2, rfl, hP, hK2, hN2, hX2⟩
  · rw [if_neg q] at h6 ⊢
    rw [List.length_append, nwL_len, List.length_drop] at h6
    have hgo := m_addNews_loop (fb := fb) (d := d) (fr := fr) ⟨by omega, hf⟩ hm (h.drop 2) 2 0 ns S σ (by rw [List.length_drop]; omega) rfl (by decide) (fun m hm => by rw [List.getElem?_drop]) (by rw [List.length_drop]; omega) (by rw [List.length_drop]; omega) hP hK hN
    refine CL_in mL_366 rfl ?_
    show WP fb _ 366 0 [some (vR (some 2281)), some (vI fr), some (vI mk), none] [] σ _
    refine x_li (z := fr) T_366_0 rfl ?_
    refine x_if T_366_1 (fun _ => ?_) (fun h => absurd (show 0 ≤ fr by omega) h)
    refine x_ic T_366_10 ?_
    refine x_si (ls1 := [some (vR (some 2281)), some (vI fr), some (vI mk), some (vI 2)]) T_366_11 rfl ?_
    exact hgo
theorem KS.ask2 {r : Option AV} {σ1 : hM} {ms : List Int} {T1 : Int} (hK : KS T U P S l h) (hT : T + 4 ≤ T1) (hr : rG T U σ0 P S s ms r σ1) : ∃ S2 : qR, r = some (vI (tE P s ms)) ∧ PM σ0 (tP P s ms) S2 σ1 ∧ KS T1 U (tP P s ms) S2 l h ∧ SK S S2 := by
  obtain ⟨S2, a1, a2, a3, a4, a5, a6⟩ := hr
  exact ⟨S2, a1, a2, ⟨a3.mono hT, hK.2.1.of KF_tP, a4.mono hT (Int.le_refl U), a6.hs hK.2.2.2.1, hK.2.2.2.2.sw a6.sk.sw⟩, a6.sk⟩
theorem kDrM_kf : ∀ (m : Nat) (j : Int) (P : qR), KF (kDrM pt m j P) P
  | 0, _, _ => KF_rfl
  | m + 1, j, P => KF_tr (kDrM_kf m (j + 1) _) KF_tP
theorem m_dropMembers_loop (hpt : 0 ≤ pt ∧ pt < 64) (hn : n ≤ 6) : ∀ (m : Nat) (j T : Int) (P S : qR) (σ : hM), j + m = n → 0 ≤ j → P 2337 pt = n → T + 4 * m + 49 ≤ 2147483000 → PM σ0 P S σ → KS T U P S l h → WP fb (d + 12) 367 2 [some (vR (some 2281)), some (vI pt), some (vI j)] [] σ (fun r σ' => ∃ S2 : qR, r = none ∧ PM σ0 (kDrM pt m j P) S2 σ' ∧ KS (T + 4 * m) U (kDrM pt m j P) S2 l h ∧ SK S S2) := by
  intro m
  induction m with
  | zero =>
    intro j T P S σ h1 h2 h3 h4 hP hK
    have h1 : j + ((0 : Nat) : Int) = n := h1
    refine x_li (z := j) T_367_2 rfl ?_
    refine x_lr (z := some 2281) T_367_3 rfl ?_
    refine x_gR (z := some 2337) T_367_4 F_17_67 (PM.t hP) (PM.r hP 67 2337 rfl) ?_
    refine x_li (z := pt) T_367_7 rfl ?_
    refine x_alI (z := n) T_367_8 (by decide) (PM.ta hP 2337 0 64 rfl rfl) (by omega) (by omega) (Eq.trans (PM.aP hP 2337 rfl rfl (by omega)) h3) ?_
    refine x_ic2 T_367_9 (fun _ => ?_) (fun h => absurd (show n ≤ j by omega) h)
    refine x_rv T_367_47 ?_
    exact ⟨S, rfl, hP, hK.mono (by omega), SK_rfl⟩
  | succ m ih =>
    intro j T P S σ h1 h2 h3 h4 hP hK
    have b1 : 0 ≤ P 2338 (6 * pt + j) ∧ P 2338 (6 * pt + j) ≤ 2 := IV.a hK.1.iv 2338 0 384 rfl rfl rfl (by omega) (by omega)
    obtain ⟨sv, hsv⟩ : ∃ sv, P 2338 (6 * pt + j) = sv := ⟨_, rfl⟩
    obtain ⟨fd, hfd⟩ : ∃ fd, P 2339 (6 * pt + j) = fd := ⟨_, rfl⟩
    rw [hsv] at b1
    have ek : kDrM pt (m + 1) j P = kDrM pt m (j + 1) (tP P sv (mOne 120 fd)) := by rw [← hsv, ← hfd]; rfl
    rw [ek]
    have ha := fun (σ : hM) (hP : PM σ0 P S σ) => g_askOne (fb := fb) (d := d) (s := sv) (f := fd) hP hK.2.2.1 hK.1 (by omega) (by omega) (Or.inl rfl)
    have hgo := fun (σ : hM) (S2 : qR) (hP : PM σ0 (tP P sv (mOne 120 fd)) S2 σ) (hK2 : KS (T + 4) U (tP P sv (mOne 120 fd)) S2 l h) (hS : SK S S2) => WP.mono (ih (j + 1) (T + 4) _ S2 σ (by omega) (by omega) ((KF_tP 2337 pt rfl (by decide) (by decide) (by decide)).trans h3) (by omega) hP hK2) (Q := fun r σ' => ∃ S2 : qR, r = none ∧ PM σ0 (kDrM pt m (j + 1) (tP P sv (mOne 120 fd))) S2 σ' ∧ KS (T + 4 * ((m + 1 : Nat) : Int)) U (kDrM pt m (j + 1) (tP P sv (mOne 120 fd))) S2 l h ∧ SK S S2) (fun r σ1 hr => by
      obtain ⟨S3, r1, r2, r3, r4⟩ := hr
      exact ⟨S3, r1, r2, r3.mono (by omega), SK_tr hS r4⟩)
    refine x_li (z := j) T_367_2 rfl ?_
    refine x_lr (z := some 2281) T_367_3 rfl ?_
    refine x_gR (z := some 2337) T_367_4 F_17_67 (PM.t hP) (PM.r hP 67 2337 rfl) ?_
    refine x_li (z := pt) T_367_7 rfl ?_
    refine x_alI (z := n) T_367_8 (by decide) (PM.ta hP 2337 0 64 rfl rfl) (by omega) (by omega) (Eq.trans (PM.aP hP 2337 rfl rfl (by omega)) h3) ?_
    refine x_ic2 T_367_9 (fun h => absurd (show n ≤ j from h) (by omega)) (fun _ => ?_)
    refine x_lr (z := some 2281) T_367_12 rfl ?_
    refine x_ic T_367_13 ?_
    refine x_lr (z := some 2281) T_367_15 rfl ?_
    refine x_gR (z := some 2338) T_367_16 F_17_68 (PM.t hP) (PM.r hP 68 2338 rfl) ?_
    refine x_ic T_367_19 ?_
    refine x_li (z := pt) T_367_21 rfl ?_
    refine x_ib (w := (6 * pt)) T_367_22 (fun h => absurd h.1 (by decide)) (w32_id (by omega) (by omega)) ?_
    refine x_li (z := j) T_367_23 rfl ?_
    refine x_ib (w := ((6 * pt) + j)) T_367_24 (fun h => absurd h.1 (by decide)) (w32_id (by omega) (by omega)) ?_
    refine x_alI (z := sv) T_367_25 (by decide) (PM.ta hP 2338 0 384 rfl rfl) (by omega) (by omega) (Eq.trans (PM.aP hP 2338 rfl rfl (by omega)) hsv) ?_
    refine x_lr (z := some 2281) T_367_26 rfl ?_
    refine x_gR (z := some 2339) T_367_27 F_17_69 (PM.t hP) (PM.r hP 69 2339 rfl) ?_
    refine x_ic T_367_30 ?_
    refine x_li (z := pt) T_367_32 rfl ?_
    refine x_ib (w := (6 * pt)) T_367_33 (fun h => absurd h.1 (by decide)) (w32_id (by omega) (by omega)) ?_
    refine x_li (z := j) T_367_34 rfl ?_
    refine x_ib (w := ((6 * pt) + j)) T_367_35 (fun h => absurd h.1 (by decide)) (w32_id (by omega) (by omega)) ?_
    refine x_alI (z := fd) T_367_36 (by decide) (PM.ta hP 2339 0 384 rfl rfl) (by omega) (by omega) (Eq.trans (PM.aP hP 2339 rfl rfl (by omega)) hfd) ?_
    refine x_cv4 T_367_37 mN_345 mL_345 (Nat.le_of_ble_eq_true rfl) mO_345 (PM.t hP) (Nat.le_of_ble_eq_true rfl) (ha σ hP) ?_
    clear hP
    intro r σ hr
    obtain ⟨S2, rfl, hP, hK2, hS2⟩ := hK.ask2 (T1 := T + 4) (by omega) hr
    refine cI ?_
    refine x_popI T_367_40 ?_
    refine x_inc (w := (j + 1)) (ls1 := [some (vR (some 2281)), some (vI pt), some (vI (j + 1))]) T_367_41 rfl (w32_id (by omega) (by omega)) rfl ?_
    refine x_goto T_367_44 ?_
    exact hgo σ S2 hP hK2 hS2
theorem m_dropMembers (hpt : 0 ≤ pt ∧ pt < 64) (hT : T + 100 ≤ 2147483000) (hP : PM σ0 P S σ) (hK : KS T U P S l h) : CL fb (d + 12) 367 [vR (some 2281), vI pt] σ (fun r σ' => ∃ S2 : qR, r = none ∧ PM σ0 (kDrM pt (P 2337 pt).toNat 0 P) S2 σ' ∧ KS (T + 24) U (kDrM pt (P 2337 pt).toNat 0 P) S2 l h ∧ SK S S2) := by
  have bm : 0 ≤ P 2337 pt ∧ P 2337 pt ≤ 6 := IV.a hK.1.iv 2337 0 64 rfl rfl rfl (by omega) (by omega)
  have hgo := m_dropMembers_loop (fb := fb) (d := d) (σ0 := σ0) (U := U) (l := l) (h := h) hpt bm.2 (P 2337 pt).toNat 0 T P S σ (by omega) (by decide) rfl (by omega) hP hK
  refine CL_in mL_367 rfl ?_
  show WP fb _ 367 0 [some (vR (some 2281)), some (vI pt), none] [] σ _
  refine x_ic T_367_0 ?_
  refine x_si (ls1 := [some (vR (some 2281)), some (vI pt), some (vI 0)]) T_367_1 rfl ?_
  refine WP.mono hgo ?_
  rintro r σ1 ⟨S3, r1, r2, r3, r4⟩
  exact ⟨S3, r1, r2, r3.mono (by omega), r4⟩
end MNEWS2
