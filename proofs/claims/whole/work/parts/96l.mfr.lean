/-! Commands in one another: a command's text, sign by sign. -/
theorem T_312_0 : hTab 312 0 = some ((3, 0, 2, []), 1) := rfl
theorem T_312_1 : hTab 312 1 = some ((24, 17, Int.ofNat 107, []), 4) := rfl
theorem T_312_4 : hTab 312 4 = some ((3, 0, 2, []), 5) := rfl
theorem T_312_5 : hTab 312 5 = some ((24, 17, Int.ofNat 113, []), 8) := rfl
theorem T_312_8 : hTab 312 8 = some ((26, 0, 0, []), 9) := rfl
theorem T_312_9 : hTab 312 9 = some ((0, 0, 100, []), 11) := rfl
theorem T_312_11 : hTab 312 11 = some ((19, 1, Int.ofNat 16, []), 14) := rfl
theorem T_312_14 : hTab 312 14 = some ((0, 0, 0, []), 15) := rfl
theorem T_312_15 : hTab 312 15 = some ((33, 2, 0, []), 16) := rfl
theorem T_312_16 : hTab 312 16 = some ((3, 0, 2, []), 17) := rfl
theorem T_312_17 : hTab 312 17 = some ((24, 17, Int.ofNat 106, []), 20) := rfl
theorem T_312_20 : hTab 312 20 = some ((0, 0, 100, []), 22) := rfl
theorem T_312_22 : hTab 312 22 = some ((3, 0, 2, []), 23) := rfl
theorem T_312_23 : hTab 312 23 = some ((24, 17, Int.ofNat 113, []), 26) := rfl
theorem T_312_26 : hTab 312 26 = some ((10, 2, 0, []), 27) := rfl
theorem T_312_27 : hTab 312 27 = some ((3, 0, 2, []), 28) := rfl
theorem T_312_28 : hTab 312 28 = some ((24, 17, Int.ofNat 107, []), 31) := rfl
theorem T_312_31 : hTab 312 31 = some ((3, 0, 2, []), 32) := rfl
theorem T_312_32 : hTab 312 32 = some ((24, 17, Int.ofNat 113, []), 35) := rfl
theorem T_312_35 : hTab 312 35 = some ((26, 0, 0, []), 36) := rfl
theorem T_312_36 : hTab 312 36 = some ((10, 0, 0, []), 37) := rfl
theorem T_312_37 : hTab 312 37 = some ((3, 1, 0, []), 38) := rfl
theorem T_312_38 : hTab 312 38 = some ((27, 0, 0, []), 39) := rfl
theorem T_312_39 : hTab 312 39 = some ((3, 0, 2, []), 40) := rfl
theorem T_312_40 : hTab 312 40 = some ((24, 17, Int.ofNat 107, []), 43) := rfl
theorem T_312_43 : hTab 312 43 = some ((3, 0, 2, []), 44) := rfl
theorem T_312_44 : hTab 312 44 = some ((24, 17, Int.ofNat 113, []), 47) := rfl
theorem T_312_47 : hTab 312 47 = some ((8, 0, 0, []), 48) := rfl
theorem T_312_48 : hTab 312 48 = some ((26, 0, 0, []), 49) := rfl
theorem T_312_49 : hTab 312 49 = some ((0, 0, 1, []), 50) := rfl
theorem T_312_50 : hTab 312 50 = some ((10, 0, 0, []), 51) := rfl
theorem T_312_51 : hTab 312 51 = some ((27, 0, 0, []), 52) := rfl
theorem T_312_52 : hTab 312 52 = some ((0, 0, 1, []), 53) := rfl
theorem T_312_53 : hTab 312 53 = some ((33, 2, 0, []), 54) := rfl
theorem T_313_0 : hTab 313 0 = some ((0, 0, 1, []), 1) := rfl
theorem T_313_1 : hTab 313 1 = some ((4, 3, 0, []), 2) := rfl
theorem T_313_2 : hTab 313 2 = some ((0, 0, 0, []), 3) := rfl
theorem T_313_3 : hTab 313 3 = some ((4, 4, 0, []), 5) := rfl
theorem T_313_5 : hTab 313 5 = some ((3, 4, 0, []), 7) := rfl
theorem T_313_7 : hTab 313 7 = some ((3, 0, 2, []), 8) := rfl
theorem T_313_8 : hTab 313 8 = some ((24, 17, Int.ofNat 101, []), 11) := rfl
theorem T_313_11 : hTab 313 11 = some ((0, 0, 26, []), 13) := rfl
theorem T_313_13 : hTab 313 13 = some ((3, 1, 0, []), 14) := rfl
theorem T_313_14 : hTab 313 14 = some ((10, 2, 0, []), 15) := rfl
theorem T_313_15 : hTab 313 15 = some ((3, 2, 0, []), 16) := rfl
theorem T_313_16 : hTab 313 16 = some ((10, 0, 0, []), 17) := rfl
theorem T_313_17 : hTab 313 17 = some ((26, 0, 0, []), 18) := rfl
theorem T_313_18 : hTab 313 18 = some ((19, 3, Int.ofNat 61, []), 21) := rfl
theorem T_313_21 : hTab 313 21 = some ((3, 0, 2, []), 22) := rfl
theorem T_313_22 : hTab 313 22 = some ((3, 0, 2, []), 23) := rfl
theorem T_313_23 : hTab 313 23 = some ((24, 17, Int.ofNat 100, []), 26) := rfl
theorem T_313_26 : hTab 313 26 = some ((0, 0, 20, []), 28) := rfl
theorem T_313_28 : hTab 313 28 = some ((0, 0, 26, []), 30) := rfl
theorem T_313_30 : hTab 313 30 = some ((3, 1, 0, []), 31) := rfl
theorem T_313_31 : hTab 313 31 = some ((10, 2, 0, []), 32) := rfl
theorem T_313_32 : hTab 313 32 = some ((3, 2, 0, []), 33) := rfl
theorem T_313_33 : hTab 313 33 = some ((10, 0, 0, []), 34) := rfl
theorem T_313_34 : hTab 313 34 = some ((10, 2, 0, []), 35) := rfl
theorem T_313_35 : hTab 313 35 = some ((3, 4, 0, []), 37) := rfl
theorem T_313_37 : hTab 313 37 = some ((10, 0, 0, []), 38) := rfl
theorem T_313_38 : hTab 313 38 = some ((26, 0, 0, []), 39) := rfl
theorem T_313_39 : hTab 313 39 = some ((31, 312, 0, []), 42) := rfl
theorem T_313_42 : hTab 313 42 = some ((18, 0, Int.ofNat 53, []), 45) := rfl
theorem T_313_45 : hTab 313 45 = some ((3, 3, 0, []), 46) := rfl
theorem T_313_46 : hTab 313 46 = some ((18, 0, Int.ofNat 53, []), 49) := rfl
theorem T_313_49 : hTab 313 49 = some ((0, 0, 1, []), 50) := rfl
theorem T_313_50 : hTab 313 50 = some ((22, 0, Int.ofNat 54, []), 53) := rfl
theorem T_313_53 : hTab 313 53 = some ((0, 0, 0, []), 54) := rfl
theorem T_313_54 : hTab 313 54 = some ((4, 3, 0, []), 55) := rfl
theorem T_313_55 : hTab 313 55 = some ((5, 4, 1, []), 58) := rfl
theorem T_313_58 : hTab 313 58 = some ((22, 0, Int.ofNat 5, []), 61) := rfl
theorem T_313_61 : hTab 313 61 = some ((3, 3, 0, []), 62) := rfl
theorem T_313_62 : hTab 313 62 = some ((33, 2, 0, []), 63) := rfl
theorem mN_312 : hmN 312 = 2 := by decide +kernel
theorem mL_312 : hmL 312 = 2 := by decide +kernel
theorem mK_312 : hmK 312 = 1 := by decide +kernel
theorem mO_312 : hmO 312 = 17 := by decide +kernel
theorem mN_313 : hmN 313 = 3 := by decide +kernel
theorem mL_313 : hmL 313 = 5 := by decide +kernel
theorem mK_313 : hmK 313 = 1 := by decide +kernel
theorem mO_313 : hmO 313 = 17 := by decide +kernel
/-- the text of a frame, as far as there is room -/
def TX (S : qR) (dp : Int) (L : List Int) : Prop := S 2366 dp = (if L.length ≤ 100 then (L.length : Int) else 100) ∧ ∀ j : Int, 0 ≤ j → j < L.length → j < 100 → S 2365 (100 * dp + j) = lg L j
def frR0 : List Nat := [2365, 2366]
/-- no other frame's text has changed -/
def FRM (dp : Int) (S S1 : qR) : Prop := SX frR0 [] S S1 ∧ (∀ i : Int, i ≠ dp → S1 2366 i = S 2366 i) ∧ ∀ i j : Int, i ≠ dp → 0 ≤ j → j < 100 → S1 2365 (100 * i + j) = S 2365 (100 * i + j)
def varL (P : qR) (p x : Int) : List Int := seg (P 2361) (20 * (26 * p + x)) (P 2362 (26 * p + x)).toNat
/-- what an addition to a text answers -/
def adR (L vs : List Int) : Int := if vs = [] ∨ (L ++ vs).length ≤ 100 then 1 else 0
abbrev AD (T U : Int) (σ0 : hM) (P S : qR) (dp : Int) (L vs : List Int) : Option AV → hM → Prop := fun r σ' => ∃ S2 : qR, r = some (vI (adR L vs)) ∧ PM σ0 P S2 σ' ∧ IV true T U S2 ∧ TX S2 dp (L ++ vs) ∧ FRM dp S S2
section MFR
variable {fb : Bool} {d : Nat} {σ0 σ : hM} {P Q R S S1 S2 : qR} {T U s w g u p k e t z o n N v dp b : Int} {l L vs ws : List Int} {h : List Ch}
theorem FRM_rfl : FRM dp S S := ⟨SX_rfl, fun _ _ => rfl, fun _ _ _ _ _ => rfl⟩
theorem FRM_tr (h1 : FRM dp S S1) (h2 : FRM dp S1 S2) : FRM dp S S2 := ⟨SX_tr h1.1 h2.1, fun i a => (h2.2.1 i a).trans (h1.2.1 i a), fun i j a c e => (h2.2.2 i j a c e).trans (h1.2.2 i j a c e)⟩
theorem FRM_add (hz : 0 ≤ z ∧ z < 100) : FRM dp S (rU (rU S 2365 (100 * dp + z) b) 2366 dp v) := ⟨SX_up (SX_up SX_rfl rfl rfl) rfl rfl, fun i a => (rU_k a).trans (rU_f (by decide)), fun i j a c e => (rU_f (by decide)).trans (rU_k (by omega))⟩
theorem adR_01 : adR L vs = 0 ∨ adR L vs = 1 := by
  unfold adR
  split
  · exact Or.inr rfl
  · exact Or.inl rfl
theorem TX_one (h : TX S dp L) (hl : L.length < 100) (hz : z = (L.length : Int)) : TX (rU (rU S 2365 (100 * dp + z) b) 2366 dp (z + 1)) dp (L ++ [b]) := by
  have e : (L ++ [b]).length = L.length + 1 := by rw [List.length_append]; rfl
  refine ⟨?_, fun j a1 a2 a3 => ?_⟩
  · rw [rU_s, e, if_pos (by omega)]
    omega
  · rw [e] at a2
    rw [rU_f (by decide), lg_app a1]
    by_cases q : j = z
    · rw [q, rU_s, if_neg (by omega), hz, Int.sub_self]
      rfl
    · rw [rU_k (by omega), if_pos (by omega)]
      exact h.2 j a1 (by omega) a3
theorem TX_full (h : TX S dp L) (hl : 100 ≤ L.length) : TX S dp (L ++ vs) := by
  refine ⟨?_, fun j a1 a2 a3 => ?_⟩
  · rw [h.1, List.length_append]
    split
    · split <;> omega
    · rw [if_neg (by omega)]
  · rw [lg_app a1, if_pos (by omega)]
    exact h.2 j a1 (by omega) a3
theorem m_add (hP : PM σ0 P S σ) (hJ : IV true T U S) (hdp : S 2281 113 = dp) (hd : 0 ≤ dp ∧ dp ≤ 12) (hx : TX S dp L) (hb : 0 ≤ b ∧ b ≤ 255) : CL fb d 312 [vR (some 2281), vI b] σ (AD T U σ0 P S dp L [b]) := by
  obtain ⟨z, hz⟩ : ∃ z, S 2366 dp = z := ⟨_, rfl⟩
  have hx1 := hx.1
  rw [hz] at hx1
  have e : (L ++ [b]).length = L.length + 1 := by rw [List.length_append]; rfl
  by_cases q : L.length < 100
  · have hz2 : z = (L.length : Int) := by
      rw [hx1, if_pos (by omega)]
    have e1 : adR L [b] = 1 := if_pos (Or.inr (by omega))
    have hJ2 : IV true T U (rU (rU S 2365 (100 * dp + z) b) 2366 dp (z + 1)) := (hJ.uA 2365 rfl hb).uA 2366 rfl (by show 0 ≤ z + 1 ∧ z + 1 ≤ 100; omega)
    rw [show AD T U σ0 P S dp L [b] = fun r σ' => ∃ S2 : qR, r = some (vI 1) ∧ PM σ0 P S2 σ' ∧ IV true T U S2 ∧ TX S2 dp (L ++ [b]) ∧ FRM dp S S2 by rw [← e1]]
    refine CL_in mL_312 rfl ?_
    show WP fb _ 312 0 [some (vR (some 2281)), some (vI b)] [] σ _
    refine x_lr (z := some 2281) T_312_0 rfl ?_
    refine x_gR (z := some 2366) T_312_1 F_17_107 (PM.t hP) (PM.r hP 107 2366 rfl) ?_
    refine x_lr (z := some 2281) T_312_4 rfl ?_
    refine x_gI (z := dp) T_312_5 (Or.inl F_17_113) (PM.t hP) (Eq.trans (PM.nS hP 2281 113 113 rfl rfl rfl) hdp) ?_
    refine x_alI (z := z) T_312_8 (by decide) (PM.ta hP 2366 0 13 rfl rfl) (by omega) (by omega) (Eq.trans (PM.aS hP 2366 rfl rfl (by omega)) hz) ?_
    refine x_ic T_312_9 ?_
    refine x_ic2 T_312_11 (fun _ => ?_) (fun h => absurd (show ¬ z = 100 by omega) h)
    refine x_lr (z := some 2281) T_312_16 rfl ?_
    refine x_gR (z := some 2365) T_312_17 F_17_106 (PM.t hP) (PM.r hP 106 2365 rfl) ?_
    refine x_ic T_312_20 ?_
    refine x_lr (z := some 2281) T_312_22 rfl ?_
    refine x_gI (z := dp) T_312_23 (Or.inl F_17_113) (PM.t hP) (Eq.trans (PM.nS hP 2281 113 113 rfl rfl rfl) hdp) ?_
    refine x_ib (w := (100 * dp)) T_312_26 (fun h => absurd h.1 (by decide)) (w32_id (by omega) (by omega)) ?_
    refine x_lr (z := some 2281) T_312_27 rfl ?_
    refine x_gR (z := some 2366) T_312_28 F_17_107 (PM.t hP) (PM.r hP 107 2366 rfl) ?_
    refine x_lr (z := some 2281) T_312_31 rfl ?_
    refine x_gI (z := dp) T_312_32 (Or.inl F_17_113) (PM.t hP) (Eq.trans (PM.nS hP 2281 113 113 rfl rfl rfl) hdp) ?_
    refine x_alI (z := z) T_312_35 (by decide) (PM.ta hP 2366 0 13 rfl rfl) (by omega) (by omega) (Eq.trans (PM.aS hP 2366 rfl rfl (by omega)) hz) ?_
    refine x_ib (w := ((100 * dp) + z)) T_312_36 (fun h => absurd h.1 (by decide)) (w32_id (by omega) (by omega)) ?_
    refine x_li (z := b) T_312_37 rfl ?_
    refine y_aIS hP T_312_38 2365 1300 rfl rfl rfl (by omega) (by omega) (fun σ hP => ?_)
    refine x_lr (z := some 2281) T_312_39 rfl ?_
    refine x_gR (z := some 2366) T_312_40 F_17_107 (PM.t hP) (PM.r hP 107 2366 rfl) ?_
    refine x_lr (z := some 2281) T_312_43 rfl ?_
    refine x_gI (z := dp) T_312_44 (Or.inl F_17_113) (PM.t hP) (Eq.trans (Eq.trans (PM.nS hP 2281 113 113 rfl rfl rfl) (rU_f (Nat.ne_of_beq_eq_false rfl))) hdp) ?_
    refine x_dup2 T_312_47 ?_
    refine x_alI (z := z) T_312_48 (by decide) (PM.ta hP 2366 0 13 rfl rfl) (by omega) (by omega) (Eq.trans (Eq.trans (PM.aS hP 2366 rfl rfl (by omega)) (rU_f (Nat.ne_of_beq_eq_false rfl))) hz) ?_
    refine x_ic T_312_49 ?_
    refine x_ib (w := (z + 1)) T_312_50 (fun h => absurd h.1 (by decide)) (w32_id (by omega) (by omega)) ?_
    refine y_aIS hP T_312_51 2366 13 rfl rfl rfl (by omega) (by omega) (fun σ hP => ?_)
    refine x_ic T_312_52 ?_
    refine x_rz T_312_53 rfl ?_
    exact ⟨_, rfl, hP, hJ2, TX_one hx q hz2, FRM_add (by omega)⟩
  · have hz2 : z = 100 := by
      rw [hx1]
      split <;> omega
    have e1 : adR L [b] = 0 := if_neg (fun c => c.elim (fun c => by cases c) (fun c => by omega))
    rw [show AD T U σ0 P S dp L [b] = fun r σ' => ∃ S2 : qR, r = some (vI 0) ∧ PM σ0 P S2 σ' ∧ IV true T U S2 ∧ TX S2 dp (L ++ [b]) ∧ FRM dp S S2 by rw [← e1]]
    refine CL_in mL_312 rfl ?_
    show WP fb _ 312 0 [some (vR (some 2281)), some (vI b)] [] σ _
    refine x_lr (z := some 2281) T_312_0 rfl ?_
    refine x_gR (z := some 2366) T_312_1 F_17_107 (PM.t hP) (PM.r hP 107 2366 rfl) ?_
    refine x_lr (z := some 2281) T_312_4 rfl ?_
    refine x_gI (z := dp) T_312_5 (Or.inl F_17_113) (PM.t hP) (Eq.trans (PM.nS hP 2281 113 113 rfl rfl rfl) hdp) ?_
    refine x_alI (z := z) T_312_8 (by decide) (PM.ta hP 2366 0 13 rfl rfl) (by omega) (by omega) (Eq.trans (PM.aS hP 2366 rfl rfl (by omega)) hz) ?_
    refine x_ic T_312_9 ?_
    refine x_ic2 T_312_11 (fun h => absurd (show ¬ z = 100 from h) (by omega)) (fun _ => ?_)
    refine x_ic T_312_14 ?_
    refine x_rz T_312_15 rfl ?_
    exact ⟨S, rfl, hP, hJ, TX_full hx (by omega), FRM_rfl⟩
theorem adR_snoc : adR L (vs ++ [b]) = if adR (L ++ vs) [b] = 1 ∧ adR L vs = 1 then 1 else 0 := by
  have e1 : (L ++ (vs ++ [b])).length = (L ++ vs).length + 1 := by simp only [List.length_append, List.length_singleton]; omega
  have e2 : ((L ++ vs) ++ [b]).length = (L ++ vs).length + 1 := by simp only [List.length_append, List.length_singleton]
  unfold adR
  by_cases q : (L ++ vs).length + 1 ≤ 100
  · rw [if_pos (Or.inr (by omega)), if_pos ⟨if_pos (Or.inr (by omega)), if_pos (Or.inr (by omega))⟩]
  · rw [if_neg (fun c => c.elim (fun c => by simp at c) (fun c => by omega)), if_neg (fun c => absurd c.1 (by rw [if_neg (fun c => c.elim (fun c => by cases c) (fun c => by omega))]; decide))]
theorem FRM.deep (h : FRM dp S S1) : S1 2281 113 = S 2281 113 := h.1.1 _ rfl
theorem m_addVar_loop {x : Int} (hI : IV false T U P) (hp : 0 ≤ p ∧ p < 8) (hx : 0 ≤ x ∧ x < 26) (hd : 0 ≤ dp ∧ dp ≤ 12) (hn : P 2362 (26 * p + x) = n) (hn20 : n ≤ 20) : ∀ (m : Nat) (k : Int) (S1 : qR) (σ : hM), k + m = n → 0 ≤ k → PM σ0 P S1 σ → IV true T U S1 → S1 2281 113 = dp → TX S1 dp (L ++ seg (P 2361) (20 * (26 * p + x)) k.toNat) → FRM dp S S1 → WP fb (d + 1) 313 5 [some (vR (some 2281)), some (vI p), some (vI x), some (vI (adR L (seg (P 2361) (20 * (26 * p + x)) k.toNat))), some (vI k)] [] σ (AD T U σ0 P S dp L (seg (P 2361) (20 * (26 * p + x)) n.toNat)) := by
  intro m
  induction m with
  | zero =>
    intro k S1 σ h1 h2 hP hJ hdp hX hF
    have h1 : k + ((0 : Nat) : Int) = n := h1
    have hk : k = n := by omega
    subst hk
    have h01 := adR_01 (L := L) (vs := seg (P 2361) (20 * (26 * p + x)) k.toNat)
    obtain ⟨y, hy⟩ : ∃ y, adR L (seg (P 2361) (20 * (26 * p + x)) k.toNat) = y := ⟨_, rfl⟩
    rw [hy] at h01 ⊢
    refine x_li (z := k) T_313_5 rfl ?_
    refine x_lr (z := some 2281) T_313_7 rfl ?_
    refine x_gR (z := some 2362) T_313_8 F_17_101 (PM.t hP) (PM.r hP 101 2362 rfl) ?_
    refine x_ic T_313_11 ?_
    refine x_li (z := p) T_313_13 rfl ?_
    refine x_ib (w := (26 * p)) T_313_14 (fun h => absurd h.1 (by decide)) (w32_id (by omega) (by omega)) ?_
    refine x_li (z := x) T_313_15 rfl ?_
    refine x_ib (w := ((26 * p) + x)) T_313_16 (fun h => absurd h.1 (by decide)) (w32_id (by omega) (by omega)) ?_
    refine x_alI (z := k) T_313_17 (by decide) (PM.ta hP 2362 0 208 rfl rfl) (by omega) (by omega) (Eq.trans (PM.aP hP 2362 rfl rfl (by omega)) hn) ?_
    refine x_ic2 T_313_18 (fun _ => ?_) (fun h => absurd (show k ≤ k by omega) h)
    refine x_li (z := y) T_313_61 rfl ?_
    refine x_rz T_313_62 (h01_of h01) ?_
    exact ⟨S1, by rw [hy], hP, hJ, hX, hF⟩
  | succ m ih =>
    intro k S1 σ h1 h2 hP hJ hdp hX hF
    have bb : 0 ≤ P 2361 (20 * (26 * p + x) + k) ∧ P 2361 (20 * (26 * p + x) + k) ≤ 255 := IV.a hI 2361 0 4160 rfl rfl rfl (by omega) (by omega)
    obtain ⟨b, hb⟩ : ∃ b, P 2361 (20 * (26 * p + x) + k) = b := ⟨_, rfl⟩
    rw [hb] at bb
    have es : seg (P 2361) (20 * (26 * p + x)) (k + 1).toNat = seg (P 2361) (20 * (26 * p + x)) k.toNat ++ [b] := by
      rw [show (k + 1).toNat = k.toNat + 1 by omega, seg_snoc, Int.toNat_of_nonneg h2, hb]
    have ha := m_add (fb := fb) (d := d) hP hJ hdp hd hX bb
    have h01 := adR_01 (L := L) (vs := seg (P 2361) (20 * (26 * p + x)) k.toNat)
    have h02 := adR_01 (L := L ++ seg (P 2361) (20 * (26 * p + x)) k.toNat) (vs := [b])
    have h03 := adR_snoc (L := L) (vs := seg (P 2361) (20 * (26 * p + x)) k.toNat) (b := b)
    have hgo := fun (S2 : qR) (σ : hM) (hP : PM σ0 P S2 σ) (hJ : IV true T U S2) (hX : TX S2 dp (L ++ seg (P 2361) (20 * (26 * p + x)) k.toNat ++ [b])) (hF2 : FRM dp S1 S2) => ih (k + 1) S2 σ (by omega) (by omega) hP hJ (hF2.deep.trans hdp) (by rw [es, ← List.append_assoc]; exact hX) (FRM_tr hF hF2)
    rw [es] at hgo
    obtain ⟨y, hy⟩ : ∃ y, adR L (seg (P 2361) (20 * (26 * p + x)) k.toNat) = y := ⟨_, rfl⟩
    unfold AD at ha
    obtain ⟨y2, hy2⟩ : ∃ y, adR (L ++ seg (P 2361) (20 * (26 * p + x)) k.toNat) [b] = y := ⟨_, rfl⟩
    rw [hy2] at ha h02 h03
    rw [hy] at h01 h03 ⊢
    rw [h03] at hgo
    rcases h02 with q2 | q2
    · rw [if_neg (fun c => by omega)] at hgo
      subst q2
      refine x_li (z := k) T_313_5 rfl ?_
      refine x_lr (z := some 2281) T_313_7 rfl ?_
      refine x_gR (z := some 2362) T_313_8 F_17_101 (PM.t hP) (PM.r hP 101 2362 rfl) ?_
      refine x_ic T_313_11 ?_
      refine x_li (z := p) T_313_13 rfl ?_
      refine x_ib (w := (26 * p)) T_313_14 (fun h => absurd h.1 (by decide)) (w32_id (by omega) (by omega)) ?_
      refine x_li (z := x) T_313_15 rfl ?_
      refine x_ib (w := ((26 * p) + x)) T_313_16 (fun h => absurd h.1 (by decide)) (w32_id (by omega) (by omega)) ?_
      refine x_alI (z := n) T_313_17 (by decide) (PM.ta hP 2362 0 208 rfl rfl) (by omega) (by omega) (Eq.trans (PM.aP hP 2362 rfl rfl (by omega)) hn) ?_
      refine x_ic2 T_313_18 (fun h => absurd (show n ≤ k from h) (by omega)) (fun _ => ?_)
      refine x_lr (z := some 2281) T_313_21 rfl ?_
      refine x_lr (z := some 2281) T_313_22 rfl ?_
      refine x_gR (z := some 2361) T_313_23 F_17_100 (PM.t hP) (PM.r hP 100 2361 rfl) ?_
      refine x_ic T_313_26 ?_
      refine x_ic T_313_28 ?_
      refine x_li (z := p) T_313_30 rfl ?_
      refine x_ib (w := (26 * p)) T_313_31 (fun h => absurd h.1 (by decide)) (w32_id (by omega) (by omega)) ?_
      refine x_li (z := x) T_313_32 rfl ?_
      refine x_ib (w := ((26 * p) + x)) T_313_33 (fun h => absurd h.1 (by decide)) (w32_id (by omega) (by omega)) ?_
      refine x_ib (w := (20 * ((26 * p) + x))) T_313_34 (fun h => absurd h.1 (by decide)) (w32_id (by omega) (by omega)) ?_
      refine x_li (z := k) T_313_35 rfl ?_
      refine x_ib (w := ((20 * ((26 * p) + x)) + k)) T_313_37 (fun h => absurd h.1 (by decide)) (w32_id (by omega) (by omega)) ?_
      refine x_alI (z := b) T_313_38 (by decide) (PM.ta hP 2361 0 4160 rfl rfl) (by omega) (by omega) (Eq.trans (PM.aP hP 2361 rfl rfl (by omega)) hb) ?_
      refine x_cv2 T_313_39 mN_312 mL_312 (Nat.le_of_ble_eq_true rfl) mO_312 (PM.t hP) (Nat.le_of_ble_eq_true rfl) (ha) ?_
      clear hP ha
      rintro _ σ ⟨S2, rfl, hP, hJ2, hX2, hF2⟩
      refine cI ?_
      refine x_if T_313_42 (fun _ => ?_) (fun h => absurd (show (0 : Int) = 0 by decide) h)
      refine x_ic T_313_53 ?_
      refine x_si (ls1 := [some (vR (some 2281)), some (vI p), some (vI x), some (vI 0), some (vI k)]) T_313_54 rfl ?_
      refine x_inc (w := (k + 1)) (ls1 := [some (vR (some 2281)), some (vI p), some (vI x), some (vI 0), some (vI (k + 1))]) T_313_55 rfl (w32_id (by omega) (by omega)) rfl ?_
      refine x_goto T_313_58 ?_
      exact hgo S2 σ hP hJ2 hX2 hF2
    · subst q2
      rcases h01 with q1 | q1
      · rw [if_neg (fun c => by omega)] at hgo
        subst q1
        refine x_li (z := k) T_313_5 rfl ?_
        refine x_lr (z := some 2281) T_313_7 rfl ?_
        refine x_gR (z := some 2362) T_313_8 F_17_101 (PM.t hP) (PM.r hP 101 2362 rfl) ?_
        refine x_ic T_313_11 ?_
        refine x_li (z := p) T_313_13 rfl ?_
        refine x_ib (w := (26 * p)) T_313_14 (fun h => absurd h.1 (by decide)) (w32_id (by omega) (by omega)) ?_
        refine x_li (z := x) T_313_15 rfl ?_
        refine x_ib (w := ((26 * p) + x)) T_313_16 (fun h => absurd h.1 (by decide)) (w32_id (by omega) (by omega)) ?_
        refine x_alI (z := n) T_313_17 (by decide) (PM.ta hP 2362 0 208 rfl rfl) (by omega) (by omega) (Eq.trans (PM.aP hP 2362 rfl rfl (by omega)) hn) ?_
        refine x_ic2 T_313_18 (fun h => absurd (show n ≤ k from h) (by omega)) (fun _ => ?_)
        refine x_lr (z := some 2281) T_313_21 rfl ?_
        refine x_lr (z := some 2281) T_313_22 rfl ?_
        refine x_gR (z := some 2361) T_313_23 F_17_100 (PM.t hP) (PM.r hP 100 2361 rfl) ?_
        refine x_ic T_313_26 ?_
        refine x_ic T_313_28 ?_
        refine x_li (z := p) T_313_30 rfl ?_
        refine x_ib (w := (26 * p)) T_313_31 (fun h => absurd h.1 (by decide)) (w32_id (by omega) (by omega)) ?_
        refine x_li (z := x) T_313_32 rfl ?_
        refine x_ib (w := ((26 * p) + x)) T_313_33 (fun h => absurd h.1 (by decide)) (w32_id (by omega) (by omega)) ?_
        refine x_ib (w := (20 * ((26 * p) + x))) T_313_34 (fun h => absurd h.1 (by decide)) (w32_id (by omega) (by omega)) ?_
        refine x_li (z := k) T_313_35 rfl ?_
        refine x_ib (w := ((20 * ((26 * p) + x)) + k)) T_313_37 (fun h => absurd h.1 (by decide)) (w32_id (by omega) (by omega)) ?_
        refine x_alI (z := b) T_313_38 (by decide) (PM.ta hP 2361 0 4160 rfl rfl) (by omega) (by omega) (Eq.trans (PM.aP hP 2361 rfl rfl (by omega)) hb) ?_
        refine x_cv2 T_313_39 mN_312 mL_312 (Nat.le_of_ble_eq_true rfl) mO_312 (PM.t hP) (Nat.le_of_ble_eq_true rfl) (ha) ?_
        clear hP ha
        rintro _ σ ⟨S2, rfl, hP, hJ2, hX2, hF2⟩
        refine cI ?_
        refine x_if T_313_42 (fun h => absurd (show (1 : Int) = 0 from h) (by decide)) (fun _ => ?_)
        refine x_li (z := 0) T_313_45 rfl ?_
        refine x_if T_313_46 (fun _ => ?_) (fun h => absurd (show (0 : Int) = 0 by decide) h)
        refine x_ic T_313_53 ?_
        refine x_si (ls1 := [some (vR (some 2281)), some (vI p), some (vI x), some (vI 0), some (vI k)]) T_313_54 rfl ?_
        refine x_inc (w := (k + 1)) (ls1 := [some (vR (some 2281)), some (vI p), some (vI x), some (vI 0), some (vI (k + 1))]) T_313_55 rfl (w32_id (by omega) (by omega)) rfl ?_
        refine x_goto T_313_58 ?_
        exact hgo S2 σ hP hJ2 hX2 hF2
      · rw [if_pos ⟨rfl, q1⟩] at hgo
        subst q1
        refine x_li (z := k) T_313_5 rfl ?_
        refine x_lr (z := some 2281) T_313_7 rfl ?_
        refine x_gR (z := some 2362) T_313_8 F_17_101 (PM.t hP) (PM.r hP 101 2362 rfl) ?_
        refine x_ic T_313_11 ?_
        refine x_li (z := p) T_313_13 rfl ?_
        refine x_ib (w := (26 * p)) T_313_14 (fun h => absurd h.1 (by decide)) (w32_id (by omega) (by omega)) ?_
        refine x_li (z := x) T_313_15 rfl ?_
        refine x_ib (w := ((26 * p) + x)) T_313_16 (fun h => absurd h.1 (by decide)) (w32_id (by omega) (by omega)) ?_
        refine x_alI (z := n) T_313_17 (by decide) (PM.ta hP 2362 0 208 rfl rfl) (by omega) (by omega) (Eq.trans (PM.aP hP 2362 rfl rfl (by omega)) hn) ?_
        refine x_ic2 T_313_18 (fun h => absurd (show n ≤ k from h) (by omega)) (fun _ => ?_)
        refine x_lr (z := some 2281) T_313_21 rfl ?_
        refine x_lr (z := some 2281) T_313_22 rfl ?_
        refine x_gR (z := some 2361) T_313_23 F_17_100 (PM.t hP) (PM.r hP 100 2361 rfl) ?_
        refine x_ic T_313_26 ?_
        refine x_ic T_313_28 ?_
        refine x_li (z := p) T_313_30 rfl ?_
        refine x_ib (w := (26 * p)) T_313_31 (fun h => absurd h.1 (by decide)) (w32_id (by omega) (by omega)) ?_
        refine x_li (z := x) T_313_32 rfl ?_
        refine x_ib (w := ((26 * p) + x)) T_313_33 (fun h => absurd h.1 (by decide)) (w32_id (by omega) (by omega)) ?_
        refine x_ib (w := (20 * ((26 * p) + x))) T_313_34 (fun h => absurd h.1 (by decide)) (w32_id (by omega) (by omega)) ?_
        refine x_li (z := k) T_313_35 rfl ?_
        refine x_ib (w := ((20 * ((26 * p) + x)) + k)) T_313_37 (fun h => absurd h.1 (by decide)) (w32_id (by omega) (by omega)) ?_
        refine x_alI (z := b) T_313_38 (by decide) (PM.ta hP 2361 0 4160 rfl rfl) (by omega) (by omega) (Eq.trans (PM.aP hP 2361 rfl rfl (by omega)) hb) ?_
        refine x_cv2 T_313_39 mN_312 mL_312 (Nat.le_of_ble_eq_true rfl) mO_312 (PM.t hP) (Nat.le_of_ble_eq_true rfl) (ha) ?_
        clear hP ha
        rintro _ σ ⟨S2, rfl, hP, hJ2, hX2, hF2⟩
        refine cI ?_
        refine x_if T_313_42 (fun h => absurd (show (1 : Int) = 0 from h) (by decide)) (fun _ => ?_)
        refine x_li (z := 1) T_313_45 rfl ?_
        refine x_if T_313_46 (fun h => absurd (show (1 : Int) = 0 from h) (by decide)) (fun _ => ?_)
        refine x_ic T_313_49 ?_
        refine x_goto T_313_50 ?_
        refine x_si (ls1 := [some (vR (some 2281)), some (vI p), some (vI x), some (vI 1), some (vI k)]) T_313_54 rfl ?_
        refine x_inc (w := (k + 1)) (ls1 := [some (vR (some 2281)), some (vI p), some (vI x), some (vI 1), some (vI (k + 1))]) T_313_55 rfl (w32_id (by omega) (by omega)) rfl ?_
        refine x_goto T_313_58 ?_
        exact hgo S2 σ hP hJ2 hX2 hF2
theorem m_addVariable {x : Int} (hP : PM σ0 P S σ) (hI : IV false T U P) (hJ : IV true T U S) (hp : 0 ≤ p ∧ p < 8) (hx : 0 ≤ x ∧ x < 26) (hdp : S 2281 113 = dp) (hd : 0 ≤ dp ∧ dp ≤ 12) (hX : TX S dp L) : CL fb (d + 1) 313 [vR (some 2281), vI p, vI x] σ (AD T U σ0 P S dp L (varL P p x)) := by
  have bn : 0 ≤ P 2362 (26 * p + x) ∧ P 2362 (26 * p + x) ≤ 20 := IV.a hI 2362 0 208 rfl rfl rfl (by omega) (by omega)
  have hgo := m_addVar_loop (fb := fb) (d := d) (S := S) (L := L) hI hp hx hd rfl bn.2 (P 2362 (26 * p + x)).toNat 0 S σ (by omega) (by decide) hP hJ hdp (by
    rw [show seg (P 2361) (20 * (26 * p + x)) (0 : Int).toNat = [] from rfl, List.append_nil]
    exact hX) FRM_rfl
  rw [show adR L (seg (P 2361) (20 * (26 * p + x)) (0 : Int).toNat) = 1 from if_pos (Or.inl rfl)] at hgo
  refine CL_in mL_313 rfl ?_
  show WP fb _ 313 0 [some (vR (some 2281)), some (vI p), some (vI x), none, none] [] σ _
  refine x_ic T_313_0 ?_
  refine x_si (ls1 := [some (vR (some 2281)), some (vI p), some (vI x), some (vI 1), none]) T_313_1 rfl ?_
  refine x_ic T_313_2 ?_
  refine x_si (ls1 := [some (vR (some 2281)), some (vI p), some (vI x), some (vI 1), some (vI 0)]) T_313_3 rfl ?_
  exact hgo
end MFR
