/-! The class's enter: a SCRIPT is run. -/
theorem T_96_560 : hTab 96 560 = some ((3, 0, 2, []), 561) := rfl
theorem T_96_561 : hTab 96 561 = some ((24, 0, Int.ofNat 1, []), 564) := rfl
theorem T_96_564 : hTab 96 564 = some ((3, 2, 2, []), 565) := rfl
theorem T_96_565 : hTab 96 565 = some ((3, 4, 2, []), 567) := rfl
theorem T_96_567 : hTab 96 567 = some ((31, 199, 0, []), 570) := rfl
theorem T_96_570 : hTab 96 570 = some ((4, 5, 0, []), 572) := rfl
theorem T_96_572 : hTab 96 572 = some ((22, 0, Int.ofNat 575, []), 575) := rfl
theorem T_199_17 : hTab 199 17 = some ((0, 0, 18, []), 19) := rfl
theorem T_199_19 : hTab 199 19 = some ((33, 1, 0, []), 20) := rfl
theorem F_0_1 : (hFd 0 1).2.2.1 = 4 := rfl
section XLP8
variable {fb : Bool} {d b k n : Nat} {σ0 σ : hM} {W W1 W2 V V0 V2 V3 P : qR} {R : rR} {i j x z v s e p D w K T U a c ex pos mu e2 N : Int} {l sc lo wd src L L2 t ss : List Int} {fs : List Fr} {fr : Fr} {Q : Option AV → hM → Prop} {J : qR → Prop} {m : Nat}
theorem BY.eq8 (h : BY W b n l) (hF : ∀ (x : Nat) (j : Int), b ≤ x → x ≤ b + 1 → j ≠ 2198 → V x j = W x j) : BY V b n l := by
  obtain ⟨a1, a2, a3, a4, a5, a6, a7⟩ := h
  exact ⟨a1, a2, a3, (hF _ _ (Nat.le_refl _) (by omega) (by decide)).trans a4, a5, a6, fun i i0 i1 => (hF _ _ (by omega) (by omega) (by omega)).trans (a7 i i0 i1)⟩
theorem CMD.eq8 (h : CMD W k l) (hF : ∀ (x : Nat) (j : Int), k ≤ x → x < k + 7 → ¬ (k + 3 ≤ x ∧ x ≤ k + 4) → ¬ (x = k ∧ (j = 2517 ∨ j = 2518)) → j ≠ 2198 → V x j = W x j) : CMD V k l := by
  obtain ⟨c1, c2, c3, c4, c5, c6⟩ := h
  have g := lnW_ok c4.2.2.2.2.1
  have := g.2
  refine ⟨c1, c2, c3, c4.eq8 (fun x j a b c => hF x j (by omega) (by omega) (by omega) (by omega) c), (hF _ _ (by omega) (by omega) (by omega) (by omega) (by decide)).trans c5, fun i hi => ?_⟩
  exact ⟨(hF _ _ (by omega) (by omega) (by omega) (by omega) (by omega)).trans (c6 i hi).1, (hF _ _ (by omega) (by omega) (by omega) (by omega) (by omega)).trans (c6 i hi).2⟩
theorem FRX.eq8 (h : FRX W k fr) (hF : ∀ (x : Nat) (j : Int), k ≤ x → x < k + 7 → j ≠ 2198 → V x j = W x j) : FRX V k fr := by
  obtain ⟨hC, a2, a3, a4, a5, a6⟩ := h
  exact ⟨hC.eq8 (fun x j a b _ _ c => hF x j a b c), (hF _ _ (by omega) (by omega) (by decide)).trans a2, fun h => (hF _ _ (by omega) (by omega) (by decide)).trans (a3 h), fun h => (hF _ _ (by omega) (by omega) (by decide)).trans (a4 h), (hF _ _ (by omega) (by omega) (by decide)).trans a5, fun h => (a6 h).eq8 (fun x j a b c => hF x j (by omega) (by omega) c)⟩
theorem FSX.eq8 : ∀ {fs : List Fr}, FSX W fs → (∀ (x : Nat) (j : Int), 2191 ≤ x → (x < 2191 + 7 * fs.length ∨ (2275 ≤ x ∧ x ≤ 2276)) → j ≠ 2198 → V x j = W x j) → FSX V fs
  | [], h, hF => BY.eq8 h (fun x j a b c => hF _ _ (by omega) (Or.inr (by omega)) c)
  | f :: r, h, hF => by
    have hF : ∀ (x : Nat) (j : Int), 2191 ≤ x → (x < 2191 + 7 * (r.length + 1) ∨ (2275 ≤ x ∧ x ≤ 2276)) → j ≠ 2198 → V x j = W x j := hF
    exact ⟨⟨h.1.1, h.1.2.eq8 (fun x j a b c => hF x j (by unfold cmO at a; omega) (Or.inl (by unfold cmO at b; omega)) c)⟩, FSX.eq8 h.2 (fun x j a b c => hF x j a (by omega) c)⟩
theorem oC_pos (hn : 0 ≤ v) : oC v p = oC 0 p := by
  funext P l
  unfold oC
  rw [if_neg (by omega), if_neg (by decide)]
theorem cCat_pos (hn : 0 ≤ v) : cCat P v p wd = cCat P 0 p wd := by
  rw [cCat_R, cCat_R, oC_pos hn]
theorem x_run18 (hP : PX σ0 W R σ) (hp : 0 ≤ p ∧ p < 8) (hC : CMD W k l) (hN : ((lnW l).length : Int) = N) (hN2 : ¬ (2 ≤ N ∧ N ≤ 11)) : CL fb (d + 10) 199 [vR (some 2175), vR (some (prO p)), vR (some k)] σ (rP 18 σ) := by
  have hk := hC.1
  have h5 := hC.2.2.2.2.1.trans hN
  obtain ⟨pr, hpr⟩ : ∃ q, prO p = q := ⟨_, rfl⟩
  rw [hpr]
  by_cases q : N < 2
  · skip
    refine CL_in mL_199 rfl ?_
    show WP fb _ 199 0 [some (vR (some 2175)), some (vR (some pr)), some (vR (some k)), none] [] σ _
    refine x_lr (z := some k) T_199_0 rfl ?_
    refine x_gI (z := N) T_199_1 (Or.inl F_16_4) (hP.o hk) (Eq.trans (hP.gi hk (key := 2516) rfl) h5) ?_
    refine x_ic T_199_4 ?_
    refine x_ic2 T_199_5 (fun _ => ?_) (fun h => absurd (show N < 2 by omega) h)
    refine x_ic T_199_17 ?_
    refine x_ri T_199_19 ?_
    exact ⟨rfl, rfl⟩
  · skip
    refine CL_in mL_199 rfl ?_
    show WP fb _ 199 0 [some (vR (some 2175)), some (vR (some pr)), some (vR (some k)), none] [] σ _
    refine x_lr (z := some k) T_199_0 rfl ?_
    refine x_gI (z := N) T_199_1 (Or.inl F_16_4) (hP.o hk) (Eq.trans (hP.gi hk (key := 2516) rfl) h5) ?_
    refine x_ic T_199_4 ?_
    refine x_ic2 T_199_5 (fun h => absurd (show N < 2 from h) (by omega)) (fun _ => ?_)
    refine x_lr (z := some k) T_199_8 rfl ?_
    refine x_gI (z := N) T_199_9 (Or.inl F_16_4) (hP.o hk) (Eq.trans (hP.gi hk (key := 2516) rfl) h5) ?_
    refine x_ic T_199_12 ?_
    refine x_ic2 T_199_14 (fun h => absurd (show N ≤ 11 from h) (by omega)) (fun _ => ?_)
    refine x_ic T_199_17 ?_
    refine x_ri T_199_19 ?_
    exact ⟨rfl, rfl⟩
theorem ev_runB {x5 : Option AV} (hp : 0 ≤ p ∧ p < 8) (hJ : ∀ P, J P → ¬ P 2320 p = 0) (hG : XEVG fb d σ0 K p J Q m) (hN : 0 < ((lnW L).length : Int)) (hv : vbN (lnB L 0) = 25) (hpk : pkW (lnB L 0) = 7501166) (hkd : (kWW P p 1 (lnB L 1)).1 = 0 → (and32 (kWW P p 1 (lnB L 1)).2.2.2.2.2.1 128 = 0 ↔ ¬ (kWW P p 1 (lnB L 1)).2.2.2.2.2.1 = 128)) (hJC : J (kDrops (cCat P 0 p (lnB L 1)).2.1 (cCat P 0 p (lnB L 1)).2.2.1)) (hdC : kDrops (cCat P 0 p (lnB L 1)).2.1 (cCat P 0 p (lnB L 1)).2.2.1 2321 p = 0) (hr0 : 0 ≤ (cCat P 0 p (lnB L 1)).1) (hm : evM (-1) (0, L, 0, 0, []) c < ((m + 1 : Nat) : Int)) (hn : fs.length < 12) (hP : PX σ0 W R σ) (hS : XST K T U W R P ((0, L, 0, 0, []) :: fs) c e 0) (hc : 0 ≤ c ∧ c ≤ 200) (hJP : J P) (hi : 0 ≤ i ∧ i + 2 * evM (-1) (0, L, 0, 0, []) c ≤ 900000) (hT : T + 3000 * (202 - c) + 3000 + 1000 ≤ 2147483000) (hU : 10000 ≤ U ∧ U + 400 * (202 - c) + 400 ≤ 2147480000) (hQ : XCT fb d σ0 K p J Q (-1) T U i (0, L, 0, 0, []) fs c (EV p (m + 1) (-1) ((fs.length : Int) + 1) (arOf fs) (0, L, 0, 0, []) P c)) : WP fb (d + 20) 96 70 [some (vR (some 128)), some (vI p), some (vR (some (prO p))), some (vI i), some (vR (some (cmO (fs.length : Int)))), x5] [] σ Q := by
  have eM : evM (-1) (0, L, 0, 0, []) c = 2000 * (200 - c) + 1500 := if_pos rfl
  have eE : EV p (m + 1) (-1) ((fs.length : Int) + 1) (arOf fs) (0, L, 0, 0, []) P c = if 2 ≤ ((lnW L).length : Int) ∧ ((lnW L).length : Int) ≤ 11 then (if 0 < (cCat P 0 p (lnB L 1)).1 then ((cCat P 0 p (lnB L 1)).1, kDrops (cCat P 0 p (lnB L 1)).2.1 (cCat P 0 p (lnB L 1)).2.2.1, c) else EV p m (-2) ((fs.length : Int) + 1) (arOf fs) (3, L, 0, 0, (cCat P 0 p (lnB L 1)).2.2.2.take 600) (kDrops (cCat P 0 p (lnB L 1)).2.1 (cCat P 0 p (lnB L 1)).2.2.1) c) else (18, P, c) := by
    rw [← cCat_pos (P := P) (p := p) (wd := lnB L 1) (v := (fs.length : Int) + 1) (by omega)]
    show (if (-1 : Int) = -1 then (if (lnW L).length = 0 then _ else if pkW (lnB L 0) = 26982 then _ else if pkW (lnB L 0) = 6713202 then _ else if pkW (lnB L 0) = 7501166 then _ else _) else _) = _
    rw [if_pos rfl, if_neg (by omega), if_neg (by omega), if_neg (by omega), if_pos hpk]
  rw [eE] at hQ
  rw [eM] at hm hi
  unfold XCT at hQ
  rw [eM, evK_1] at hQ
  have hm : 2000 * (200 - c) + 1500 < (m : Int) + 1 := hm
  have hC : CMD W (cmO (fs.length : Int)) L := hS.2.1.1.2.1
  have h17 : W (cmO (fs.length : Int)) 2517 = 0 := hS.2.1.1.2.2.1
  have h20 : W (cmO (fs.length : Int)) 2520 = 0 := hS.2.1.1.2.2.2.2.2.1
  have hvb := x_verb (fb := fb) (d := d + 13) hP hC hN
  rw [hv] at hvb
  have ho := cmO_o (i := (fs.length : Int)) ⟨by omega, by omega⟩
  have hpo := prO_o hp
  have hkr := cmO_rng (i := (fs.length : Int)) ⟨by omega, by omega⟩
  have ek : cmO (fs.length : Int) = 2191 + 7 * fs.length := by unfold cmO; omega
  have hsh := (cmO_s (i := (fs.length : Int)) ⟨by omega, by omega⟩).2
  obtain ⟨N, hNN⟩ : ∃ q : Int, ((lnW L).length : Int) = q := ⟨_, rfl⟩
  rw [hNN] at hQ
  by_cases q1 : 2 ≤ N ∧ N ≤ 11
  rotate_left
  · rw [if_neg q1] at hQ
    have hre := x_run18 (fb := fb) (d := d + 9) hP hp hC hNN q1
    have hfin := lp_done (fb := fb) (d := d) (p := p) (e2 := 18) (Q := Q) (x4 := some (vR (some (cmO (fs.length : Int))))) hP hS hn ⟨hi.1, by omega⟩ (fun σ V hP hS => hQ σ V R (i + 1) _ _ hP (hS.monoT (show T ≤ T + 3000 * (c - c) + 3000 * 1 by omega) (show U ≤ U + 400 * (c - c) + 400 * 1 by omega)) ⟨Int.le_refl c, hc.2⟩ (show (0 : Int) ≤ 18 by decide) hJP ⟨by omega, show i + 1 + 4000 * (200 - c) ≤ i + 2 * (2000 * (200 - c) + 1500) by omega⟩)
    obtain ⟨k, hk⟩ : ∃ q, cmO (fs.length : Int) = q := ⟨_, rfl⟩
    rw [hk] at hvb hfin ho hre ⊢
    obtain ⟨pr, hpr⟩ : ∃ q, prO p = q := ⟨_, rfl⟩
    rw [hpr] at hfin hre ⊢
    refine x_ic T_96_70 ?_
    refine x_si (ls1 := [some (vR (some 128)), some (vI p), some (vR (some pr)), some (vI i), some (vR (some k)), some (vI 18)]) T_96_72 rfl ?_
    refine x_lr (z := some k) T_96_74 rfl ?_
    refine x_cv1 T_96_76 mN_114 mL_114 (Nat.le_of_ble_eq_true rfl) mO_114 (hP.o ho) (Nat.le_of_ble_eq_true rfl) (hvb) ?_
    rintro _ σ ⟨rfl, rfl⟩
    refine cI ?_
    refine x_swIn T_96_79 (by decide) (by decide) rfl ?_
    refine x_lr (z := some 128) T_96_560 rfl ?_
    refine x_gR (z := some 2175) T_96_561 F_0_1 (hP.o xo_128) (hP.rc xo_128 rfl rfl) ?_
    refine x_lr (z := some pr) T_96_564 rfl ?_
    refine x_lr (z := some k) T_96_565 rfl ?_
    refine x_cv3 T_96_567 mN_199 mL_199 (Nat.le_of_ble_eq_true rfl) mO_199 (hP.o xo_2175) (Nat.le_of_ble_eq_true rfl) (hre) ?_
    rintro _ σ ⟨rfl, rfl⟩
    refine cI ?_
    refine x_si (ls1 := [some (vR (some 128)), some (vI p), some (vR (some pr)), some (vI i), some (vR (some k)), some (vI 18)]) T_96_570 rfl ?_
    refine x_goto T_96_572 ?_
    exact hfin
  rw [if_pos q1] at hQ
  have hre := x_run (fb := fb) (d := d + 9) hP hS.1 (by omega) hp (hJ P hJP) hC hsh hNN q1 hkd
  obtain ⟨er, her⟩ : ∃ q, (cCat P 0 p (lnB L 1)).1 = q := ⟨_, rfl⟩
  obtain ⟨PA, hPA⟩ : ∃ q, kDrops (cCat P 0 p (lnB L 1)).2.1 (cCat P 0 p (lnB L 1)).2.2.1 = q := ⟨_, rfl⟩
  obtain ⟨sc, hsc⟩ : ∃ q, (cCat P 0 p (lnB L 1)).2.2.2.take 600 = q := ⟨_, rfl⟩
  rw [hPA] at hJC hdC
  rw [her] at hr0
  simp only [her, hPA, hsc] at hQ hre
  have hw : ∀ (W2 : qR) (R2 : rR), FRN (cmO (fs.length : Int)) W W2 R R2 → FSX W2 fs ∧ CMD W2 (cmO (fs.length : Int)) L ∧ W2 (cmO (fs.length : Int)) 2520 = 0 ∧ ∀ j : Int, j ≠ 2198 → W2 2187 j = W 2187 j := fun W2 R2 hF => ⟨hS.2.1.2.eq8 (fun x j a b c => hF.1 x j (by omega) (by omega) c (by omega) (by omega)), hC.eq8 (fun x j a b c1 c2 c3 => hF.1 x j (by omega) (by omega) c3 c1 c2), (hF.1 _ _ (by omega) (by omega) (by decide) (by omega) (by omega)).trans h20, fun j hj => hF.1 _ _ (by decide) (by decide) hj (by omega) (by omega)⟩
  have hfin : ∀ (σ : hM) (W2 : qR) (R2 : rR), PX σ0 W2 R2 σ → XW K (T + 2712) U W2 R2 PA → BY W2 (cmO (fs.length : Int) + 3) 600 sc → (er = 0 → W2 (cmO (fs.length : Int)) 2517 = 25 ∧ W2 (cmO (fs.length : Int)) 2518 = 0) → (¬ er = 0 → W2 (cmO (fs.length : Int)) 2517 = W (cmO (fs.length : Int)) 2517 ∧ W2 (cmO (fs.length : Int)) 2518 = W (cmO (fs.length : Int)) 2518) → FRN (cmO (fs.length : Int)) W W2 R R2 → WP fb (d + 20) 96 575 [some (vR (some 128)), some (vI p), some (vR (some (prO p))), some (vI i), some (vR (some (cmO (fs.length : Int)))), some (vI er)] [] σ Q := fun σ W2 R2 hP hX hB h1 h2 hF => by
    obtain ⟨w1, w2, w3, w4⟩ := hw W2 R2 hF
    have hsh4 : SHL W2 ((fs.length : Int) + 1) c e 0 := ⟨(w4 _ (by decide)).trans hS.2.2.1, (w4 _ (by decide)).trans hS.2.2.2.1, (w4 _ (by decide)).trans hS.2.2.2.2.1, (w4 _ (by decide)).trans hS.2.2.2.2.2⟩
    by_cases q : er = 0
    · subst q
      rw [if_neg (show ¬ (0 : Int) < 0 by decide)] at hQ
      have hS2 : XST K (T + 2712) U W2 R2 PA ((3, L, 0, 0, sc) :: fs) c e 0 := ⟨hX, ⟨⟨⟨show (0 : Int) ≤ 3 by decide, show (3 : Int) ≤ 3 by decide⟩, w2, (h1 rfl).1, fun _ => (h1 rfl).2, fun (h : (3 : Int) = 2) => absurd h (by decide), w3, fun _ => hB⟩, w1⟩, hsh4⟩
      have eM2 : evM (-2) (3, L, 0, 0, sc) c = 2000 * (200 - c) + 701 - 0 := if_neg (by decide)
      exact lp_does hP hS2 (show (1 : Int) ≤ 3 by decide) hn ⟨hi.1, by omega⟩ (fun σ hP hS3 => hG (3, L, 0, 0, sc) fs PA _ R2 σ c 0 (T + 2712) U (i + 1) _ _ (by rw [eM2]; omega) (Or.inr ⟨rfl, Int.le_refl 0, show (0 : Int) ≤ 601 by decide, hB.2.2.2.2.1, hB.2.2.2.2.2.1⟩) hn hP hS3 (Or.inl rfl) hc hJC hdC ⟨by omega, by rw [eM2]; omega⟩ (by omega) hU.1 (by omega) (fun σ W3 R3 i3 x4 x5 hP hS5 k1 k2 k3 k4 => by
        rw [eM2] at k4
        rw [evK_2] at hS5
        exact hQ σ W3 R3 i3 x4 x5 hP (hS5.monoT (by omega) (by omega)) k1 k2 k3 ⟨by omega, by omega⟩))
    · rw [if_pos (show 0 < er by omega)] at hQ
      have hS2 : XST K (T + 2712) U W2 R2 PA ((0, L, 0, 0, []) :: fs) c e 0 := ⟨hX, ⟨⟨⟨show (0 : Int) ≤ 0 by decide, show (0 : Int) ≤ 3 by decide⟩, w2, ((h2 q).1).trans h17, fun (h : (2 : Int) ≤ 0) => absurd h (by decide), fun (h : (0 : Int) = 2) => absurd h (by decide), w3, fun (h : (0 : Int) = 3) => absurd h (by decide)⟩, w1⟩, hsh4⟩
      exact lp_done hP hS2 hn ⟨hi.1, by omega⟩ (fun σ V hP hS => hQ σ V R2 (i + 1) _ _ hP (hS.monoT (show T + 2712 ≤ T + 3000 * (c - c) + 3000 * 1 by omega) (show U ≤ U + 400 * (c - c) + 400 * 1 by omega)) ⟨Int.le_refl c, hc.2⟩ hr0 hJC ⟨by omega, show i + 1 + 4000 * (200 - c) ≤ i + 2 * (2000 * (200 - c) + 1500) by omega⟩)
  obtain ⟨k, hk⟩ : ∃ q, cmO (fs.length : Int) = q := ⟨_, rfl⟩
  rw [hk] at hvb ho ⊢
  simp only [hk] at hfin hre
  obtain ⟨pr, hpr⟩ : ∃ q, prO p = q := ⟨_, rfl⟩
  rw [hpr] at hfin hre ⊢
  refine x_ic T_96_70 ?_
  refine x_si (ls1 := [some (vR (some 128)), some (vI p), some (vR (some pr)), some (vI i), some (vR (some k)), some (vI 18)]) T_96_72 rfl ?_
  refine x_lr (z := some k) T_96_74 rfl ?_
  refine x_cv1 T_96_76 mN_114 mL_114 (Nat.le_of_ble_eq_true rfl) mO_114 (hP.o ho) (Nat.le_of_ble_eq_true rfl) (hvb) ?_
  rintro _ σ ⟨rfl, rfl⟩
  refine cI ?_
  refine x_swIn T_96_79 (by decide) (by decide) rfl ?_
  refine x_lr (z := some 128) T_96_560 rfl ?_
  refine x_gR (z := some 2175) T_96_561 F_0_1 (hP.o xo_128) (hP.rc xo_128 rfl rfl) ?_
  refine x_lr (z := some pr) T_96_564 rfl ?_
  refine x_lr (z := some k) T_96_565 rfl ?_
  refine x_cv3 T_96_567 mN_199 mL_199 (Nat.le_of_ble_eq_true rfl) mO_199 (hP.o xo_2175) (Nat.le_of_ble_eq_true rfl) (hre) ?_
  clear hP hre
  rintro _ σ ⟨rfl, W2, R2, hP, g1, g2, g3, g4, g5⟩
  refine cI ?_
  refine x_si (ls1 := [some (vR (some 128)), some (vI p), some (vR (some pr)), some (vI i), some (vR (some k)), some (vI er)]) T_96_570 rfl ?_
  refine x_goto T_96_572 ?_
  exact hfin σ W2 R2 hP g1 g2 g3 g4 g5
end XLP8
