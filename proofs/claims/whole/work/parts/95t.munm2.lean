/-! unmount: the command. -/
theorem T_368_0 : hTab 368 0 = some ((3, 0, 2, []), 1) := rfl
theorem T_368_1 : hTab 368 1 = some ((3, 1, 0, []), 2) := rfl
theorem T_368_2 : hTab 368 2 = some ((0, 0, 1, []), 3) := rfl
theorem T_368_3 : hTab 368 3 = some ((0, 0, 0, []), 4) := rfl
theorem T_368_4 : hTab 368 4 = some ((31, 327, 0, []), 7) := rfl
theorem T_368_7 : hTab 368 7 = some ((4, 2, 0, []), 8) := rfl
theorem T_368_8 : hTab 368 8 = some ((3, 2, 0, []), 9) := rfl
theorem T_368_9 : hTab 368 9 = some ((18, 1, Int.ofNat 28, []), 12) := rfl
theorem T_368_12 : hTab 368 12 = some ((3, 0, 2, []), 13) := rfl
theorem T_368_13 : hTab 368 13 = some ((24, 17, Int.ofNat 77, []), 16) := rfl
theorem T_368_16 : hTab 368 16 = some ((0, 0, 3, []), 17) := rfl
theorem T_368_17 : hTab 368 17 = some ((19, 1, Int.ofNat 28, []), 20) := rfl
theorem T_368_20 : hTab 368 20 = some ((3, 0, 2, []), 21) := rfl
theorem T_368_21 : hTab 368 21 = some ((3, 1, 0, []), 22) := rfl
theorem T_368_22 : hTab 368 22 = some ((0, 0, 2, []), 23) := rfl
theorem T_368_23 : hTab 368 23 = some ((0, 0, 0, []), 24) := rfl
theorem T_368_24 : hTab 368 24 = some ((31, 327, 0, []), 27) := rfl
theorem T_368_27 : hTab 368 27 = some ((4, 2, 0, []), 28) := rfl
theorem T_368_28 : hTab 368 28 = some ((3, 2, 0, []), 29) := rfl
theorem T_368_29 : hTab 368 29 = some ((18, 5, Int.ofNat 34, []), 32) := rfl
theorem T_368_32 : hTab 368 32 = some ((3, 2, 0, []), 33) := rfl
theorem T_368_33 : hTab 368 33 = some ((33, 1, 0, []), 34) := rfl
theorem T_368_34 : hTab 368 34 = some ((3, 0, 2, []), 35) := rfl
theorem T_368_35 : hTab 368 35 = some ((24, 17, Int.ofNat 91, []), 38) := rfl
theorem T_368_38 : hTab 368 38 = some ((0, 0, 1, []), 39) := rfl
theorem T_368_39 : hTab 368 39 = some ((10, 1, 0, []), 40) := rfl
theorem T_368_40 : hTab 368 40 = some ((4, 3, 0, []), 41) := rfl
theorem T_368_41 : hTab 368 41 = some ((3, 0, 2, []), 42) := rfl
theorem T_368_42 : hTab 368 42 = some ((3, 1, 0, []), 43) := rfl
theorem T_368_43 : hTab 368 43 = some ((3, 0, 2, []), 44) := rfl
theorem T_368_44 : hTab 368 44 = some ((24, 17, Int.ofNat 86, []), 47) := rfl
theorem T_368_47 : hTab 368 47 = some ((3, 3, 0, []), 48) := rfl
theorem T_368_48 : hTab 368 48 = some ((26, 0, 0, []), 49) := rfl
theorem T_368_49 : hTab 368 49 = some ((3, 0, 2, []), 50) := rfl
theorem T_368_50 : hTab 368 50 = some ((24, 17, Int.ofNat 88, []), 53) := rfl
theorem T_368_53 : hTab 368 53 = some ((3, 3, 0, []), 54) := rfl
theorem T_368_54 : hTab 368 54 = some ((26, 0, 0, []), 55) := rfl
theorem T_368_55 : hTab 368 55 = some ((31, 340, 0, []), 58) := rfl
theorem T_368_58 : hTab 368 58 = some ((4, 4, 0, []), 60) := rfl
theorem T_368_60 : hTab 368 60 = some ((3, 0, 2, []), 61) := rfl
theorem T_368_61 : hTab 368 61 = some ((24, 17, Int.ofNat 86, []), 64) := rfl
theorem T_368_64 : hTab 368 64 = some ((0, 0, 0, []), 65) := rfl
theorem T_368_65 : hTab 368 65 = some ((26, 0, 0, []), 66) := rfl
theorem T_368_66 : hTab 368 66 = some ((4, 5, 0, []), 68) := rfl
theorem T_368_68 : hTab 368 68 = some ((3, 0, 2, []), 69) := rfl
theorem T_368_69 : hTab 368 69 = some ((24, 17, Int.ofNat 88, []), 72) := rfl
theorem T_368_72 : hTab 368 72 = some ((0, 0, 0, []), 73) := rfl
theorem T_368_73 : hTab 368 73 = some ((26, 0, 0, []), 74) := rfl
theorem T_368_74 : hTab 368 74 = some ((4, 6, 0, []), 76) := rfl
theorem T_368_76 : hTab 368 76 = some ((3, 0, 2, []), 77) := rfl
theorem T_368_77 : hTab 368 77 = some ((31, 352, 0, []), 80) := rfl
theorem T_368_80 : hTab 368 80 = some ((3, 4, 0, []), 82) := rfl
theorem T_368_82 : hTab 368 82 = some ((18, 3, Int.ofNat 87, []), 85) := rfl
theorem T_368_85 : hTab 368 85 = some ((0, 0, 1, []), 86) := rfl
theorem T_368_86 : hTab 368 86 = some ((33, 1, 0, []), 87) := rfl
theorem T_368_87 : hTab 368 87 = some ((3, 0, 2, []), 88) := rfl
theorem T_368_88 : hTab 368 88 = some ((24, 17, Int.ofNat 77, []), 91) := rfl
theorem T_368_91 : hTab 368 91 = some ((0, 0, 2, []), 92) := rfl
theorem T_368_92 : hTab 368 92 = some ((19, 1, Int.ofNat 115, []), 95) := rfl
theorem T_368_95 : hTab 368 95 = some ((3, 0, 2, []), 96) := rfl
theorem T_368_96 : hTab 368 96 = some ((3, 4, 0, []), 98) := rfl
theorem T_368_98 : hTab 368 98 = some ((31, 367, 0, []), 101) := rfl
theorem T_368_101 : hTab 368 101 = some ((3, 0, 2, []), 102) := rfl
theorem T_368_102 : hTab 368 102 = some ((3, 0, 2, []), 103) := rfl
theorem T_368_103 : hTab 368 103 = some ((24, 17, Int.ofNat 53, []), 106) := rfl
theorem T_368_106 : hTab 368 106 = some ((3, 1, 0, []), 107) := rfl
theorem T_368_107 : hTab 368 107 = some ((26, 0, 0, []), 108) := rfl
theorem T_368_108 : hTab 368 108 = some ((3, 4, 0, []), 110) := rfl
theorem T_368_110 : hTab 368 110 = some ((31, 369, 0, []), 113) := rfl
theorem T_368_113 : hTab 368 113 = some ((0, 0, 0, []), 114) := rfl
theorem T_368_114 : hTab 368 114 = some ((33, 1, 0, []), 115) := rfl
def cUnm2 (P : qR) (p : Int) (c1 c2 : Ch) (h : List Ch) (N : Int) : Int × qR × List Ch := if qPoint P p c2.1 c2.2.2.1 < 0 then (1, kDrops P h, []) else if N = 2 then (0, gRmP (kDrM (qPoint P p c2.1 c2.2.2.1) (kDrops P h 2337 (qPoint P p c2.1 c2.2.2.1)).toNat 0 (kDrops P h)) (P 2323 p) (qPoint P p c2.1 c2.2.2.1), []) else ((unM (kDrops P h) (P 2323 p) (qPoint P p c2.1 c2.2.2.1) c1.1 c1.2.2.1).1, (unM (kDrops P h) (P 2323 p) (qPoint P p c2.1 c2.2.2.1) c1.1 c1.2.2.1).2, [])
def cUnm (P : qR) (p : Int) (l : List Int) : Int × qR × List Ch := if 0 < (kWW P p 0 (lnB l 1)).1 then ((kWW P p 0 (lnB l 1)).1, (kWW P p 0 (lnB l 1)).2.1, []) else if ((lnW l).length : Int) = 3 then (if 0 < (kWW (kWW P p 0 (lnB l 1)).2.1 p 0 (lnB l 2)).1 then ((kWW (kWW P p 0 (lnB l 1)).2.1 p 0 (lnB l 2)).1, (kWW (kWW P p 0 (lnB l 1)).2.1 p 0 (lnB l 2)).2.1, [(kWW P p 0 (lnB l 1)).2.2]) else cUnm2 (kWW (kWW P p 0 (lnB l 1)).2.1 p 0 (lnB l 2)).2.1 p (kWW P p 0 (lnB l 1)).2.2 (kWW (kWW P p 0 (lnB l 1)).2.1 p 0 (lnB l 2)).2.2 [(kWW P p 0 (lnB l 1)).2.2, (kWW (kWW P p 0 (lnB l 1)).2.1 p 0 (lnB l 2)).2.2] 3) else cUnm2 (kWW P p 0 (lnB l 1)).2.1 p (kWW P p 0 (lnB l 1)).2.2 (kWW P p 0 (lnB l 1)).2.2 [(kWW P p 0 (lnB l 1)).2.2] 2
section MUNM2
variable {fb : Bool} {d : Nat} {σ0 σ : hM} {P Q R S S1 S2 : qR} {T U s w g u p k e t z o thr pt off n N v sv pa : Int} {l l1 l2 nm wd A : List Int} {h h0 : List Ch} {f : Int → Int} {x : Nw} {c c1 c2 : Ch} {ns : List Nw}
theorem KF_drops : ∀ (h : List Ch) (P : qR), KF (kDrops P h) P
  | [], _ => KF_rfl
  | x :: h, P => KF_tr (show KF (kDrops P (x :: h)) (kDrops P h) from KF_tP) (KF_drops h P)
theorem KS.drops {r : Option AV} {σ1 : hM} (hK : KS T U P S l h) (hr : KV (T + 4 * h.length) U σ0 S (kDrops P h) [] r σ1) : ∃ S2 : qR, r = none ∧ PM σ0 (kDrops P h) S2 σ1 ∧ KS (T + 4 * h.length) U (kDrops P h) S2 l [] ∧ SX scR scN S S2 := by
  obtain ⟨S2, a1, a2, a3, a4, a5, a6⟩ := hr
  exact ⟨S2, a1, a2, ⟨a3, hK.2.1.of (KF_drops _ _), a4, a5, hK.2.2.2.2.sw a6.sw⟩, SX_sc a6.sw⟩
theorem m_unm_two {e0 : Int} (he0 : e0 = 0) (hP : PM σ0 P S σ) (hK : KS T U P S l h) (hh : h = h0 ++ [c2]) (hc1 : h[0]? = some c1) (hl : h.length ≤ 2) (hp : 0 ≤ p ∧ p < 8) (hT : T + 200 ≤ 2147483000) (hN : N = ((lnW l).length : Int)) : WP fb (d + 14) 368 28 [some (vR (some 2281)), some (vI p), some (vI e0), none, none, none, none, none, none, none] [] σ (KC (T + 32) U σ0 S l (cUnm2 P p c1 c2 h N).1 (cUnm2 P p c1 c2 h N).2.1 (cUnm2 P p c1 c2 h N).2.2) := by
  have hK' := hK
  rw [hh] at hK'
  obtain ⟨g1, g2, g3, g4, g5, g6, g7⟩ := HS.last hK'.2.2.2.1
  obtain ⟨f1, f2, f3, f4, f5⟩ := hK.2.2.2.1.get (z := 0) (i := 0) rfl hc1
  have h77 : S 2281 77 = N := hK.2.2.2.2.2.2.2.2.1.trans hN.symm
  have hqr := qPoint_rng (P := P) (p := p) (s := c2.1) (path := c2.2.2.1) hK.1.iv hp
  have hpo := m_pointOf (fb := fb) (d := d + 13) (p := p) (s := c2.1) (path := c2.2.2.1) hP hK.1.iv hp
  have bg : 0 ≤ P 2323 p ∧ P 2323 p ≤ 7 := IV.a hK.1.iv 2323 0 8 rfl rfl rfl (by omega) (by omega)
  have bp : 0 ≤ P 2334 (P 2323 p) ∧ P 2334 (P 2323 p) ≤ 8 := IV.a hK.1.iv 2334 0 8 rfl rfl rfl (by omega) (by omega)
  unfold cUnm2
  obtain ⟨pt, hpt⟩ : ∃ pt, qPoint P p c2.1 c2.2.2.1 = pt := ⟨_, rfl⟩
  rw [hpt] at hqr hpo ⊢
  obtain ⟨g, hg⟩ : ∃ g, P 2323 p = g := ⟨_, rfl⟩
  rw [hg] at hqr bg bp ⊢
  have hkd := KF_drops h P
  have hda := m_dropAll (fb := fb) (d := d) (T := T) (by omega) hP hK.2.2.1 hK.1 hK.2.2.2.1
  have hKd := fun (r : Option AV) (σ1 : hM) => KS.drops (σ0 := σ0) (r := r) (σ1 := σ1) hK
  obtain ⟨P2, hP2⟩ : ∃ P2, kDrops P h = P2 := ⟨_, rfl⟩
  rw [hP2] at hkd hda hKd ⊢
  obtain ⟨hz, hhz⟩ : ∃ hz : Int, (h.length : Int) = hz := ⟨_, rfl⟩
  rw [hhz] at hda hKd
  obtain ⟨n0, hn0⟩ : ∃ n0 : Int, (h0.length : Int) = n0 := ⟨_, rfl⟩
  have hz1 : hz = n0 + 1 := by
    rw [hh, List.length_append] at hhz
    have hhz : ((h0.length + 1 : Nat) : Int) = hz := hhz
    omega
  rw [hn0] at g1 g3 g5
  have hg2 : P2 2323 p = g := (hkd _ _ rfl (by decide) (by decide) (by decide)).trans hg
  have hp2 : P2 2334 g = P 2334 g := hkd _ _ rfl (by decide) (by decide) (by decide)
  subst he0
  by_cases q1 : pt < 0
  · rw [if_pos q1]
    dsimp only
    refine x_li (z := 0) T_368_28 rfl ?_
    refine x_if T_368_29 (fun _ => ?_) (fun h => absurd (show (0 : Int) ≤ 0 by decide) h)
    refine x_lr (z := some 2281) T_368_34 rfl ?_
    refine x_gI (z := (n0 + 1)) T_368_35 (Or.inl F_17_91) (PM.t hP) (Eq.trans (PM.nS hP 2281 91 91 rfl rfl rfl) g1) ?_
    refine x_ic T_368_38 ?_
    refine x_ib (w := n0) T_368_39 (fun h => absurd h.1 (by decide)) (w32_e (by omega) (by omega) (by omega)) ?_
    refine x_si (ls1 := [some (vR (some 2281)), some (vI p), some (vI 0), some (vI n0), none, none, none, none, none, none]) T_368_40 rfl ?_
    refine x_lr (z := some 2281) T_368_41 rfl ?_
    refine x_li (z := p) T_368_42 rfl ?_
    refine x_lr (z := some 2281) T_368_43 rfl ?_
    refine x_gR (z := some 2350) T_368_44 F_17_86 (PM.t hP) (PM.r hP 86 2350 rfl) ?_
    refine x_li (z := n0) T_368_47 rfl ?_
    refine x_alI (z := c2.1) T_368_48 (by decide) (PM.ta hP 2350 0 64 rfl rfl) (by omega) (by omega) (Eq.trans (PM.aS hP 2350 rfl rfl (by omega)) g3) ?_
    refine x_lr (z := some 2281) T_368_49 rfl ?_
    refine x_gR (z := some 2352) T_368_50 F_17_88 (PM.t hP) (PM.r hP 88 2352 rfl) ?_
    refine x_li (z := n0) T_368_53 rfl ?_
    refine x_alI (z := c2.2.2.1) T_368_54 (by decide) (PM.ta hP 2352 0 64 rfl rfl) (by omega) (by omega) (Eq.trans (PM.aS hP 2352 rfl rfl (by omega)) g5) ?_
    refine x_cv4 T_368_55 mN_340 mL_340 (Nat.le_of_ble_eq_true rfl) mO_340 (PM.t hP) (Nat.le_of_ble_eq_true rfl) (hpo) ?_
    rintro _ σ ⟨rfl, rfl⟩
    refine cI ?_
    refine x_si (ls1 := [some (vR (some 2281)), some (vI p), some (vI 0), some (vI n0), some (vI pt), none, none, none, none, none]) T_368_58 rfl ?_
    refine x_lr (z := some 2281) T_368_60 rfl ?_
    refine x_gR (z := some 2350) T_368_61 F_17_86 (PM.t hP) (PM.r hP 86 2350 rfl) ?_
    refine x_ic T_368_64 ?_
    refine x_alI (z := c1.1) T_368_65 (by decide) (PM.ta hP 2350 0 64 rfl rfl) (by omega) (by omega) (Eq.trans (PM.aS hP 2350 rfl rfl (by omega)) f1) ?_
    refine x_si (ls1 := [some (vR (some 2281)), some (vI p), some (vI 0), some (vI n0), some (vI pt), some (vI c1.1), none, none, none, none]) T_368_66 rfl ?_
    refine x_lr (z := some 2281) T_368_68 rfl ?_
    refine x_gR (z := some 2352) T_368_69 F_17_88 (PM.t hP) (PM.r hP 88 2352 rfl) ?_
    refine x_ic T_368_72 ?_
    refine x_alI (z := c1.2.2.1) T_368_73 (by decide) (PM.ta hP 2352 0 64 rfl rfl) (by omega) (by omega) (Eq.trans (PM.aS hP 2352 rfl rfl (by omega)) f3) ?_
    refine x_si (ls1 := [some (vR (some 2281)), some (vI p), some (vI 0), some (vI n0), some (vI pt), some (vI c1.1), some (vI c1.2.2.1), none, none, none]) T_368_74 rfl ?_
    refine x_lr (z := some 2281) T_368_76 rfl ?_
    refine x_cv1 T_368_77 mN_352 mL_352 (Nat.le_of_ble_eq_true rfl) mO_352 (PM.t hP) (Nat.le_of_ble_eq_true rfl) (hda) ?_
    clear hP hpo hda
    intro r σ hr
    obtain ⟨S2, rfl, hP, hK2, hX2⟩ := hKd _ _ hr
    refine cV ?_
    refine x_li (z := pt) T_368_80 rfl ?_
    refine x_if T_368_82 (fun h => absurd (show 0 ≤ pt from h) (by omega)) (fun _ => ?_)
    refine x_ic T_368_85 ?_
    refine x_ri T_368_86 ?_
    exact ⟨S2, rfl, hP, hK2.mono (by omega), hX2⟩
  rw [if_neg q1]
  obtain ⟨r1, r2, r3, r4⟩ := hqr.resolve_left (by omega)
  by_cases q2 : N = 2
  · rw [if_pos q2]
    dsimp only
    have hkm := kDrM_kf (pt := pt) (P2 2337 pt).toNat 0 P2
    refine x_li (z := 0) T_368_28 rfl ?_
    refine x_if T_368_29 (fun _ => ?_) (fun h => absurd (show (0 : Int) ≤ 0 by decide) h)
    refine x_lr (z := some 2281) T_368_34 rfl ?_
    refine x_gI (z := (n0 + 1)) T_368_35 (Or.inl F_17_91) (PM.t hP) (Eq.trans (PM.nS hP 2281 91 91 rfl rfl rfl) g1) ?_
    refine x_ic T_368_38 ?_
    refine x_ib (w := n0) T_368_39 (fun h => absurd h.1 (by decide)) (w32_e (by omega) (by omega) (by omega)) ?_
    refine x_si (ls1 := [some (vR (some 2281)), some (vI p), some (vI 0), some (vI n0), none, none, none, none, none, none]) T_368_40 rfl ?_
    refine x_lr (z := some 2281) T_368_41 rfl ?_
    refine x_li (z := p) T_368_42 rfl ?_
    refine x_lr (z := some 2281) T_368_43 rfl ?_
    refine x_gR (z := some 2350) T_368_44 F_17_86 (PM.t hP) (PM.r hP 86 2350 rfl) ?_
    refine x_li (z := n0) T_368_47 rfl ?_
    refine x_alI (z := c2.1) T_368_48 (by decide) (PM.ta hP 2350 0 64 rfl rfl) (by omega) (by omega) (Eq.trans (PM.aS hP 2350 rfl rfl (by omega)) g3) ?_
    refine x_lr (z := some 2281) T_368_49 rfl ?_
    refine x_gR (z := some 2352) T_368_50 F_17_88 (PM.t hP) (PM.r hP 88 2352 rfl) ?_
    refine x_li (z := n0) T_368_53 rfl ?_
    refine x_alI (z := c2.2.2.1) T_368_54 (by decide) (PM.ta hP 2352 0 64 rfl rfl) (by omega) (by omega) (Eq.trans (PM.aS hP 2352 rfl rfl (by omega)) g5) ?_
    refine x_cv4 T_368_55 mN_340 mL_340 (Nat.le_of_ble_eq_true rfl) mO_340 (PM.t hP) (Nat.le_of_ble_eq_true rfl) (hpo) ?_
    rintro _ σ ⟨rfl, rfl⟩
    refine cI ?_
    refine x_si (ls1 := [some (vR (some 2281)), some (vI p), some (vI 0), some (vI n0), some (vI pt), none, none, none, none, none]) T_368_58 rfl ?_
    refine x_lr (z := some 2281) T_368_60 rfl ?_
    refine x_gR (z := some 2350) T_368_61 F_17_86 (PM.t hP) (PM.r hP 86 2350 rfl) ?_
    refine x_ic T_368_64 ?_
    refine x_alI (z := c1.1) T_368_65 (by decide) (PM.ta hP 2350 0 64 rfl rfl) (by omega) (by omega) (Eq.trans (PM.aS hP 2350 rfl rfl (by omega)) f1) ?_
    refine x_si (ls1 := [some (vR (some 2281)), some (vI p), some (vI 0), some (vI n0), some (vI pt), some (vI c1.1), none, none, none, none]) T_368_66 rfl ?_
    refine x_lr (z := some 2281) T_368_68 rfl ?_
    refine x_gR (z := some 2352) T_368_69 F_17_88 (PM.t hP) (PM.r hP 88 2352 rfl) ?_
    refine x_ic T_368_72 ?_
    refine x_alI (z := c1.2.2.1) T_368_73 (by decide) (PM.ta hP 2352 0 64 rfl rfl) (by omega) (by omega) (Eq.trans (PM.aS hP 2352 rfl rfl (by omega)) f3) ?_
    refine x_si (ls1 := [some (vR (some 2281)), some (vI p), some (vI 0), some (vI n0), some (vI pt), some (vI c1.1), some (vI c1.2.2.1), none, none, none]) T_368_74 rfl ?_
    refine x_lr (z := some 2281) T_368_76 rfl ?_
    refine x_cv1 T_368_77 mN_352 mL_352 (Nat.le_of_ble_eq_true rfl) mO_352 (PM.t hP) (Nat.le_of_ble_eq_true rfl) (hda) ?_
    clear hP hpo hda
    intro r σ hr
    obtain ⟨S2, rfl, hP, hK2, hX2⟩ := hKd _ _ hr
    have h77 : S2 2281 77 = N := hK2.2.2.2.2.2.2.2.2.1.trans hN.symm
    refine cV ?_
    refine x_li (z := pt) T_368_80 rfl ?_
    refine x_if T_368_82 (fun _ => ?_) (fun h => absurd (show 0 ≤ pt by omega) h)
    refine x_lr (z := some 2281) T_368_87 rfl ?_
    refine x_gI (z := N) T_368_88 (Or.inl F_17_77) (PM.t hP) (Eq.trans (PM.nS hP 2281 77 77 rfl rfl rfl) h77) ?_
    refine x_ic T_368_91 ?_
    refine x_ic2 T_368_92 (fun h => absurd (show ¬ N = 2 from h) (by omega)) (fun _ => ?_)
    refine x_lr (z := some 2281) T_368_95 rfl ?_
    refine x_li (z := pt) T_368_96 rfl ?_
    have hdm := m_dropMembers (fb := fb) (d := d + 1) (pt := pt) ⟨by omega, by omega⟩ (by omega) hP hK2
    obtain ⟨P3, hP3⟩ : ∃ P3, kDrM pt (P2 2337 pt).toNat 0 P2 = P3 := ⟨_, rfl⟩
    rw [hP3] at hdm hkm ⊢
    have hg3 : P3 2323 p = g := (hkm _ _ rfl (by decide) (by decide) (by decide)).trans hg2
    have hp3 : P3 2334 g = P 2334 g := (hkm _ _ rfl (by decide) (by decide) (by decide)).trans hp2
    refine x_cv2 T_368_98 mN_367 mL_367 (Nat.le_of_ble_eq_true rfl) mO_367 (PM.t hP) (Nat.le_of_ble_eq_true rfl) (hdm) ?_
    clear hP hdm
    rintro _ σ ⟨S3, rfl, hP, hK3, hS3⟩
    refine cV ?_
    refine x_lr (z := some 2281) T_368_101 rfl ?_
    refine x_lr (z := some 2281) T_368_102 rfl ?_
    refine x_gR (z := some 2323) T_368_103 F_17_53 (PM.t hP) (PM.r hP 53 2323 rfl) ?_
    refine x_li (z := p) T_368_106 rfl ?_
    refine x_alI (z := P3 2323 p) T_368_107 (by decide) (PM.ta hP 2323 0 8 rfl rfl) (by omega) (by omega) (PM.aP hP 2323 rfl rfl (by omega)) ?_
    refine x_li (z := pt) T_368_108 rfl ?_
    have hok := gRmP_ok (g := g) (pt := pt) hK3.1 hK3.2.1 (by omega) ⟨r1, by rw [hp3]; exact r2⟩
    have hrm := m_removePoint (fb := fb) (d := d + 12) (g := g) (pt := pt) hP hK3.1 (by omega) ⟨r1, by rw [hp3]; exact r2⟩
    rw [hg3]
    refine x_cv3 T_368_110 mN_369 mL_369 (Nat.le_of_ble_eq_true rfl) mO_369 (PM.t hP) (Nat.le_of_ble_eq_true rfl) (hrm) ?_
    clear hP hrm
    rintro _ σ ⟨rfl, hP⟩
    refine cV ?_
    refine x_ic T_368_113 ?_
    refine x_ri T_368_114 ?_
    exact ⟨S3, rfl, hP, KS.mono (T := T + 4 * hz + 24) ⟨hok.1, hok.2.1, hK3.2.2⟩ (by omega), SX_tr hX2 (SX_sc hS3.sw)⟩
  · rw [if_neg q2]
    dsimp only
    refine x_li (z := 0) T_368_28 rfl ?_
    refine x_if T_368_29 (fun _ => ?_) (fun h => absurd (show (0 : Int) ≤ 0 by decide) h)
    refine x_lr (z := some 2281) T_368_34 rfl ?_
    refine x_gI (z := (n0 + 1)) T_368_35 (Or.inl F_17_91) (PM.t hP) (Eq.trans (PM.nS hP 2281 91 91 rfl rfl rfl) g1) ?_
    refine x_ic T_368_38 ?_
    refine x_ib (w := n0) T_368_39 (fun h => absurd h.1 (by decide)) (w32_e (by omega) (by omega) (by omega)) ?_
    refine x_si (ls1 := [some (vR (some 2281)), some (vI p), some (vI 0), some (vI n0), none, none, none, none, none, none]) T_368_40 rfl ?_
    refine x_lr (z := some 2281) T_368_41 rfl ?_
    refine x_li (z := p) T_368_42 rfl ?_
    refine x_lr (z := some 2281) T_368_43 rfl ?_
    refine x_gR (z := some 2350) T_368_44 F_17_86 (PM.t hP) (PM.r hP 86 2350 rfl) ?_
    refine x_li (z := n0) T_368_47 rfl ?_
    refine x_alI (z := c2.1) T_368_48 (by decide) (PM.ta hP 2350 0 64 rfl rfl) (by omega) (by omega) (Eq.trans (PM.aS hP 2350 rfl rfl (by omega)) g3) ?_
    refine x_lr (z := some 2281) T_368_49 rfl ?_
    refine x_gR (z := some 2352) T_368_50 F_17_88 (PM.t hP) (PM.r hP 88 2352 rfl) ?_
    refine x_li (z := n0) T_368_53 rfl ?_
    refine x_alI (z := c2.2.2.1) T_368_54 (by decide) (PM.ta hP 2352 0 64 rfl rfl) (by omega) (by omega) (Eq.trans (PM.aS hP 2352 rfl rfl (by omega)) g5) ?_
    refine x_cv4 T_368_55 mN_340 mL_340 (Nat.le_of_ble_eq_true rfl) mO_340 (PM.t hP) (Nat.le_of_ble_eq_true rfl) (hpo) ?_
    rintro _ σ ⟨rfl, rfl⟩
    refine cI ?_
    refine x_si (ls1 := [some (vR (some 2281)), some (vI p), some (vI 0), some (vI n0), some (vI pt), none, none, none, none, none]) T_368_58 rfl ?_
    refine x_lr (z := some 2281) T_368_60 rfl ?_
    refine x_gR (z := some 2350) T_368_61 F_17_86 (PM.t hP) (PM.r hP 86 2350 rfl) ?_
    refine x_ic T_368_64 ?_
    refine x_alI (z := c1.1) T_368_65 (by decide) (PM.ta hP 2350 0 64 rfl rfl) (by omega) (by omega) (Eq.trans (PM.aS hP 2350 rfl rfl (by omega)) f1) ?_
    refine x_si (ls1 := [some (vR (some 2281)), some (vI p), some (vI 0), some (vI n0), some (vI pt), some (vI c1.1), none, none, none, none]) T_368_66 rfl ?_
    refine x_lr (z := some 2281) T_368_68 rfl ?_
    refine x_gR (z := some 2352) T_368_69 F_17_88 (PM.t hP) (PM.r hP 88 2352 rfl) ?_
    refine x_ic T_368_72 ?_
    refine x_alI (z := c1.2.2.1) T_368_73 (by decide) (PM.ta hP 2352 0 64 rfl rfl) (by omega) (by omega) (Eq.trans (PM.aS hP 2352 rfl rfl (by omega)) f3) ?_
    refine x_si (ls1 := [some (vR (some 2281)), some (vI p), some (vI 0), some (vI n0), some (vI pt), some (vI c1.1), some (vI c1.2.2.1), none, none, none]) T_368_74 rfl ?_
    refine x_lr (z := some 2281) T_368_76 rfl ?_
    refine x_cv1 T_368_77 mN_352 mL_352 (Nat.le_of_ble_eq_true rfl) mO_352 (PM.t hP) (Nat.le_of_ble_eq_true rfl) (hda) ?_
    clear hP hpo hda
    intro r σ hr
    obtain ⟨S2, rfl, hP, hK2, hX2⟩ := hKd _ _ hr
    have h77 : S2 2281 77 = N := hK2.2.2.2.2.2.2.2.2.1.trans hN.symm
    refine cV ?_
    refine x_li (z := pt) T_368_80 rfl ?_
    refine x_if T_368_82 (fun _ => ?_) (fun h => absurd (show 0 ≤ pt by omega) h)
    refine x_lr (z := some 2281) T_368_87 rfl ?_
    refine x_gI (z := N) T_368_88 (Or.inl F_17_77) (PM.t hP) (Eq.trans (PM.nS hP 2281 77 77 rfl rfl rfl) h77) ?_
    refine x_ic T_368_91 ?_
    refine x_ic2 T_368_92 (fun _ => ?_) (fun h => absurd (show ¬ N = 2 by omega) h)
    refine WP.mono (m_unm_one (d := d + 2) (e0 := 0) (h0 := n0) hP hK2 hp (by omega) hg2 ⟨r1, by rw [hp2]; exact r2⟩) ?_
    rintro r σ1 ⟨S3, rfl, a1, a2, a3⟩
    exact ⟨S3, rfl, a1, a2.mono (by omega), SX_tr hX2 a3⟩
theorem m_unmount (hP : PM σ0 P S σ) (hK : KS T U P S l []) (hp : 0 ≤ p ∧ p < 8) (hT : T + 1500 ≤ 2147483000) (hN : N = ((lnW l).length : Int)) (hN2 : N = 2 ∨ N = 3) : CL fb (d + 16) 368 [vR (some 2281), vI p] σ (KC (T + 632) U σ0 S l (cUnm P p l).1 (cUnm P p l).2.1 (cUnm P p l).2.2) := by
  have hww := k_ww (fb := fb) (d := d) (thr := 0) hP hK hp (Or.inl rfl) (by omega) (by decide) (w := 1) ⟨by decide, by omega⟩
  have hkf := KF_kWW (thr := 0) (wd := lnB l 1) hK.1.iv hK.2.1 hp
  unfold cUnm
  rw [← hN]
  obtain ⟨e, he⟩ : ∃ e, (kWW P p 0 (lnB l 1)).1 = e := ⟨_, rfl⟩
  obtain ⟨P1, hP1⟩ : ∃ P1, (kWW P p 0 (lnB l 1)).2.1 = P1 := ⟨_, rfl⟩
  obtain ⟨c1, hc1⟩ : ∃ c, (kWW P p 0 (lnB l 1)).2.2 = c := ⟨_, rfl⟩
  rw [he, hP1] at hkf
  rw [he, hP1, hc1] at hww
  rw [he, hP1, hc1]
  by_cases q1 : 0 < e
  · rw [if_pos q1]
    dsimp only
    rw [kHoldn (by omega)] at hww
    refine CL_in mL_368 rfl ?_
    show WP fb _ 368 0 [some (vR (some 2281)), some (vI p), none, none, none, none, none, none, none, none] [] σ _
    refine x_lr (z := some 2281) T_368_0 rfl ?_
    refine x_li (z := p) T_368_1 rfl ?_
    refine x_ic T_368_2 ?_
    refine x_ic T_368_3 ?_
    refine x_cv4 T_368_4 mN_327 mL_327 (Nat.le_of_ble_eq_true rfl) mO_327 (PM.t hP) (Nat.le_of_ble_eq_true rfl) (hww) ?_
    clear hP hww
    rintro _ σ ⟨S2, rfl, hP, hK2, hX2, -⟩
    refine cI ?_
    refine x_si (ls1 := [some (vR (some 2281)), some (vI p), some (vI e), none, none, none, none, none, none, none]) T_368_7 rfl ?_
    refine x_li (z := e) T_368_8 rfl ?_
    refine x_if T_368_9 (fun _ => ?_) (fun h => absurd (show ¬ e = 0 by omega) h)
    refine x_li (z := e) T_368_28 rfl ?_
    refine x_if T_368_29 (fun h => absurd (show e ≤ 0 from h) (by omega)) (fun _ => ?_)
    refine x_li (z := e) T_368_32 rfl ?_
    refine x_ri T_368_33 ?_
    exact ⟨S2, rfl, hP, hK2.mono (by omega), hX2⟩
  rw [if_neg q1]
  have q2 : e = 0 := by omega
  subst q2
  rw [kHold0] at hww
  by_cases q3 : N = 3
  · rw [if_pos q3]
    refine CL_in mL_368 rfl ?_
    show WP fb _ 368 0 [some (vR (some 2281)), some (vI p), none, none, none, none, none, none, none, none] [] σ _
    refine x_lr (z := some 2281) T_368_0 rfl ?_
    refine x_li (z := p) T_368_1 rfl ?_
    refine x_ic T_368_2 ?_
    refine x_ic T_368_3 ?_
    refine x_cv4 T_368_4 mN_327 mL_327 (Nat.le_of_ble_eq_true rfl) mO_327 (PM.t hP) (Nat.le_of_ble_eq_true rfl) (hww) ?_
    clear hP hww
    rintro _ σ ⟨S2, rfl, hP, hK2, hX2, -⟩
    have h77 : S2 2281 77 = N := hK2.2.2.2.2.2.2.2.2.1.trans hN.symm
    refine cI ?_
    refine x_si (ls1 := [some (vR (some 2281)), some (vI p), some (vI 0), none, none, none, none, none, none, none]) T_368_7 rfl ?_
    refine x_li (z := 0) T_368_8 rfl ?_
    refine x_if T_368_9 (fun h => absurd (show ¬ (0 : Int) = 0 from h) (by decide)) (fun _ => ?_)
    refine x_lr (z := some 2281) T_368_12 rfl ?_
    refine x_gI (z := N) T_368_13 (Or.inl F_17_77) (PM.t hP) (Eq.trans (PM.nS hP 2281 77 77 rfl rfl rfl) h77) ?_
    refine x_ic T_368_16 ?_
    refine x_ic2 T_368_17 (fun h => absurd (show ¬ N = 3 from h) (by omega)) (fun _ => ?_)
    refine x_lr (z := some 2281) T_368_20 rfl ?_
    refine x_li (z := p) T_368_21 rfl ?_
    refine x_ic T_368_22 ?_
    refine x_ic T_368_23 ?_
    have hw2 := k_ww (fb := fb) (d := d) (thr := 0) hP hK2 hp (Or.inl rfl) (by omega) (show 1 + 2 < 60 by decide) (w := 2) ⟨by decide, by omega⟩
    have hkf2 := KF_kWW (thr := 0) (wd := lnB l 2) hK2.1.iv hK2.2.1 hp
    obtain ⟨e2, he2⟩ : ∃ e, (kWW P1 p 0 (lnB l 2)).1 = e := ⟨_, rfl⟩
    obtain ⟨P2, hP2⟩ : ∃ P2, (kWW P1 p 0 (lnB l 2)).2.1 = P2 := ⟨_, rfl⟩
    obtain ⟨c2, hc2⟩ : ∃ c, (kWW P1 p 0 (lnB l 2)).2.2 = c := ⟨_, rfl⟩
    rw [he2, hP2] at hkf2
    rw [he2, hP2, hc2] at hw2
    rw [he2, hP2, hc2]
    by_cases q4 : 0 < e2
    · rw [if_pos q4]
      dsimp only
      rw [kHoldn (by omega)] at hw2
      refine x_cv4 T_368_24 mN_327 mL_327 (Nat.le_of_ble_eq_true rfl) mO_327 (PM.t hP) (Nat.le_of_ble_eq_true rfl) (hw2) ?_
      clear hP hw2
      rintro _ σ ⟨S3, rfl, hP, hK3, hX3, -⟩
      refine cI ?_
      refine x_si (ls1 := [some (vR (some 2281)), some (vI p), some (vI e2), none, none, none, none, none, none, none]) T_368_27 rfl ?_
      refine x_li (z := e2) T_368_28 rfl ?_
      refine x_if T_368_29 (fun h => absurd (show e2 ≤ 0 from h) (by omega)) (fun _ => ?_)
      refine x_li (z := e2) T_368_32 rfl ?_
      refine x_ri T_368_33 ?_
      exact ⟨S3, rfl, hP, hK3.mono (by omega), SX_tr hX2 hX3⟩
    · rw [if_neg q4]
      have q5 : e2 = 0 := by omega
      subst q5
      rw [kHold0] at hw2
      refine x_cv4 T_368_24 mN_327 mL_327 (Nat.le_of_ble_eq_true rfl) mO_327 (PM.t hP) (Nat.le_of_ble_eq_true rfl) (hw2) ?_
      clear hP hw2
      rintro _ σ ⟨S3, rfl, hP, hK3, hX3, -⟩
      refine cI ?_
      refine x_si (ls1 := [some (vR (some 2281)), some (vI p), some (vI 0), none, none, none, none, none, none, none]) T_368_27 rfl ?_
      refine WP.mono (m_unm_two (d := d + 2) (h0 := [c1]) (h := [c1, c2]) (c1 := c1) (c2 := c2) (N := N) rfl hP hK3 rfl rfl (show 2 ≤ 2 by decide) hp (by omega) hN) ?_
      rintro r σ1 ⟨S4, rfl, a1, a2, a3⟩
      rw [q3] at a1 a2
      exact ⟨S4, by rw [q3], a1, a2.mono (by omega), SX_tr hX2 (SX_tr hX3 a3)⟩
  · rw [if_neg q3]
    have q4 : N = 2 := by omega
    refine CL_in mL_368 rfl ?_
    show WP fb _ 368 0 [some (vR (some 2281)), some (vI p), none, none, none, none, none, none, none, none] [] σ _
    refine x_lr (z := some 2281) T_368_0 rfl ?_
    refine x_li (z := p) T_368_1 rfl ?_
    refine x_ic T_368_2 ?_
    refine x_ic T_368_3 ?_
    refine x_cv4 T_368_4 mN_327 mL_327 (Nat.le_of_ble_eq_true rfl) mO_327 (PM.t hP) (Nat.le_of_ble_eq_true rfl) (hww) ?_
    clear hP hww
    rintro _ σ ⟨S2, rfl, hP, hK2, hX2, -⟩
    have h77 : S2 2281 77 = N := hK2.2.2.2.2.2.2.2.2.1.trans hN.symm
    refine cI ?_
    refine x_si (ls1 := [some (vR (some 2281)), some (vI p), some (vI 0), none, none, none, none, none, none, none]) T_368_7 rfl ?_
    refine x_li (z := 0) T_368_8 rfl ?_
    refine x_if T_368_9 (fun h => absurd (show ¬ (0 : Int) = 0 from h) (by decide)) (fun _ => ?_)
    refine x_lr (z := some 2281) T_368_12 rfl ?_
    refine x_gI (z := N) T_368_13 (Or.inl F_17_77) (PM.t hP) (Eq.trans (PM.nS hP 2281 77 77 rfl rfl rfl) h77) ?_
    refine x_ic T_368_16 ?_
    refine x_ic2 T_368_17 (fun _ => ?_) (fun h => absurd (show ¬ N = 3 by omega) h)
    refine WP.mono (m_unm_two (d := d + 2) (h0 := []) (h := [c1]) (c1 := c1) (c2 := c1) (N := N) rfl hP hK2 rfl rfl (show 1 ≤ 2 by decide) hp (by omega) hN) ?_
    rintro r σ1 ⟨S4, rfl, a1, a2, a3⟩
    rw [q4] at a1 a2
    exact ⟨S4, by rw [q4], a1, a2.mono (by omega), SX_tr hX2 a3⟩
end MUNM2
