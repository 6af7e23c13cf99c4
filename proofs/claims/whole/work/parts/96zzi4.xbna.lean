/-! The class's bind and mount. -/
theorem T_171_0 : hTab 171 0 = some ((3, 2, 2, []), 1) := rfl
theorem T_171_1 : hTab 171 1 = some ((24, 16, Int.ofNat 4, []), 4) := rfl
theorem T_171_4 : hTab 171 4 = some ((0, 0, 4, []), 5) := rfl
theorem T_171_5 : hTab 171 5 = some ((19, 1, Int.ofNat 16, []), 8) := rfl
theorem T_171_8 : hTab 171 8 = some ((3, 2, 2, []), 9) := rfl
theorem T_171_9 : hTab 171 9 = some ((0, 0, 1, []), 10) := rfl
theorem T_171_10 : hTab 171 10 = some ((31, 172, 0, []), 13) := rfl
theorem T_171_13 : hTab 171 13 = some ((22, 0, Int.ofNat 17, []), 16) := rfl
theorem T_171_16 : hTab 171 16 = some ((0, 0, 0, []), 17) := rfl
theorem T_171_17 : hTab 171 17 = some ((4, 3, 0, []), 18) := rfl
theorem T_171_18 : hTab 171 18 = some ((3, 2, 2, []), 19) := rfl
theorem T_171_19 : hTab 171 19 = some ((24, 16, Int.ofNat 4, []), 22) := rfl
theorem T_171_22 : hTab 171 22 = some ((0, 0, 3, []), 23) := rfl
theorem T_171_23 : hTab 171 23 = some ((19, 2, Int.ofNat 39, []), 26) := rfl
theorem T_171_26 : hTab 171 26 = some ((3, 2, 2, []), 27) := rfl
theorem T_171_27 : hTab 171 27 = some ((24, 16, Int.ofNat 4, []), 30) := rfl
theorem T_171_30 : hTab 171 30 = some ((0, 0, 4, []), 31) := rfl
theorem T_171_31 : hTab 171 31 = some ((19, 4, Int.ofNat 39, []), 34) := rfl
theorem T_171_34 : hTab 171 34 = some ((3, 3, 0, []), 35) := rfl
theorem T_171_35 : hTab 171 35 = some ((0, 0, (-1), []), 36) := rfl
theorem T_171_36 : hTab 171 36 = some ((19, 1, Int.ofNat 42, []), 39) := rfl
theorem T_171_39 : hTab 171 39 = some ((0, 0, 18, []), 41) := rfl
theorem T_171_41 : hTab 171 41 = some ((33, 1, 0, []), 42) := rfl
theorem T_171_42 : hTab 171 42 = some ((3, 0, 2, []), 43) := rfl
theorem T_171_43 : hTab 171 43 = some ((24, 14, Int.ofNat 0, []), 46) := rfl
theorem T_171_46 : hTab 171 46 = some ((3, 1, 2, []), 47) := rfl
theorem T_171_47 : hTab 171 47 = some ((3, 2, 2, []), 48) := rfl
theorem T_171_48 : hTab 171 48 = some ((3, 2, 2, []), 49) := rfl
theorem T_171_49 : hTab 171 49 = some ((24, 16, Int.ofNat 4, []), 52) := rfl
theorem T_171_52 : hTab 171 52 = some ((0, 0, 2, []), 53) := rfl
theorem T_171_53 : hTab 171 53 = some ((10, 1, 0, []), 54) := rfl
theorem T_171_54 : hTab 171 54 = some ((3, 0, 2, []), 55) := rfl
theorem T_171_55 : hTab 171 55 = some ((24, 14, Int.ofNat 2, []), 58) := rfl
theorem T_171_58 : hTab 171 58 = some ((0, 0, 1, []), 59) := rfl
theorem T_171_59 : hTab 171 59 = some ((31, 117, 0, []), 62) := rfl
theorem T_171_62 : hTab 171 62 = some ((4, 4, 0, []), 64) := rfl
theorem T_171_64 : hTab 171 64 = some ((3, 4, 0, []), 66) := rfl
theorem T_171_66 : hTab 171 66 = some ((18, 1, Int.ofNat 78, []), 69) := rfl
theorem T_171_69 : hTab 171 69 = some ((3, 0, 2, []), 70) := rfl
theorem T_171_70 : hTab 171 70 = some ((3, 1, 2, []), 71) := rfl
theorem T_171_71 : hTab 171 71 = some ((3, 2, 2, []), 72) := rfl
theorem T_171_72 : hTab 171 72 = some ((31, 173, 0, []), 75) := rfl
theorem T_171_75 : hTab 171 75 = some ((22, 0, Int.ofNat 80, []), 78) := rfl
theorem T_171_78 : hTab 171 78 = some ((3, 4, 0, []), 80) := rfl
theorem T_171_80 : hTab 171 80 = some ((4, 4, 0, []), 82) := rfl
theorem T_171_82 : hTab 171 82 = some ((3, 4, 0, []), 84) := rfl
theorem T_171_84 : hTab 171 84 = some ((18, 1, Int.ofNat 99, []), 87) := rfl
theorem T_171_87 : hTab 171 87 = some ((3, 0, 2, []), 88) := rfl
theorem T_171_88 : hTab 171 88 = some ((3, 1, 2, []), 89) := rfl
theorem T_171_89 : hTab 171 89 = some ((24, 6, Int.ofNat 9, []), 92) := rfl
theorem T_171_92 : hTab 171 92 = some ((3, 3, 0, []), 93) := rfl
theorem T_171_93 : hTab 171 93 = some ((31, 174, 0, []), 96) := rfl
theorem T_171_96 : hTab 171 96 = some ((22, 0, Int.ofNat 101, []), 99) := rfl
theorem T_171_99 : hTab 171 99 = some ((3, 4, 0, []), 101) := rfl
theorem T_171_101 : hTab 171 101 = some ((33, 1, 0, []), 102) := rfl
theorem mN_171 : hmN 171 = 3 := by decide +kernel
theorem mL_171 : hmL 171 = 5 := by decide +kernel
theorem mK_171 : hmK 171 = 1 := by decide +kernel
theorem mO_171 : hmO 171 = 14 := by decide +kernel
def chO (T : Int) (c : Ch) : Prop := okC T c ∧ (and32 c.2.2.2.1 128 = 0 ↔ ¬ c.2.2.2.1 = 128)
section XBNM
variable {fb : Bool} {d n a0 y ga : Nat} {σ0 σ : hM} {W W0 W1 W2 V P P0 Q : qR} {R R0 R1 R2 V3 : rR} {i j k z v s e w f g u p T U t N C F K : Int} {l wd : List Int} {c1 c2 ch : Ch} {kk : Nat}
theorem fl_bits (hN : ((lnW l).length : Int) = N) (hN2 : N = 3 ∨ N = 4) (hf : N = 4 → fgs (lnB l 1)) : ∃ b a c : Bool, (if N = 4 then flW (lnB l 1) else 0) = fV b a c ∧ bfV b = bnF l 98 ∧ bhV b a = bnH l ∧ bfV c = bnF l 99 ∧ (N = 4 ↔ ¬ fV b a c = 0) ∧ ¬ fV b a c = -1 := by
  rcases hN2 with rfl | rfl
  · have e : ∀ y, bnF l y = 0 := fun y => if_neg (fun c => by omega)
    refine ⟨false, false, false, rfl, (e 98).symm, ?_, (e 99).symm, by decide, by decide⟩
    unfold bnH
    rw [e, e]
    rfl
  · obtain ⟨h1, h2, h3⟩ := flW_ok (hf rfl)
    have e : ∀ y : Int, bfV (decide (y ∈ (lnB l 1).drop 1)) = bnF l y := fun y => by
      unfold bnF bfV
      by_cases q : y ∈ (lnB l 1).drop 1
      · rw [if_pos ⟨hN, q⟩, decide_eq_true q]
        rfl
      · rw [if_neg (fun c => q c.2), decide_eq_false q]
        rfl
    refine ⟨_, _, _, h1, e 98, ?_, e 99, ⟨fun _ => by rw [← h1]; omega, fun _ => rfl⟩, by rw [← h1]; omega⟩
    unfold bnH
    rw [← e 97, ← e 98]
    generalize decide ((98 : Int) ∈ (lnB l 1).drop 1) = b
    generalize decide ((97 : Int) ∈ (lnB l 1).drop 1) = a
    cases b <;> cases a <;> rfl
theorem dg_ok (h1 : 1 ≤ wd.length) : (nmN wd 8 1 < 0 ∨ 3 ≤ nmN wd 8 1) ↔ dgV wd 2 < 0 := by
  unfold nmN dgV
  match wd, h1 with
  | [x], _ =>
    have e1 : nmV 8 [x] 0 = if 48 ≤ x ∧ x ≤ 47 + 8 then 8 * 0 + x - 48 else -1 := rfl
    have e2 : lg [x] 0 = x := rfl
    rw [if_pos (show (([x] : List Int).length : Int) ≤ 1 from Int.le_refl 1), e1, e2]
    by_cases q : 48 ≤ x ∧ x ≤ 47 + 8
    · rw [if_pos q]
      by_cases q2 : x ≤ 48 + 2
      · rw [if_pos ⟨rfl, q.1, q2⟩]
        omega
      · rw [if_neg (fun c => q2 c.2.2)]
        omega
    · rw [if_neg q, if_neg (fun c => q ⟨c.2.1, by omega⟩)]
      omega
  | x :: y :: r, _ =>
    rw [if_neg (by simp only [List.length_cons]; omega), if_neg (fun c => by have := c.1; simp only [List.length_cons] at this; omega)]
    omega
theorem dg_eq (h1 : 1 ≤ wd.length) (h : ¬ dgV wd 2 < 0) : nmN wd 8 1 = dgV wd 2 ∧ 0 ≤ dgV wd 2 ∧ dgV wd 2 < 3 := by
  unfold nmN
  unfold dgV at h ⊢
  match wd, h1 with
  | [x], _ =>
    have e1 : nmV 8 [x] 0 = if 48 ≤ x ∧ x ≤ 47 + 8 then 8 * 0 + x - 48 else -1 := rfl
    have e2 : lg [x] 0 = x := rfl
    rw [e2] at h ⊢
    rw [if_pos (show (([x] : List Int).length : Int) ≤ 1 from Int.le_refl 1), e1]
    by_cases q2 : 48 ≤ x ∧ x ≤ 48 + 2
    · rw [if_pos ⟨q2.1, by omega⟩, if_pos ⟨rfl, q2⟩]
      omega
    · rw [if_neg (fun c => q2 c.2)] at h
      exact absurd (by decide) h
  | x :: y :: r, _ =>
    rw [if_neg (fun c => by have := c.1; simp only [List.length_cons] at this; omega)] at h
    exact absurd (by decide) h
theorem x_bind (hP : PX σ0 W R σ) (hX : XW K T U W R P) (hT : T + 1900 ≤ 2147483000) (hp : 0 ≤ p ∧ p < 8) (hlv : ¬ P 2320 p = 0) (hC : CMD W kk l) (hN : ((lnW l).length : Int) = N) (hN2 : N = 3 ∨ N = 4) (hG1 : (kWW P p 1 (lnB l (N - 2))).1 = 0 → chO (T + 300) (kWW P p 1 (lnB l (N - 2))).2.2) (hG2 : (kWW (kWW P p 1 (lnB l (N - 2))).2.1 p 0 (lnB l (N - 1))).1 = 0 → chO (T + 600) (kWW (kWW P p 1 (lnB l (N - 2))).2.1 p 0 (lnB l (N - 1))).2.2) : CL fb (d + 11) 171 [vR (some 2175), vR (some (prO p)), vR (some kk)] σ (XCM σ0 K (T + 656) U W R (cBnd P p 0 l)) := by
  have hpo := prO_o hp
  have hrp := prO_rng hp
  have hko := hC.1
  have h5 := hC.2.2.2.2.1.trans hN
  have hfl := fun (h : N = 4) => x_flags (fb := fb) (d := d + 9) hP hC (by omega)
  by_cases qf : N = 4 ∧ ¬ fgs (lnB l 1)
  · have eB : cBnd P p 0 l = (18, P, []) := if_pos (Or.inl ⟨hN.trans qf.1, qf.2⟩)
    rw [eB]
    have hfl := hfl qf.1
    rw [flW_bad qf.2] at hfl
    obtain ⟨pr, hpr⟩ : ∃ q, prO p = q := ⟨_, rfl⟩
    rw [hpr] at hpo ⊢
    refine CL_in mL_171 rfl ?_
    show WP fb _ 171 0 [some (vR (some 2175)), some (vR (some pr)), some (vR (some kk)), none, none] [] σ _
    refine x_lr (z := some kk) T_171_0 rfl ?_
    refine x_gI (z := N) T_171_1 (Or.inl F_16_4) (hP.o hko) (Eq.trans (hP.gi hko (key := 2516) rfl) h5) ?_
    refine x_ic T_171_4 ?_
    refine x_ic2 T_171_5 (fun h => absurd (show ¬ N = 4 from h) (by omega)) (fun _ => ?_)
    refine x_lr (z := some kk) T_171_8 rfl ?_
    refine x_ic T_171_9 ?_
    refine x_cv2 T_171_10 mN_172 mL_172 (Nat.le_of_ble_eq_true rfl) mO_172 (hP.o hko) (Nat.le_of_ble_eq_true rfl) (hfl) ?_
    rintro _ σ ⟨rfl, rfl⟩
    refine cI ?_
    refine x_goto T_171_13 ?_
    refine x_si (ls1 := [some (vR (some 2175)), some (vR (some pr)), some (vR (some kk)), some (vI (-1)), none]) T_171_17 rfl ?_
    refine x_lr (z := some kk) T_171_18 rfl ?_
    refine x_gI (z := N) T_171_19 (Or.inl F_16_4) (hP.o hko) (Eq.trans (hP.gi hko (key := 2516) rfl) h5) ?_
    refine x_ic T_171_22 ?_
    refine x_ic2 T_171_23 (fun h => absurd (show N < 3 from h) (by omega)) (fun _ => ?_)
    refine x_lr (z := some kk) T_171_26 rfl ?_
    refine x_gI (z := N) T_171_27 (Or.inl F_16_4) (hP.o hko) (Eq.trans (hP.gi hko (key := 2516) rfl) h5) ?_
    refine x_ic T_171_30 ?_
    refine x_ic2 T_171_31 (fun h => absurd (show 4 < N from h) (by omega)) (fun _ => ?_)
    refine x_li (z := (-1)) T_171_34 rfl ?_
    refine x_ic T_171_35 ?_
    refine x_ic2 T_171_36 (fun h => absurd (show ¬ ((-1) : Int) = (-1) from h) (by decide)) (fun _ => ?_)
    refine x_ic T_171_39 ?_
    refine x_ri T_171_41 ?_
    exact ⟨rfl, W, R, hP, XW.mono hX (by omega), FCM_rfl⟩
  have hfg : N = 4 → fgs (lnB l 1) := fun h => Classical.not_not.mp (fun c => qf ⟨h, c⟩)
  obtain ⟨b, a, c, f1, f2, f3, f4, f5, f6⟩ := fl_bits hN hN2 hfg
  have eB : cBnd P p 0 l = cBnW (kWW P p 1 (lnB l (N - 2))).2.1 p N (bfV b) (bhV b a) (bfV c) (kWW P p 1 (lnB l (N - 2))).1 (kWW P p 1 (lnB l (N - 2))).2.2 l := by
    have e0 : cBnd P p 0 l = cBnW (cBnA P p 0 (lnB l (((lnW l).length : Int) - 2))).2.1 p ((lnW l).length : Int) (bnF l 98) (bnH l) (bnF l 99) (cBnA P p 0 (lnB l (((lnW l).length : Int) - 2))).1 (cBnA P p 0 (lnB l (((lnW l).length : Int) - 2))).2.2 l := if_neg (fun c => by
      rcases c with c | c
      · exact qf ⟨hN.symm.trans c.1, c.2⟩
      · exact absurd c.1 (by decide))
    rw [e0, hN, ← f2, ← f3, ← f4]
    rfl
  rw [eB]
  have hre := x_reach (fb := fb) (d := d + 1) (thr := 1) hP hX (by omega) hp hlv hC (w := N - 2) ⟨by omega, by omega⟩ one_o (by decide) (Or.inr rfl)
  have hkw := KF_kWW (thr := 1) (wd := lnB l (N - 2)) hX.1.2.2.2.1.iv hX.1.2.2.2.2.2.2 hp
  have hpt := kWW_pt (thr := 1) (wd := lnB l (N - 2)) hX.1.2.2.2.1.iv hp
  obtain ⟨A, hA⟩ : ∃ A, kWW P p 1 (lnB l (N - 2)) = A := ⟨_, rfl⟩
  rw [hA] at hre hkw hpt hG1 hG2 ⊢
  obtain ⟨e, Q, c1⟩ := A
  dsimp only at hkw hre hpt hG1 hG2 ⊢
  obtain ⟨hkf, hr0⟩ := hkw
  have hlQ : ¬ Q 2320 p = 0 := XW.lv hkf hlv
  unfold cBnW
  -- the flags
  have hgoF : ∀ {Qf : Option AV → hM → Prop}, WP fb (d + 11) 171 17 [some (vR (some 2175)), some (vR (some (prO p))), some (vR (some kk)), none, none] [vI (fV b a c)] σ Qf → WP fb (d + 11) 171 0 [some (vR (some 2175)), some (vR (some (prO p))), some (vR (some kk)), none, none] [] σ Qf := fun {Qf} hQ => by
    rcases hN2 with q | q
    · have e3 : fV b a c = 0 := by rw [← f1, if_neg (by omega)]
      rw [e3] at hQ
      obtain ⟨pr, hpr⟩ : ∃ q, prO p = q := ⟨_, rfl⟩
      rw [hpr] at hpo hQ ⊢
      refine x_lr (z := some kk) T_171_0 rfl ?_
      refine x_gI (z := N) T_171_1 (Or.inl F_16_4) (hP.o hko) (Eq.trans (hP.gi hko (key := 2516) rfl) h5) ?_
      refine x_ic T_171_4 ?_
      refine x_ic2 T_171_5 (fun _ => ?_) (fun h => absurd (show ¬ N = 4 by omega) h)
      refine x_ic T_171_16 ?_
      exact hQ
    · have hfl := hfl q
      rw [show flW (lnB l 1) = fV b a c by rw [← f1, if_pos q]] at hfl
      obtain ⟨pr, hpr⟩ : ∃ q, prO p = q := ⟨_, rfl⟩
      rw [hpr] at hpo hQ ⊢
      refine x_lr (z := some kk) T_171_0 rfl ?_
      refine x_gI (z := N) T_171_1 (Or.inl F_16_4) (hP.o hko) (Eq.trans (hP.gi hko (key := 2516) rfl) h5) ?_
      refine x_ic T_171_4 ?_
      refine x_ic2 T_171_5 (fun h => absurd (show ¬ N = 4 from h) (by omega)) (fun _ => ?_)
      refine x_lr (z := some kk) T_171_8 rfl ?_
      refine x_ic T_171_9 ?_
      refine x_cv2 T_171_10 mN_172 mL_172 (Nat.le_of_ble_eq_true rfl) mO_172 (hP.o hko) (Nat.le_of_ble_eq_true rfl) (hfl) ?_
      rintro _ σ ⟨rfl, rfl⟩
      refine cI ?_
      refine x_goto T_171_13 ?_
      exact hQ
  have hrr := fV_rng (b := b) (a := a) (c := c)
  by_cases q : e = 0
  rotate_left
  · rw [if_pos (show 0 < e by omega)]
    have h17 : WP fb (d + 11) 171 17 [some (vR (some 2175)), some (vR (some (prO p))), some (vR (some kk)), none, none] [vI (fV b a c)] σ (XCM σ0 K (T + 656) U W R (e, Q, [])) := by
      obtain ⟨F, hF⟩ : ∃ F, fV b a c = F := ⟨_, rfl⟩
      rw [hF] at hrr ⊢
      obtain ⟨pr, hpr⟩ : ∃ q, prO p = q := ⟨_, rfl⟩
      rw [hpr] at hpo hre ⊢
      refine x_si (ls1 := [some (vR (some 2175)), some (vR (some pr)), some (vR (some kk)), some (vI F), none]) T_171_17 rfl ?_
      refine x_lr (z := some kk) T_171_18 rfl ?_
      refine x_gI (z := N) T_171_19 (Or.inl F_16_4) (hP.o hko) (Eq.trans (hP.gi hko (key := 2516) rfl) h5) ?_
      refine x_ic T_171_22 ?_
      refine x_ic2 T_171_23 (fun h => absurd (show N < 3 from h) (by omega)) (fun _ => ?_)
      refine x_lr (z := some kk) T_171_26 rfl ?_
      refine x_gI (z := N) T_171_27 (Or.inl F_16_4) (hP.o hko) (Eq.trans (hP.gi hko (key := 2516) rfl) h5) ?_
      refine x_ic T_171_30 ?_
      refine x_ic2 T_171_31 (fun h => absurd (show 4 < N from h) (by omega)) (fun _ => ?_)
      refine x_li (z := F) T_171_34 rfl ?_
      refine x_ic T_171_35 ?_
      refine x_ic2 T_171_36 (fun _ => ?_) (fun h => absurd (show ¬ F = (-1) by omega) h)
      refine x_lr (z := some 2175) T_171_42 rfl ?_
      refine x_gR (z := some 129) T_171_43 F_14_0 (hP.o xo_2175) (hP.rc xo_2175 rfl rfl) ?_
      refine x_lr (z := some pr) T_171_46 rfl ?_
      refine x_lr (z := some kk) T_171_47 rfl ?_
      refine x_lr (z := some kk) T_171_48 rfl ?_
      refine x_gI (z := N) T_171_49 (Or.inl F_16_4) (hP.o hko) (Eq.trans (hP.gi hko (key := 2516) rfl) h5) ?_
      refine x_ic T_171_52 ?_
      refine x_ib (w := (N - 2)) T_171_53 (fun h => absurd h.1 (by decide)) (w32_id (by omega) (by omega)) ?_
      refine x_lr (z := some 2175) T_171_54 rfl ?_
      refine x_gR (z := some 2178) T_171_55 F_14_2 (hP.o xo_2175) (hP.rc xo_2175 rfl rfl) ?_
      refine x_ic T_171_58 ?_
      refine x_cv6 T_171_59 mN_117 mL_117 (Nat.le_of_ble_eq_true rfl) mO_117 (hP.o xo_129) (Nat.le_of_ble_eq_true rfl) (hre) ?_
      clear hP hre
      rintro _ σ ⟨rfl, V, V3, hP, hXV, -, hFV⟩
      refine cI ?_
      refine x_si (ls1 := [some (vR (some 2175)), some (vR (some pr)), some (vR (some kk)), some (vI F), some (vI e)]) T_171_62 rfl ?_
      refine x_li (z := e) T_171_64 rfl ?_
      refine x_if T_171_66 (fun _ => ?_) (fun h => absurd (show ¬ e = 0 by omega) h)
      refine x_li (z := e) T_171_78 rfl ?_
      refine x_si (ls1 := [some (vR (some 2175)), some (vR (some pr)), some (vR (some kk)), some (vI F), some (vI e)]) T_171_80 rfl ?_
      refine x_li (z := e) T_171_82 rfl ?_
      refine x_if T_171_84 (fun _ => ?_) (fun h => absurd (show ¬ e = 0 by omega) h)
      refine x_li (z := e) T_171_99 rfl ?_
      refine x_ri T_171_101 ?_
      exact ⟨rfl, V, V3, hP, XW.mono hXV (by omega), FCM_fk hFV (by decide)⟩
    have hgo := hgoF h17
    obtain ⟨pr, hpr⟩ : ∃ q, prO p = q := ⟨_, rfl⟩
    rw [hpr] at hgo ⊢
    refine CL_in mL_171 rfl ?_
    show WP fb _ 171 0 [some (vR (some 2175)), some (vR (some pr)), some (vR (some kk)), none, none] [] σ _
    exact hgo
  subst q
  rw [if_neg (show ¬ (0 : Int) < 0 by decide)]
  have hr2 := fun (σ : hM) (V : qR) (V3 : rR) (hP : PX σ0 V V3 σ) (hXV : XW K (T + 300) U V V3 Q) (h1 : CHX V V3 2178 c1) (r1 : chR c1) (hF : FK 2178 W V R V3) => x_reachTwo (fb := fb) (d := d + 1) hP hXV (by omega) hp hlQ (hC.fcm (FCM_fk hF (by decide))) hN (by omega) h1 r1
  have hkw2 := fun (V : qR) (V3 : rR) (hXV : XW K (T + 300) U V V3 Q) => KF_kWW (thr := 0) (wd := lnB l (N - 1)) hXV.1.2.2.2.1.iv hXV.1.2.2.2.2.2.2 hp
  obtain ⟨A2, hA2⟩ : ∃ A, kWW Q p 0 (lnB l (N - 1)) = A := ⟨_, rfl⟩
  simp only [hA2] at hr2 hkw2 hG2 ⊢
  obtain ⟨e2, Q2, c2⟩ := A2
  dsimp only at hr2 hkw2 hG2 ⊢
  have l3f := fun (V : qR) (V3 : rR) (hX : XW K (T + 600) U V V3 Q2) (hkf2 : KF Q2 Q) => ((hX.1.2.2.1.1 p hp.1 hp.2).2.2.2 (XW.lv hkf2 hlQ)).2.2.1
  by_cases q4 : e2 = 0
  rotate_left
  · have hfin : 0 ≤ e2 → (if 0 < e2 then (e2, Q2, [c1]) else cBn2 Q2 p N (bfV b) (bhV b a) (bfV c) c1 c2) = (e2, Q2, [c1]) := fun h => if_pos (by omega)
    have hfin2 : ∀ (V : qR) (V3 : rR), XW K (T + 300) U V V3 Q → (if 0 < e2 then (e2, Q2, [c1]) else cBn2 Q2 p N (bfV b) (bhV b a) (bfV c) c1 c2) = (e2, Q2, [c1]) := fun V V3 h => hfin (hkw2 V V3 h).2
    obtain ⟨B, hB⟩ : ∃ B, (if 0 < e2 then (e2, Q2, [c1]) else cBn2 Q2 p N (bfV b) (bhV b a) (bfV c) c1 c2) = B := ⟨_, rfl⟩
    rw [hB]
    simp only [hB] at hfin2
    have h17 : WP fb (d + 11) 171 17 [some (vR (some 2175)), some (vR (some (prO p))), some (vR (some kk)), none, none] [vI (fV b a c)] σ (XCM σ0 K (T + 656) U W R B) := by
      obtain ⟨F, hF⟩ : ∃ F, fV b a c = F := ⟨_, rfl⟩
      rw [hF] at hrr ⊢
      obtain ⟨pr, hpr⟩ : ∃ q, prO p = q := ⟨_, rfl⟩
      rw [hpr] at hpo hre ⊢
      simp only [hpr] at hr2
      refine x_si (ls1 := [some (vR (some 2175)), some (vR (some pr)), some (vR (some kk)), some (vI F), none]) T_171_17 rfl ?_
      refine x_lr (z := some kk) T_171_18 rfl ?_
      refine x_gI (z := N) T_171_19 (Or.inl F_16_4) (hP.o hko) (Eq.trans (hP.gi hko (key := 2516) rfl) h5) ?_
      refine x_ic T_171_22 ?_
      refine x_ic2 T_171_23 (fun h => absurd (show N < 3 from h) (by omega)) (fun _ => ?_)
      refine x_lr (z := some kk) T_171_26 rfl ?_
      refine x_gI (z := N) T_171_27 (Or.inl F_16_4) (hP.o hko) (Eq.trans (hP.gi hko (key := 2516) rfl) h5) ?_
      refine x_ic T_171_30 ?_
      refine x_ic2 T_171_31 (fun h => absurd (show 4 < N from h) (by omega)) (fun _ => ?_)
      refine x_li (z := F) T_171_34 rfl ?_
      refine x_ic T_171_35 ?_
      refine x_ic2 T_171_36 (fun _ => ?_) (fun h => absurd (show ¬ F = (-1) by omega) h)
      refine x_lr (z := some 2175) T_171_42 rfl ?_
      refine x_gR (z := some 129) T_171_43 F_14_0 (hP.o xo_2175) (hP.rc xo_2175 rfl rfl) ?_
      refine x_lr (z := some pr) T_171_46 rfl ?_
      refine x_lr (z := some kk) T_171_47 rfl ?_
      refine x_lr (z := some kk) T_171_48 rfl ?_
      refine x_gI (z := N) T_171_49 (Or.inl F_16_4) (hP.o hko) (Eq.trans (hP.gi hko (key := 2516) rfl) h5) ?_
      refine x_ic T_171_52 ?_
      refine x_ib (w := (N - 2)) T_171_53 (fun h => absurd h.1 (by decide)) (w32_id (by omega) (by omega)) ?_
      refine x_lr (z := some 2175) T_171_54 rfl ?_
      refine x_gR (z := some 2178) T_171_55 F_14_2 (hP.o xo_2175) (hP.rc xo_2175 rfl rfl) ?_
      refine x_ic T_171_58 ?_
      refine x_cv6 T_171_59 mN_117 mL_117 (Nat.le_of_ble_eq_true rfl) mO_117 (hP.o xo_129) (Nat.le_of_ble_eq_true rfl) (hre) ?_
      clear hP hre
      rintro _ σ ⟨rfl, V, V3, hP, hXV, hq, hFV⟩
      obtain ⟨⟨hch, hcr⟩, -⟩ := hq rfl
      have hr2 := hr2 σ V V3 hP hXV hch hcr hFV
      refine cI ?_
      refine x_si (ls1 := [some (vR (some 2175)), some (vR (some pr)), some (vR (some kk)), some (vI F), some (vI 0)]) T_171_62 rfl ?_
      refine x_li (z := 0) T_171_64 rfl ?_
      refine x_if T_171_66 (fun h => absurd (show ¬ (0 : Int) = 0 from h) (by decide)) (fun _ => ?_)
      refine x_lr (z := some 2175) T_171_69 rfl ?_
      refine x_lr (z := some pr) T_171_70 rfl ?_
      refine x_lr (z := some kk) T_171_71 rfl ?_
      refine x_cv3 T_171_72 mN_173 mL_173 (Nat.le_of_ble_eq_true rfl) mO_173 (hP.o xo_2175) (Nat.le_of_ble_eq_true rfl) (hr2) ?_
      clear hP hr2
      rintro _ σ ⟨rfl, V5, V6, hP, hF6, -, hX6⟩
      have hX6 := hX6 q4
      refine cI ?_
      refine x_goto T_171_75 ?_
      refine x_si (ls1 := [some (vR (some 2175)), some (vR (some pr)), some (vR (some kk)), some (vI F), some (vI e2)]) T_171_80 rfl ?_
      refine x_li (z := e2) T_171_82 rfl ?_
      refine x_if T_171_84 (fun _ => ?_) (fun h => absurd (show ¬ e2 = 0 by omega) h)
      refine x_li (z := e2) T_171_99 rfl ?_
      refine x_ri T_171_101 ?_
      rw [hfin2 V V3 hXV]
      exact ⟨rfl, V5, V6, hP, XW.mono hX6 (by omega), FCM_tr (FCM_fk hFV (by decide)) (FCM_fk hF6 (by decide))⟩
    have hgo := hgoF h17
    obtain ⟨pr, hpr⟩ : ∃ q, prO p = q := ⟨_, rfl⟩
    rw [hpr] at hgo ⊢
    refine CL_in mL_171 rfl ?_
    show WP fb _ 171 0 [some (vR (some 2175)), some (vR (some pr)), some (vR (some kk)), none, none] [] σ _
    exact hgo
  · subst q4
    rw [if_neg (show ¬ (0 : Int) < 0 by decide)]
    obtain ⟨o1, o2⟩ := hG1 rfl
    obtain ⟨o3, o4⟩ := hG2 rfl
    obtain ⟨g, hg⟩ : ∃ g, Q2 2323 p = g := ⟨_, rfl⟩
    simp only [hg] at l3f
    have hpl := fun (σ : hM) (V : qR) (V3 : rR) (hP : PX σ0 V V3 σ) (hX6 : XW K (T + 600) U V V3 Q2) (hkf2 : KF Q2 Q) (h1 : CHX V V3 2178 c1) (r1 : chR c1) (h2 : CHX V V3 2179 c2) (r2 : chR c2) => x_place (fb := fb) (d := d) (N := N) (b := b) (a := a) (c := c) hP hX6 hp hg (by omega) h1 r1 h2 r2 (o1.mono (by omega)) o3 (hpt.fk (KF_tr hkf2 hkf)) o2 o4 f5
    have hgRf := fun (V : qR) (V3 : rR) (hX : XW K (T + 600) U V V3 Q2) => (IV.a hX.1.2.2.2.1.iv 2323 0 8 rfl rfl rfl hp.1 hp.2 : 0 ≤ Q2 2323 p ∧ Q2 2323 p ≤ 7)
    simp only [hg] at hgRf
    have hgof := fun (h : 0 ≤ g ∧ g ≤ 7) => grO_o (g := g) ⟨h.1, by omega⟩
    obtain ⟨B, hB⟩ : ∃ B, cBn2 Q2 p N (bfV b) (bhV b a) (bfV c) c1 c2 = B := ⟨_, rfl⟩
    simp only [hB] at hpl ⊢
    obtain ⟨b1, b2, b3⟩ := B
    have h17 : WP fb (d + 11) 171 17 [some (vR (some 2175)), some (vR (some (prO p))), some (vR (some kk)), none, none] [vI (fV b a c)] σ (XCM σ0 K (T + 656) U W R (b1, b2, b3)) := by
      obtain ⟨F, hF⟩ : ∃ F, fV b a c = F := ⟨_, rfl⟩
      simp only [hF] at hrr hpl ⊢
      obtain ⟨ga, hga⟩ : ∃ q, grO g = q := ⟨_, rfl⟩
      obtain ⟨pr, hpr⟩ : ∃ q, prO p = q := ⟨_, rfl⟩
      rw [hpr] at hre hpo
      simp only [hpr, hga] at hr2 hpl l3f hgof ⊢
      refine x_si (ls1 := [some (vR (some 2175)), some (vR (some pr)), some (vR (some kk)), some (vI F), none]) T_171_17 rfl ?_
      refine x_lr (z := some kk) T_171_18 rfl ?_
      refine x_gI (z := N) T_171_19 (Or.inl F_16_4) (hP.o hko) (Eq.trans (hP.gi hko (key := 2516) rfl) h5) ?_
      refine x_ic T_171_22 ?_
      refine x_ic2 T_171_23 (fun h => absurd (show N < 3 from h) (by omega)) (fun _ => ?_)
      refine x_lr (z := some kk) T_171_26 rfl ?_
      refine x_gI (z := N) T_171_27 (Or.inl F_16_4) (hP.o hko) (Eq.trans (hP.gi hko (key := 2516) rfl) h5) ?_
      refine x_ic T_171_30 ?_
      refine x_ic2 T_171_31 (fun h => absurd (show 4 < N from h) (by omega)) (fun _ => ?_)
      refine x_li (z := F) T_171_34 rfl ?_
      refine x_ic T_171_35 ?_
      refine x_ic2 T_171_36 (fun _ => ?_) (fun h => absurd (show ¬ F = (-1) by omega) h)
      refine x_lr (z := some 2175) T_171_42 rfl ?_
      refine x_gR (z := some 129) T_171_43 F_14_0 (hP.o xo_2175) (hP.rc xo_2175 rfl rfl) ?_
      refine x_lr (z := some pr) T_171_46 rfl ?_
      refine x_lr (z := some kk) T_171_47 rfl ?_
      refine x_lr (z := some kk) T_171_48 rfl ?_
      refine x_gI (z := N) T_171_49 (Or.inl F_16_4) (hP.o hko) (Eq.trans (hP.gi hko (key := 2516) rfl) h5) ?_
      refine x_ic T_171_52 ?_
      refine x_ib (w := (N - 2)) T_171_53 (fun h => absurd h.1 (by decide)) (w32_id (by omega) (by omega)) ?_
      refine x_lr (z := some 2175) T_171_54 rfl ?_
      refine x_gR (z := some 2178) T_171_55 F_14_2 (hP.o xo_2175) (hP.rc xo_2175 rfl rfl) ?_
      refine x_ic T_171_58 ?_
      refine x_cv6 T_171_59 mN_117 mL_117 (Nat.le_of_ble_eq_true rfl) mO_117 (hP.o xo_129) (Nat.le_of_ble_eq_true rfl) (hre) ?_
      clear hP hre
      rintro _ σ ⟨rfl, V, V3, hP, hXV, hq, hFV⟩
      obtain ⟨⟨hch, hcr⟩, -⟩ := hq rfl
      have hr2 := hr2 σ V V3 hP hXV hch hcr hFV
      refine cI ?_
      refine x_si (ls1 := [some (vR (some 2175)), some (vR (some pr)), some (vR (some kk)), some (vI F), some (vI 0)]) T_171_62 rfl ?_
      refine x_li (z := 0) T_171_64 rfl ?_
      refine x_if T_171_66 (fun h => absurd (show ¬ (0 : Int) = 0 from h) (by decide)) (fun _ => ?_)
      refine x_lr (z := some 2175) T_171_69 rfl ?_
      refine x_lr (z := some pr) T_171_70 rfl ?_
      refine x_lr (z := some kk) T_171_71 rfl ?_
      refine x_cv3 T_171_72 mN_173 mL_173 (Nat.le_of_ble_eq_true rfl) mO_173 (hP.o xo_2175) (Nat.le_of_ble_eq_true rfl) (hr2) ?_
      clear hP hr2
      rintro _ σ ⟨rfl, V5, V6, hP, hF6, hX6, -⟩
      obtain ⟨hX6, z1, z2, z3⟩ := hX6 (by trivial)
      have hX6 := hX6.mono (T2 := T + 600) (by omega)
      have l3 := l3f V5 V6 hX6 (hkw2 V V3 hXV).1
      have hgo3 := hgof (hgRf V5 V6 hX6)
      have hpl := hpl σ V5 V6 hP hX6 (hkw2 V V3 hXV).1 z1 hcr z2 z3
      refine cI ?_
      refine x_goto T_171_75 ?_
      refine x_si (ls1 := [some (vR (some 2175)), some (vR (some pr)), some (vR (some kk)), some (vI F), some (vI 0)]) T_171_80 rfl ?_
      refine x_li (z := 0) T_171_82 rfl ?_
      refine x_if T_171_84 (fun h => absurd (show ¬ (0 : Int) = 0 from h) (by decide)) (fun _ => ?_)
      refine x_lr (z := some 2175) T_171_87 rfl ?_
      refine x_lr (z := some pr) T_171_88 rfl ?_
      refine x_gR (z := some ga) T_171_89 F_6_9 (hP.o hpo) (Eq.trans (hP.rm hpo rfl (key := 2201) rfl) l3) ?_
      refine x_li (z := F) T_171_92 rfl ?_
      refine x_cv3 T_171_93 mN_174 mL_174 (Nat.le_of_ble_eq_true rfl) mO_174 (hP.o xo_2175) (Nat.le_of_ble_eq_true rfl) (hpl) ?_
      clear hP hpl
      rintro _ σ ⟨rfl, V7, V8, hP, hX8, hF8⟩
      refine cI ?_
      refine x_goto T_171_96 ?_
      refine x_ri T_171_101 ?_
      exact ⟨rfl, V7, V8, hP, XW.mono hX8 (by omega), FCM_tr (FCM_fk hFV (by decide)) (FCM_tr (FCM_fk hF6 (by decide)) hF8)⟩
    have hgo := hgoF h17
    obtain ⟨pr, hpr⟩ : ∃ q, prO p = q := ⟨_, rfl⟩
    rw [hpr] at hgo ⊢
    refine CL_in mL_171 rfl ?_
    show WP fb _ 171 0 [some (vR (some 2175)), some (vR (some pr)), some (vR (some kk)), none, none] [] σ _
    exact hgo
theorem x_bind18 (hP : PX σ0 W R σ) (hp : 0 ≤ p ∧ p < 8) (hC : CMD W kk l) (hN : ((lnW l).length : Int) = N) (hN2 : ¬ (3 ≤ N ∧ N ≤ 4)) : CL fb (d + 11) 171 [vR (some 2175), vR (some (prO p)), vR (some kk)] σ (rP 18 σ) := by
  have hk := hC.1
  have h5 := hC.2.2.2.2.1.trans hN
  obtain ⟨pr, hpr⟩ : ∃ q, prO p = q := ⟨_, rfl⟩
  rw [hpr]
  by_cases q : N < 3
  · skip
    refine CL_in mL_171 rfl ?_
    show WP fb _ 171 0 [some (vR (some 2175)), some (vR (some pr)), some (vR (some kk)), none, none] [] σ _
    refine x_lr (z := some kk) T_171_0 rfl ?_
    refine x_gI (z := N) T_171_1 (Or.inl F_16_4) (hP.o hk) (Eq.trans (hP.gi hk (key := 2516) rfl) h5) ?_
    refine x_ic T_171_4 ?_
    refine x_ic2 T_171_5 (fun _ => ?_) (fun h => absurd (show ¬ N = 4 by omega) h)
    refine x_ic T_171_16 ?_
    refine x_si (ls1 := [some (vR (some 2175)), some (vR (some pr)), some (vR (some kk)), some (vI 0), none]) T_171_17 rfl ?_
    refine x_lr (z := some kk) T_171_18 rfl ?_
    refine x_gI (z := N) T_171_19 (Or.inl F_16_4) (hP.o hk) (Eq.trans (hP.gi hk (key := 2516) rfl) h5) ?_
    refine x_ic T_171_22 ?_
    refine x_ic2 T_171_23 (fun _ => ?_) (fun h => absurd (show N < 3 by omega) h)
    refine x_ic T_171_39 ?_
    refine x_ri T_171_41 ?_
    exact ⟨rfl, rfl⟩
  · skip
    refine CL_in mL_171 rfl ?_
    show WP fb _ 171 0 [some (vR (some 2175)), some (vR (some pr)), some (vR (some kk)), none, none] [] σ _
    refine x_lr (z := some kk) T_171_0 rfl ?_
    refine x_gI (z := N) T_171_1 (Or.inl F_16_4) (hP.o hk) (Eq.trans (hP.gi hk (key := 2516) rfl) h5) ?_
    refine x_ic T_171_4 ?_
    refine x_ic2 T_171_5 (fun _ => ?_) (fun h => absurd (show ¬ N = 4 by omega) h)
    refine x_ic T_171_16 ?_
    refine x_si (ls1 := [some (vR (some 2175)), some (vR (some pr)), some (vR (some kk)), some (vI 0), none]) T_171_17 rfl ?_
    refine x_lr (z := some kk) T_171_18 rfl ?_
    refine x_gI (z := N) T_171_19 (Or.inl F_16_4) (hP.o hk) (Eq.trans (hP.gi hk (key := 2516) rfl) h5) ?_
    refine x_ic T_171_22 ?_
    refine x_ic2 T_171_23 (fun h => absurd (show N < 3 from h) (by omega)) (fun _ => ?_)
    refine x_lr (z := some kk) T_171_26 rfl ?_
    refine x_gI (z := N) T_171_27 (Or.inl F_16_4) (hP.o hk) (Eq.trans (hP.gi hk (key := 2516) rfl) h5) ?_
    refine x_ic T_171_30 ?_
    refine x_ic2 T_171_31 (fun _ => ?_) (fun h => absurd (show 4 < N by omega) h)
    refine x_ic T_171_39 ?_
    refine x_ri T_171_41 ?_
    exact ⟨rfl, rfl⟩
end XBNM
