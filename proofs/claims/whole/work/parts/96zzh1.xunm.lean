/-! The class's commands: the last word's file, too; unmount. -/
theorem T_173_0 : hTab 173 0 = some ((3, 0, 2, []), 1) := rfl
theorem T_173_1 : hTab 173 1 = some ((24, 14, Int.ofNat 0, []), 4) := rfl
theorem T_173_4 : hTab 173 4 = some ((3, 1, 2, []), 5) := rfl
theorem T_173_5 : hTab 173 5 = some ((3, 2, 2, []), 6) := rfl
theorem T_173_6 : hTab 173 6 = some ((3, 2, 2, []), 7) := rfl
theorem T_173_7 : hTab 173 7 = some ((24, 16, Int.ofNat 4, []), 10) := rfl
theorem T_173_10 : hTab 173 10 = some ((0, 0, 1, []), 11) := rfl
theorem T_173_11 : hTab 173 11 = some ((10, 1, 0, []), 12) := rfl
theorem T_173_12 : hTab 173 12 = some ((31, 118, 0, []), 15) := rfl
theorem T_173_15 : hTab 173 15 = some ((4, 3, 0, []), 16) := rfl
theorem T_173_16 : hTab 173 16 = some ((3, 3, 0, []), 17) := rfl
theorem T_173_17 : hTab 173 17 = some ((18, 1, Int.ofNat 41, []), 20) := rfl
theorem T_173_20 : hTab 173 20 = some ((3, 0, 2, []), 21) := rfl
theorem T_173_21 : hTab 173 21 = some ((24, 14, Int.ofNat 0, []), 24) := rfl
theorem T_173_24 : hTab 173 24 = some ((3, 1, 2, []), 25) := rfl
theorem T_173_25 : hTab 173 25 = some ((3, 0, 2, []), 26) := rfl
theorem T_173_26 : hTab 173 26 = some ((24, 14, Int.ofNat 3, []), 29) := rfl
theorem T_173_29 : hTab 173 29 = some ((3, 0, 2, []), 30) := rfl
theorem T_173_30 : hTab 173 30 = some ((24, 14, Int.ofNat 0, []), 33) := rfl
theorem T_173_33 : hTab 173 33 = some ((24, 1, Int.ofNat 6, []), 36) := rfl
theorem T_173_36 : hTab 173 36 = some ((0, 0, 0, []), 37) := rfl
theorem T_173_37 : hTab 173 37 = some ((31, 121, 0, []), 40) := rfl
theorem T_173_40 : hTab 173 40 = some ((4, 3, 0, []), 41) := rfl
theorem T_173_41 : hTab 173 41 = some ((3, 3, 0, []), 42) := rfl
theorem T_173_42 : hTab 173 42 = some ((18, 0, Int.ofNat 57, []), 45) := rfl
theorem T_173_45 : hTab 173 45 = some ((3, 0, 2, []), 46) := rfl
theorem T_173_46 : hTab 173 46 = some ((24, 14, Int.ofNat 0, []), 49) := rfl
theorem T_173_49 : hTab 173 49 = some ((3, 0, 2, []), 50) := rfl
theorem T_173_50 : hTab 173 50 = some ((24, 14, Int.ofNat 2, []), 53) := rfl
theorem T_173_53 : hTab 173 53 = some ((31, 132, 0, []), 56) := rfl
theorem T_173_56 : hTab 173 56 = some ((7, 0, 0, []), 57) := rfl
theorem T_173_57 : hTab 173 57 = some ((3, 3, 0, []), 58) := rfl
theorem T_173_58 : hTab 173 58 = some ((33, 1, 0, []), 59) := rfl
theorem T_182_45 : hTab 182 45 = some ((3, 2, 2, []), 46) := rfl
theorem T_182_46 : hTab 182 46 = some ((20, 0, Int.ofNat 134, []), 49) := rfl
theorem T_182_49 : hTab 182 49 = some ((3, 3, 0, []), 50) := rfl
theorem T_182_50 : hTab 182 50 = some ((3, 2, 2, []), 51) := rfl
theorem T_182_51 : hTab 182 51 = some ((24, 4, Int.ofNat 3, []), 54) := rfl
theorem T_182_54 : hTab 182 54 = some ((19, 3, Int.ofNat 134, []), 57) := rfl
theorem T_182_57 : hTab 182 57 = some ((3, 2, 2, []), 58) := rfl
theorem T_182_58 : hTab 182 58 = some ((3, 3, 0, []), 59) := rfl
theorem T_182_59 : hTab 182 59 = some ((31, 130, 0, []), 62) := rfl
theorem T_182_62 : hTab 182 62 = some ((4, 4, 2, []), 64) := rfl
theorem T_182_64 : hTab 182 64 = some ((3, 4, 2, []), 66) := rfl
theorem T_182_66 : hTab 182 66 = some ((20, 0, Int.ofNat 128, []), 69) := rfl
theorem T_182_69 : hTab 182 69 = some ((3, 4, 2, []), 71) := rfl
theorem T_182_71 : hTab 182 71 = some ((24, 5, Int.ofNat 0, []), 74) := rfl
theorem T_182_74 : hTab 182 74 = some ((3, 0, 2, []), 75) := rfl
theorem T_182_75 : hTab 182 75 = some ((24, 14, Int.ofNat 2, []), 78) := rfl
theorem T_182_78 : hTab 182 78 = some ((24, 5, Int.ofNat 0, []), 81) := rfl
theorem T_182_81 : hTab 182 81 = some ((19, 1, Int.ofNat 128, []), 84) := rfl
theorem T_182_84 : hTab 182 84 = some ((3, 4, 2, []), 86) := rfl
theorem T_182_86 : hTab 182 86 = some ((24, 5, Int.ofNat 2, []), 89) := rfl
theorem T_182_89 : hTab 182 89 = some ((3, 0, 2, []), 90) := rfl
theorem T_182_90 : hTab 182 90 = some ((24, 14, Int.ofNat 2, []), 93) := rfl
theorem T_182_93 : hTab 182 93 = some ((24, 5, Int.ofNat 2, []), 96) := rfl
theorem T_182_96 : hTab 182 96 = some ((19, 1, Int.ofNat 128, []), 99) := rfl
theorem T_182_128 : hTab 182 128 = some ((5, 3, 1, []), 131) := rfl
theorem T_182_131 : hTab 182 131 = some ((22, 0, Int.ofNat 45, []), 134) := rfl
theorem F_14_3 : (hFd 14 3).2.2.1 = 4 := rfl
theorem mN_173 : hmN 173 = 3 := by decide +kernel
theorem mL_173 : hmL 173 = 4 := by decide +kernel
theorem mK_173 : hmK 173 = 1 := by decide +kernel
theorem mO_173 : hmO 173 = 14 := by decide +kernel
theorem mN_182 : hmN 182 = 2 := by decide +kernel
theorem mL_182 : hmL 182 = 5 := by decide +kernel
theorem mK_182 : hmK 182 = 1 := by decide +kernel
theorem mO_182 : hmO 182 = 14 := by decide +kernel
section XUNM
variable {fb : Bool} {d b c n a0 y0 ga : Nat} {σ0 σ : hM} {W W1 W2 V P Q : qR} {R R1 R2 V3 : rR} {i j k x z v s e w f g u p pt pa sv K T U t N C : Int} {l l0 lo nm M A wd : List Int} {c1 c2 ch : Ch} {kk : Nat} {n0 : Int}
theorem CHX.fk2 (h : CHX W R c ch) (hF : FK b W W2 R R2) (hc2 : 2175 ≤ c) (hc : c < 2281) (hb : 2175 ≤ b) (hne : c ≠ b) (hp : ch.2.2.2.2 < 64) : CHX W2 R2 c ch := by
  obtain ⟨a1, a2, a3, a4, a5⟩ := h
  have hw := fun (k : Int) (hk : k ≠ 2198) => hF.1 c k hne (Or.inr ⟨hc2, by omega⟩) hk
  refine ⟨(hw _ (by decide)).trans a1, (hw _ (by decide)).trans a2, (hw _ (by decide)).trans a3, (hw _ (by decide)).trans a4, ((hF.2 _ _ hne (Or.inr hc2)).trans a5).trans ?_⟩
  by_cases q : ch.2.2.2.2 < 0
  · rw [if_pos q, if_pos q]
  · rw [if_neg q, if_neg q]
    have hr := grO_rng (g := ch.2.2.2.2 / 8) ⟨by omega, by omega⟩
    exact (hF.2 _ _ (by omega) (Or.inl (by omega))).symm
theorem two_o : tX 2179 = some (Sum.inl 5) := rfl
/-- a channel is clunked -/
theorem x_clunkC (hP : PX σ0 W R σ) (hX : XW K T U W R P) (hT : T + 110 ≤ 2147483000) (hc : tX c = some (Sum.inl 5)) (h : CHX W R c ch) (hr : chR ch) : CL fb (d + 8) 132 [vR (some 129), vR (some c)] σ (XE σ0 K (T + 4) U W R (tE P ch.1 (mOne 120 ch.2.1)) (kDrop P ch)) := x_clunkK hP hX hT hc h.1 h.2.1 hr.1 hr.2.1
/-- the last word's file is reached, by channel two; at an error channel one goes -/
theorem x_reachTwo (hP : PX σ0 W R σ) (hX : XW K T U W R P) (hT : T + 1200 ≤ 2147483000) (hp : 0 ≤ p ∧ p < 8) (hlv : ¬ P 2320 p = 0) (hC : CMD W kk l) (hN : ((lnW l).length : Int) = N) (hN0 : 1 ≤ N) (hch : CHX W R 2178 c1) (hcr : chR c1) : CL fb (d + 9) 173 [vR (some 2175), vR (some (prO p)), vR (some kk)] σ (fun r σ' => r = some (vI (kWW P p 0 (lnB l (N - 1))).1) ∧ ∃ W2 R2, PX σ0 W2 R2 σ' ∧ FK 2179 W W2 R R2 ∧ ((kWW P p 0 (lnB l (N - 1))).1 = 0 → XW K (T + 300) U W2 R2 (kWW P p 0 (lnB l (N - 1))).2.1 ∧ CHX W2 R2 2178 c1 ∧ CHX W2 R2 2179 (kWW P p 0 (lnB l (N - 1))).2.2 ∧ chR (kWW P p 0 (lnB l (N - 1))).2.2) ∧ (¬ (kWW P p 0 (lnB l (N - 1))).1 = 0 → XW K (T + 304) U W2 R2 (kDrop (kWW P p 0 (lnB l (N - 1))).2.1 c1))) := by
  obtain ⟨hrd, hr1⟩ := x_rd (fb := fb) (d := d + 6) (w := N - 1) hP hX hp hlv hC ⟨by omega, by omega⟩
  have eK : kWW P p 0 (lnB l (N - 1)) = if 0 < paE (paRaw P p (lnB l (N - 1))) then (paE (paRaw P p (lnB l (N - 1))), P, c0) else kWalk P p (paO (paRaw P p (lnB l (N - 1)))) 0 (paM (paRaw P p (lnB l (N - 1)))) := rfl
  obtain ⟨raw, hraw⟩ : ∃ q, paRaw P p (lnB l (N - 1)) = q := ⟨_, rfl⟩
  rw [hraw] at hrd hr1 eK
  have hpo := prO_o hp
  have h5 := hC.2.2.2.2.1.trans hN
  have hN50 : N ≤ 50 := by
    have := (lnW_ok hC.2.2.2.1.2.2.2.2.1).2
    omega
  have hml : (paM raw).length = (paN raw).length := List.length_map ..
  have hwk := fun (σ : hM) (V : qR) (hP : PX σ0 V R σ) (hF : RPF W V) (h : V 129 2049 = paO raw ∧ BY V 145 161 raw ∧ NQ V (paN raw) ∧ BY V 136 60 (paL raw)) (h10 : (paN raw).length ≤ 10) (hor : paO raw = -1 ∨ (0 ≤ paO raw ∧ paO raw < 3)) => x_walk (fb := fb) (d := d) (c := 2179) (nms := paM raw) (most := ((paM raw).length : Int)) (thr := 0) hP (hX.rpf hF) (by have : (paM raw).length = (paN raw).length := List.length_map ..; omega) hp hlv two_o (by decide) (Or.inl rfl) rfl (n := ((paM raw).length : Int)) (by rw [h.2.2.1.1]; unfold paM; rw [List.length_map]) (by have : (paM raw).length = (paN raw).length := List.length_map ..; omega) h.2.1 (paN_nms h.2.1 hr1 h.2.2.1) h.1 hor
  have hor : paE raw = 0 → (paN raw).length ≤ 10 ∧ (paO raw = -1 ∨ (0 ≤ paO raw ∧ paO raw < 3)) := fun h0 => by
    unfold paE at h0
    by_cases q : lg raw 0 = 35 ∧ (¬ (2 ≤ raw.length ∧ 48 ≤ lg raw 1 ∧ lg raw 1 ≤ 50) ∨ (3 ≤ raw.length ∧ ¬ lg raw 2 = 47))
    · rw [if_pos q] at h0; omega
    · rw [if_neg q] at h0
      by_cases q2 : 10 < (paN raw).length
      · rw [if_pos q2] at h0; omega
      · refine ⟨by omega, ?_⟩
        unfold paO
        by_cases q3 : lg raw 0 = 35
        · rw [if_pos q3]
          have := Classical.not_not.mp (fun c => q ⟨q3, Or.inl c⟩)
          omega
        · rw [if_neg q3]
          exact Or.inl rfl
  have hee : 0 ≤ paE raw := by unfold paE; (repeat' split) <;> decide
  have hww0 := (KF_kWW (thr := 0) (wd := lnB l (N - 1)) hX.1.2.2.2.1.iv hX.1.2.2.2.2.2.2 hp).2
  have hck := fun (σ : hM) (V : qR) (V4 : rR) (B : qR) (T2 : Int) (hP : PX σ0 V V4 σ) (hX : XW K T2 U V V4 B) (hT2 : T2 ≤ T + 300) (hF : FK 2179 W V R V4) => x_clunkC (fb := fb) (d := d) (ch := c1) hP hX (by omega) one_o (hch.fk2 hF (by decide) (by decide) (by decide) (by decide) hcr.2.2) hcr
  obtain ⟨pr, hpr⟩ : ∃ q, prO p = q := ⟨_, rfl⟩
  rw [hpr] at hrd hpo
  simp only [hpr] at hwk
  rw [hpr]
  obtain ⟨nn, hnn⟩ : ∃ q : Int, ((paM raw).length : Int) = q := ⟨_, rfl⟩
  simp only [hnn] at hwk
  obtain ⟨A, hA⟩ : ∃ A, kWalk P p (paO raw) 0 (paM raw) = A := ⟨_, rfl⟩
  simp only [hA] at hwk
  rw [hA] at eK
  obtain ⟨e, he⟩ : ∃ q, paE raw = q := ⟨_, rfl⟩
  rw [he] at hor hee eK
  unfold XRP at hrd
  rw [he] at hrd
  by_cases q : e = 0
  · subst q
    rw [if_neg (by decide)] at eK
    rw [eK] at hww0 ⊢
    obtain ⟨h10, hor⟩ := hor rfl
    obtain ⟨a1, a2, a3⟩ := A
    by_cases q1 : a1 = 0
    · subst q1
      refine CL_in mL_173 rfl ?_
      show WP fb _ 173 0 [some (vR (some 2175)), some (vR (some pr)), some (vR (some kk)), none] [] σ _
      refine x_lr (z := some 2175) T_173_0 rfl ?_
      refine x_gR (z := some 129) T_173_1 F_14_0 (hP.o xo_2175) (hP.rc xo_2175 rfl rfl) ?_
      refine x_lr (z := some pr) T_173_4 rfl ?_
      refine x_lr (z := some kk) T_173_5 rfl ?_
      refine x_lr (z := some kk) T_173_6 rfl ?_
      refine x_gI (z := N) T_173_7 (Or.inl F_16_4) (hP.o hC.1) (Eq.trans (hP.gi hC.1 (key := 2516) rfl) h5) ?_
      refine x_ic T_173_10 ?_
      refine x_ib (w := (N - 1)) T_173_11 (fun h => absurd h.1 (by decide)) (w32_id (by omega) (by omega)) ?_
      refine x_cv4 T_173_12 mN_118 mL_118 (Nat.le_of_ble_eq_true rfl) mO_118 (hP.o xo_129) (Nat.le_of_ble_eq_true rfl) (hrd) ?_
      clear hP hrd
      rintro _ σ ⟨rfl, V, hP, hF, hq⟩
      have hq := hq rfl
      have hn0 : V 129 2038 = nn := by rw [hq.2.2.1.1, ← hnn, hml]
      refine cI ?_
      refine x_si (ls1 := [some (vR (some 2175)), some (vR (some pr)), some (vR (some kk)), some (vI 0)]) T_173_15 rfl ?_
      refine x_li (z := 0) T_173_16 rfl ?_
      refine x_if T_173_17 (fun h => absurd (show ¬ (0 : Int) = 0 from h) (by decide)) (fun _ => ?_)
      refine x_lr (z := some 2175) T_173_20 rfl ?_
      refine x_gR (z := some 129) T_173_21 F_14_0 (hP.o xo_2175) (hP.rc xo_2175 rfl rfl) ?_
      refine x_lr (z := some pr) T_173_24 rfl ?_
      refine x_lr (z := some 2175) T_173_25 rfl ?_
      refine x_gR (z := some 2179) T_173_26 F_14_3 (hP.o xo_2175) (hP.rc xo_2175 rfl rfl) ?_
      refine x_lr (z := some 2175) T_173_29 rfl ?_
      refine x_gR (z := some 129) T_173_30 F_14_0 (hP.o xo_2175) (hP.rc xo_2175 rfl rfl) ?_
      refine x_gI (z := nn) T_173_33 (Or.inl F_1_6) (hP.o xo_129) (Eq.trans (hP.gi xo_129 (key := 2038) rfl) hn0) ?_
      refine x_ic T_173_36 ?_
      refine x_cv5 T_173_37 mN_121 mL_121 (Nat.le_of_ble_eq_true rfl) mO_121 (hP.o xo_129) (Nat.le_of_ble_eq_true rfl) (hwk σ V hP hF hq h10 hor) ?_
      clear hP hwk
      rintro _ σ ⟨rfl, W3, R3, hP, hX3, hC3, hF3⟩
      obtain ⟨hC3, hC4⟩ := hC3 rfl
      have hFK : FK 2179 W W3 R R3 := FK_tr (FK_rpf hF) (FK_fc hF3)
      refine cI ?_
      refine x_si (ls1 := [some (vR (some 2175)), some (vR (some pr)), some (vR (some kk)), some (vI 0)]) T_173_40 rfl ?_
      refine x_li (z := 0) T_173_41 rfl ?_
      refine x_if T_173_42 (fun _ => ?_) (fun h => absurd (show (0 : Int) = 0 by decide) h)
      refine x_li (z := 0) T_173_57 rfl ?_
      refine x_ri T_173_58 ?_
      exact ⟨rfl, W3, R3, hP, hFK, fun _ => ⟨XW.mono hX3 (by omega), hch.fk2 hFK (by decide) (by decide) (by decide) (by decide) hcr.2.2, hC3, hC4⟩, fun c => absurd rfl c⟩
    · skip
      refine CL_in mL_173 rfl ?_
      show WP fb _ 173 0 [some (vR (some 2175)), some (vR (some pr)), some (vR (some kk)), none] [] σ _
      refine x_lr (z := some 2175) T_173_0 rfl ?_
      refine x_gR (z := some 129) T_173_1 F_14_0 (hP.o xo_2175) (hP.rc xo_2175 rfl rfl) ?_
      refine x_lr (z := some pr) T_173_4 rfl ?_
      refine x_lr (z := some kk) T_173_5 rfl ?_
      refine x_lr (z := some kk) T_173_6 rfl ?_
      refine x_gI (z := N) T_173_7 (Or.inl F_16_4) (hP.o hC.1) (Eq.trans (hP.gi hC.1 (key := 2516) rfl) h5) ?_
      refine x_ic T_173_10 ?_
      refine x_ib (w := (N - 1)) T_173_11 (fun h => absurd h.1 (by decide)) (w32_id (by omega) (by omega)) ?_
      refine x_cv4 T_173_12 mN_118 mL_118 (Nat.le_of_ble_eq_true rfl) mO_118 (hP.o xo_129) (Nat.le_of_ble_eq_true rfl) (hrd) ?_
      clear hP hrd
      rintro _ σ ⟨rfl, V, hP, hF, hq⟩
      have hq := hq rfl
      have hn0 : V 129 2038 = nn := by rw [hq.2.2.1.1, ← hnn, hml]
      refine cI ?_
      refine x_si (ls1 := [some (vR (some 2175)), some (vR (some pr)), some (vR (some kk)), some (vI 0)]) T_173_15 rfl ?_
      refine x_li (z := 0) T_173_16 rfl ?_
      refine x_if T_173_17 (fun h => absurd (show ¬ (0 : Int) = 0 from h) (by decide)) (fun _ => ?_)
      refine x_lr (z := some 2175) T_173_20 rfl ?_
      refine x_gR (z := some 129) T_173_21 F_14_0 (hP.o xo_2175) (hP.rc xo_2175 rfl rfl) ?_
      refine x_lr (z := some pr) T_173_24 rfl ?_
      refine x_lr (z := some 2175) T_173_25 rfl ?_
      refine x_gR (z := some 2179) T_173_26 F_14_3 (hP.o xo_2175) (hP.rc xo_2175 rfl rfl) ?_
      refine x_lr (z := some 2175) T_173_29 rfl ?_
      refine x_gR (z := some 129) T_173_30 F_14_0 (hP.o xo_2175) (hP.rc xo_2175 rfl rfl) ?_
      refine x_gI (z := nn) T_173_33 (Or.inl F_1_6) (hP.o xo_129) (Eq.trans (hP.gi xo_129 (key := 2038) rfl) hn0) ?_
      refine x_ic T_173_36 ?_
      refine x_cv5 T_173_37 mN_121 mL_121 (Nat.le_of_ble_eq_true rfl) mO_121 (hP.o xo_129) (Nat.le_of_ble_eq_true rfl) (hwk σ V hP hF hq h10 hor) ?_
      clear hP hwk
      rintro _ σ ⟨rfl, W3, R3, hP, hX3, hC3, hF3⟩
      have hFK : FK 2179 W W3 R R3 := FK_tr (FK_rpf hF) (FK_fc hF3)
      have hck := hck σ W3 R3 a2 (T + 292) hP (XW.mono hX3 (by omega)) (by omega) hFK
      obtain ⟨e2, he2⟩ : ∃ q, tE a2 c1.1 (mOne 120 c1.2.1) = q := ⟨_, rfl⟩
      rw [he2] at hck
      refine cI ?_
      refine x_si (ls1 := [some (vR (some 2175)), some (vR (some pr)), some (vR (some kk)), some (vI a1)]) T_173_40 rfl ?_
      refine x_li (z := a1) T_173_41 rfl ?_
      refine x_if T_173_42 (fun h => absurd (show a1 = 0 from h) (by omega)) (fun _ => ?_)
      refine x_lr (z := some 2175) T_173_45 rfl ?_
      refine x_gR (z := some 129) T_173_46 F_14_0 (hP.o xo_2175) (hP.rc xo_2175 rfl rfl) ?_
      refine x_lr (z := some 2175) T_173_49 rfl ?_
      refine x_gR (z := some 2178) T_173_50 F_14_2 (hP.o xo_2175) (hP.rc xo_2175 rfl rfl) ?_
      refine x_cv2 T_173_53 mN_132 mL_132 (Nat.le_of_ble_eq_true rfl) mO_132 (hP.o xo_129) (Nat.le_of_ble_eq_true rfl) (hck) ?_
      clear hP hck
      rintro _ σ ⟨rfl, W4, R4, hP, hX4, hF4⟩
      refine cI ?_
      refine x_popI T_173_56 ?_
      refine x_li (z := a1) T_173_57 rfl ?_
      refine x_ri T_173_58 ?_
      exact ⟨rfl, W4, R4, hP, FK_tr hFK (FK_fa hF4), fun c => absurd c q1, fun _ => XW.mono hX4 (by omega)⟩
  · rw [if_pos (by omega)] at eK
    rw [eK]
    refine CL_in mL_173 rfl ?_
    show WP fb _ 173 0 [some (vR (some 2175)), some (vR (some pr)), some (vR (some kk)), none] [] σ _
    refine x_lr (z := some 2175) T_173_0 rfl ?_
    refine x_gR (z := some 129) T_173_1 F_14_0 (hP.o xo_2175) (hP.rc xo_2175 rfl rfl) ?_
    refine x_lr (z := some pr) T_173_4 rfl ?_
    refine x_lr (z := some kk) T_173_5 rfl ?_
    refine x_lr (z := some kk) T_173_6 rfl ?_
    refine x_gI (z := N) T_173_7 (Or.inl F_16_4) (hP.o hC.1) (Eq.trans (hP.gi hC.1 (key := 2516) rfl) h5) ?_
    refine x_ic T_173_10 ?_
    refine x_ib (w := (N - 1)) T_173_11 (fun h => absurd h.1 (by decide)) (w32_id (by omega) (by omega)) ?_
    refine x_cv4 T_173_12 mN_118 mL_118 (Nat.le_of_ble_eq_true rfl) mO_118 (hP.o xo_129) (Nat.le_of_ble_eq_true rfl) (hrd) ?_
    clear hP hrd
    rintro _ σ ⟨rfl, V, hP, hF, hq⟩
    have hFK : FK 2179 W V R R := FK_rpf hF
    have hck := hck σ V R P T hP (hX.rpf hF) (by omega) hFK
    obtain ⟨e2, he2⟩ : ∃ q, tE P c1.1 (mOne 120 c1.2.1) = q := ⟨_, rfl⟩
    rw [he2] at hck
    refine cI ?_
    refine x_si (ls1 := [some (vR (some 2175)), some (vR (some pr)), some (vR (some kk)), some (vI e)]) T_173_15 rfl ?_
    refine x_li (z := e) T_173_16 rfl ?_
    refine x_if T_173_17 (fun _ => ?_) (fun h => absurd (show ¬ e = 0 by omega) h)
    refine x_li (z := e) T_173_41 rfl ?_
    refine x_if T_173_42 (fun h => absurd (show e = 0 from h) (by omega)) (fun _ => ?_)
    refine x_lr (z := some 2175) T_173_45 rfl ?_
    refine x_gR (z := some 129) T_173_46 F_14_0 (hP.o xo_2175) (hP.rc xo_2175 rfl rfl) ?_
    refine x_lr (z := some 2175) T_173_49 rfl ?_
    refine x_gR (z := some 2178) T_173_50 F_14_2 (hP.o xo_2175) (hP.rc xo_2175 rfl rfl) ?_
    refine x_cv2 T_173_53 mN_132 mL_132 (Nat.le_of_ble_eq_true rfl) mO_132 (hP.o xo_129) (Nat.le_of_ble_eq_true rfl) (hck) ?_
    clear hP hck
    rintro _ σ ⟨rfl, W4, R4, hP, hX4, hF4⟩
    refine cI ?_
    refine x_popI T_173_56 ?_
    refine x_li (z := e) T_173_57 rfl ?_
    refine x_ri T_173_58 ?_
    exact ⟨rfl, W4, R4, hP, FK_tr hFK (FK_fa hF4), fun c => absurd c q, fun _ => XW.mono hX4 (by omega)⟩
theorem unm_find (hP : PX σ0 W R σ) (hga : tX ga = some (Sum.inl 3)) (hPM : PTM W R y0 P pt) (hn : P 2337 pt = n0) (hn6 : 0 ≤ n0 ∧ n0 ≤ 6) (hs1 : W 2178 2160 = sv) (hs2 : W 2178 2162 = pa) {Q : Option AV → hM → Prop} (h134 : unJ P pt sv pa n0.toNat 0 = n0 → ∀ x4, WP fb (d + 9) 182 134 [some (vR (some 2175)), some (vR (some ga)), some (vR (some y0)), some (vI n0), x4] [] σ Q) (h99 : ∀ (j : Int) (cc : Nat), unJ P pt sv pa n0.toNat 0 = j → 0 ≤ j → j < n0 → R (y0 + 1) j = some cc → tX cc = some (Sum.inl 5) → MBC W P cc (6 * pt + j) → WP fb (d + 9) 182 99 [some (vR (some 2175)), some (vR (some ga)), some (vR (some y0)), some (vI j), some (vR (some cc))] [] σ Q) : ∀ (m : Nat) (j : Int) (x4 : Option AV), j + m = n0 → 0 ≤ j → unJ P pt sv pa n0.toNat 0 = unJ P pt sv pa m j → WP fb (d + 9) 182 45 [some (vR (some 2175)), some (vR (some ga)), some (vR (some y0)), some (vI j), x4] [] σ Q := by
  obtain ⟨hyo, hya, hyr, hyc, hym⟩ := hPM
  have hyc := hyc.trans hn
  intro m
  induction m with
  | zero =>
    intro j x4 h1 h2 hu
    have h1 : j + ((0 : Nat) : Int) = n0 := h1
    have hj : j = n0 := by omega
    subst hj
    have hgo := h134 hu x4
    refine x_lr (z := some y0) T_182_45 rfl ?_
    refine x_nul T_182_46 (fun h0 => absurd h0 (by simp)) (fun _ _ => ?_)
    refine x_li (z := j) T_182_49 rfl ?_
    refine x_lr (z := some y0) T_182_50 rfl ?_
    refine x_gI (z := j) T_182_51 (Or.inl F_4_3) (hP.o hyo) (Eq.trans (hP.gi hyo (key := 2131) rfl) hyc) ?_
    refine x_ic2 T_182_54 (fun _ => ?_) (fun h => absurd (show j ≤ j by omega) h)
    exact hgo
  | succ m ih =>
    intro j x4 h1 h2 hu
    obtain ⟨cc, k1, k2, k3, k4⟩ := hym j h2 (by omega)
    have hmo := x_memberOf (fb := fb) (d := d + 8) (k := j) hP hyo hya (by omega) hyc hn6 (fun _ _ => k1)
    rw [if_pos ⟨h2, by omega⟩] at hmo
    have h99 := fun hu => h99 j cc hu h2 (by omega) k1 k2 k4
    obtain ⟨m1, m2, m3, m4, m5⟩ := k4
    have eU : unJ P pt sv pa (m + 1) j = if P 2338 (6 * pt + j) = sv ∧ P 2340 (6 * pt + j) = pa then j else unJ P pt sv pa m (j + 1) := rfl
    rw [eU] at hu
    obtain ⟨z1, hz1⟩ : ∃ q, P 2338 (6 * pt + j) = q := ⟨_, rfl⟩
    obtain ⟨z2, hz2⟩ : ∃ q, P 2340 (6 * pt + j) = q := ⟨_, rfl⟩
    rw [hz1] at m1 hu
    rw [hz2] at m3 hu
    by_cases q1 : z1 = sv
    · by_cases q2 : z2 = pa
      · rw [if_pos ⟨q1, q2⟩] at hu
        have hgo := h99 hu
        refine x_lr (z := some y0) T_182_45 rfl ?_
        refine x_nul T_182_46 (fun h0 => absurd h0 (by simp)) (fun _ _ => ?_)
        refine x_li (z := j) T_182_49 rfl ?_
        refine x_lr (z := some y0) T_182_50 rfl ?_
        refine x_gI (z := n0) T_182_51 (Or.inl F_4_3) (hP.o hyo) (Eq.trans (hP.gi hyo (key := 2131) rfl) hyc) ?_
        refine x_ic2 T_182_54 (fun h => absurd (show n0 ≤ j from h) (by omega)) (fun _ => ?_)
        refine x_lr (z := some y0) T_182_57 rfl ?_
        refine x_li (z := j) T_182_58 rfl ?_
        refine x_cv2 T_182_59 mN_130 mL_130 (Nat.le_of_ble_eq_true rfl) mO_130 (hP.o hyo) (Nat.le_of_ble_eq_true rfl) (hmo) ?_
        rintro _ σ ⟨rfl, rfl⟩
        refine cR ?_
        refine x_sr (ls1 := [some (vR (some 2175)), some (vR (some ga)), some (vR (some y0)), some (vI j), some (vR (some cc))]) T_182_62 rfl ?_
        refine x_lr (z := some cc) T_182_64 rfl ?_
        refine x_nul T_182_66 (fun h0 => absurd h0 (by simp)) (fun _ _ => ?_)
        refine x_lr (z := some cc) T_182_69 rfl ?_
        refine x_gI (z := z1) T_182_71 (Or.inl F_5_0) (hP.o k2) (Eq.trans (hP.gi k2 (key := 2160) rfl) m1) ?_
        refine x_lr (z := some 2175) T_182_74 rfl ?_
        refine x_gR (z := some 2178) T_182_75 F_14_2 (hP.o xo_2175) (hP.rc xo_2175 rfl rfl) ?_
        refine x_gI (z := sv) T_182_78 (Or.inl F_5_0) (hP.o xo_2178) (Eq.trans (hP.gi xo_2178 (key := 2160) rfl) hs1) ?_
        refine x_ic2 T_182_81 (fun h => absurd (show ¬ z1 = sv from h) (by omega)) (fun _ => ?_)
        refine x_lr (z := some cc) T_182_84 rfl ?_
        refine x_gI (z := z2) T_182_86 (Or.inl F_5_2) (hP.o k2) (Eq.trans (hP.gi k2 (key := 2162) rfl) m3) ?_
        refine x_lr (z := some 2175) T_182_89 rfl ?_
        refine x_gR (z := some 2178) T_182_90 F_14_2 (hP.o xo_2175) (hP.rc xo_2175 rfl rfl) ?_
        refine x_gI (z := pa) T_182_93 (Or.inl F_5_2) (hP.o xo_2178) (Eq.trans (hP.gi xo_2178 (key := 2162) rfl) hs2) ?_
        refine x_ic2 T_182_96 (fun h => absurd (show ¬ z2 = pa from h) (by omega)) (fun _ => ?_)
        exact hgo
      · rw [if_neg (fun c => q2 c.2)] at hu
        have hgo := ih (j + 1) (some (vR (some cc))) (by omega) (by omega) hu
        refine x_lr (z := some y0) T_182_45 rfl ?_
        refine x_nul T_182_46 (fun h0 => absurd h0 (by simp)) (fun _ _ => ?_)
        refine x_li (z := j) T_182_49 rfl ?_
        refine x_lr (z := some y0) T_182_50 rfl ?_
        refine x_gI (z := n0) T_182_51 (Or.inl F_4_3) (hP.o hyo) (Eq.trans (hP.gi hyo (key := 2131) rfl) hyc) ?_
        refine x_ic2 T_182_54 (fun h => absurd (show n0 ≤ j from h) (by omega)) (fun _ => ?_)
        refine x_lr (z := some y0) T_182_57 rfl ?_
        refine x_li (z := j) T_182_58 rfl ?_
        refine x_cv2 T_182_59 mN_130 mL_130 (Nat.le_of_ble_eq_true rfl) mO_130 (hP.o hyo) (Nat.le_of_ble_eq_true rfl) (hmo) ?_
        rintro _ σ ⟨rfl, rfl⟩
        refine cR ?_
        refine x_sr (ls1 := [some (vR (some 2175)), some (vR (some ga)), some (vR (some y0)), some (vI j), some (vR (some cc))]) T_182_62 rfl ?_
        refine x_lr (z := some cc) T_182_64 rfl ?_
        refine x_nul T_182_66 (fun h0 => absurd h0 (by simp)) (fun _ _ => ?_)
        refine x_lr (z := some cc) T_182_69 rfl ?_
        refine x_gI (z := z1) T_182_71 (Or.inl F_5_0) (hP.o k2) (Eq.trans (hP.gi k2 (key := 2160) rfl) m1) ?_
        refine x_lr (z := some 2175) T_182_74 rfl ?_
        refine x_gR (z := some 2178) T_182_75 F_14_2 (hP.o xo_2175) (hP.rc xo_2175 rfl rfl) ?_
        refine x_gI (z := sv) T_182_78 (Or.inl F_5_0) (hP.o xo_2178) (Eq.trans (hP.gi xo_2178 (key := 2160) rfl) hs1) ?_
        refine x_ic2 T_182_81 (fun h => absurd (show ¬ z1 = sv from h) (by omega)) (fun _ => ?_)
        refine x_lr (z := some cc) T_182_84 rfl ?_
        refine x_gI (z := z2) T_182_86 (Or.inl F_5_2) (hP.o k2) (Eq.trans (hP.gi k2 (key := 2162) rfl) m3) ?_
        refine x_lr (z := some 2175) T_182_89 rfl ?_
        refine x_gR (z := some 2178) T_182_90 F_14_2 (hP.o xo_2175) (hP.rc xo_2175 rfl rfl) ?_
        refine x_gI (z := pa) T_182_93 (Or.inl F_5_2) (hP.o xo_2178) (Eq.trans (hP.gi xo_2178 (key := 2162) rfl) hs2) ?_
        refine x_ic2 T_182_96 (fun _ => ?_) (fun h => absurd (show ¬ z2 = pa by omega) h)
        refine x_inc (w := (j + 1)) (ls1 := [some (vR (some 2175)), some (vR (some ga)), some (vR (some y0)), some (vI (j + 1)), some (vR (some cc))]) T_182_128 rfl (w32_id (by omega) (by omega)) rfl ?_
        refine x_goto T_182_131 ?_
        exact hgo
    · rw [if_neg (fun c => q1 c.1)] at hu
      have hgo := ih (j + 1) (some (vR (some cc))) (by omega) (by omega) hu
      refine x_lr (z := some y0) T_182_45 rfl ?_
      refine x_nul T_182_46 (fun h0 => absurd h0 (by simp)) (fun _ _ => ?_)
      refine x_li (z := j) T_182_49 rfl ?_
      refine x_lr (z := some y0) T_182_50 rfl ?_
      refine x_gI (z := n0) T_182_51 (Or.inl F_4_3) (hP.o hyo) (Eq.trans (hP.gi hyo (key := 2131) rfl) hyc) ?_
      refine x_ic2 T_182_54 (fun h => absurd (show n0 ≤ j from h) (by omega)) (fun _ => ?_)
      refine x_lr (z := some y0) T_182_57 rfl ?_
      refine x_li (z := j) T_182_58 rfl ?_
      refine x_cv2 T_182_59 mN_130 mL_130 (Nat.le_of_ble_eq_true rfl) mO_130 (hP.o hyo) (Nat.le_of_ble_eq_true rfl) (hmo) ?_
      rintro _ σ ⟨rfl, rfl⟩
      refine cR ?_
      refine x_sr (ls1 := [some (vR (some 2175)), some (vR (some ga)), some (vR (some y0)), some (vI j), some (vR (some cc))]) T_182_62 rfl ?_
      refine x_lr (z := some cc) T_182_64 rfl ?_
      refine x_nul T_182_66 (fun h0 => absurd h0 (by simp)) (fun _ _ => ?_)
      refine x_lr (z := some cc) T_182_69 rfl ?_
      refine x_gI (z := z1) T_182_71 (Or.inl F_5_0) (hP.o k2) (Eq.trans (hP.gi k2 (key := 2160) rfl) m1) ?_
      refine x_lr (z := some 2175) T_182_74 rfl ?_
      refine x_gR (z := some 2178) T_182_75 F_14_2 (hP.o xo_2175) (hP.rc xo_2175 rfl rfl) ?_
      refine x_gI (z := sv) T_182_78 (Or.inl F_5_0) (hP.o xo_2178) (Eq.trans (hP.gi xo_2178 (key := 2160) rfl) hs1) ?_
      refine x_ic2 T_182_81 (fun _ => ?_) (fun h => absurd (show ¬ z1 = sv by omega) h)
      refine x_inc (w := (j + 1)) (ls1 := [some (vR (some 2175)), some (vR (some ga)), some (vR (some y0)), some (vI (j + 1)), some (vR (some cc))]) T_182_128 rfl (w32_id (by omega) (by omega)) rfl ?_
      refine x_goto T_182_131 ?_
      exact hgo
end XUNM
