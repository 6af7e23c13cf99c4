/-! The class's shell: a for and a SCRIPT go on. -/
theorem T_101_78 : hTab 101 78 = some ((0, 0, 0, []), 79) := rfl
theorem T_101_84 : hTab 101 84 = some ((3, 2, 2, []), 85) := rfl
theorem T_101_85 : hTab 101 85 = some ((24, 16, Int.ofNat 5, []), 88) := rfl
theorem T_101_88 : hTab 101 88 = some ((0, 0, 24, []), 90) := rfl
theorem T_101_90 : hTab 101 90 = some ((19, 1, Int.ofNat 111, []), 93) := rfl
theorem T_101_93 : hTab 101 93 = some ((3, 0, 2, []), 94) := rfl
theorem T_101_94 : hTab 101 94 = some ((3, 1, 2, []), 95) := rfl
theorem T_101_95 : hTab 101 95 = some ((3, 2, 2, []), 96) := rfl
theorem T_101_96 : hTab 101 96 = some ((31, 102, 0, []), 99) := rfl
theorem T_101_99 : hTab 101 99 = some ((18, 1, Int.ofNat 106, []), 102) := rfl
theorem T_101_102 : hTab 101 102 = some ((0, 0, 1, []), 103) := rfl
theorem T_101_103 : hTab 101 103 = some ((22, 0, Int.ofNat 107, []), 106) := rfl
theorem T_101_106 : hTab 101 106 = some ((0, 0, 0, []), 107) := rfl
theorem T_101_107 : hTab 101 107 = some ((4, 3, 0, []), 108) := rfl
theorem T_101_108 : hTab 101 108 = some ((22, 0, Int.ofNat 129, []), 111) := rfl
theorem T_101_115 : hTab 101 115 = some ((3, 0, 2, []), 116) := rfl
theorem T_101_116 : hTab 101 116 = some ((3, 2, 2, []), 117) := rfl
theorem T_101_117 : hTab 101 117 = some ((31, 109, 0, []), 120) := rfl
theorem T_101_120 : hTab 101 120 = some ((18, 1, Int.ofNat 127, []), 123) := rfl
theorem T_101_123 : hTab 101 123 = some ((0, 0, 1, []), 124) := rfl
theorem T_101_124 : hTab 101 124 = some ((22, 0, Int.ofNat 128, []), 127) := rfl
theorem T_101_127 : hTab 101 127 = some ((0, 0, 0, []), 128) := rfl
theorem T_101_128 : hTab 101 128 = some ((4, 3, 0, []), 129) := rfl
section XSH8
variable {fb : Bool} {d b k n : Nat} {σ0 σ : hM} {W W1 W2 V V0 V2 V3 P Q : qR} {R : rR} {i j x z v s e p D pl N w nx bd E u K T U a c ex mu kd pos : Int} {l sc lo wd src L L2 t ss : List Int} {y : Nat} {ar : Option (List Int)} {fs : List Fr} {fr : Fr}
theorem XST.top (hk : cmO (fs.length : Int) = k) (h : XST K T U W R P (fr :: fs) c v z) (hn : fs.length < 12) (hX : XW K T U V R Q) (hw : ∀ (x : Nat) (j : Int), 2191 ≤ x → (x < k ∨ (2275 ≤ x ∧ x ≤ 2276)) → V x j = W x j) (hD : V 2187 2482 = W 2187 2482) (hc : V 2187 2483 = W 2187 2483) (h4 : V 2187 2484 = e) (h5 : V 2187 2485 = w) {f2 : Fr} (hf : 0 ≤ f2.1 ∧ f2.1 ≤ 3) (hF : FRX V k f2) : XST K T U V R Q (f2 :: fs) c e w := by
  obtain ⟨-, ⟨-, hFS⟩, h1, h2, -, -⟩ := h
  have ek : cmO (fs.length : Int) = 2191 + 7 * fs.length := by unfold cmO; omega
  rw [hk] at ek
  exact ⟨hX, ⟨⟨hf, by rw [hk]; exact hF⟩, hFS.eqv (fun x j a b => hw x j a (by omega))⟩, hD.trans h1, hc.trans h2, h4, h5⟩
theorem x_resW (hP : PX σ0 W R σ) (hS : XST K T U W R P ((2, t, pos, mu, ss) :: fs) c 0 0) (hn : fs.length < 12) (hp : 0 ≤ p ∧ p < 8) (hlv : ¬ P 2320 p = 0) (hdy : P 2321 p = 0) (hf : foK t) (hr : 3 ≤ pos ∧ pos ≤ pdO t) : CL fb (d + 4) 101 [vR (some 2187), vR (some (prO p))] σ (fun r σ' => r = none ∧ ∃ V, PX σ0 V R σ' ∧ (((pos = pdO t ∨ 20 < (lnB t pos).length) ∧ XST K T U V R P fs c (if pos = pdO t then 0 else 18) 0) ∨ (¬ pos = pdO t ∧ ¬ 20 < (lnB t pos).length ∧ XST K T U V R (gVar P p (lg (lnB t 1) 0 - 97) (lnB t pos)) ((2, t, pos + 1, 0, []) :: fs) c 0 1 ∧ WTX V 1 (jnS t (pdO t + 1))))) := by
  have hD : W 2187 2482 = (fs.length : Int) + 1 := hS.2.2.1
  have he : W 2187 2484 = 0 := hS.2.2.2.2.1
  have hw : W 2187 2485 = 0 := hS.2.2.2.2.2
  have hdw : W (prO p) 2198 = 0 := (hS.dyg hp).trans hdy
  obtain ⟨hC, hkd, hps, hbd, hmu, -⟩ := hS.2.1.1.2
  have hkd : W (cmO (fs.length : Int)) 2517 = 24 := hkd
  have hps : W (cmO (fs.length : Int)) 2518 = pos := hps (show (2 : Int) ≤ 2 by decide)
  have hbd : W (cmO (fs.length : Int)) 2519 = pdO t + 1 := hbd rfl
  have hmu : W (cmO (fs.length : Int)) 2520 = 0 := hmu
  have hC : CMD W (cmO (fs.length : Int)) t := hC
  have hpo := prO_o hp
  have hpr2 := prO_rng hp
  have ho := cmO_o (i := (fs.length : Int)) ⟨by omega, by omega⟩
  have hkr := cmO_rng (i := (fs.length : Int)) ⟨by omega, by omega⟩
  have hfv := foK_v hf
  have hll := hC.2.2.2.1.2.2.2.2.1
  have h50 := (lnW_ok hll).2
  obtain ⟨k, hk⟩ : ∃ q, cmO (fs.length : Int) = q := ⟨_, rfl⟩
  rw [hk] at hmu hkd ho hkr hps hbd hC
  refine res_51 (D := (fs.length : Int) + 1) hP hD ⟨by omega, by omega⟩ (by rw [show (fs.length : Int) + 1 - 1 = (fs.length : Int) by omega]; exact hk) hmu he (fun σ V0 hP hF hm0 he0 => ?_)
  have he0 : V0 2187 2484 = 0 := he0
  have hkd0 : V0 k 2517 = 24 := (hF _ _ (fun c => by omega) (fun c => by omega)).trans hkd
  have hps0 : V0 k 2518 = pos := (hF _ _ (fun c => by omega) (fun c => by omega)).trans hps
  have hbd0 : V0 k 2519 = pdO t + 1 := (hF _ _ (fun c => by omega) (fun c => by omega)).trans hbd
  have hdy0 : V0 (prO p) 2198 = 0 := (hF _ _ (fun c => by omega) (fun c => by omega)).trans hdw
  have hD0 : V0 2187 2482 = (fs.length : Int) + 1 := (hF _ _ (fun c => by omega) (fun c => by omega)).trans hD
  have hw0 : V0 2187 2485 = 0 := (hF _ _ (fun c => by omega) (fun c => by omega)).trans hw
  have hC0 : CMD V0 k t := hC.fsl hF.fsl
  have hX0 : XW K T U V0 R P := hS.1.fsl hF.fsl ⟨by omega, by omega⟩
  have h129 := fun (σ : hM) (V : qR) (e : Int) (hP : PX σ0 V R σ) (hF : FSL k W V) (he : V 2187 2484 = e) (hD : V 2187 2482 = (fs.length : Int) + 1) (hw : V 2187 2485 = 0) (Q : Option AV → hM → Prop) (hQ : ∀ (σ : hM) (V2 : qR), PX σ0 V2 R σ → XST K T U V2 R P fs c e 0 → Q none σ) => res_129 (fb := fb) (d := d) (k := k) (pr := prO p) (Q := Q) hP hD ⟨by omega, by omega⟩ (fun σ hP => by
    rw [show (fs.length : Int) + 1 - 1 = (fs.length : Int) by omega] at hP
    exact hQ σ _ hP (hS.pop hk hn hF he hw))
  by_cases q1 : pos = pdO t
  · have hnw := x_nextWord0 (fb := fb) (d := d) (p := p) hP ho (hps0.trans q1) hbd0 ⟨by omega, by omega⟩
    have hgo := h129 σ V0 0 hP hF.fsl he0 hD0 hw0 (fun r σ' => r = none ∧ ∃ V, PX σ0 V R σ' ∧ (((pos = pdO t ∨ 20 < (lnB t pos).length) ∧ XST K T U V R P fs c (if pos = pdO t then 0 else 18) 0) ∨ (¬ pos = pdO t ∧ ¬ 20 < (lnB t pos).length ∧ XST K T U V R (gVar P p (lg (lnB t 1) 0 - 97) (lnB t pos)) ((2, t, pos + 1, 0, []) :: fs) c 0 1 ∧ WTX V 1 (jnS t (pdO t + 1))))) (fun σ V2 hP hX => ⟨rfl, V2, hP, Or.inl ⟨Or.inl q1, by rw [if_pos q1]; exact hX⟩⟩)
    obtain ⟨pr, hpr⟩ : ∃ q, prO p = q := ⟨_, rfl⟩
    rw [hpr] at hnw hpo hdy0 hgo ⊢
    refine x_lr (z := some k) T_101_51 rfl ?_
    refine x_gI (z := 24) T_101_52 (Or.inl F_16_5) (hP.o ho) (Eq.trans (hP.gi ho (key := 2517) rfl) hkd0) ?_
    refine x_ic T_101_55 ?_
    refine x_ic2 T_101_57 (fun h => absurd (show (24 : Int) = 23 from h) (by decide)) (fun _ => ?_)
    refine x_lr (z := some 2187) T_101_60 rfl ?_
    refine x_gI (z := 0) T_101_61 (Or.inl F_15_4) (hP.o xo_2187) (Eq.trans (hP.gi xo_2187 (key := 2484) rfl) he0) ?_
    refine x_if T_101_64 (fun h => absurd (show ¬ (0 : Int) = 0 from h) (by decide)) (fun _ => ?_)
    refine x_lr (z := some pr) T_101_67 rfl ?_
    refine x_gI (z := 0) T_101_68 (Or.inr (Or.inl F_6_6)) (hP.o hpo) (Eq.trans (hP.gi hpo (key := 2198) rfl) hdy0) ?_
    refine x_if T_101_71 (fun _ => ?_) (fun h => absurd (show (0 : Int) = 0 by rfl) h)
    refine x_ic T_101_78 ?_
    refine x_si (ls1 := [some (vR (some 2187)), some (vR (some pr)), some (vR (some k)), some (vI 0)]) T_101_79 rfl ?_
    refine x_li (z := 0) T_101_80 rfl ?_
    refine x_if T_101_81 (fun h => absurd (show ¬ (0 : Int) = 0 from h) (by decide)) (fun _ => ?_)
    refine x_lr (z := some k) T_101_84 rfl ?_
    refine x_gI (z := 24) T_101_85 (Or.inl F_16_5) (hP.o ho) (Eq.trans (hP.gi ho (key := 2517) rfl) hkd0) ?_
    refine x_ic T_101_88 ?_
    refine x_ic2 T_101_90 (fun h => absurd (show ¬ (24 : Int) = 24 from h) (by decide)) (fun _ => ?_)
    refine x_lr (z := some 2187) T_101_93 rfl ?_
    refine x_lr (z := some pr) T_101_94 rfl ?_
    refine x_lr (z := some k) T_101_95 rfl ?_
    refine x_cv3 T_101_96 mN_102 mL_102 (Nat.le_of_ble_eq_true rfl) mO_102 (hP.o xo_2187) (Nat.le_of_ble_eq_true rfl) (hnw) ?_
    rintro _ σ ⟨rfl, rfl⟩
    refine cI ?_
    refine x_if T_101_99 (fun h => absurd (show ¬ (0 : Int) = 0 from h) (by decide)) (fun _ => ?_)
    refine x_ic T_101_102 ?_
    refine x_goto T_101_103 ?_
    refine x_si (ls1 := [some (vR (some 2187)), some (vR (some pr)), some (vR (some k)), some (vI 1)]) T_101_107 rfl ?_
    refine x_goto T_101_108 ?_
    exact hgo
  have hnw := x_nextWord (fb := fb) (d := d) hP hX0 hp hlv hC0 hf hps0 hbd0 ⟨hr.1, by omega⟩
  by_cases q2 : 20 < (lnB t pos).length
  · have hnw := hnw.mono (Q := fun r σ' => r = some (vI 0) ∧ PX σ0 (rU V0 2187 2484 18) R σ') (fun r σ' h => h.1 q2)
    have hF2 : FSL k W (rU V0 2187 2484 18) := FSL_tr hF.fsl (FSL_s ⟨by decide, by decide⟩)
    have hgo := fun (σ : hM) (hP : PX σ0 (rU V0 2187 2484 18) R σ) => h129 σ _ 18 hP hF2 rU_s ((rU_j (by decide)).trans hD0) ((rU_j (by decide)).trans hw0) (fun r σ' => r = none ∧ ∃ V, PX σ0 V R σ' ∧ (((pos = pdO t ∨ 20 < (lnB t pos).length) ∧ XST K T U V R P fs c (if pos = pdO t then 0 else 18) 0) ∨ (¬ pos = pdO t ∧ ¬ 20 < (lnB t pos).length ∧ XST K T U V R (gVar P p (lg (lnB t 1) 0 - 97) (lnB t pos)) ((2, t, pos + 1, 0, []) :: fs) c 0 1 ∧ WTX V 1 (jnS t (pdO t + 1))))) (fun σ V2 hP hX => ⟨rfl, V2, hP, Or.inl ⟨Or.inr q2, by rw [if_neg q1]; exact hX⟩⟩)
    obtain ⟨pr, hpr⟩ : ∃ q, prO p = q := ⟨_, rfl⟩
    rw [hpr] at hnw hpo hdy0 hgo ⊢
    refine x_lr (z := some k) T_101_51 rfl ?_
    refine x_gI (z := 24) T_101_52 (Or.inl F_16_5) (hP.o ho) (Eq.trans (hP.gi ho (key := 2517) rfl) hkd0) ?_
    refine x_ic T_101_55 ?_
    refine x_ic2 T_101_57 (fun h => absurd (show (24 : Int) = 23 from h) (by decide)) (fun _ => ?_)
    refine x_lr (z := some 2187) T_101_60 rfl ?_
    refine x_gI (z := 0) T_101_61 (Or.inl F_15_4) (hP.o xo_2187) (Eq.trans (hP.gi xo_2187 (key := 2484) rfl) he0) ?_
    refine x_if T_101_64 (fun h => absurd (show ¬ (0 : Int) = 0 from h) (by decide)) (fun _ => ?_)
    refine x_lr (z := some pr) T_101_67 rfl ?_
    refine x_gI (z := 0) T_101_68 (Or.inr (Or.inl F_6_6)) (hP.o hpo) (Eq.trans (hP.gi hpo (key := 2198) rfl) hdy0) ?_
    refine x_if T_101_71 (fun _ => ?_) (fun h => absurd (show (0 : Int) = 0 by rfl) h)
    refine x_ic T_101_78 ?_
    refine x_si (ls1 := [some (vR (some 2187)), some (vR (some pr)), some (vR (some k)), some (vI 0)]) T_101_79 rfl ?_
    refine x_li (z := 0) T_101_80 rfl ?_
    refine x_if T_101_81 (fun h => absurd (show ¬ (0 : Int) = 0 from h) (by decide)) (fun _ => ?_)
    refine x_lr (z := some k) T_101_84 rfl ?_
    refine x_gI (z := 24) T_101_85 (Or.inl F_16_5) (hP.o ho) (Eq.trans (hP.gi ho (key := 2517) rfl) hkd0) ?_
    refine x_ic T_101_88 ?_
    refine x_ic2 T_101_90 (fun h => absurd (show ¬ (24 : Int) = 24 from h) (by decide)) (fun _ => ?_)
    refine x_lr (z := some 2187) T_101_93 rfl ?_
    refine x_lr (z := some pr) T_101_94 rfl ?_
    refine x_lr (z := some k) T_101_95 rfl ?_
    refine x_cv3 T_101_96 mN_102 mL_102 (Nat.le_of_ble_eq_true rfl) mO_102 (hP.o xo_2187) (Nat.le_of_ble_eq_true rfl) (hnw) ?_
    clear hP hnw
    rintro _ σ ⟨rfl, hP⟩
    refine cI ?_
    refine x_if T_101_99 (fun h => absurd (show ¬ (0 : Int) = 0 from h) (by decide)) (fun _ => ?_)
    refine x_ic T_101_102 ?_
    refine x_goto T_101_103 ?_
    refine x_si (ls1 := [some (vR (some 2187)), some (vR (some pr)), some (vR (some k)), some (vI 1)]) T_101_107 rfl ?_
    refine x_goto T_101_108 ?_
    exact hgo σ hP
  · have hnw := hnw.mono (Q := fun r σ' => r = some (vI 1) ∧ ∃ V, PX σ0 V R σ' ∧ XST K T U V R (gVar P p (lg (lnB t 1) 0 - 97) (lnB t pos)) ((2, t, pos + 1, 0, []) :: fs) c 0 1 ∧ WTX V 1 (jnS t (pdO t + 1))) (fun r σ' h => by
      obtain ⟨g0, V, g1, g2, ⟨b, W1, b1, b2, hb1, hb2⟩, g3, g4, g5, g6, g7, g8, g9, g10⟩ := h.2 q2
      have hv : ∀ (x : Nat) (j : Int), 2187 ≤ x → ¬ (x = k ∧ 2517 ≤ j ∧ j ≤ 2520) → ¬ (x = 2187 ∧ 2484 ≤ j ∧ j ≤ 2486) → ¬ (x = 2189 ∧ j = 2065) → ¬ (x = 2190 ∧ j < 2000) → V x j = W x j := fun x j a0 a1 a2 a3 a4 => (hb2 x j a1 a2 a3 a4).trans ((hb1 x j (by omega) (by omega)).trans (hF x j (fun c => a1 ⟨c.1, by omega⟩) (fun c => a2 ⟨c.1, by omega⟩)))
      refine ⟨g0, V, g1, hS.top hk hn g2 (fun x j a1 a2 => hv x j (by omega) (fun c => by omega) (fun c => by omega) (fun c => by omega) (fun c => by omega)) (hv _ _ (by decide) (fun c => by omega) (fun c => by omega) (fun c => by omega) (fun c => by omega)) (hv _ _ (by decide) (fun c => by omega) (fun c => by omega) (fun c => by omega) (fun c => by omega)) (g7.trans he0) g8 ⟨show (0 : Int) ≤ 2 by decide, show (2 : Int) ≤ 3 by decide⟩ ⟨(hC0.fbx hb1 (by omega) (by omega)).fsl hb2, g3.trans hkd0, fun _ => g4, fun _ => g5.trans hbd0, g6.trans hm0, fun (c : (2 : Int) = 3) => absurd c (by decide)⟩, g9, g10⟩)
    obtain ⟨pr, hpr⟩ : ∃ q, prO p = q := ⟨_, rfl⟩
    rw [hpr] at hnw hpo hdy0 ⊢
    refine x_lr (z := some k) T_101_51 rfl ?_
    refine x_gI (z := 24) T_101_52 (Or.inl F_16_5) (hP.o ho) (Eq.trans (hP.gi ho (key := 2517) rfl) hkd0) ?_
    refine x_ic T_101_55 ?_
    refine x_ic2 T_101_57 (fun h => absurd (show (24 : Int) = 23 from h) (by decide)) (fun _ => ?_)
    refine x_lr (z := some 2187) T_101_60 rfl ?_
    refine x_gI (z := 0) T_101_61 (Or.inl F_15_4) (hP.o xo_2187) (Eq.trans (hP.gi xo_2187 (key := 2484) rfl) he0) ?_
    refine x_if T_101_64 (fun h => absurd (show ¬ (0 : Int) = 0 from h) (by decide)) (fun _ => ?_)
    refine x_lr (z := some pr) T_101_67 rfl ?_
    refine x_gI (z := 0) T_101_68 (Or.inr (Or.inl F_6_6)) (hP.o hpo) (Eq.trans (hP.gi hpo (key := 2198) rfl) hdy0) ?_
    refine x_if T_101_71 (fun _ => ?_) (fun h => absurd (show (0 : Int) = 0 by rfl) h)
    refine x_ic T_101_78 ?_
    refine x_si (ls1 := [some (vR (some 2187)), some (vR (some pr)), some (vR (some k)), some (vI 0)]) T_101_79 rfl ?_
    refine x_li (z := 0) T_101_80 rfl ?_
    refine x_if T_101_81 (fun h => absurd (show ¬ (0 : Int) = 0 from h) (by decide)) (fun _ => ?_)
    refine x_lr (z := some k) T_101_84 rfl ?_
    refine x_gI (z := 24) T_101_85 (Or.inl F_16_5) (hP.o ho) (Eq.trans (hP.gi ho (key := 2517) rfl) hkd0) ?_
    refine x_ic T_101_88 ?_
    refine x_ic2 T_101_90 (fun h => absurd (show ¬ (24 : Int) = 24 from h) (by decide)) (fun _ => ?_)
    refine x_lr (z := some 2187) T_101_93 rfl ?_
    refine x_lr (z := some pr) T_101_94 rfl ?_
    refine x_lr (z := some k) T_101_95 rfl ?_
    refine x_cv3 T_101_96 mN_102 mL_102 (Nat.le_of_ble_eq_true rfl) mO_102 (hP.o xo_2187) (Nat.le_of_ble_eq_true rfl) (hnw) ?_
    clear hP hnw
    rintro _ σ ⟨rfl, V, hP, hZ⟩
    refine cI ?_
    refine x_if T_101_99 (fun _ => ?_) (fun h => absurd (show ¬ (1 : Int) = 0 by decide) h)
    refine x_ic T_101_106 ?_
    refine x_si (ls1 := [some (vR (some 2187)), some (vR (some pr)), some (vR (some k)), some (vI 0)]) T_101_107 rfl ?_
    refine x_goto T_101_108 ?_
    refine x_li (z := 0) T_101_129 rfl ?_
    refine x_if T_101_130 (fun _ => ?_) (fun h => absurd (show (0 : Int) = 0 by rfl) h)
    refine x_rv T_101_143 ?_
    exact ⟨rfl, V, hP, Or.inr ⟨q1, q2, hZ⟩⟩
theorem x_resL (hP : PX σ0 W R σ) (hS : XST K T U W R P ((3, t, pos, mu, sc) :: fs) c e 0) (hn : fs.length < 12) (hp : 0 ≤ p ∧ p < 8) (hdy : P 2321 p = 0) (hem : e = 0 ∨ ¬ mu = 0) (hr : 0 ≤ pos ∧ pos ≤ 601) : CL fb (d + 4) 101 [vR (some 2187), vR (some (prO p))] σ (fun r σ' => r = none ∧ ∃ V, PX σ0 V R σ' ∧ (((sc.length : Int) ≤ pos ∧ XST K T U V R P fs c 0 0) ∨ (¬ (sc.length : Int) ≤ pos ∧ 100 < lnE sc pos - pos ∧ XST K T U V R P ((3, t, lnE sc pos + 1, lnM sc pos, sc) :: fs) c 18 0) ∨ (¬ (sc.length : Int) ≤ pos ∧ ¬ 100 < lnE sc pos - pos ∧ XST K T U V R P ((3, t, lnE sc pos + 1, lnM sc pos, sc) :: fs) c 0 1 ∧ WTX V 1 (lnT sc pos)))) := by
  have hD : W 2187 2482 = (fs.length : Int) + 1 := hS.2.2.1
  have he : W 2187 2484 = e := hS.2.2.2.2.1
  have hw : W 2187 2485 = 0 := hS.2.2.2.2.2
  have hdw : W (prO p) 2198 = 0 := (hS.dyg hp).trans hdy
  obtain ⟨hC, hkd, hps, -, hmu, hsc⟩ := hS.2.1.1.2
  have hkd : W (cmO (fs.length : Int)) 2517 = 25 := hkd
  have hps : W (cmO (fs.length : Int)) 2518 = pos := hps (show (2 : Int) ≤ 3 by decide)
  have hmu : W (cmO (fs.length : Int)) 2520 = mu := hmu
  have hC : CMD W (cmO (fs.length : Int)) t := hC
  have hsc : BY W (cmO (fs.length : Int) + 3) 600 sc := hsc rfl
  have hpo := prO_o hp
  have hpr2 := prO_rng hp
  have ho := cmO_o (i := (fs.length : Int)) ⟨by omega, by omega⟩
  have hkr := cmO_rng (i := (fs.length : Int)) ⟨by omega, by omega⟩
  obtain ⟨k, hk⟩ : ∃ q, cmO (fs.length : Int) = q := ⟨_, rfl⟩
  rw [hk] at hmu hkd ho hkr hps hsc hC
  refine res_51 (D := (fs.length : Int) + 1) hP hD ⟨by omega, by omega⟩ (by rw [show (fs.length : Int) + 1 - 1 = (fs.length : Int) by omega]; exact hk) hmu he (fun σ V0 hP hF hm0 he0 => ?_)
  have he0 : V0 2187 2484 = 0 := by
    rw [he0]
    rcases hem with c1 | c1
    · rw [c1]
      split <;> rfl
    · rw [if_neg c1]
  have hkd0 : V0 k 2517 = 25 := (hF _ _ (fun c => by omega) (fun c => by omega)).trans hkd
  have hps0 : V0 k 2518 = pos := (hF _ _ (fun c => by omega) (fun c => by omega)).trans hps
  have hdy0 : V0 (prO p) 2198 = 0 := (hF _ _ (fun c => by omega) (fun c => by omega)).trans hdw
  have hD0 : V0 2187 2482 = (fs.length : Int) + 1 := (hF _ _ (fun c => by omega) (fun c => by omega)).trans hD
  have hw0 : V0 2187 2485 = 0 := (hF _ _ (fun c => by omega) (fun c => by omega)).trans hw
  have hC0 : CMD V0 k t := hC.fsl hF.fsl
  have hsc0 : BY V0 (k + 3) 600 sc := hsc.fsl hF.fsl (by omega)
  have hX0 : XW K T U V0 R P := hS.1.fsl hF.fsl ⟨by omega, by omega⟩
  by_cases q1 : (sc.length : Int) ≤ pos
  · have hnl := x_nextLine0 (fb := fb) (d := d + 1) hP ho hsc0 hps0 ⟨hr.1, by omega⟩ q1
    have hgo := res_129 (fb := fb) (d := d) (k := k) (pr := prO p) (Q := fun r σ' => r = none ∧ ∃ V, PX σ0 V R σ' ∧ (((sc.length : Int) ≤ pos ∧ XST K T U V R P fs c 0 0) ∨ (¬ (sc.length : Int) ≤ pos ∧ 100 < lnE sc pos - pos ∧ XST K T U V R P ((3, t, lnE sc pos + 1, lnM sc pos, sc) :: fs) c 18 0) ∨ (¬ (sc.length : Int) ≤ pos ∧ ¬ 100 < lnE sc pos - pos ∧ XST K T U V R P ((3, t, lnE sc pos + 1, lnM sc pos, sc) :: fs) c 0 1 ∧ WTX V 1 (lnT sc pos)))) hP hD0 ⟨by omega, by omega⟩ (fun σ hP => by
      rw [show (fs.length : Int) + 1 - 1 = (fs.length : Int) by omega] at hP
      exact ⟨rfl, _, hP, Or.inl ⟨q1, hS.pop hk hn hF.fsl he0 hw0⟩⟩)
    obtain ⟨pr, hpr⟩ : ∃ q, prO p = q := ⟨_, rfl⟩
    rw [hpr] at hpo hdy0 hgo ⊢
    refine x_lr (z := some k) T_101_51 rfl ?_
    refine x_gI (z := 25) T_101_52 (Or.inl F_16_5) (hP.o ho) (Eq.trans (hP.gi ho (key := 2517) rfl) hkd0) ?_
    refine x_ic T_101_55 ?_
    refine x_ic2 T_101_57 (fun h => absurd (show (25 : Int) = 23 from h) (by decide)) (fun _ => ?_)
    refine x_lr (z := some 2187) T_101_60 rfl ?_
    refine x_gI (z := 0) T_101_61 (Or.inl F_15_4) (hP.o xo_2187) (Eq.trans (hP.gi xo_2187 (key := 2484) rfl) he0) ?_
    refine x_if T_101_64 (fun h => absurd (show ¬ (0 : Int) = 0 from h) (by decide)) (fun _ => ?_)
    refine x_lr (z := some pr) T_101_67 rfl ?_
    refine x_gI (z := 0) T_101_68 (Or.inr (Or.inl F_6_6)) (hP.o hpo) (Eq.trans (hP.gi hpo (key := 2198) rfl) hdy0) ?_
    refine x_if T_101_71 (fun _ => ?_) (fun h => absurd (show (0 : Int) = 0 by rfl) h)
    refine x_ic T_101_78 ?_
    refine x_si (ls1 := [some (vR (some 2187)), some (vR (some pr)), some (vR (some k)), some (vI 0)]) T_101_79 rfl ?_
    refine x_li (z := 0) T_101_80 rfl ?_
    refine x_if T_101_81 (fun h => absurd (show ¬ (0 : Int) = 0 from h) (by decide)) (fun _ => ?_)
    refine x_lr (z := some k) T_101_84 rfl ?_
    refine x_gI (z := 25) T_101_85 (Or.inl F_16_5) (hP.o ho) (Eq.trans (hP.gi ho (key := 2517) rfl) hkd0) ?_
    refine x_ic T_101_88 ?_
    refine x_ic2 T_101_90 (fun _ => ?_) (fun h => absurd (show ¬ (25 : Int) = 24 by decide) h)
    refine x_li (z := 0) T_101_111 rfl ?_
    refine x_if T_101_112 (fun h => absurd (show ¬ (0 : Int) = 0 from h) (by decide)) (fun _ => ?_)
    refine x_lr (z := some 2187) T_101_115 rfl ?_
    refine x_lr (z := some k) T_101_116 rfl ?_
    refine x_cv2 T_101_117 mN_109 mL_109 (Nat.le_of_ble_eq_true rfl) mO_109 (hP.o xo_2187) (Nat.le_of_ble_eq_true rfl) (hnl) ?_
    rintro _ σ ⟨rfl, rfl⟩
    refine cI ?_
    refine x_if T_101_120 (fun h => absurd (show ¬ (0 : Int) = 0 from h) (by decide)) (fun _ => ?_)
    refine x_ic T_101_123 ?_
    refine x_goto T_101_124 ?_
    refine x_si (ls1 := [some (vR (some 2187)), some (vR (some pr)), some (vR (some k)), some (vI 1)]) T_101_128 rfl ?_
    exact hgo
  have hnl := (x_nextLine (fb := fb) (d := d + 1) hP ho (by omega) hsc0 hps0 ⟨hr.1, by omega⟩).mono (Q := fun r σ' => r = some (vI 1) ∧ ∃ V, PX σ0 V R σ' ∧ (((sc.length : Int) ≤ pos ∧ XST K T U V R P fs c 0 0) ∨ (¬ (sc.length : Int) ≤ pos ∧ 100 < lnE sc pos - pos ∧ XST K T U V R P ((3, t, lnE sc pos + 1, lnM sc pos, sc) :: fs) c 18 0) ∨ (¬ (sc.length : Int) ≤ pos ∧ ¬ 100 < lnE sc pos - pos ∧ XST K T U V R P ((3, t, lnE sc pos + 1, lnM sc pos, sc) :: fs) c 0 1 ∧ WTX V 1 (lnT sc pos)))) (fun r σ' h => by
    obtain ⟨rfl, V, g1, g2, g3, g4, g5, g6, g7, g8⟩ := h
    have hv : ∀ (x : Nat) (j : Int), ¬ (x = k ∧ 2517 ≤ j ∧ j ≤ 2520) → ¬ (x = 2187 ∧ 2484 ≤ j ∧ j ≤ 2486) → ¬ (x = 2189 ∧ j = 2065) → ¬ (x = 2190 ∧ j < 2000) → V x j = W x j := fun x j a1 a2 a3 a4 => (g2 x j a1 a2 a3 a4).trans (hF x j (fun c => a1 ⟨c.1, by omega⟩) (fun c => a2 ⟨c.1, by omega⟩))
    have hX : XW K T U V R P := hX0.fsl g2 ⟨by omega, by omega⟩
    have hfr : FRX V k (3, t, lnE sc pos + 1, lnM sc pos, sc) := ⟨hC0.fsl g2, g3.trans hkd0, fun _ => g5, fun (c : (3 : Int) = 2) => absurd c (by decide), g6, fun _ => hsc0.fsl g2 (by omega)⟩
    have htop := fun (e w : Int) (h4 : V 2187 2484 = e) (h5 : V 2187 2485 = w) => hS.top (e := e) (w := w) hk hn hX (fun x j a1 a2 => hv x j (fun c => by omega) (fun c => by omega) (fun c => by omega) (fun c => by omega)) (hv _ _ (fun c => by omega) (fun c => by omega) (fun c => by omega) (fun c => by omega)) (hv _ _ (fun c => by omega) (fun c => by omega) (fun c => by omega) (fun c => by omega)) h4 h5 (f2 := (3, t, lnE sc pos + 1, lnM sc pos, sc)) ⟨show (0 : Int) ≤ 3 by decide, show (3 : Int) ≤ 3 by decide⟩ hfr
    refine ⟨rfl, V, g1, Or.inr ?_⟩
    by_cases q2 : 100 < lnE sc pos - pos
    · exact Or.inl ⟨q1, q2, htop 18 0 (g7 q2).1 ((g7 q2).2.trans hw0)⟩
    · exact Or.inr ⟨q1, q2, htop 0 1 ((g8 q2).1.trans he0) (g8 q2).2.1, (g8 q2).2.2.1, (g8 q2).2.2.2⟩)
  obtain ⟨pr, hpr⟩ : ∃ q, prO p = q := ⟨_, rfl⟩
  rw [hpr] at hpo hdy0 ⊢
  refine x_lr (z := some k) T_101_51 rfl ?_
  refine x_gI (z := 25) T_101_52 (Or.inl F_16_5) (hP.o ho) (Eq.trans (hP.gi ho (key := 2517) rfl) hkd0) ?_
  refine x_ic T_101_55 ?_
  refine x_ic2 T_101_57 (fun h => absurd (show (25 : Int) = 23 from h) (by decide)) (fun _ => ?_)
  refine x_lr (z := some 2187) T_101_60 rfl ?_
  refine x_gI (z := 0) T_101_61 (Or.inl F_15_4) (hP.o xo_2187) (Eq.trans (hP.gi xo_2187 (key := 2484) rfl) he0) ?_
  refine x_if T_101_64 (fun h => absurd (show ¬ (0 : Int) = 0 from h) (by decide)) (fun _ => ?_)
  refine x_lr (z := some pr) T_101_67 rfl ?_
  refine x_gI (z := 0) T_101_68 (Or.inr (Or.inl F_6_6)) (hP.o hpo) (Eq.trans (hP.gi hpo (key := 2198) rfl) hdy0) ?_
  refine x_if T_101_71 (fun _ => ?_) (fun h => absurd (show (0 : Int) = 0 by rfl) h)
  refine x_ic T_101_78 ?_
  refine x_si (ls1 := [some (vR (some 2187)), some (vR (some pr)), some (vR (some k)), some (vI 0)]) T_101_79 rfl ?_
  refine x_li (z := 0) T_101_80 rfl ?_
  refine x_if T_101_81 (fun h => absurd (show ¬ (0 : Int) = 0 from h) (by decide)) (fun _ => ?_)
  refine x_lr (z := some k) T_101_84 rfl ?_
  refine x_gI (z := 25) T_101_85 (Or.inl F_16_5) (hP.o ho) (Eq.trans (hP.gi ho (key := 2517) rfl) hkd0) ?_
  refine x_ic T_101_88 ?_
  refine x_ic2 T_101_90 (fun _ => ?_) (fun h => absurd (show ¬ (25 : Int) = 24 by decide) h)
  refine x_li (z := 0) T_101_111 rfl ?_
  refine x_if T_101_112 (fun h => absurd (show ¬ (0 : Int) = 0 from h) (by decide)) (fun _ => ?_)
  refine x_lr (z := some 2187) T_101_115 rfl ?_
  refine x_lr (z := some k) T_101_116 rfl ?_
  refine x_cv2 T_101_117 mN_109 mL_109 (Nat.le_of_ble_eq_true rfl) mO_109 (hP.o xo_2187) (Nat.le_of_ble_eq_true rfl) (hnl) ?_
  clear hP hnl
  rintro _ σ ⟨rfl, V, hP, hZ⟩
  refine cI ?_
  refine x_if T_101_120 (fun _ => ?_) (fun h => absurd (show ¬ (1 : Int) = 0 by decide) h)
  refine x_ic T_101_127 ?_
  refine x_si (ls1 := [some (vR (some 2187)), some (vR (some pr)), some (vR (some k)), some (vI 0)]) T_101_128 rfl ?_
  refine x_li (z := 0) T_101_129 rfl ?_
  refine x_if T_101_130 (fun _ => ?_) (fun h => absurd (show (0 : Int) = 0 by rfl) h)
  refine x_rv T_101_143 ?_
  exact ⟨rfl, V, hP, hZ⟩
end XSH8
