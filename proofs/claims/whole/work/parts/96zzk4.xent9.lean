/-! The class's enter as a whole. -/
theorem T_96_16 : hTab 96 16 = some ((3, 0, 2, []), 17) := rfl
theorem T_96_17 : hTab 96 17 = some ((24, 0, Int.ofNat 2, []), 20) := rfl
theorem T_96_20 : hTab 96 20 = some ((3, 0, 2, []), 21) := rfl
theorem T_96_21 : hTab 96 21 = some ((24, 0, Int.ofNat 3, []), 24) := rfl
theorem T_96_24 : hTab 96 24 = some ((31, 98, 0, []), 27) := rfl
theorem T_96_27 : hTab 96 27 = some ((3, 0, 2, []), 28) := rfl
theorem T_96_28 : hTab 96 28 = some ((24, 0, Int.ofNat 3, []), 31) := rfl
theorem T_96_31 : hTab 96 31 = some ((31, 27, 0, []), 34) := rfl
theorem T_96_34 : hTab 96 34 = some ((0, 0, 0, []), 35) := rfl
theorem T_96_35 : hTab 96 35 = some ((4, 3, 0, []), 36) := rfl
theorem T_96_590 : hTab 96 590 = some ((3, 0, 2, []), 591) := rfl
theorem T_96_591 : hTab 96 591 = some ((24, 0, Int.ofNat 0, []), 594) := rfl
theorem T_96_594 : hTab 96 594 = some ((31, 200, 0, []), 597) := rfl
theorem T_96_597 : hTab 96 597 = some ((3, 0, 2, []), 598) := rfl
theorem T_96_598 : hTab 96 598 = some ((24, 0, Int.ofNat 2, []), 601) := rfl
theorem T_96_601 : hTab 96 601 = some ((31, 203, 0, []), 604) := rfl
theorem T_96_604 : hTab 96 604 = some ((13, 0, 0, []), 605) := rfl
theorem T_96_605 : hTab 96 605 = some ((33, 1, 0, []), 606) := rfl
section XENT9
variable {fb : Bool} {d : Nat} {σ0 σ : hM} {W P P1 : qR} {R : rR} {i c e p n K T U : Int} {src : List Int} {J : qR → Prop} {Q : Option AV → hM → Prop}
/-- what a line entered comes to -/
abbrev XEO (σ0 : hM) (K T U : Int) (J : qR → Prop) (e : Int) (P1 : qR) : Option AV → hM → Prop := fun r σ' => r = some (vI (w32 (-e))) ∧ J P1 ∧ ∃ W2 R2, PX σ0 W2 R2 σ' ∧ XW K T U W2 R2 (enAll 8 0 P1) ∧ BY W2 2275 100 []
theorem ent_590 {x4 x5 : Option AV} (hP : PX σ0 W R σ) (hX : XW K T U W R P1) (hS : SHL W 0 c e 0) (hB : BY W 2275 100 []) (hJ : J P1) (hT : T + 3000 ≤ 2147483000) {pr : Nat} : WP fb (d + 20) 96 590 [some (vR (some 128)), some (vI p), some (vR (some pr)), some (vI i), x4, x5] [] σ (XEO σ0 K (T + 1824) U J e P1) := by
  have hlg := x_letGo (fb := fb) (d := d + 9) hP hX hT
  have her := fun (σ : hM) (W2 : qR) (R2 : rR) (hP : PX σ0 W2 R2 σ) (hF : FCM W W2 R R2) => x_errorS (fb := fb) (d := d + 19) (D := 0) (c := c) (e := e) (w := 0) hP ⟨(hF.1 _ _ (by omega) (by omega) (by decide)).trans hS.1, (hF.1 _ _ (by omega) (by omega) (by decide)).trans hS.2.1, (hF.1 _ _ (by omega) (by omega) (by decide)).trans hS.2.2.1, (hF.1 _ _ (by omega) (by omega) (by decide)).trans hS.2.2.2⟩
  have hfin := fun (W2 : qR) (R2 : rR) (hF : FCM W W2 R R2) => BY.eq8 hB (V := W2) (fun x j a b q => hF.1 x j (by omega) (by omega) q)
  obtain ⟨v, hv⟩ : ∃ v, w32 (-e) = v := ⟨_, rfl⟩
  refine x_lr (z := some 128) T_96_590 rfl ?_
  refine x_gR (z := some 129) T_96_591 F_0_0 (hP.o xo_128) (hP.rc xo_128 rfl rfl) ?_
  refine x_cv1 T_96_594 mN_200 mL_200 (Nat.le_of_ble_eq_true rfl) mO_200 (hP.o xo_129) (Nat.le_of_ble_eq_true rfl) (hlg) ?_
  clear hP hlg
  rintro _ σ ⟨rfl, W2, R2, hP, hX2, hF⟩
  refine cV ?_
  refine x_lr (z := some 128) T_96_597 rfl ?_
  refine x_gR (z := some 2187) T_96_598 F_0_2 (hP.o xo_128) (hP.rc xo_128 rfl rfl) ?_
  refine x_cv1 T_96_601 mN_203 mL_203 (Nat.le_of_ble_eq_true rfl) mO_203 (hP.o xo_2187) (Nat.le_of_ble_eq_true rfl) (her σ W2 R2 hP hF) ?_
  rintro _ σ ⟨rfl, rfl⟩
  refine cI ?_
  refine x_neg (w := v) T_96_604 hv ?_
  refine x_ri T_96_605 ?_
  exact ⟨by rw [hv], hJ, W2, R2, hP, hX2, hfin W2 R2 hF⟩
theorem x_enter (hP : PX σ0 W R σ) (hX : XW K T U W R P) (hp : 0 ≤ p ∧ p < 8) (hlv : ¬ P 2320 p = 0) (hdy : P 2321 p = 0) (hB : BY W 2275 100 (eSrc P)) (hJX : JX p J) (hJp : J (rU P 2281 103 0)) (hT : T + 700000 ≤ 2147483000) (hU : 10000 ≤ U ∧ U + 100000 ≤ 2147480000) : CL fb (d + 20) 96 [vR (some 128), vI p] σ (XEO σ0 K (T + 612000) (U + 82000) J (cPerf (rU P 2281 103 0) p (eSrc P)).1 (cPerf (rU P 2281 103 0) p (eSrc P)).2.1) := by
  have hli := x_living (fb := fb) (d := d + 19) (k := p) hP hX.1.2.2.1
  rw [if_pos ⟨hp, hlv⟩] at hli
  have hz := (eSrc_ok hX.1.2.2.2.1).1
  obtain ⟨src, hsr⟩ : ∃ q, eSrc P = q := ⟨_, rfl⟩
  rw [hsr] at hB hz ⊢
  have hbg := x_beginS (fb := fb) (d := d + 17) hP hX hB (by decide) hz
  have hcl := fun (σ : hM) (V : qR) (hP : PX σ0 V R σ) (hF : FNX 2189 W V) => x_clear (fb := fb) (d := d + 19) (b := 2275) (n := 100) (l := src) hP (hB.eqv (fun _ => hF _ _ (fun c => by omega) (fun c => by omega)) (fun _ _ _ => hF _ _ (fun c => by omega) (fun c => by omega)))
  obtain ⟨P0, hP0⟩ : ∃ q, rU P 2281 103 0 = q := ⟨_, rfl⟩
  have hlv0 : ¬ P0 2320 p = 0 := by rw [← hP0, rU_f (by decide)]; exact hlv
  have hdy0 : P0 2321 p = 0 := by rw [← hP0, rU_f (by decide)]; exact hdy
  have hX0 : ∀ {V : qR}, XW K T U V R P → XW K T U V R P0 := fun {V} h => by rw [← hP0]; exact h.clr (by decide)
  rw [hP0] at hJp ⊢
  obtain ⟨rr, hrr⟩ : ∃ q, evC (EV p EVN) (([] : List Fr).length : Int) (arOf []) (exL P0 p (arOf []) 1 src) P0 0 = q := ⟨_, rfl⟩
  have ePf : cPerf P0 p src = rr := hrr
  rw [ePf]
  have hlp := fun (σ : hM) (V : qR) (hP : PX σ0 V R σ) (hS : XST K T U V R P0 [] 0 0 1) (hW : WTX V 1 src) => by
    have h := ev_line (fb := fb) (d := d) (σ0 := σ0) (x4 := none) (x5 := none) (i := 0) (Q := XEO σ0 K (T + 612000) (U + 82000) J rr.1 rr.2.1) hp (ev_all hp hJX EVN).1 hlv0 hP hS hW (Or.inr rfl) (Nat.zero_le _) (by decide) (by decide) hJp hdy0 (by omega) (by omega) (by decide)
    rw [hrr] at h
    exact h (fun σ W2 R2 i2 x4 x5 hP hS h1 h2 h3 h4 => lp_out hP hS.2.2 (by omega) (WP.mono (ent_590 hP hS.1 hS.2.2 hS.2.1 h3 (by omega)) (fun r σ1 h => by
      obtain ⟨g1, g2, W3, R3, g3, g4, g5⟩ := h
      exact ⟨g1, g2, W3, R3, g3, (g4.mono (by omega)).monoU (by omega), g5⟩)))
  have hst := fun (V V2 : qR) (f1 : XW K T U V R P ∧ SHL V 0 0 0 1) (f2 : WTX V 1 src) (hB2 : BY V2 2275 100 []) (hF : FB 2275 V V2) => (⟨⟨hX0 (f1.1.fbh hF (by decide)), hB2, (hF _ _ (by omega) (by omega)).trans f1.2.1, (hF _ _ (by omega) (by omega)).trans f1.2.2.1, (hF _ _ (by omega) (by omega)).trans f1.2.2.2.1, (hF _ _ (by omega) (by omega)).trans f1.2.2.2.2⟩, (hF _ _ (by omega) (by omega)).trans f2.1, f2.2.eqv (fun _ => hF _ _ (by omega) (by omega)) (fun _ _ _ => hF _ _ (by omega) (by omega))⟩ : XST K T U V2 R P0 [] 0 0 1 ∧ WTX V2 1 src)
  have hpo := prO_o hp
  unfold LPH at hlp
  obtain ⟨pr, hpr⟩ : ∃ q, prO p = q := ⟨_, rfl⟩
  simp only [hpr] at hlp hli hpo
  refine CL_in mL_96 rfl ?_
  show WP fb _ 96 0 [some (vR (some 128)), some (vI p), none, none, none, none] [] σ _
  refine x_lr (z := some 128) T_96_0 rfl ?_
  refine x_gR (z := some 129) T_96_1 F_0_0 (hP.o xo_128) (hP.rc xo_128 rfl rfl) ?_
  refine x_li (z := p) T_96_4 rfl ?_
  refine x_cv2 T_96_5 mN_97 mL_97 (Nat.le_of_ble_eq_true rfl) mO_97 (hP.o xo_129) (Nat.le_of_ble_eq_true rfl) (hli) ?_
  rintro _ σ ⟨rfl, rfl⟩
  refine cR ?_
  refine x_sr (ls1 := [some (vR (some 128)), some (vI p), some (vR (some pr)), none, none, none]) T_96_8 rfl ?_
  refine x_lr (z := some pr) T_96_9 rfl ?_
  refine x_nnul T_96_10 (fun _ _ => ?_) (fun h0 => absurd h0 (by simp))
  refine x_lr (z := some 128) T_96_16 rfl ?_
  refine x_gR (z := some 2187) T_96_17 F_0_2 (hP.o xo_128) (hP.rc xo_128 rfl rfl) ?_
  refine x_lr (z := some 128) T_96_20 rfl ?_
  refine x_gR (z := some 2275) T_96_21 F_0_3 (hP.o xo_128) (hP.rc xo_128 rfl rfl) ?_
  refine x_cv2 T_96_24 mN_98 mL_98 (Nat.le_of_ble_eq_true rfl) mO_98 (hP.o xo_2187) (Nat.le_of_ble_eq_true rfl) (hbg) ?_
  clear hP hbg hli
  rintro _ σ ⟨rfl, V, hP, f1, f2, f3⟩
  refine cV ?_
  refine x_lr (z := some 128) T_96_27 rfl ?_
  refine x_gR (z := some 2275) T_96_28 F_0_3 (hP.o xo_128) (hP.rc xo_128 rfl rfl) ?_
  refine x_cv1 T_96_31 mN_27 mL_27 (Nat.le_of_ble_eq_true rfl) mO_27 (hP.o xo_2275) (Nat.le_of_ble_eq_true rfl) (hcl σ V hP f3) ?_
  clear hP hcl
  rintro _ σ ⟨rfl, V2, hP, hB2, hF2⟩
  obtain ⟨g1, g2⟩ := hst V V2 f1 f2 hB2 hF2
  refine cV ?_
  refine x_ic T_96_34 ?_
  refine x_si (ls1 := [some (vR (some 128)), some (vI p), some (vR (some pr)), some (vI 0), none, none]) T_96_35 rfl ?_
  exact hlp σ V2 hP g1 g2
theorem x_enter_n (hP : PX σ0 W R σ) (hX : XN W R P) (hp : ¬ ((0 ≤ p ∧ p < 8) ∧ ¬ P 2320 p = 0)) : CL fb (d + 2) 96 [vR (some 128), vI p] σ (rP (-100) σ) := by
  have hli := x_living (fb := fb) (d := d + 1) (k := p) hP hX
  rw [if_neg hp] at hli
  refine CL_in mL_96 rfl ?_
  show WP fb _ 96 0 [some (vR (some 128)), some (vI p), none, none, none, none] [] σ _
  refine x_lr (z := some 128) T_96_0 rfl ?_
  refine x_gR (z := some 129) T_96_1 F_0_0 (hP.o xo_128) (hP.rc xo_128 rfl rfl) ?_
  refine x_li (z := p) T_96_4 rfl ?_
  refine x_cv2 T_96_5 mN_97 mL_97 (Nat.le_of_ble_eq_true rfl) mO_97 (hP.o xo_129) (Nat.le_of_ble_eq_true rfl) (hli) ?_
  rintro _ σ ⟨rfl, rfl⟩
  refine cR ?_
  refine x_sr (ls1 := [some (vR (some 128)), some (vI p), some (vR none), none, none, none]) T_96_8 rfl ?_
  refine x_lr (z := none) T_96_9 rfl ?_
  refine x_nnul T_96_10 (fun a0 h0 => absurd h0 (by simp)) (fun _ => ?_)
  refine x_ic T_96_13 ?_
  refine x_ri T_96_15 ?_
  exact ⟨rfl, rfl⟩
end XENT9
