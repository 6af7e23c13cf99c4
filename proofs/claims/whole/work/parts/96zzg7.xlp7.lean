/-! The class's enter: a for. -/
theorem T_96_546 : hTab 96 546 = some ((3, 0, 2, []), 547) := rfl
theorem T_96_547 : hTab 96 547 = some ((24, 0, Int.ofNat 2, []), 550) := rfl
theorem T_96_550 : hTab 96 550 = some ((3, 4, 2, []), 552) := rfl
theorem T_96_552 : hTab 96 552 = some ((31, 198, 0, []), 555) := rfl
theorem T_96_555 : hTab 96 555 = some ((4, 5, 0, []), 557) := rfl
theorem T_96_557 : hTab 96 557 = some ((22, 0, Int.ofNat 575, []), 560) := rfl
section XLP7
variable {fb : Bool} {d b k n : Nat} {σ0 σ : hM} {W W1 W2 V V0 V2 V3 P : qR} {R : rR} {i j x z v s e p D w K T U a c ex pos mu e2 : Int} {l sc lo wd src L L2 t ss : List Int} {fs : List Fr} {fr : Fr} {Q : Option AV → hM → Prop} {J : qR → Prop} {m : Nat}
theorem ev_forB {x5 : Option AV} (hp : 0 ≤ p ∧ p < 8) (hG : XEVG fb d σ0 K p J Q m) (hN : 0 < ((lnW L).length : Int)) (hv : vbN (lnB L 0) = 24) (hpk : pkW (lnB L 0) = 6713202) (hm : evM (-1) (0, L, 0, 0, []) c < ((m + 1 : Nat) : Int)) (hn : fs.length < 12) (hP : PX σ0 W R σ) (hS : XST K T U W R P ((0, L, 0, 0, []) :: fs) c e 0) (hc : 0 ≤ c ∧ c ≤ 200) (hJP : J P) (hdy : P 2321 p = 0) (hi : 0 ≤ i ∧ i + 2 * evM (-1) (0, L, 0, 0, []) c ≤ 900000) (hT : T + 3000 * (202 - c) + 3000 + 1000 ≤ 2147483000) (hU : 10000 ≤ U ∧ U + 400 * (202 - c) + 400 ≤ 2147480000) (hQ : XCT fb d σ0 K p J Q (-1) T U i (0, L, 0, 0, []) fs c (EV p (m + 1) (-1) ((fs.length : Int) + 1) (arOf fs) (0, L, 0, 0, []) P c)) : WP fb (d + 20) 96 70 [some (vR (some 128)), some (vI p), some (vR (some (prO p))), some (vI i), some (vR (some (cmO (fs.length : Int)))), x5] [] σ Q := by
  have eM : evM (-1) (0, L, 0, 0, []) c = 2000 * (200 - c) + 1500 := if_pos rfl
  have eE : EV p (m + 1) (-1) ((fs.length : Int) + 1) (arOf fs) (0, L, 0, 0, []) P c = if foK L then EV p m (-2) ((fs.length : Int) + 1) (arOf fs) (2, L, 3, 0, []) P c else (18, P, c) := by
    show (if (-1 : Int) = -1 then (if (lnW L).length = 0 then _ else if pkW (lnB L 0) = 26982 then _ else if pkW (lnB L 0) = 6713202 then _ else _) else _) = _
    rw [if_pos rfl, if_neg (by omega), if_neg (by omega), if_pos hpk]
  rw [eE] at hQ
  rw [eM] at hm hi
  unfold XCT at hQ
  rw [eM, evK_1] at hQ
  have hm : 2000 * (200 - c) + 1500 < (m : Int) + 1 := hm
  have hC : CMD W (cmO (fs.length : Int)) L := hS.2.1.1.2.1
  have h20 : W (cmO (fs.length : Int)) 2520 = 0 := hS.2.1.1.2.2.2.2.2.1
  have hvb := x_verb (fb := fb) (d := d + 13) hP hC hN
  rw [hv] at hvb
  have ho := cmO_o (i := (fs.length : Int)) ⟨by omega, by omega⟩
  have hkr := cmO_rng (i := (fs.length : Int)) ⟨by omega, by omega⟩
  have ek : cmO (fs.length : Int) = 2191 + 7 * fs.length := by unfold cmO; omega
  have hre := x_repeat (fb := fb) (d := d + 13) hP hC
  by_cases q1 : foK L
  rotate_left
  · rw [if_neg q1] at hQ
    have hre := hre.mono (Q := rP 18 σ) (fun r σ' h => h.1 q1)
    have hfin := lp_done (fb := fb) (d := d) (p := p) (e2 := 18) (Q := Q) (x4 := some (vR (some (cmO (fs.length : Int))))) hP hS hn ⟨hi.1, by omega⟩ (fun σ V hP hS => hQ σ V R (i + 1) _ _ hP (hS.monoT (show T ≤ T + 3000 * (c - c) + 3000 * 1 by omega) (show U ≤ U + 400 * (c - c) + 400 * 1 by omega)) ⟨Int.le_refl c, hc.2⟩ (show (0 : Int) ≤ 18 by decide) hJP ⟨by omega, show i + 1 + 4000 * (200 - c) ≤ i + 2 * (2000 * (200 - c) + 1500) by omega⟩)
    obtain ⟨k, hk⟩ : ∃ q, cmO (fs.length : Int) = q := ⟨_, rfl⟩
    rw [hk] at hvb hfin ho hre ⊢
    obtain ⟨pr, hpr⟩ : ∃ q, prO p = q := ⟨_, rfl⟩
    rw [hpr] at hfin ⊢
    refine x_ic T_96_70 ?_
    refine x_si (ls1 := [some (vR (some 128)), some (vI p), some (vR (some pr)), some (vI i), some (vR (some k)), some (vI 18)]) T_96_72 rfl ?_
    refine x_lr (z := some k) T_96_74 rfl ?_
    refine x_cv1 T_96_76 mN_114 mL_114 (Nat.le_of_ble_eq_true rfl) mO_114 (hP.o ho) (Nat.le_of_ble_eq_true rfl) (hvb) ?_
    rintro _ σ ⟨rfl, rfl⟩
    refine cI ?_
    refine x_swIn T_96_79 (by decide) (by decide) rfl ?_
    refine x_lr (z := some 128) T_96_546 rfl ?_
    refine x_gR (z := some 2187) T_96_547 F_0_2 (hP.o xo_128) (hP.rc xo_128 rfl rfl) ?_
    refine x_lr (z := some k) T_96_550 rfl ?_
    refine x_cv2 T_96_552 mN_198 mL_198 (Nat.le_of_ble_eq_true rfl) mO_198 (hP.o xo_2187) (Nat.le_of_ble_eq_true rfl) (hre) ?_
    rintro _ σ ⟨rfl, rfl⟩
    refine cI ?_
    refine x_si (ls1 := [some (vR (some 128)), some (vI p), some (vR (some pr)), some (vI i), some (vR (some k)), some (vI 18)]) T_96_555 rfl ?_
    refine x_goto T_96_557 ?_
    exact hfin
  · rw [if_pos q1] at hQ
    have hfv := foK_v q1
    obtain ⟨V, hV⟩ : ∃ q, rU (rU (rU W (cmO (fs.length : Int)) 2517 24) (cmO (fs.length : Int)) 2518 3) (cmO (fs.length : Int)) 2519 (pdO L + 1) = q := ⟨_, rfl⟩
    have hre := hre.mono (Q := fun r σ' => r = some (vI 0) ∧ PX σ0 V R σ') (fun r σ' h => by
      have h := h.2 q1
      rw [hV] at h
      exact h)
    have hF : FSL (cmO (fs.length : Int)) W V := by
      rw [← hV]
      exact FSL_tr (FSL_tr (FSL_k ⟨by decide, by decide⟩) (FSL_k ⟨by decide, by decide⟩)) (FSL_k ⟨by decide, by decide⟩)
    have hvv : V (cmO (fs.length : Int)) 2517 = 24 ∧ V (cmO (fs.length : Int)) 2518 = 3 ∧ V (cmO (fs.length : Int)) 2519 = pdO L + 1 ∧ V (cmO (fs.length : Int)) 2520 = 0 := by
      rw [← hV]
      exact ⟨(rU_j (by decide)).trans ((rU_j (by decide)).trans rU_s), (rU_j (by decide)).trans rU_s, rU_s, (rU_j (by decide)).trans ((rU_j (by decide)).trans ((rU_j (by decide)).trans h20))⟩
    have hv7 : ∀ j : Int, V 2187 j = W 2187 j := fun j => by
      rw [← hV]
      exact (rU_f (by omega)).trans ((rU_f (by omega)).trans (rU_f (by omega)))
    have hX : XW K T U V R P := hS.1.fsl hF ⟨by omega, by omega⟩
    have hS2 : XST K T U V R P ((2, L, 3, 0, []) :: fs) c e 0 := hS.top rfl hn hX (fun x j a1 a2 => hF x j (fun c => by omega) (fun c => by omega) (fun c => by omega) (fun c => by omega)) (hv7 _) (hv7 _) ((hv7 _).trans hS.2.2.2.2.1) ((hv7 _).trans hS.2.2.2.2.2) ⟨show (0 : Int) ≤ 2 by decide, show (2 : Int) ≤ 3 by decide⟩ ⟨hC.fsl hF, hvv.1, fun _ => hvv.2.1, fun _ => hvv.2.2.1, hvv.2.2.2, fun (h : (2 : Int) = 3) => absurd h (by decide)⟩
    have eM2 : evM (-2) (2, L, 3, 0, []) c = 2000 * (200 - c) + 701 - 3 := if_neg (by decide)
    have hfin := fun (σ : hM) (hP : PX σ0 V R σ) => lp_does (fb := fb) (d := d) (p := p) (e2 := 0) (i := i) (x4 := some (vR (some (cmO (fs.length : Int))))) hP hS2 (show (1 : Int) ≤ 2 by decide) hn ⟨hi.1, by omega⟩ (fun σ hP hS3 => hG (2, L, 3, 0, []) fs P _ R σ c 0 T U (i + 1) _ _ (by rw [eM2]; omega) (Or.inl ⟨rfl, q1, Int.le_refl 3, hfv.2.2.2.2.1⟩) hn hP hS3 (Or.inl rfl) hc hJP hdy ⟨by omega, by rw [eM2]; omega⟩ (by omega) hU.1 (by omega) (fun σ W3 R3 i3 x4 x5 hP hS5 k1 k2 k3 k4 => by
      rw [eM2] at k4
      rw [evK_2] at hS5
      exact hQ σ W3 R3 i3 x4 x5 hP (hS5.monoT (by omega) (by omega)) k1 k2 k3 ⟨by omega, by omega⟩))
    obtain ⟨k, hk⟩ : ∃ q, cmO (fs.length : Int) = q := ⟨_, rfl⟩
    rw [hk] at hvb ho hre ⊢
    simp only [hk] at hfin
    obtain ⟨pr, hpr⟩ : ∃ q, prO p = q := ⟨_, rfl⟩
    rw [hpr] at hfin ⊢
    refine x_ic T_96_70 ?_
    refine x_si (ls1 := [some (vR (some 128)), some (vI p), some (vR (some pr)), some (vI i), some (vR (some k)), some (vI 18)]) T_96_72 rfl ?_
    refine x_lr (z := some k) T_96_74 rfl ?_
    refine x_cv1 T_96_76 mN_114 mL_114 (Nat.le_of_ble_eq_true rfl) mO_114 (hP.o ho) (Nat.le_of_ble_eq_true rfl) (hvb) ?_
    rintro _ σ ⟨rfl, rfl⟩
    refine cI ?_
    refine x_swIn T_96_79 (by decide) (by decide) rfl ?_
    refine x_lr (z := some 128) T_96_546 rfl ?_
    refine x_gR (z := some 2187) T_96_547 F_0_2 (hP.o xo_128) (hP.rc xo_128 rfl rfl) ?_
    refine x_lr (z := some k) T_96_550 rfl ?_
    refine x_cv2 T_96_552 mN_198 mL_198 (Nat.le_of_ble_eq_true rfl) mO_198 (hP.o xo_2187) (Nat.le_of_ble_eq_true rfl) (hre) ?_
    clear hP hre
    rintro _ σ ⟨rfl, hP⟩
    refine cI ?_
    refine x_si (ls1 := [some (vR (some 128)), some (vI p), some (vR (some pr)), some (vI i), some (vR (some k)), some (vI 0)]) T_96_555 rfl ?_
    refine x_goto T_96_557 ?_
    exact hfin σ hP
end XLP7
