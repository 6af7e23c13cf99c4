/-! The class's enter: an if. -/
theorem T_96_532 : hTab 96 532 = some ((3, 0, 2, []), 533) := rfl
theorem T_96_533 : hTab 96 533 = some ((24, 0, Int.ofNat 2, []), 536) := rfl
theorem T_96_536 : hTab 96 536 = some ((3, 4, 2, []), 538) := rfl
theorem T_96_538 : hTab 96 538 = some ((31, 196, 0, []), 541) := rfl
theorem T_96_541 : hTab 96 541 = some ((4, 5, 0, []), 543) := rfl
theorem T_96_543 : hTab 96 543 = some ((22, 0, Int.ofNat 575, []), 546) := rfl
section XLP6
variable {fb : Bool} {d b k n : Nat} {σ0 σ : hM} {W W1 W2 V V0 V2 V3 P : qR} {R : rR} {i j x z v s e p D w K T U a c ex pos mu e2 : Int} {l sc lo wd src L L2 t ss : List Int} {fs : List Fr} {fr : Fr} {Q : Option AV → hM → Prop} {J : qR → Prop} {m : Nat}
theorem ev_if {x5 : Option AV} (hp : 0 ≤ p ∧ p < 8) (hJ : ∀ P, J P → ¬ P 2320 p = 0) (hA : XEVB fb d σ0 K p J Q m) (hN : 0 < ((lnW L).length : Int)) (hv : vbN (lnB L 0) = 23) (hpk : pkW (lnB L 0) = 26982) (hm : evM (-1) (0, L, 0, 0, []) c < ((m + 1 : Nat) : Int)) (hn : fs.length < 12) (hP : PX σ0 W R σ) (hS : XST K T U W R P ((0, L, 0, 0, []) :: fs) c e 0) (hc : 0 ≤ c ∧ c ≤ 200) (hJP : J P) (hdy : P 2321 p = 0) (hi : 0 ≤ i ∧ i + 2 * evM (-1) (0, L, 0, 0, []) c ≤ 900000) (hT : T + 3000 * (202 - c) + 3000 + 1000 ≤ 2147483000) (hU : 10000 ≤ U ∧ U + 400 * (202 - c) + 400 ≤ 2147480000) (hQ : XCT fb d σ0 K p J Q (-1) T U i (0, L, 0, 0, []) fs c (EV p (m + 1) (-1) ((fs.length : Int) + 1) (arOf fs) (0, L, 0, 0, []) P c)) : WP fb (d + 20) 96 70 [some (vR (some 128)), some (vI p), some (vR (some (prO p))), some (vI i), some (vR (some (cmO (fs.length : Int)))), x5] [] σ Q := by
  have eM : evM (-1) (0, L, 0, 0, []) c = 2000 * (200 - c) + 1500 := if_pos rfl
  have eE : EV p (m + 1) (-1) ((fs.length : Int) + 1) (arOf fs) (0, L, 0, 0, []) P c = if ifK L = 0 then (18, P, c) else if (if lnB L 1 = lnB L 3 then (1 : Int) else 0) = (if ifK L = 1 then 1 else 0) then evC (EV p m) ((fs.length : Int) + 1) (arOf fs) (exL P p (arOf fs) 0 (jnS L 4)) P c else (0, P, c) := by
    show (if (-1 : Int) = -1 then (if (lnW L).length = 0 then _ else if pkW (lnB L 0) = 26982 then _ else _) else _) = _
    rw [if_pos rfl, if_neg (by omega), if_pos hpk]
  rw [eE] at hQ
  rw [eM] at hm hi
  unfold XCT at hQ
  rw [eM, evK_1] at hQ
  have hm : 2000 * (200 - c) + 1500 < (m : Int) + 1 := hm
  have hC : CMD W (cmO (fs.length : Int)) L := hS.2.1.1.2.1
  have h20 : W (cmO (fs.length : Int)) 2520 = 0 := hS.2.1.1.2.2.2.2.2.1
  have hvb := x_verb (fb := fb) (d := d + 13) hP hC hN
  rw [hv] at hvb
  have ho := cmO_o (i := (fs.length : Int)) ⟨by omega, by omega⟩
  have hkr := cmO_rng (i := (fs.length : Int)) ⟨by omega, by omega⟩
  have ek : cmO (fs.length : Int) = 2191 + 7 * fs.length := by unfold cmO; omega
  have hdone := fun (e2 : Int) (hr : 0 ≤ e2) (he : (if ifK L = 0 then (18, P, c) else if (if lnB L 1 = lnB L 3 then (1 : Int) else 0) = (if ifK L = 1 then 1 else 0) then evC (EV p m) ((fs.length : Int) + 1) (arOf fs) (exL P p (arOf fs) 0 (jnS L 4)) P c else (0, P, c)) = (e2, P, c)) => lp_done (fb := fb) (d := d) (p := p) (e2 := e2) (Q := Q) (x4 := some (vR (some (cmO (fs.length : Int))))) hP hS hn ⟨hi.1, by omega⟩ (fun σ V hP hS => by
    rw [he] at hQ
    exact hQ σ V R (i + 1) _ _ hP (hS.monoT (show T ≤ T + 3000 * (c - c) + 3000 * 1 by omega) (show U ≤ U + 400 * (c - c) + 400 * 1 by omega)) ⟨Int.le_refl c, hc.2⟩ hr hJP ⟨by omega, show i + 1 + 4000 * (200 - c) ≤ i + 2 * (2000 * (200 - c) + 1500) by omega⟩)
  by_cases q1 : ifK L = 0
  · have hch := x_choose0 (fb := fb) (d := d + 13) hP hC q1
    have hfin := hdone 18 (by decide) (if_pos q1)
    obtain ⟨k, hk⟩ : ∃ q, cmO (fs.length : Int) = q := ⟨_, rfl⟩
    rw [hk] at hvb hfin ho hch ⊢
    obtain ⟨pr, hpr⟩ : ∃ q, prO p = q := ⟨_, rfl⟩
    rw [hpr] at hfin ⊢
    refine x_ic T_96_70 ?_
    refine x_si (ls1 := [some (vR (some 128)), some (vI p), some (vR (some pr)), some (vI i), some (vR (some k)), some (vI 18)]) T_96_72 rfl ?_
    refine x_lr (z := some k) T_96_74 rfl ?_
    refine x_cv1 T_96_76 mN_114 mL_114 (Nat.le_of_ble_eq_true rfl) mO_114 (hP.o ho) (Nat.le_of_ble_eq_true rfl) (hvb) ?_
    rintro _ σ ⟨rfl, rfl⟩
    refine cI ?_
    refine x_swIn T_96_79 (by decide) (by decide) rfl ?_
    refine x_lr (z := some 128) T_96_532 rfl ?_
    refine x_gR (z := some 2187) T_96_533 F_0_2 (hP.o xo_128) (hP.rc xo_128 rfl rfl) ?_
    refine x_lr (z := some k) T_96_536 rfl ?_
    refine x_cv2 T_96_538 mN_196 mL_196 (Nat.le_of_ble_eq_true rfl) mO_196 (hP.o xo_2187) (Nat.le_of_ble_eq_true rfl) (hch) ?_
    rintro _ σ ⟨rfl, rfl⟩
    refine cI ?_
    refine x_si (ls1 := [some (vR (some 128)), some (vI p), some (vR (some pr)), some (vI i), some (vR (some k)), some (vI 18)]) T_96_541 rfl ?_
    refine x_goto T_96_543 ?_
    exact hfin
  have hch := x_choose (fb := fb) (d := d + 13) hP hC q1
  by_cases q2 : (if lnB L 1 = lnB L 3 then (1 : Int) else 0) = (if ifK L = 1 then 1 else 0)
  rotate_left
  · simp only [if_neg q2] at hch
    have hfin := hdone 0 (by decide) (by rw [if_neg q1, if_neg q2])
    obtain ⟨k, hk⟩ : ∃ q, cmO (fs.length : Int) = q := ⟨_, rfl⟩
    rw [hk] at hvb hfin ho hch ⊢
    obtain ⟨pr, hpr⟩ : ∃ q, prO p = q := ⟨_, rfl⟩
    rw [hpr] at hfin ⊢
    refine x_ic T_96_70 ?_
    refine x_si (ls1 := [some (vR (some 128)), some (vI p), some (vR (some pr)), some (vI i), some (vR (some k)), some (vI 18)]) T_96_72 rfl ?_
    refine x_lr (z := some k) T_96_74 rfl ?_
    refine x_cv1 T_96_76 mN_114 mL_114 (Nat.le_of_ble_eq_true rfl) mO_114 (hP.o ho) (Nat.le_of_ble_eq_true rfl) (hvb) ?_
    rintro _ σ ⟨rfl, rfl⟩
    refine cI ?_
    refine x_swIn T_96_79 (by decide) (by decide) rfl ?_
    refine x_lr (z := some 128) T_96_532 rfl ?_
    refine x_gR (z := some 2187) T_96_533 F_0_2 (hP.o xo_128) (hP.rc xo_128 rfl rfl) ?_
    refine x_lr (z := some k) T_96_536 rfl ?_
    refine x_cv2 T_96_538 mN_196 mL_196 (Nat.le_of_ble_eq_true rfl) mO_196 (hP.o xo_2187) (Nat.le_of_ble_eq_true rfl) (hch) ?_
    rintro _ σ ⟨rfl, rfl⟩
    refine cI ?_
    refine x_si (ls1 := [some (vR (some 128)), some (vI p), some (vR (some pr)), some (vI i), some (vR (some k)), some (vI 0)]) T_96_541 rfl ?_
    refine x_goto T_96_543 ?_
    exact hfin
  · simp only [if_pos q2] at hch
    rw [if_neg q1, if_pos q2] at hQ
    have eA : arOf ((1, L, 0, 0, []) :: fs) = arOf fs := if_neg (show ¬ (1 : Int) = 3 by decide)
    have el : ((((1, L, 0, 0, []) : Fr) :: fs).length : Int) = (fs.length : Int) + 1 := rfl
    have hfin : ∀ (σ : hM) (V : qR), PX σ0 V R σ → JNX σ0 (rU W (cmO (fs.length : Int)) 2517 23) R (cmO (fs.length : Int)) 0 (jnS L 4) V → WP fb (d + 20) 96 575 [some (vR (some 128)), some (vI p), some (vR (some (prO p))), some (vI i), some (vR (some (cmO (fs.length : Int)))), some (vI 0)] [] σ Q := fun σ V hP hJN => by
      obtain ⟨j1, j2, j3, j4, j5, j6⟩ := hJN
      have hF : FSL (cmO (fs.length : Int)) W V := FSL_tr (FSL_k ⟨by decide, by decide⟩) j1
      have hX : XW K T U V R P := hS.1.fsl hF ⟨by omega, by omega⟩
      have hS2 : XST K T U V R P ((1, L, 0, 0, []) :: fs) c (V 2187 2484) 1 := hS.top rfl hn hX (fun x j a1 a2 => hF x j (fun c => by omega) (fun c => by omega) (fun c => by omega) (fun c => by omega)) (hF _ _ (fun c => by omega) (fun c => by omega) (fun c => by omega) (fun c => by omega)) (hF _ _ (fun c => by omega) (fun c => by omega) (fun c => by omega) (fun c => by omega)) rfl j4 ⟨show (0 : Int) ≤ 1 by decide, show (1 : Int) ≤ 3 by decide⟩ ⟨hC.fsl hF, (j2 _).trans rU_s, fun (h : (2 : Int) ≤ 1) => absurd h (by decide), fun (h : (1 : Int) = 2) => absurd h (by decide), (j2 _).trans ((rU_j (by decide)).trans h20), fun (h : (1 : Int) = 3) => absurd h (by decide)⟩
      refine lp_does hP hS2 (show (1 : Int) ≤ 1 by decide) hn ⟨hi.1, by omega⟩ (fun σ hP hS3 => ?_)
      refine ev_line (m := m) (src := jnS L 4) (ex := 0) hp hA (hJ P hJP) hP hS3 ⟨(rU_j (by decide)).trans j5, j6.key (by decide) (by decide)⟩ (Or.inl rfl) (by show fs.length + 1 ≤ 12; omega) hc ⟨by omega, by omega⟩ hJP hdy (by omega) ⟨hU.1, by omega⟩ (by omega) (fun σ W2 R2 i2 x4 x5 hP hS4 g1 g2 g3 g4 => ?_)
      rw [eA, el] at hS4 g1 g2 g3 g4
      obtain ⟨rr, hrr⟩ : ∃ q, evC (EV p m) ((fs.length : Int) + 1) (arOf fs) (exL P p (arOf fs) 0 (jnS L 4)) P c = q := ⟨_, rfl⟩
      rw [hrr] at hS4 g1 g2 g3 g4 hQ
      have hmu : W2 (cmO (fs.length : Int)) 2520 = 0 := hS4.2.1.1.2.2.2.2.2.1
      refine lp_res hP hS4.2.2 (by show (0 : Int) < ((fs.length + 1 : Nat) : Int); omega) ⟨by omega, by omega⟩ (x_resE (d := d + 14) hP hS4 hn hp hmu (show (1 : Int) ≤ 1 by decide) (Or.inl rfl)) (fun σ V hP hS5 => ?_)
      rw [if_pos rfl] at hS5
      exact hQ σ V R2 (i2 + 1) _ _ hP (hS5.monoT (by omega) (by omega)) g1 g2 g3 ⟨by omega, by omega⟩
    obtain ⟨k, hk⟩ : ∃ q, cmO (fs.length : Int) = q := ⟨_, rfl⟩
    rw [hk] at hvb ho hch ⊢
    simp only [hk] at hfin
    obtain ⟨pr, hpr⟩ : ∃ q, prO p = q := ⟨_, rfl⟩
    rw [hpr] at hfin ⊢
    refine x_ic T_96_70 ?_
    refine x_si (ls1 := [some (vR (some 128)), some (vI p), some (vR (some pr)), some (vI i), some (vR (some k)), some (vI 18)]) T_96_72 rfl ?_
    refine x_lr (z := some k) T_96_74 rfl ?_
    refine x_cv1 T_96_76 mN_114 mL_114 (Nat.le_of_ble_eq_true rfl) mO_114 (hP.o ho) (Nat.le_of_ble_eq_true rfl) (hvb) ?_
    rintro _ σ ⟨rfl, rfl⟩
    refine cI ?_
    refine x_swIn T_96_79 (by decide) (by decide) rfl ?_
    refine x_lr (z := some 128) T_96_532 rfl ?_
    refine x_gR (z := some 2187) T_96_533 F_0_2 (hP.o xo_128) (hP.rc xo_128 rfl rfl) ?_
    refine x_lr (z := some k) T_96_536 rfl ?_
    refine x_cv2 T_96_538 mN_196 mL_196 (Nat.le_of_ble_eq_true rfl) mO_196 (hP.o xo_2187) (Nat.le_of_ble_eq_true rfl) (hch) ?_
    clear hP hch
    rintro _ σ ⟨rfl, V, hP, hJN⟩
    refine cI ?_
    refine x_si (ls1 := [some (vR (some 128)), some (vI p), some (vR (some pr)), some (vI i), some (vR (some k)), some (vI 0)]) T_96_541 rfl ?_
    refine x_goto T_96_543 ?_
    exact hfin σ V hP hJN
end XLP6
