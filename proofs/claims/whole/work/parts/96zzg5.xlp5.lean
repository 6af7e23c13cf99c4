/-! The class's enter: a command has answered. -/
theorem T_96_70 : hTab 96 70 = some ((0, 0, 18, []), 72) := rfl
theorem T_96_72 : hTab 96 72 = some ((4, 5, 0, []), 74) := rfl
theorem T_96_74 : hTab 96 74 = some ((3, 4, 2, []), 76) := rfl
theorem T_96_76 : hTab 96 76 = some ((31, 114, 0, []), 79) := rfl
theorem T_96_79 : hTab 96 79 = some ((23, 575, 0, [196, 202, 217, 232, 247, 262, 277, 292, 307, 322, 337, 352, 367, 382, 397, 412, 427, 442, 457, 472, 487, 502, 517, 532, 546, 560]), 196) := rfl
theorem T_96_196 : hTab 96 196 = some ((0, 0, 0, []), 197) := rfl
theorem T_96_197 : hTab 96 197 = some ((4, 5, 0, []), 199) := rfl
theorem T_96_199 : hTab 96 199 = some ((22, 0, Int.ofNat 575, []), 202) := rfl
theorem T_96_575 : hTab 96 575 = some ((3, 0, 2, []), 576) := rfl
theorem T_96_576 : hTab 96 576 = some ((24, 0, Int.ofNat 2, []), 579) := rfl
theorem T_96_579 : hTab 96 579 = some ((3, 5, 0, []), 581) := rfl
theorem T_96_581 : hTab 96 581 = some ((31, 113, 0, []), 584) := rfl
section XLP5
variable {fb : Bool} {d b k n : Nat} {σ0 σ : hM} {W W1 W2 V V0 V2 V3 P : qR} {R : rR} {i j x z v s e p D w K T U a c ex pos mu e2 : Int} {l sc lo wd src L L2 t ss : List Int} {fs : List Fr} {fr : Fr} {Q : Option AV → hM → Prop} {J : qR → Prop} {m : Nat}
/-- the answer's place and the frames' number are written -/
theorem XST.put (h : XST K T U W R P (fr :: fs) c e w) : XST K T U (rU W 2187 2484 v) R P (fr :: fs) c v w := by
  obtain ⟨hX, hFS, h1, h2, h3, h4⟩ := h
  exact ⟨hX.hiw (fun x j hx => rU_f (by omega)) (fun _ _ _ => rfl), hFS.eqv (fun x j a b => rU_f (by omega)), (rU_j (by decide)).trans h1, (rU_j (by decide)).trans h2, rU_s, (rU_j (by decide)).trans h4⟩
theorem XST.off (h : XST K T U W R P (fr :: fs) c e w) : XST K T U (rU W 2187 2482 (fs.length : Int)) R P fs c e w := by
  obtain ⟨hX, ⟨-, hFS⟩, h1, h2, h3, h4⟩ := h
  exact ⟨hX.hiw (fun x j hx => rU_f (by omega)) (fun _ _ _ => rfl), hFS.eqv (fun x j a b => rU_f (by omega)), rU_s, (rU_j (by decide)).trans h2, (rU_j (by decide)).trans h3, (rU_j (by decide)).trans h4⟩
/-- it has ended -/
theorem lp_done {x4 : Option AV} (hP : PX σ0 W R σ) (hS : XST K T U W R P ((0, L, pos, mu, ss) :: fs) c e w) (hn : fs.length < 12) (hi : 0 ≤ i ∧ i < 1000000) (hgo : ∀ (σ : hM) (V : qR), PX σ0 V R σ → XST K T U V R P fs c e2 w → LPH fb d p (i + 1) x4 (some (vI e2)) σ Q) : WP fb (d + 20) 96 575 [some (vR (some 128)), some (vI p), some (vR (some (prO p))), some (vI i), x4, some (vI e2)] [] σ Q := by
  have hD : W 2187 2482 = (fs.length : Int) + 1 := hS.2.2.1
  have hkd : W (cmO (fs.length : Int)) 2517 = 0 := hS.2.1.1.2.2.1
  have he := x_endS (fb := fb) (d := d + 19) (v := e2) hP hD ⟨by omega, by omega⟩
  rw [show (fs.length : Int) + 1 - 1 = (fs.length : Int) by omega, if_pos hkd] at he
  have hS2 : XST K T U (rU (rU W 2187 2484 e2) 2187 2482 (fs.length : Int)) R P fs c e2 w := hS.put.off
  unfold LPH at hgo
  obtain ⟨pr, hpr⟩ : ∃ q, prO p = q := ⟨_, rfl⟩
  rw [hpr] at hgo ⊢
  refine x_lr (z := some 128) T_96_575 rfl ?_
  refine x_gR (z := some 2187) T_96_576 F_0_2 (hP.o xo_128) (hP.rc xo_128 rfl rfl) ?_
  refine x_li (z := e2) T_96_579 rfl ?_
  refine x_cv2 T_96_581 mN_113 mL_113 (Nat.le_of_ble_eq_true rfl) mO_113 (hP.o xo_2187) (Nat.le_of_ble_eq_true rfl) (he) ?_
  clear hP he
  rintro _ σ ⟨rfl, hP⟩
  refine cV ?_
  refine x_inc (w := (i + 1)) (ls1 := [some (vR (some 128)), some (vI p), some (vR (some pr)), some (vI (i + 1)), x4, some (vI e2)]) T_96_584 rfl (w32_id (by omega) (by omega)) rfl ?_
  refine x_goto T_96_587 ?_
  exact hgo σ _ hP hS2
/-- it has begun to do others -/
theorem lp_does {x4 : Option AV} (hP : PX σ0 W R σ) (hS : XST K T U W R P (fr :: fs) c e w) (hf : 1 ≤ fr.1) (hn : fs.length < 12) (hi : 0 ≤ i ∧ i < 1000000) (hgo : ∀ (σ : hM), PX σ0 (rU W 2187 2484 e2) R σ → XST K T U (rU W 2187 2484 e2) R P (fr :: fs) c e2 w → LPH fb d p (i + 1) x4 (some (vI e2)) σ Q) : WP fb (d + 20) 96 575 [some (vR (some 128)), some (vI p), some (vR (some (prO p))), some (vI i), x4, some (vI e2)] [] σ Q := by
  have hD : W 2187 2482 = (fs.length : Int) + 1 := hS.2.2.1
  have hkd := hS.2.1.1.2.2.1
  have hf3 := hS.2.1.1.1
  have hk0 : ¬ W (cmO (fs.length : Int)) 2517 = 0 := by
    rw [hkd, if_neg (by omega)]
    split
    · decide
    · split <;> decide
  have he := x_endS (fb := fb) (d := d + 19) (v := e2) hP hD ⟨by omega, by omega⟩
  rw [show (fs.length : Int) + 1 - 1 = (fs.length : Int) by omega, if_neg hk0] at he
  have hS2 := hS.put (v := e2)
  unfold LPH at hgo
  obtain ⟨pr, hpr⟩ : ∃ q, prO p = q := ⟨_, rfl⟩
  rw [hpr] at hgo ⊢
  refine x_lr (z := some 128) T_96_575 rfl ?_
  refine x_gR (z := some 2187) T_96_576 F_0_2 (hP.o xo_128) (hP.rc xo_128 rfl rfl) ?_
  refine x_li (z := e2) T_96_579 rfl ?_
  refine x_cv2 T_96_581 mN_113 mL_113 (Nat.le_of_ble_eq_true rfl) mO_113 (hP.o xo_2187) (Nat.le_of_ble_eq_true rfl) (he) ?_
  clear hP he
  rintro _ σ ⟨rfl, hP⟩
  refine cV ?_
  refine x_inc (w := (i + 1)) (ls1 := [some (vR (some 128)), some (vI p), some (vR (some pr)), some (vI (i + 1)), x4, some (vI e2)]) T_96_584 rfl (w32_id (by omega) (by omega)) rfl ?_
  refine x_goto T_96_587 ?_
  exact hgo σ hP hS2
/-- a line without words -/
theorem lp_empty {x5 : Option AV} (hP : PX σ0 W R σ) (hS : XST K T U W R P ((0, L, 0, 0, []) :: fs) c e w) (hL : ((lnW L).length : Int) = 0) (hn : fs.length < 12) (hi : 0 ≤ i ∧ i < 1000000) (hgo : ∀ (σ : hM) (V : qR), PX σ0 V R σ → XST K T U V R P fs c 0 w → LPH fb d p (i + 1) (some (vR (some (cmO (fs.length : Int))))) (some (vI 0)) σ Q) : WP fb (d + 20) 96 70 [some (vR (some 128)), some (vI p), some (vR (some (prO p))), some (vI i), some (vR (some (cmO (fs.length : Int)))), x5] [] σ Q := by
  have hC : CMD W (cmO (fs.length : Int)) L := hS.2.1.1.2.1
  have hvb := x_verb0 (fb := fb) (d := d + 19) hP hC hL
  have hfin := lp_done (fb := fb) (d := d) (p := p) (x4 := some (vR (some (cmO (fs.length : Int))))) hP hS hn hi hgo
  have ho := cmO_o (i := (fs.length : Int)) ⟨by omega, by omega⟩
  obtain ⟨k, hk⟩ : ∃ q, cmO (fs.length : Int) = q := ⟨_, rfl⟩
  rw [hk] at hvb hfin ho ⊢
  obtain ⟨pr, hpr⟩ : ∃ q, prO p = q := ⟨_, rfl⟩
  rw [hpr] at hfin ⊢
  refine x_ic T_96_70 ?_
  refine x_si (ls1 := [some (vR (some 128)), some (vI p), some (vR (some pr)), some (vI i), some (vR (some k)), some (vI 18)]) T_96_72 rfl ?_
  refine x_lr (z := some k) T_96_74 rfl ?_
  refine x_cv1 T_96_76 mN_114 mL_114 (Nat.le_of_ble_eq_true rfl) mO_114 (hP.o ho) (Nat.le_of_ble_eq_true rfl) (hvb) ?_
  rintro _ σ ⟨rfl, rfl⟩
  refine cI ?_
  refine x_swIn T_96_79 (by decide) (by decide) rfl ?_
  refine x_ic T_96_196 ?_
  refine x_si (ls1 := [some (vR (some 128)), some (vI p), some (vR (some pr)), some (vI i), some (vR (some k)), some (vI 0)]) T_96_197 rfl ?_
  refine x_goto T_96_199 ?_
  exact hfin
end XLP5
