/-! The class's own methods: a process's variables. -/
theorem T_219_19 : hTab 219 19 = some ((3, 4, 2, []), 21) := rfl
theorem T_219_21 : hTab 219 21 = some ((3, 2, 0, []), 22) := rfl
theorem T_219_22 : hTab 219 22 = some ((31, 107, 0, []), 25) := rfl
theorem T_219_36 : hTab 219 36 = some ((3, 5, 2, []), 38) := rfl
theorem T_219_38 : hTab 219 38 = some ((3, 3, 0, []), 39) := rfl
theorem T_219_39 : hTab 219 39 = some ((31, 33, 0, []), 42) := rfl
section XGETB
variable {fb : Bool} {d b : Nat} {σ0 σ : hM} {W W2 P : qR} {R : rR} {i p x z K T U : Int} {l : List Int}
theorem x_variableX (hP : PX σ0 W R σ) (hX : XW K T U W R P) : CL fb (d + 1) 219 [vR (some 128), vI p, vI x, vI i] σ (rP (yVar P p x i) σ) := by
  have hli := x_livP (fb := fb) (d := d) (p := p) hP hX.1.2.2.1
  unfold yVar
  by_cases q : isPr P p
  · obtain ⟨hp, hlv⟩ := isPr_v q
    rw [if_pos q] at hli
    have hL := (hX.1.2.2.1.1 p hp.1 hp.2).2.2.2 hlv
    have hvo := x_variableOf (fb := fb) (d := d) (k := x) hP hp
    have hpo := prO_o hp
    by_cases qx : 0 ≤ x ∧ x < 26
    · rw [if_pos qx] at hvo
      have hB := hL.2.2.2.2.2 x qx.1 qx.2
      have hs : 0 ≤ P 2362 (26 * p + x) ∧ P 2362 (26 * p + x) ≤ 20 := IV.a hX.1.2.2.2.1.iv 2362 0 208 rfl rfl rfl (by omega) (by omega)
      have hat := x_at (fb := fb) (d := d) (i := i) hP hB
      rw [seg_len] at hat
      have hbo := hB.1
      have e : (if (isPr P p ∧ (0 ≤ x ∧ x ≤ 25)) ∧ (0 ≤ i ∧ i ≤ P 2362 (26 * p + x) - 1) then P 2361 (20 * (26 * p + x) + i) else -1) = if 0 ≤ i ∧ i < (((P 2362 (26 * p + x)).toNat : Nat) : Int) then lg (seg (P 2361) (20 * (26 * p + x)) (P 2362 (26 * p + x)).toNat) i else -1 := by
        by_cases q2 : 0 ≤ i ∧ i < P 2362 (26 * p + x)
        · rw [if_pos ⟨⟨q, by omega⟩, by omega⟩, if_pos (by omega), lg_seg _ _ _ _ (by omega) (by omega)]
        · rw [if_neg (fun c => q2 (by omega)), if_neg (fun c => q2 (by omega))]
      rw [e]
      obtain ⟨v, hv⟩ : ∃ v, (if 0 ≤ i ∧ i < (((P 2362 (26 * p + x)).toNat : Nat) : Int) then lg (seg (P 2361) (20 * (26 * p + x)) (P 2362 (26 * p + x)).toNat) i else -1) = v := ⟨_, rfl⟩
      rw [hv] at hat ⊢
      obtain ⟨pr, hpr⟩ : ∃ q, prO p = q := ⟨_, rfl⟩
      rw [hpr] at hli hpo hbo hat hvo
      obtain ⟨vb, hvb⟩ : ∃ q, pr + 7 + 2 * x.toNat = q := ⟨_, rfl⟩
      rw [hvb] at hbo hat hvo
      refine CL_in mL_219 rfl ?_
      show WP fb _ 219 0 [some (vR (some 128)), some (vI p), some (vI x), some (vI i), none, none] [] σ _
      refine x_lr (z := some 128) T_219_0 rfl ?_
      refine x_gR (z := some 129) T_219_1 F_0_0 (hP.o xo_128) (hP.rc xo_128 rfl rfl) ?_
      refine x_li (z := p) T_219_4 rfl ?_
      refine x_cv2 T_219_5 mN_97 mL_97 (Nat.le_of_ble_eq_true rfl) mO_97 (hP.o xo_129) (Nat.le_of_ble_eq_true rfl) (hli) ?_
      rintro _ σ ⟨rfl, rfl⟩
      refine cR ?_
      refine x_sr (ls1 := [some (vR (some 128)), some (vI p), some (vI x), some (vI i), some (vR (some pr)), none]) T_219_8 rfl ?_
      refine x_lr (z := some pr) T_219_10 rfl ?_
      refine x_nnul T_219_12 (fun _ _ => ?_) (fun h0 => absurd h0 (by simp))
      refine x_lr (z := some pr) T_219_19 rfl ?_
      refine x_li (z := x) T_219_21 rfl ?_
      refine x_cv2 T_219_22 mN_107 mL_107 (Nat.le_of_ble_eq_true rfl) mO_107 (hP.o hpo) (Nat.le_of_ble_eq_true rfl) (hvo) ?_
      rintro _ σ ⟨rfl, rfl⟩
      refine cR ?_
      refine x_sr (ls1 := [some (vR (some 128)), some (vI p), some (vI x), some (vI i), some (vR (some pr)), some (vR (some vb))]) T_219_25 rfl ?_
      refine x_lr (z := some vb) T_219_27 rfl ?_
      refine x_nnul T_219_29 (fun _ _ => ?_) (fun h0 => absurd h0 (by simp))
      refine x_lr (z := some vb) T_219_36 rfl ?_
      refine x_li (z := i) T_219_38 rfl ?_
      refine x_cv2 T_219_39 mN_33 mL_33 (Nat.le_of_ble_eq_true rfl) mO_33 (hP.o hbo) (Nat.le_of_ble_eq_true rfl) (hat) ?_
      rintro _ σ ⟨rfl, rfl⟩
      refine cI ?_
      refine x_ri T_219_42 ?_
      exact ⟨rfl, rfl⟩
    · rw [if_neg qx] at hvo
      rw [if_neg (fun c => qx (by omega))]
      obtain ⟨pr, hpr⟩ : ∃ q, prO p = q := ⟨_, rfl⟩
      rw [hpr] at hli hpo hvo
      refine CL_in mL_219 rfl ?_
      show WP fb _ 219 0 [some (vR (some 128)), some (vI p), some (vI x), some (vI i), none, none] [] σ _
      refine x_lr (z := some 128) T_219_0 rfl ?_
      refine x_gR (z := some 129) T_219_1 F_0_0 (hP.o xo_128) (hP.rc xo_128 rfl rfl) ?_
      refine x_li (z := p) T_219_4 rfl ?_
      refine x_cv2 T_219_5 mN_97 mL_97 (Nat.le_of_ble_eq_true rfl) mO_97 (hP.o xo_129) (Nat.le_of_ble_eq_true rfl) (hli) ?_
      rintro _ σ ⟨rfl, rfl⟩
      refine cR ?_
      refine x_sr (ls1 := [some (vR (some 128)), some (vI p), some (vI x), some (vI i), some (vR (some pr)), none]) T_219_8 rfl ?_
      refine x_lr (z := some pr) T_219_10 rfl ?_
      refine x_nnul T_219_12 (fun _ _ => ?_) (fun h0 => absurd h0 (by simp))
      refine x_lr (z := some pr) T_219_19 rfl ?_
      refine x_li (z := x) T_219_21 rfl ?_
      refine x_cv2 T_219_22 mN_107 mL_107 (Nat.le_of_ble_eq_true rfl) mO_107 (hP.o hpo) (Nat.le_of_ble_eq_true rfl) (hvo) ?_
      rintro _ σ ⟨rfl, rfl⟩
      refine cR ?_
      refine x_sr (ls1 := [some (vR (some 128)), some (vI p), some (vI x), some (vI i), some (vR (some pr)), some (vR none)]) T_219_25 rfl ?_
      refine x_lr (z := none) T_219_27 rfl ?_
      refine x_nnul T_219_29 (fun a0 h0 => absurd h0 (by simp)) (fun _ => ?_)
      refine x_ic T_219_32 ?_
      refine x_goto T_219_33 ?_
      refine x_ri T_219_42 ?_
      exact ⟨rfl, rfl⟩
  · rw [if_neg q] at hli
    rw [if_neg (fun c => q c.1.1)]
    refine CL_in mL_219 rfl ?_
    show WP fb _ 219 0 [some (vR (some 128)), some (vI p), some (vI x), some (vI i), none, none] [] σ _
    refine x_lr (z := some 128) T_219_0 rfl ?_
    refine x_gR (z := some 129) T_219_1 F_0_0 (hP.o xo_128) (hP.rc xo_128 rfl rfl) ?_
    refine x_li (z := p) T_219_4 rfl ?_
    refine x_cv2 T_219_5 mN_97 mL_97 (Nat.le_of_ble_eq_true rfl) mO_97 (hP.o xo_129) (Nat.le_of_ble_eq_true rfl) (hli) ?_
    rintro _ σ ⟨rfl, rfl⟩
    refine cR ?_
    refine x_sr (ls1 := [some (vR (some 128)), some (vI p), some (vI x), some (vI i), some (vR none), none]) T_219_8 rfl ?_
    refine x_lr (z := none) T_219_10 rfl ?_
    refine x_nnul T_219_12 (fun a0 h0 => absurd h0 (by simp)) (fun _ => ?_)
    refine x_nu T_219_15 ?_
    refine x_goto T_219_16 ?_
    refine x_sr (ls1 := [some (vR (some 128)), some (vI p), some (vI x), some (vI i), some (vR none), some (vR none)]) T_219_25 rfl ?_
    refine x_lr (z := none) T_219_27 rfl ?_
    refine x_nnul T_219_29 (fun a0 h0 => absurd h0 (by simp)) (fun _ => ?_)
    refine x_ic T_219_32 ?_
    refine x_goto T_219_33 ?_
    refine x_ri T_219_42 ?_
    exact ⟨rfl, rfl⟩
end XGETB
