/-! The class's servers: a stat. -/
theorem T_85_0 : hTab 85 0 = some ((3, 1, 2, []), 1) := rfl
theorem T_85_1 : hTab 85 1 = some ((24, 9, Int.ofNat 3, []), 4) := rfl
theorem T_85_4 : hTab 85 4 = some ((20, 1, Int.ofNat 9, []), 7) := rfl
theorem T_85_7 : hTab 85 7 = some ((0, 0, 1, []), 8) := rfl
theorem T_85_8 : hTab 85 8 = some ((33, 1, 0, []), 9) := rfl
theorem T_85_9 : hTab 85 9 = some ((3, 0, 2, []), 10) := rfl
theorem T_85_10 : hTab 85 10 = some ((24, 7, Int.ofNat 10, []), 13) := rfl
theorem T_85_13 : hTab 85 13 = some ((3, 1, 2, []), 14) := rfl
theorem T_85_14 : hTab 85 14 = some ((24, 9, Int.ofNat 3, []), 17) := rfl
theorem T_85_17 : hTab 85 17 = some ((31, 76, 0, []), 20) := rfl
theorem T_85_20 : hTab 85 20 = some ((14, 0, 0, []), 21) := rfl
theorem T_85_21 : hTab 85 21 = some ((0, 0, 2, []), 22) := rfl
theorem T_85_22 : hTab 85 22 = some ((31, 22, 0, []), 25) := rfl
theorem T_85_25 : hTab 85 25 = some ((3, 0, 2, []), 26) := rfl
theorem T_85_26 : hTab 85 26 = some ((3, 1, 2, []), 27) := rfl
theorem T_85_27 : hTab 85 27 = some ((24, 9, Int.ofNat 3, []), 30) := rfl
theorem T_85_30 : hTab 85 30 = some ((31, 77, 0, []), 33) := rfl
theorem T_85_33 : hTab 85 33 = some ((0, 0, 0, []), 34) := rfl
theorem T_85_34 : hTab 85 34 = some ((33, 1, 0, []), 35) := rfl
theorem mN_85 : hmN 85 = 2 := by decide +kernel
theorem mL_85 : hmL 85 = 2 := by decide +kernel
theorem mK_85 : hmK 85 = 1 := by decide +kernel
theorem mO_85 : hmO 85 = 7 := by decide +kernel
section XSTA
variable {fb : Bool} {d S a b rp N : Nat} {σ0 σ : hM} {W W0 W1 W2 P : qR} {R R2 : rR} {i k x z v s e w c f u y n p : Int} {l l2 ord : List Int} {t : Nat → Nat}
theorem x_doStat_n (hP : PX σ0 W R σ) (ha : tX a = some (Sum.inl 9)) (hf : R a 2291 = none) : CL fb d 85 [vR (some S), vR (some a)] σ (rP 1 σ) := by
  refine CL_in mL_85 rfl ?_
  show WP fb _ 85 0 [some (vR (some S)), some (vR (some a))] [] σ _
  refine x_lr (z := some a) T_85_0 rfl ?_
  refine x_gR (z := none) T_85_1 F_9_3 (hP.o ha) (Eq.trans (hP.rm ha rfl (key := 2291) rfl) hf) ?_
  refine x_nnul T_85_4 (fun a0 h0 => absurd h0 (by simp)) (fun _ => ?_)
  refine x_ic T_85_7 ?_
  refine x_ri T_85_8 ?_
  exact ⟨rfl, rfl⟩
theorem x_doStat (hP : PX σ0 W R σ) (hS : VS S s) (ha : tX a = some (Sum.inl 9)) (hf : R a 2291 = some b) (hrp : R S 2234 = some rp) (hBr : BY W rp N l2) (hN : ND W P b s n) (hne : b + 1 ≠ rp) (hroom : l2.length + 2 + 60 + (qNs P s n).toNat ≤ N) : CL fb (d + 2) 85 [vR (some S), vR (some a)] σ (XB σ0 W R rp N (l2 ++ (leb 2 (58 + qNs P s n) ++ statL P s n)) (some (vI 0))) := by
  have hO := hS.o
  have hbr := hBr.1
  have hbo := hN.1
  obtain ⟨z, hz⟩ : ∃ z, qNs P s n = z := ⟨_, rfl⟩
  have hNn := hN
  have hNm := hN.2.2.2.2.2.2.2.2.1
  have hNl := hN.2.2.2.2.2.2.2.2.2.trans hz
  have hzr : 0 ≤ z ∧ z ≤ 12 := by have := hNm.2.2.2.2.1; omega
  have hst := x_statSize (fb := fb) (d := d) hP hbo hNm hNl
  have p1 := fun (hr : l2.length + 2 ≤ N) => x_put (fb := fb) (d := d + 1) (k := 2) (v := 58 + z) 2 hP hBr rfl (by decide) ⟨by omega, by omega⟩ hr
  have p1 := p1 (by omega)
  have p2 := fun (σ : hM) (W1 : qR) (hP : PX σ0 W1 R σ) (hB1 : BY W1 rp N (l2 ++ leb 2 (58 + z))) (hF : FB rp W W1) => x_putStat (fb := fb) (d := d) hP hS hrp hB1 (hN.fb hF hne) hne (by rw [List.length_append, leb_len]; omega)
  rw [hz]
  refine CL_in mL_85 rfl ?_
  show WP fb _ 85 0 [some (vR (some S)), some (vR (some a))] [] σ _
  refine x_lr (z := some a) T_85_0 rfl ?_
  refine x_gR (z := some b) T_85_1 F_9_3 (hP.o ha) (Eq.trans (hP.rm ha rfl (key := 2291) rfl) hf) ?_
  refine x_nnul T_85_4 (fun _ _ => ?_) (fun h0 => absurd h0 (by simp))
  refine x_lr (z := some S) T_85_9 rfl ?_
  refine x_gR (z := some rp) T_85_10 F_7_10 (hP.o hO) (Eq.trans (hP.rm hO rfl (key := 2234) rfl) hrp) ?_
  refine x_lr (z := some a) T_85_13 rfl ?_
  refine x_gR (z := some b) T_85_14 F_9_3 (hP.o ha) (Eq.trans (hP.rm ha rfl (key := 2291) rfl) hf) ?_
  refine x_cv1 T_85_17 mN_76 mL_76 (Nat.le_of_ble_eq_true rfl) mO_76 (hP.o hbo) (Nat.le_of_ble_eq_true rfl) (hst) ?_
  rintro _ σ ⟨rfl, rfl⟩
  refine cI ?_
  refine x_i2l T_85_20 ?_
  refine x_ic T_85_21 ?_
  refine x_cv3 T_85_22 mN_22 mL_22 (Nat.le_of_ble_eq_true rfl) mO_22 (hP.o hbr) (Nat.le_of_ble_eq_true rfl) (p1) ?_
  clear hP p1
  rintro _ σ ⟨rfl, W1, hP, hB1, hF1⟩
  refine cV ?_
  refine x_lr (z := some S) T_85_25 rfl ?_
  refine x_lr (z := some a) T_85_26 rfl ?_
  refine x_gR (z := some b) T_85_27 F_9_3 (hP.o ha) (Eq.trans (hP.rm ha rfl (key := 2291) rfl) hf) ?_
  refine x_cv2 T_85_30 mN_77 mL_77 (Nat.le_of_ble_eq_true rfl) mO_77 (hP.o hO) (Nat.le_of_ble_eq_true rfl) (p2 σ W1 hP hB1 hF1) ?_
  clear hP p2
  rintro _ σ ⟨rfl, W2, hP, hB2, hF2⟩
  refine cV ?_
  refine x_ic T_85_33 ?_
  refine x_ri T_85_34 ?_
  exact ⟨rfl, W2, hP, by rw [List.append_assoc] at hB2; exact hB2, FB_tr hF1 hF2⟩
end XSTA
