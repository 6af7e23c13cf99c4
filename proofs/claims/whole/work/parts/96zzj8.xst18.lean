/-! The class's commands: set with the wrong number of words. -/
section XST18
variable {fb : Bool} {d k : Nat} {σ0 σ : hM} {W P : qR} {R : rR} {p N : Int} {l : List Int}
theorem x_set18 (hP : PX σ0 W R σ) (hp : 0 ≤ p ∧ p < 8) (hC : CMD W k l) (hN : ((lnW l).length : Int) = N) (hN2 : ¬ (N = 2 ∨ N = 3)) : CL fb (d + 10) 195 [vR (some 2175), vR (some (prO p)), vR (some k)] σ (rP 18 σ) := by
  have hk := hC.1
  have h5 := hC.2.2.2.2.1.trans hN
  have hpo := prO_o hp
  have hva := x_variableA (fb := fb) (d := d + 7) (w := 1) hP hC (by decide)
  obtain ⟨v, hv⟩ : ∃ v, (if 0 ≤ vaN (lnB l 1) ∧ vaN (lnB l 1) ≤ 25 then vaN (lnB l 1) else -1) = v := ⟨_, rfl⟩
  rw [hv] at hva
  have hvo := x_variableOf (fb := fb) (d := d + 9) (k := v) hP hp
  obtain ⟨vo, hvo2⟩ : ∃ vo : Option Nat, (if 0 ≤ v ∧ v < 26 then some (prO p + 7 + 2 * v.toNat) else none) = vo := ⟨_, rfl⟩
  rw [hvo2] at hvo
  obtain ⟨pr, hpr⟩ : ∃ q, prO p = q := ⟨_, rfl⟩
  rw [hpr] at hpo hvo ⊢
  by_cases q : N < 2
  · skip
    refine CL_in mL_195 rfl ?_
    show WP fb _ 195 0 [some (vR (some 2175)), some (vR (some pr)), some (vR (some k)), none] [] σ _
    refine x_lr (z := some pr) T_195_0 rfl ?_
    refine x_lr (z := some k) T_195_1 rfl ?_
    refine x_ic T_195_2 ?_
    refine x_cv2 T_195_3 mN_103 mL_103 (Nat.le_of_ble_eq_true rfl) mO_103 (hP.o hk) (Nat.le_of_ble_eq_true rfl) (hva) ?_
    rintro _ σ ⟨rfl, rfl⟩
    refine cI ?_
    refine x_cv2 T_195_6 mN_107 mL_107 (Nat.le_of_ble_eq_true rfl) mO_107 (hP.o hpo) (Nat.le_of_ble_eq_true rfl) (hvo) ?_
    rintro _ σ ⟨rfl, rfl⟩
    refine cR ?_
    refine x_sr (ls1 := [some (vR (some 2175)), some (vR (some pr)), some (vR (some k)), some (vR (@vo))]) T_195_9 rfl ?_
    refine x_lr (z := some k) T_195_10 rfl ?_
    refine x_gI (z := N) T_195_11 (Or.inl F_16_4) (hP.o hk) (Eq.trans (hP.gi hk (key := 2516) rfl) h5) ?_
    refine x_ic T_195_14 ?_
    refine x_ic2 T_195_15 (fun _ => ?_) (fun h => absurd (show N < 2 by omega) h)
    refine x_ic T_195_40 ?_
    refine x_ri T_195_42 ?_
    exact ⟨rfl, rfl⟩
  · skip
    refine CL_in mL_195 rfl ?_
    show WP fb _ 195 0 [some (vR (some 2175)), some (vR (some pr)), some (vR (some k)), none] [] σ _
    refine x_lr (z := some pr) T_195_0 rfl ?_
    refine x_lr (z := some k) T_195_1 rfl ?_
    refine x_ic T_195_2 ?_
    refine x_cv2 T_195_3 mN_103 mL_103 (Nat.le_of_ble_eq_true rfl) mO_103 (hP.o hk) (Nat.le_of_ble_eq_true rfl) (hva) ?_
    rintro _ σ ⟨rfl, rfl⟩
    refine cI ?_
    refine x_cv2 T_195_6 mN_107 mL_107 (Nat.le_of_ble_eq_true rfl) mO_107 (hP.o hpo) (Nat.le_of_ble_eq_true rfl) (hvo) ?_
    rintro _ σ ⟨rfl, rfl⟩
    refine cR ?_
    refine x_sr (ls1 := [some (vR (some 2175)), some (vR (some pr)), some (vR (some k)), some (vR (@vo))]) T_195_9 rfl ?_
    refine x_lr (z := some k) T_195_10 rfl ?_
    refine x_gI (z := N) T_195_11 (Or.inl F_16_4) (hP.o hk) (Eq.trans (hP.gi hk (key := 2516) rfl) h5) ?_
    refine x_ic T_195_14 ?_
    refine x_ic2 T_195_15 (fun h => absurd (show N < 2 from h) (by omega)) (fun _ => ?_)
    refine x_lr (z := some k) T_195_18 rfl ?_
    refine x_gI (z := N) T_195_19 (Or.inl F_16_4) (hP.o hk) (Eq.trans (hP.gi hk (key := 2516) rfl) h5) ?_
    refine x_ic T_195_22 ?_
    refine x_ic2 T_195_23 (fun _ => ?_) (fun h => absurd (show 3 < N by omega) h)
    refine x_ic T_195_40 ?_
    refine x_ri T_195_42 ?_
    exact ⟨rfl, rfl⟩
end XST18
