/-! The class's commands: the wrong number of words. -/
theorem T_116_8 : hTab 116 8 = some ((0, 0, 18, []), 10) := rfl
theorem T_116_10 : hTab 116 10 = some ((33, 1, 0, []), 11) := rfl
theorem T_133_8 : hTab 133 8 = some ((0, 0, 18, []), 10) := rfl
theorem T_133_10 : hTab 133 10 = some ((33, 1, 0, []), 11) := rfl
theorem T_138_8 : hTab 138 8 = some ((0, 0, 18, []), 10) := rfl
theorem T_138_10 : hTab 138 10 = some ((33, 1, 0, []), 11) := rfl
theorem T_147_8 : hTab 147 8 = some ((0, 0, 18, []), 10) := rfl
theorem T_147_10 : hTab 147 10 = some ((33, 1, 0, []), 11) := rfl
theorem T_156_8 : hTab 156 8 = some ((0, 0, 18, []), 10) := rfl
theorem T_156_10 : hTab 156 10 = some ((33, 1, 0, []), 11) := rfl
theorem T_157_8 : hTab 157 8 = some ((0, 0, 18, []), 10) := rfl
theorem T_157_10 : hTab 157 10 = some ((33, 1, 0, []), 11) := rfl
theorem T_162_8 : hTab 162 8 = some ((0, 0, 18, []), 10) := rfl
theorem T_162_10 : hTab 162 10 = some ((33, 1, 0, []), 11) := rfl
theorem T_194_8 : hTab 194 8 = some ((0, 0, 18, []), 10) := rfl
theorem T_194_10 : hTab 194 10 = some ((33, 1, 0, []), 11) := rfl
section XW18
variable {fb : Bool} {d k : Nat} {σ0 σ : hM} {W P : qR} {R : rR} {p N : Int} {l : List Int}
theorem x_cd18 (hP : PX σ0 W R σ) (hp : 0 ≤ p ∧ p < 8) (hC : CMD W k l) (hN : ((lnW l).length : Int) = N) (hN2 : ¬ N = 2) : CL fb (d + 10) 116 [vR (some 2175), vR (some (prO p)), vR (some k)] σ (rP 18 σ) := by
  have hk := hC.1
  have h5 := hC.2.2.2.2.1.trans hN
  have hpo := prO_o hp
  obtain ⟨pr, hpr⟩ : ∃ q, prO p = q := ⟨_, rfl⟩
  rw [hpr] at hpo ⊢
  refine CL_in mL_116 rfl ?_
  show WP fb _ 116 0 [some (vR (some 2175)), some (vR (some pr)), some (vR (some k)), none] [] σ _
  refine x_lr (z := some k) T_116_0 rfl ?_
  refine x_gI (z := N) T_116_1 (Or.inl F_16_4) (hP.o hk) (Eq.trans (hP.gi hk (key := 2516) rfl) h5) ?_
  refine x_ic T_116_4 ?_
  refine x_ic2 T_116_5 (fun h => absurd (show N = 2 from h) (by omega)) (fun _ => ?_)
  refine x_ic T_116_8 ?_
  refine x_ri T_116_10 ?_
  exact ⟨rfl, rfl⟩
theorem x_cat18 (hP : PX σ0 W R σ) (hp : 0 ≤ p ∧ p < 8) (hC : CMD W k l) (hN : ((lnW l).length : Int) = N) (hN2 : ¬ N = 2) : CL fb (d + 10) 133 [vR (some 2175), vR (some (prO p)), vR (some k)] σ (rP 18 σ) := by
  have hk := hC.1
  have h5 := hC.2.2.2.2.1.trans hN
  have hpo := prO_o hp
  obtain ⟨pr, hpr⟩ : ∃ q, prO p = q := ⟨_, rfl⟩
  rw [hpr] at hpo ⊢
  refine CL_in mL_133 rfl ?_
  show WP fb _ 133 0 [some (vR (some 2175)), some (vR (some pr)), some (vR (some k)), none] [] σ _
  refine x_lr (z := some k) T_133_0 rfl ?_
  refine x_gI (z := N) T_133_1 (Or.inl F_16_4) (hP.o hk) (Eq.trans (hP.gi hk (key := 2516) rfl) h5) ?_
  refine x_ic T_133_4 ?_
  refine x_ic2 T_133_5 (fun h => absurd (show N = 2 from h) (by omega)) (fun _ => ?_)
  refine x_ic T_133_8 ?_
  refine x_ri T_133_10 ?_
  exact ⟨rfl, rfl⟩
theorem x_ls18 (hP : PX σ0 W R σ) (hp : 0 ≤ p ∧ p < 8) (hC : CMD W k l) (hN : ((lnW l).length : Int) = N) (hN2 : ¬ N = 2) : CL fb (d + 10) 138 [vR (some 2175), vR (some (prO p)), vR (some k)] σ (rP 18 σ) := by
  have hk := hC.1
  have h5 := hC.2.2.2.2.1.trans hN
  have hpo := prO_o hp
  obtain ⟨pr, hpr⟩ : ∃ q, prO p = q := ⟨_, rfl⟩
  rw [hpr] at hpo ⊢
  refine CL_in mL_138 rfl ?_
  show WP fb _ 138 0 [some (vR (some 2175)), some (vR (some pr)), some (vR (some k)), none, none, none, none] [] σ _
  refine x_lr (z := some k) T_138_0 rfl ?_
  refine x_gI (z := N) T_138_1 (Or.inl F_16_4) (hP.o hk) (Eq.trans (hP.gi hk (key := 2516) rfl) h5) ?_
  refine x_ic T_138_4 ?_
  refine x_ic2 T_138_5 (fun h => absurd (show N = 2 from h) (by omega)) (fun _ => ?_)
  refine x_ic T_138_8 ?_
  refine x_ri T_138_10 ?_
  exact ⟨rfl, rfl⟩
theorem x_mkdir18 (hP : PX σ0 W R σ) (hp : 0 ≤ p ∧ p < 8) (hC : CMD W k l) (hN : ((lnW l).length : Int) = N) (hN2 : ¬ N = 2) : CL fb (d + 10) 147 [vR (some 2175), vR (some (prO p)), vR (some k)] σ (rP 18 σ) := by
  have hk := hC.1
  have h5 := hC.2.2.2.2.1.trans hN
  have hpo := prO_o hp
  obtain ⟨pr, hpr⟩ : ∃ q, prO p = q := ⟨_, rfl⟩
  rw [hpr] at hpo ⊢
  refine CL_in mL_147 rfl ?_
  show WP fb _ 147 0 [some (vR (some 2175)), some (vR (some pr)), some (vR (some k)), none] [] σ _
  refine x_lr (z := some k) T_147_0 rfl ?_
  refine x_gI (z := N) T_147_1 (Or.inl F_16_4) (hP.o hk) (Eq.trans (hP.gi hk (key := 2516) rfl) h5) ?_
  refine x_ic T_147_4 ?_
  refine x_ic2 T_147_5 (fun h => absurd (show N = 2 from h) (by omega)) (fun _ => ?_)
  refine x_ic T_147_8 ?_
  refine x_ri T_147_10 ?_
  exact ⟨rfl, rfl⟩
theorem x_rm18 (hP : PX σ0 W R σ) (hp : 0 ≤ p ∧ p < 8) (hC : CMD W k l) (hN : ((lnW l).length : Int) = N) (hN2 : ¬ N = 2) : CL fb (d + 10) 156 [vR (some 2175), vR (some (prO p)), vR (some k)] σ (rP 18 σ) := by
  have hk := hC.1
  have h5 := hC.2.2.2.2.1.trans hN
  have hpo := prO_o hp
  obtain ⟨pr, hpr⟩ : ∃ q, prO p = q := ⟨_, rfl⟩
  rw [hpr] at hpo ⊢
  refine CL_in mL_156 rfl ?_
  show WP fb _ 156 0 [some (vR (some 2175)), some (vR (some pr)), some (vR (some k)), none] [] σ _
  refine x_lr (z := some k) T_156_0 rfl ?_
  refine x_gI (z := N) T_156_1 (Or.inl F_16_4) (hP.o hk) (Eq.trans (hP.gi hk (key := 2516) rfl) h5) ?_
  refine x_ic T_156_4 ?_
  refine x_ic2 T_156_5 (fun h => absurd (show N = 2 from h) (by omega)) (fun _ => ?_)
  refine x_ic T_156_8 ?_
  refine x_ri T_156_10 ?_
  exact ⟨rfl, rfl⟩
theorem x_mv18 (hP : PX σ0 W R σ) (hp : 0 ≤ p ∧ p < 8) (hC : CMD W k l) (hN : ((lnW l).length : Int) = N) (hN2 : ¬ N = 3) : CL fb (d + 10) 157 [vR (some 2175), vR (some (prO p)), vR (some k)] σ (rP 18 σ) := by
  have hk := hC.1
  have h5 := hC.2.2.2.2.1.trans hN
  have hpo := prO_o hp
  obtain ⟨pr, hpr⟩ : ∃ q, prO p = q := ⟨_, rfl⟩
  rw [hpr] at hpo ⊢
  refine CL_in mL_157 rfl ?_
  show WP fb _ 157 0 [some (vR (some 2175)), some (vR (some pr)), some (vR (some k)), none] [] σ _
  refine x_lr (z := some k) T_157_0 rfl ?_
  refine x_gI (z := N) T_157_1 (Or.inl F_16_4) (hP.o hk) (Eq.trans (hP.gi hk (key := 2516) rfl) h5) ?_
  refine x_ic T_157_4 ?_
  refine x_ic2 T_157_5 (fun h => absurd (show N = 3 from h) (by omega)) (fun _ => ?_)
  refine x_ic T_157_8 ?_
  refine x_ri T_157_10 ?_
  exact ⟨rfl, rfl⟩
theorem x_stat18 (hP : PX σ0 W R σ) (hp : 0 ≤ p ∧ p < 8) (hC : CMD W k l) (hN : ((lnW l).length : Int) = N) (hN2 : ¬ N = 2) : CL fb (d + 10) 162 [vR (some 2175), vR (some (prO p)), vR (some k)] σ (rP 18 σ) := by
  have hk := hC.1
  have h5 := hC.2.2.2.2.1.trans hN
  have hpo := prO_o hp
  obtain ⟨pr, hpr⟩ : ∃ q, prO p = q := ⟨_, rfl⟩
  rw [hpr] at hpo ⊢
  refine CL_in mL_162 rfl ?_
  show WP fb _ 162 0 [some (vR (some 2175)), some (vR (some pr)), some (vR (some k)), none] [] σ _
  refine x_lr (z := some k) T_162_0 rfl ?_
  refine x_gI (z := N) T_162_1 (Or.inl F_16_4) (hP.o hk) (Eq.trans (hP.gi hk (key := 2516) rfl) h5) ?_
  refine x_ic T_162_4 ?_
  refine x_ic2 T_162_5 (fun h => absurd (show N = 2 from h) (by omega)) (fun _ => ?_)
  refine x_ic T_162_8 ?_
  refine x_ri T_162_10 ?_
  exact ⟨rfl, rfl⟩
theorem x_exit18 (hP : PX σ0 W R σ) (hp : 0 ≤ p ∧ p < 8) (hC : CMD W k l) (hN : ((lnW l).length : Int) = N) (hN2 : ¬ N = 1) : CL fb (d + 10) 194 [vR (some 2175), vR (some (prO p)), vR (some k)] σ (rP 18 σ) := by
  have hk := hC.1
  have h5 := hC.2.2.2.2.1.trans hN
  have hpo := prO_o hp
  obtain ⟨pr, hpr⟩ : ∃ q, prO p = q := ⟨_, rfl⟩
  rw [hpr] at hpo ⊢
  refine CL_in mL_194 rfl ?_
  show WP fb _ 194 0 [some (vR (some 2175)), some (vR (some pr)), some (vR (some k))] [] σ _
  refine x_lr (z := some k) T_194_0 rfl ?_
  refine x_gI (z := N) T_194_1 (Or.inl F_16_4) (hP.o hk) (Eq.trans (hP.gi hk (key := 2516) rfl) h5) ?_
  refine x_ic T_194_4 ?_
  refine x_ic2 T_194_5 (fun h => absurd (show N = 1 from h) (by omega)) (fun _ => ?_)
  refine x_ic T_194_8 ?_
  refine x_ri T_194_10 ?_
  exact ⟨rfl, rfl⟩
theorem x_create18 (hP : PX σ0 W R σ) (hp : 0 ≤ p ∧ p < 8) (hC : CMD W k l) (hN : ((lnW l).length : Int) = N) (hN2 : ¬ N = 4) : CL fb (d + 10) 148 [vR (some 2175), vR (some (prO p)), vR (some k)] σ (rP 18 σ) := by
  have hk := hC.1
  have h5 := hC.2.2.2.2.1.trans hN
  have hpo := prO_o hp
  have h2 := x_octal (fb := fb) (d := d + 6) (w := 1) hP hC (by decide)
  obtain ⟨v2, hv2⟩ : ∃ q, (if (1 : Int) < ((lnW l).length : Int) then nmN (lnB l 1) 8 3 else -1) = q := ⟨_, rfl⟩
  rw [hv2] at h2
  have h8 := x_cdigit (fb := fb) (d := d + 6) (w := 3) hP hC (by decide)
  obtain ⟨v8, hv8⟩ : ∃ q, (if (3 : Int) < ((lnW l).length : Int) then nmN (lnB l 3) 8 1 else -1) = q := ⟨_, rfl⟩
  rw [hv8] at h8
  obtain ⟨pr, hpr⟩ : ∃ q, prO p = q := ⟨_, rfl⟩
  rw [hpr] at hpo ⊢
  refine CL_in mL_148 rfl ?_
  show WP fb _ 148 0 [some (vR (some 2175)), some (vR (some pr)), some (vR (some k)), none, none, none] [] σ _
  refine x_lr (z := some k) T_148_0 rfl ?_
  refine x_ic T_148_1 ?_
  refine x_cv2 T_148_2 mN_149 mL_149 (Nat.le_of_ble_eq_true rfl) mO_149 (hP.o hk) (Nat.le_of_ble_eq_true rfl) (h2) ?_
  rintro _ σ ⟨rfl, rfl⟩
  refine cI ?_
  refine x_si (ls1 := [some (vR (some 2175)), some (vR (some pr)), some (vR (some k)), some (vI v2), none, none]) T_148_5 rfl ?_
  refine x_lr (z := some k) T_148_6 rfl ?_
  refine x_ic T_148_7 ?_
  refine x_cv2 T_148_8 mN_151 mL_151 (Nat.le_of_ble_eq_true rfl) mO_151 (hP.o hk) (Nat.le_of_ble_eq_true rfl) (h8) ?_
  rintro _ σ ⟨rfl, rfl⟩
  refine cI ?_
  refine x_si (ls1 := [some (vR (some 2175)), some (vR (some pr)), some (vR (some k)), some (vI v2), some (vI v8), none]) T_148_11 rfl ?_
  refine x_lr (z := some k) T_148_13 rfl ?_
  refine x_gI (z := N) T_148_14 (Or.inl F_16_4) (hP.o hk) (Eq.trans (hP.gi hk (key := 2516) rfl) h5) ?_
  refine x_ic T_148_17 ?_
  refine x_ic2 T_148_18 (fun _ => ?_) (fun h => absurd (show ¬ N = 4 by omega) h)
  refine x_ic T_148_37 ?_
  refine x_ri T_148_39 ?_
  exact ⟨rfl, rfl⟩
theorem x_size18 (hP : PX σ0 W R σ) (hp : 0 ≤ p ∧ p < 8) (hC : CMD W k l) (hN : ((lnW l).length : Int) = N) (hN2 : ¬ N = 3) : CL fb (d + 10) 159 [vR (some 2175), vR (some (prO p)), vR (some k)] σ (rP 18 σ) := by
  have hk := hC.1
  have h5 := hC.2.2.2.2.1.trans hN
  have hpo := prO_o hp
  have h2 := x_decimal (fb := fb) (d := d + 6) (w := 1) hP hC (by decide)
  obtain ⟨v2, hv2⟩ : ∃ q, (if (1 : Int) < ((lnW l).length : Int) then nmN (lnB l 1) 10 4 else -1) = q := ⟨_, rfl⟩
  rw [hv2] at h2
  obtain ⟨pr, hpr⟩ : ∃ q, prO p = q := ⟨_, rfl⟩
  rw [hpr] at hpo ⊢
  refine CL_in mL_159 rfl ?_
  show WP fb _ 159 0 [some (vR (some 2175)), some (vR (some pr)), some (vR (some k)), none, none] [] σ _
  refine x_lr (z := some k) T_159_0 rfl ?_
  refine x_ic T_159_1 ?_
  refine x_cv2 T_159_2 mN_160 mL_160 (Nat.le_of_ble_eq_true rfl) mO_160 (hP.o hk) (Nat.le_of_ble_eq_true rfl) (h2) ?_
  rintro _ σ ⟨rfl, rfl⟩
  refine cI ?_
  refine x_si (ls1 := [some (vR (some 2175)), some (vR (some pr)), some (vR (some k)), some (vI v2), none]) T_159_5 rfl ?_
  refine x_lr (z := some k) T_159_6 rfl ?_
  refine x_gI (z := N) T_159_7 (Or.inl F_16_4) (hP.o hk) (Eq.trans (hP.gi hk (key := 2516) rfl) h5) ?_
  refine x_ic T_159_10 ?_
  refine x_ic2 T_159_11 (fun _ => ?_) (fun h => absurd (show ¬ N = 3 by omega) h)
  refine x_ic T_159_19 ?_
  refine x_ri T_159_21 ?_
  exact ⟨rfl, rfl⟩
theorem x_chmod18 (hP : PX σ0 W R σ) (hp : 0 ≤ p ∧ p < 8) (hC : CMD W k l) (hN : ((lnW l).length : Int) = N) (hN2 : ¬ N = 3) : CL fb (d + 10) 161 [vR (some 2175), vR (some (prO p)), vR (some k)] σ (rP 18 σ) := by
  have hk := hC.1
  have h5 := hC.2.2.2.2.1.trans hN
  have hpo := prO_o hp
  have h2 := x_octal (fb := fb) (d := d + 6) (w := 1) hP hC (by decide)
  obtain ⟨v2, hv2⟩ : ∃ q, (if (1 : Int) < ((lnW l).length : Int) then nmN (lnB l 1) 8 3 else -1) = q := ⟨_, rfl⟩
  rw [hv2] at h2
  obtain ⟨pr, hpr⟩ : ∃ q, prO p = q := ⟨_, rfl⟩
  rw [hpr] at hpo ⊢
  refine CL_in mL_161 rfl ?_
  show WP fb _ 161 0 [some (vR (some 2175)), some (vR (some pr)), some (vR (some k)), none, none, none, none] [] σ _
  refine x_lr (z := some k) T_161_0 rfl ?_
  refine x_ic T_161_1 ?_
  refine x_cv2 T_161_2 mN_149 mL_149 (Nat.le_of_ble_eq_true rfl) mO_149 (hP.o hk) (Nat.le_of_ble_eq_true rfl) (h2) ?_
  rintro _ σ ⟨rfl, rfl⟩
  refine cI ?_
  refine x_si (ls1 := [some (vR (some 2175)), some (vR (some pr)), some (vR (some k)), some (vI v2), none, none, none]) T_161_5 rfl ?_
  refine x_lr (z := some k) T_161_6 rfl ?_
  refine x_gI (z := N) T_161_7 (Or.inl F_16_4) (hP.o hk) (Eq.trans (hP.gi hk (key := 2516) rfl) h5) ?_
  refine x_ic T_161_10 ?_
  refine x_ic2 T_161_11 (fun _ => ?_) (fun h => absurd (show ¬ N = 3 by omega) h)
  refine x_ic T_161_19 ?_
  refine x_ri T_161_21 ?_
  exact ⟨rfl, rfl⟩
theorem x_open18 (hP : PX σ0 W R σ) (hp : 0 ≤ p ∧ p < 8) (hC : CMD W k l) (hN : ((lnW l).length : Int) = N) (hN2 : ¬ N = 3) : CL fb (d + 10) 164 [vR (some 2175), vR (some (prO p)), vR (some k)] σ (rP 18 σ) := by
  have hk := hC.1
  have h5 := hC.2.2.2.2.1.trans hN
  have hpo := prO_o hp
  have h2 := x_cdigit (fb := fb) (d := d + 6) (w := 2) hP hC (by decide)
  obtain ⟨v2, hv2⟩ : ∃ q, (if (2 : Int) < ((lnW l).length : Int) then nmN (lnB l 2) 8 1 else -1) = q := ⟨_, rfl⟩
  rw [hv2] at h2
  obtain ⟨pr, hpr⟩ : ∃ q, prO p = q := ⟨_, rfl⟩
  rw [hpr] at hpo ⊢
  refine CL_in mL_164 rfl ?_
  show WP fb _ 164 0 [some (vR (some 2175)), some (vR (some pr)), some (vR (some k)), none, none] [] σ _
  refine x_lr (z := some k) T_164_0 rfl ?_
  refine x_ic T_164_1 ?_
  refine x_cv2 T_164_2 mN_151 mL_151 (Nat.le_of_ble_eq_true rfl) mO_151 (hP.o hk) (Nat.le_of_ble_eq_true rfl) (h2) ?_
  rintro _ σ ⟨rfl, rfl⟩
  refine cI ?_
  refine x_si (ls1 := [some (vR (some 2175)), some (vR (some pr)), some (vR (some k)), some (vI v2), none]) T_164_5 rfl ?_
  refine x_lr (z := some k) T_164_6 rfl ?_
  refine x_gI (z := N) T_164_7 (Or.inl F_16_4) (hP.o hk) (Eq.trans (hP.gi hk (key := 2516) rfl) h5) ?_
  refine x_ic T_164_10 ?_
  refine x_ic2 T_164_11 (fun _ => ?_) (fun h => absurd (show ¬ N = 3 by omega) h)
  refine x_ic T_164_23 ?_
  refine x_ri T_164_25 ?_
  exact ⟨rfl, rfl⟩
theorem x_read18 (hP : PX σ0 W R σ) (hp : 0 ≤ p ∧ p < 8) (hC : CMD W k l) (hN : ((lnW l).length : Int) = N) (hN2 : ¬ N = 3) : CL fb (d + 10) 165 [vR (some 2175), vR (some (prO p)), vR (some k)] σ (rP 18 σ) := by
  have hk := hC.1
  have h5 := hC.2.2.2.2.1.trans hN
  have hpo := prO_o hp
  have h2 := x_decimal (fb := fb) (d := d + 6) (w := 2) hP hC (by decide)
  obtain ⟨v2, hv2⟩ : ∃ q, (if (2 : Int) < ((lnW l).length : Int) then nmN (lnB l 2) 10 4 else -1) = q := ⟨_, rfl⟩
  rw [hv2] at h2
  have h8 := x_cdigit (fb := fb) (d := d + 6) (w := 1) hP hC (by decide)
  obtain ⟨v8, hv8⟩ : ∃ q, (if (1 : Int) < ((lnW l).length : Int) then nmN (lnB l 1) 8 1 else -1) = q := ⟨_, rfl⟩
  rw [hv8] at h8
  obtain ⟨pr, hpr⟩ : ∃ q, prO p = q := ⟨_, rfl⟩
  rw [hpr] at hpo ⊢
  refine CL_in mL_165 rfl ?_
  show WP fb _ 165 0 [some (vR (some 2175)), some (vR (some pr)), some (vR (some k)), none, none, none, none, none] [] σ _
  refine x_lr (z := some k) T_165_0 rfl ?_
  refine x_ic T_165_1 ?_
  refine x_cv2 T_165_2 mN_160 mL_160 (Nat.le_of_ble_eq_true rfl) mO_160 (hP.o hk) (Nat.le_of_ble_eq_true rfl) (h2) ?_
  rintro _ σ ⟨rfl, rfl⟩
  refine cI ?_
  refine x_si (ls1 := [some (vR (some 2175)), some (vR (some pr)), some (vR (some k)), some (vI v2), none, none, none, none]) T_165_5 rfl ?_
  refine x_lr (z := some k) T_165_6 rfl ?_
  refine x_ic T_165_7 ?_
  refine x_cv2 T_165_8 mN_151 mL_151 (Nat.le_of_ble_eq_true rfl) mO_151 (hP.o hk) (Nat.le_of_ble_eq_true rfl) (h8) ?_
  rintro _ σ ⟨rfl, rfl⟩
  refine cI ?_
  refine x_si (ls1 := [some (vR (some 2175)), some (vR (some pr)), some (vR (some k)), some (vI v2), some (vI v8), none, none, none]) T_165_11 rfl ?_
  refine x_lr (z := some k) T_165_13 rfl ?_
  refine x_gI (z := N) T_165_14 (Or.inl F_16_4) (hP.o hk) (Eq.trans (hP.gi hk (key := 2516) rfl) h5) ?_
  refine x_ic T_165_17 ?_
  refine x_ic2 T_165_18 (fun _ => ?_) (fun h => absurd (show ¬ N = 3 by omega) h)
  refine x_ic T_165_38 ?_
  refine x_ri T_165_40 ?_
  exact ⟨rfl, rfl⟩
theorem x_write18 (hP : PX σ0 W R σ) (hp : 0 ≤ p ∧ p < 8) (hC : CMD W k l) (hN : ((lnW l).length : Int) = N) (hN2 : ¬ N = 3) : CL fb (d + 10) 167 [vR (some 2175), vR (some (prO p)), vR (some k)] σ (rP 18 σ) := by
  have hk := hC.1
  have h5 := hC.2.2.2.2.1.trans hN
  have hpo := prO_o hp
  have h2 := x_cdigit (fb := fb) (d := d + 6) (w := 1) hP hC (by decide)
  obtain ⟨v2, hv2⟩ : ∃ q, (if (1 : Int) < ((lnW l).length : Int) then nmN (lnB l 1) 8 1 else -1) = q := ⟨_, rfl⟩
  rw [hv2] at h2
  obtain ⟨pr, hpr⟩ : ∃ q, prO p = q := ⟨_, rfl⟩
  rw [hpr] at hpo ⊢
  refine CL_in mL_167 rfl ?_
  show WP fb _ 167 0 [some (vR (some 2175)), some (vR (some pr)), some (vR (some k)), none, none, none] [] σ _
  refine x_lr (z := some k) T_167_0 rfl ?_
  refine x_ic T_167_1 ?_
  refine x_cv2 T_167_2 mN_151 mL_151 (Nat.le_of_ble_eq_true rfl) mO_151 (hP.o hk) (Nat.le_of_ble_eq_true rfl) (h2) ?_
  rintro _ σ ⟨rfl, rfl⟩
  refine cI ?_
  refine x_si (ls1 := [some (vR (some 2175)), some (vR (some pr)), some (vR (some k)), some (vI v2), none, none]) T_167_5 rfl ?_
  refine x_lr (z := some k) T_167_6 rfl ?_
  refine x_gI (z := N) T_167_7 (Or.inl F_16_4) (hP.o hk) (Eq.trans (hP.gi hk (key := 2516) rfl) h5) ?_
  refine x_ic T_167_10 ?_
  refine x_ic2 T_167_11 (fun _ => ?_) (fun h => absurd (show ¬ N = 3 by omega) h)
  refine x_ic T_167_19 ?_
  refine x_ri T_167_21 ?_
  exact ⟨rfl, rfl⟩
theorem x_seek18 (hP : PX σ0 W R σ) (hp : 0 ≤ p ∧ p < 8) (hC : CMD W k l) (hN : ((lnW l).length : Int) = N) (hN2 : ¬ N = 3) : CL fb (d + 10) 168 [vR (some 2175), vR (some (prO p)), vR (some k)] σ (rP 18 σ) := by
  have hk := hC.1
  have h5 := hC.2.2.2.2.1.trans hN
  have hpo := prO_o hp
  have h2 := x_cdigit (fb := fb) (d := d + 6) (w := 1) hP hC (by decide)
  obtain ⟨v2, hv2⟩ : ∃ q, (if (1 : Int) < ((lnW l).length : Int) then nmN (lnB l 1) 8 1 else -1) = q := ⟨_, rfl⟩
  rw [hv2] at h2
  have h8 := x_decimal (fb := fb) (d := d + 6) (w := 2) hP hC (by decide)
  obtain ⟨v8, hv8⟩ : ∃ q, (if (2 : Int) < ((lnW l).length : Int) then nmN (lnB l 2) 10 4 else -1) = q := ⟨_, rfl⟩
  rw [hv8] at h8
  obtain ⟨pr, hpr⟩ : ∃ q, prO p = q := ⟨_, rfl⟩
  rw [hpr] at hpo ⊢
  refine CL_in mL_168 rfl ?_
  show WP fb _ 168 0 [some (vR (some 2175)), some (vR (some pr)), some (vR (some k)), none, none, none] [] σ _
  refine x_lr (z := some k) T_168_0 rfl ?_
  refine x_ic T_168_1 ?_
  refine x_cv2 T_168_2 mN_151 mL_151 (Nat.le_of_ble_eq_true rfl) mO_151 (hP.o hk) (Nat.le_of_ble_eq_true rfl) (h2) ?_
  rintro _ σ ⟨rfl, rfl⟩
  refine cI ?_
  refine x_si (ls1 := [some (vR (some 2175)), some (vR (some pr)), some (vR (some k)), some (vI v2), none, none]) T_168_5 rfl ?_
  refine x_lr (z := some k) T_168_6 rfl ?_
  refine x_ic T_168_7 ?_
  refine x_cv2 T_168_8 mN_160 mL_160 (Nat.le_of_ble_eq_true rfl) mO_160 (hP.o hk) (Nat.le_of_ble_eq_true rfl) (h8) ?_
  rintro _ σ ⟨rfl, rfl⟩
  refine cI ?_
  refine x_si (ls1 := [some (vR (some 2175)), some (vR (some pr)), some (vR (some k)), some (vI v2), some (vI v8), none]) T_168_11 rfl ?_
  refine x_lr (z := some k) T_168_13 rfl ?_
  refine x_gI (z := N) T_168_14 (Or.inl F_16_4) (hP.o hk) (Eq.trans (hP.gi hk (key := 2516) rfl) h5) ?_
  refine x_ic T_168_17 ?_
  refine x_ic2 T_168_18 (fun _ => ?_) (fun h => absurd (show ¬ N = 3 by omega) h)
  refine x_ic T_168_32 ?_
  refine x_ri T_168_34 ?_
  exact ⟨rfl, rfl⟩
theorem x_close18 (hP : PX σ0 W R σ) (hp : 0 ≤ p ∧ p < 8) (hC : CMD W k l) (hN : ((lnW l).length : Int) = N) (hN2 : ¬ N = 2) : CL fb (d + 10) 169 [vR (some 2175), vR (some (prO p)), vR (some k)] σ (rP 18 σ) := by
  have hk := hC.1
  have h5 := hC.2.2.2.2.1.trans hN
  have hpo := prO_o hp
  have h2 := x_cdigit (fb := fb) (d := d + 6) (w := 1) hP hC (by decide)
  obtain ⟨v2, hv2⟩ : ∃ q, (if (1 : Int) < ((lnW l).length : Int) then nmN (lnB l 1) 8 1 else -1) = q := ⟨_, rfl⟩
  rw [hv2] at h2
  obtain ⟨pr, hpr⟩ : ∃ q, prO p = q := ⟨_, rfl⟩
  rw [hpr] at hpo ⊢
  refine CL_in mL_169 rfl ?_
  show WP fb _ 169 0 [some (vR (some 2175)), some (vR (some pr)), some (vR (some k)), none] [] σ _
  refine x_lr (z := some k) T_169_0 rfl ?_
  refine x_ic T_169_1 ?_
  refine x_cv2 T_169_2 mN_151 mL_151 (Nat.le_of_ble_eq_true rfl) mO_151 (hP.o hk) (Nat.le_of_ble_eq_true rfl) (h2) ?_
  rintro _ σ ⟨rfl, rfl⟩
  refine cI ?_
  refine x_si (ls1 := [some (vR (some 2175)), some (vR (some pr)), some (vR (some k)), some (vI v2)]) T_169_5 rfl ?_
  refine x_lr (z := some k) T_169_6 rfl ?_
  refine x_gI (z := N) T_169_7 (Or.inl F_16_4) (hP.o hk) (Eq.trans (hP.gi hk (key := 2516) rfl) h5) ?_
  refine x_ic T_169_10 ?_
  refine x_ic2 T_169_11 (fun _ => ?_) (fun h => absurd (show ¬ N = 2 by omega) h)
  refine x_ic T_169_19 ?_
  refine x_ri T_169_21 ?_
  exact ⟨rfl, rfl⟩
end XW18
