/-! The class's shell: if and for. -/
theorem T_196_0 : hTab 196 0 = some ((3, 1, 2, []), 1) := rfl
theorem T_196_1 : hTab 196 1 = some ((0, 0, 2, []), 2) := rfl
theorem T_196_2 : hTab 196 2 = some ((34, 58, 0, []), 4) := rfl
theorem T_196_4 : hTab 196 4 = some ((31, 115, 0, []), 7) := rfl
theorem T_196_7 : hTab 196 7 = some ((4, 2, 0, []), 8) := rfl
theorem T_196_8 : hTab 196 8 = some ((3, 1, 2, []), 9) := rfl
theorem T_196_9 : hTab 196 9 = some ((24, 16, Int.ofNat 4, []), 12) := rfl
theorem T_196_12 : hTab 196 12 = some ((0, 0, 5, []), 13) := rfl
theorem T_196_13 : hTab 196 13 = some ((19, 2, Int.ofNat 30, []), 16) := rfl
theorem T_196_16 : hTab 196 16 = some ((3, 2, 0, []), 17) := rfl
theorem T_196_17 : hTab 196 17 = some ((18, 1, Int.ofNat 33, []), 20) := rfl
theorem T_196_20 : hTab 196 20 = some ((3, 1, 2, []), 21) := rfl
theorem T_196_21 : hTab 196 21 = some ((0, 0, 2, []), 22) := rfl
theorem T_196_22 : hTab 196 22 = some ((34, 59, 0, []), 24) := rfl
theorem T_196_24 : hTab 196 24 = some ((31, 115, 0, []), 27) := rfl
theorem T_196_27 : hTab 196 27 = some ((18, 1, Int.ofNat 33, []), 30) := rfl
theorem T_196_30 : hTab 196 30 = some ((0, 0, 18, []), 32) := rfl
theorem T_196_32 : hTab 196 32 = some ((33, 1, 0, []), 33) := rfl
theorem T_196_33 : hTab 196 33 = some ((3, 1, 2, []), 34) := rfl
theorem T_196_34 : hTab 196 34 = some ((0, 0, 1, []), 35) := rfl
theorem T_196_35 : hTab 196 35 = some ((0, 0, 3, []), 36) := rfl
theorem T_196_36 : hTab 196 36 = some ((31, 197, 0, []), 39) := rfl
theorem T_196_39 : hTab 196 39 = some ((3, 2, 0, []), 40) := rfl
theorem T_196_40 : hTab 196 40 = some ((19, 1, Int.ofNat 79, []), 43) := rfl
theorem T_196_43 : hTab 196 43 = some ((3, 1, 2, []), 44) := rfl
theorem T_196_44 : hTab 196 44 = some ((0, 0, 23, []), 46) := rfl
theorem T_196_46 : hTab 196 46 = some ((25, 16, Int.ofNat 5, []), 49) := rfl
theorem T_196_49 : hTab 196 49 = some ((3, 0, 2, []), 50) := rfl
theorem T_196_50 : hTab 196 50 = some ((24, 15, Int.ofNat 1, []), 53) := rfl
theorem T_196_53 : hTab 196 53 = some ((31, 27, 0, []), 56) := rfl
theorem T_196_56 : hTab 196 56 = some ((3, 1, 2, []), 57) := rfl
theorem T_196_57 : hTab 196 57 = some ((3, 0, 2, []), 58) := rfl
theorem T_196_58 : hTab 196 58 = some ((24, 15, Int.ofNat 1, []), 61) := rfl
theorem T_196_61 : hTab 196 61 = some ((0, 0, 4, []), 62) := rfl
theorem T_196_62 : hTab 196 62 = some ((3, 1, 2, []), 63) := rfl
theorem T_196_63 : hTab 196 63 = some ((24, 16, Int.ofNat 4, []), 66) := rfl
theorem T_196_66 : hTab 196 66 = some ((31, 108, 0, []), 69) := rfl
theorem T_196_69 : hTab 196 69 = some ((3, 0, 2, []), 70) := rfl
theorem T_196_70 : hTab 196 70 = some ((0, 0, 1, []), 71) := rfl
theorem T_196_71 : hTab 196 71 = some ((25, 15, Int.ofNat 5, []), 74) := rfl
theorem T_196_74 : hTab 196 74 = some ((3, 0, 2, []), 75) := rfl
theorem T_196_75 : hTab 196 75 = some ((0, 0, 0, []), 76) := rfl
theorem T_196_76 : hTab 196 76 = some ((25, 15, Int.ofNat 6, []), 79) := rfl
theorem T_196_79 : hTab 196 79 = some ((0, 0, 0, []), 80) := rfl
theorem T_196_80 : hTab 196 80 = some ((33, 1, 0, []), 81) := rfl
theorem mN_196 : hmN 196 = 2 := by decide +kernel
theorem mL_196 : hmL 196 = 3 := by decide +kernel
theorem mK_196 : hmK 196 = 1 := by decide +kernel
theorem mO_196 : hmO 196 = 15 := by decide +kernel
section XSH2
variable {fb : Bool} {d b k n : Nat} {σ0 σ : hM} {W W1 W2 V : qR} {R : rR} {i j x z v e p D pl N w al be eq E : Int} {l sc lo : List Int} {a y : Nat}
theorem x_isA {j : Nat} (hj : j < 58) (ht : txt j ≠ []) (hP : PX σ0 W R σ) (h : CMD W k l) (hw : 0 ≤ w) : CL fb (d + 5) 115 [vR (some k), vI w, vR (some (4 + 2 * j))] σ (rP (if lnB l w = txt j then 1 else 0) σ) := by
  by_cases q : w < ((lnW l).length : Int)
  · exact x_is hj hP h ⟨hw, q⟩
  · have h5 := h.2.2.2.2.1
    obtain ⟨n, hn⟩ : ∃ q : Int, ((lnW l).length : Int) = q := ⟨_, rfl⟩
    rw [lnB_no (by omega), if_neg (fun c => ht c.symm)]
    rw [hn] at h5 q
    obtain ⟨a4, ha4⟩ : ∃ q, 4 + 2 * j = q := ⟨_, rfl⟩
    rw [ha4]
    refine CL_in mL_115 rfl ?_
    show WP fb _ 115 0 [some (vR (some k)), some (vI w), some (vR (some a4))] [] σ _
    refine x_li (z := w) T_115_0 rfl ?_
    refine x_lr (z := some k) T_115_1 rfl ?_
    refine x_gI (z := n) T_115_2 (Or.inl F_16_4) (hP.o h.1) (Eq.trans (hP.gi h.1 (key := 2516) rfl) h5) ?_
    refine x_ic2 T_115_5 (fun _ => ?_) (fun h => absurd (show n ≤ w by omega) h)
    refine x_ic T_115_33 ?_
    refine x_rz T_115_34 rfl ?_
    exact ⟨rfl, rfl⟩
theorem x_variableA (hP : PX σ0 W R σ) (h : CMD W k l) (hw : 0 ≤ w) : CL fb (d + 2) 103 [vR (some k), vI w] σ (rP (if 0 ≤ vaN (lnB l w) ∧ vaN (lnB l w) ≤ 25 then vaN (lnB l w) else -1) σ) := by
  by_cases q : w < ((lnW l).length : Int)
  · exact x_variableAt hP h ⟨hw, q⟩
  · have hB := h.2.2.2.1
    rw [lnB_no (by omega), if_neg (by decide)]
    have hso := x_startOf0 (fb := fb) (d := d + 1) hP h (w := w) (by omega) hw
    have hle := x_lengthOf0 (fb := fb) (d := d) hP h (w := w) (by omega) hw
    have hat := x_at (fb := fb) (d := d + 1) (i := 0) hP hB
    have hb : -1 ≤ (if 0 ≤ (0 : Int) ∧ (0 : Int) < (l.length : Int) then lg l 0 else -1) ∧ (if 0 ≤ (0 : Int) ∧ (0 : Int) < (l.length : Int) then lg l 0 else -1) ≤ 255 := by
      split
      · have := hB.2.2.2.2.2.1 0 (by decide)
        omega
      · exact ⟨by decide, by decide⟩
    obtain ⟨u, hu⟩ : ∃ q, (if 0 ≤ (0 : Int) ∧ (0 : Int) < (l.length : Int) then lg l 0 else -1) = q := ⟨_, rfl⟩
    rw [hu] at hat hb
    refine CL_in mL_103 rfl ?_
    show WP fb _ 103 0 [some (vR (some k)), some (vI w), none] [] σ _
    refine x_lr (z := some k) T_103_0 rfl ?_
    refine x_gR (z := some (k + 1)) T_103_1 F_16_0 (hP.o h.1) (hP.rc h.1 rfl rfl) ?_
    refine x_lr (z := some k) T_103_4 rfl ?_
    refine x_li (z := w) T_103_5 rfl ?_
    refine x_cv2 T_103_6 mN_104 mL_104 (Nat.le_of_ble_eq_true rfl) mO_104 (hP.o h.1) (Nat.le_of_ble_eq_true rfl) (hso) ?_
    rintro _ σ ⟨rfl, rfl⟩
    refine cI ?_
    refine x_cv2 T_103_9 mN_33 mL_33 (Nat.le_of_ble_eq_true rfl) mO_33 (hP.o hB.1) (Nat.le_of_ble_eq_true rfl) (hat) ?_
    rintro _ σ ⟨rfl, rfl⟩
    refine cI ?_
    refine x_ic T_103_12 ?_
    refine x_ib (w := (u - 97)) T_103_14 (fun h => absurd h.1 (by decide)) (w32_id (by omega) (by omega)) ?_
    refine x_si (ls1 := [some (vR (some k)), some (vI w), some (vI (u - 97))]) T_103_15 rfl ?_
    refine x_lr (z := some k) T_103_16 rfl ?_
    refine x_li (z := w) T_103_17 rfl ?_
    refine x_cv2 T_103_18 mN_105 mL_105 (Nat.le_of_ble_eq_true rfl) mO_105 (hP.o h.1) (Nat.le_of_ble_eq_true rfl) (hle) ?_
    rintro _ σ ⟨rfl, rfl⟩
    refine cI ?_
    refine x_ic T_103_21 ?_
    refine x_ic2 T_103_22 (fun _ => ?_) (fun h => absurd (show ¬ (0 : Int) = 1 by decide) h)
    refine x_ic T_103_39 ?_
    refine x_ri T_103_40 ?_
    exact ⟨rfl, rfl⟩
theorem SH_wt : SH 2189 100 := ⟨by decide +kernel, xa_2190, by decide⟩
/-- what a line that waits comes to, when it is joined -/
def JNX (σ0 : hM) (W : qR) (R : rR) (k : Nat) (ex : Int) (L : List Int) (V : qR) : Prop := FSL k W V ∧ (∀ j : Int, V k j = W k j) ∧ V 2187 2484 = W 2187 2484 ∧ V 2187 2485 = 1 ∧ V 2187 2486 = ex ∧ BY V 2189 100 L
theorem JNX_of (hk : 2191 ≤ k) (hF1 : FB 2189 W W1) (hF2 : FB 2189 W1 W2) (hB : BY W2 2189 100 l) : JNX σ0 W R k v l (rU (rU W2 2187 2485 1) 2187 2486 v) := by
  have hF := FB_tr hF1 hF2
  refine ⟨FSL_tr (FSL_tr (FSL_fb hF) (FSL_s ⟨by decide, by decide⟩)) (FSL_s ⟨by decide, by decide⟩), fun j => ?_, ?_, ?_, rU_s, (hB.key (by decide) (by decide)).key (by decide) (by decide)⟩
  · rw [rU_f (by omega), rU_f (by omega)]
    exact hF _ _ (by omega) (by omega)
  · rw [rU_j (by decide), rU_j (by decide)]
    exact hF _ _ (by omega) (by omega)
  · rw [rU_j (by decide)]
    exact rU_s
theorem cho_rng : ifK l = 0 ∨ (4 < ((lnW l).length : Int) ∧ ((ifK l = 1 ∧ lnB l 2 = txt 54) ∨ (ifK l = 2 ∧ lnB l 2 = txt 55 ∧ ¬ lnB l 2 = txt 54))) := by
  have e1 : txt 54 = [61] := by decide
  have e2 : txt 55 = [33, 61] := by decide
  unfold ifK
  rw [e1, e2]
  by_cases c : 4 < ((lnW l).length : Int) ∧ lnB l 2 = [61]
  · rw [if_pos c]
    exact Or.inr ⟨c.1, Or.inl ⟨rfl, c.2⟩⟩
  · rw [if_neg c]
    by_cases c2 : 4 < ((lnW l).length : Int) ∧ lnB l 2 = [33, 61]
    · rw [if_pos c2]
      exact Or.inr ⟨c2.1, Or.inr ⟨rfl, c2.2, fun h => c ⟨c2.1, h⟩⟩⟩
    · rw [if_neg c2]
      exact Or.inl rfl
theorem x_choose0 (hP : PX σ0 W R σ) (hC : CMD W k l) (hi : ifK l = 0) : CL fb (d + 6) 196 [vR (some 2187), vR (some k)] σ (rP 18 σ) := by
  have h54 := x_isA (fb := fb) (d := d) (j := 54) (w := 2) (by decide) (by decide) hP hC (by decide)
  have h55 := x_isA (fb := fb) (d := d) (j := 55) (w := 2) (by decide) (by decide) hP hC (by decide)
  have e1 : txt 54 = [61] := by decide
  have e2 : txt 55 = [33, 61] := by decide
  have h5 := hC.2.2.2.2.1
  have hi2 : ¬ 4 < ((lnW l).length : Int) ∨ (¬ lnB l 2 = txt 54 ∧ ¬ lnB l 2 = txt 55) := by
    unfold ifK at hi
    rw [e1, e2]
    by_cases c0 : 4 < ((lnW l).length : Int)
    · refine Or.inr ⟨fun c => ?_, fun c => ?_⟩
      · rw [if_pos ⟨c0, c⟩] at hi
        exact absurd hi (by decide)
      · rw [c, if_neg (fun c => absurd c.2 (by decide)), if_pos ⟨c0, rfl⟩] at hi
        exact absurd hi (by decide)
    · exact Or.inl c0
  obtain ⟨N, hN⟩ : ∃ q : Int, ((lnW l).length : Int) = q := ⟨_, rfl⟩
  rw [hN] at h5 hi2
  obtain ⟨al, hal⟩ : ∃ q : Int, (if lnB l 2 = txt 54 then 1 else 0) = q := ⟨_, rfl⟩
  rw [hal] at h54
  by_cases q : N < 5
  · skip
    refine CL_in mL_196 rfl ?_
    show WP fb _ 196 0 [some (vR (some 2187)), some (vR (some k)), none] [] σ _
    refine x_lr (z := some k) T_196_0 rfl ?_
    refine x_ic T_196_1 ?_
    refine x_sta T_196_2 rfl ?_
    refine x_cv3 T_196_4 mN_115 mL_115 (Nat.le_of_ble_eq_true rfl) mO_115 (hP.o hC.1) (Nat.le_of_ble_eq_true rfl) (h54) ?_
    rintro _ σ ⟨rfl, rfl⟩
    refine cI ?_
    refine x_si (ls1 := [some (vR (some 2187)), some (vR (some k)), some (vI al)]) T_196_7 rfl ?_
    refine x_lr (z := some k) T_196_8 rfl ?_
    refine x_gI (z := N) T_196_9 (Or.inl F_16_4) (hP.o hC.1) (Eq.trans (hP.gi hC.1 (key := 2516) rfl) h5) ?_
    refine x_ic T_196_12 ?_
    refine x_ic2 T_196_13 (fun _ => ?_) (fun h => absurd (show N < 5 by omega) h)
    refine x_ic T_196_30 ?_
    refine x_ri T_196_32 ?_
    exact ⟨rfl, rfl⟩
  · have hi3 := hi2.resolve_left (by omega)
    rw [if_neg hi3.1] at hal
    rw [if_neg hi3.2] at h55
    rw [← hal] at h54
    refine CL_in mL_196 rfl ?_
    show WP fb _ 196 0 [some (vR (some 2187)), some (vR (some k)), none] [] σ _
    refine x_lr (z := some k) T_196_0 rfl ?_
    refine x_ic T_196_1 ?_
    refine x_sta T_196_2 rfl ?_
    refine x_cv3 T_196_4 mN_115 mL_115 (Nat.le_of_ble_eq_true rfl) mO_115 (hP.o hC.1) (Nat.le_of_ble_eq_true rfl) (h54) ?_
    rintro _ σ ⟨rfl, rfl⟩
    refine cI ?_
    refine x_si (ls1 := [some (vR (some 2187)), some (vR (some k)), some (vI 0)]) T_196_7 rfl ?_
    refine x_lr (z := some k) T_196_8 rfl ?_
    refine x_gI (z := N) T_196_9 (Or.inl F_16_4) (hP.o hC.1) (Eq.trans (hP.gi hC.1 (key := 2516) rfl) h5) ?_
    refine x_ic T_196_12 ?_
    refine x_ic2 T_196_13 (fun h => absurd (show N < 5 from h) (by omega)) (fun _ => ?_)
    refine x_li (z := 0) T_196_16 rfl ?_
    refine x_if T_196_17 (fun h => absurd (show ¬ (0 : Int) = 0 from h) (by decide)) (fun _ => ?_)
    refine x_lr (z := some k) T_196_20 rfl ?_
    refine x_ic T_196_21 ?_
    refine x_sta T_196_22 rfl ?_
    refine x_cv3 T_196_24 mN_115 mL_115 (Nat.le_of_ble_eq_true rfl) mO_115 (hP.o hC.1) (Nat.le_of_ble_eq_true rfl) (h55) ?_
    rintro _ σ ⟨rfl, rfl⟩
    refine cI ?_
    refine x_if T_196_27 (fun h => absurd (show ¬ (0 : Int) = 0 from h) (by decide)) (fun _ => ?_)
    refine x_ic T_196_30 ?_
    refine x_ri T_196_32 ?_
    exact ⟨rfl, rfl⟩
theorem cho_33 (hP : PX σ0 W R σ) (hC : CMD W k l) (hN : 4 < ((lnW l).length : Int)) (hal : al = 0 ∨ al = 1) : WP fb (d + 6) 196 33 [some (vR (some 2187)), some (vR (some k)), some (vI al)] [] σ (fun r σ' => r = some (vI 0) ∧ if (if lnB l 1 = lnB l 3 then (1 : Int) else 0) = al then ∃ V, PX σ0 V R σ' ∧ JNX σ0 (rU W k 2517 23) R k 0 (jnS l 4) V else σ' = σ) := by
  have har := x_areAlike (fb := fb) (d := d + 3) hP hC (a := 1) (b := 3) ⟨by decide, by omega⟩ ⟨by decide, by omega⟩
  have hk := hC.2.2.1
  have hk1 := hC.1
  have heq : (if lnB l 1 = lnB l 3 then (1 : Int) else 0) = 0 ∨ (if lnB l 1 = lnB l 3 then (1 : Int) else 0) = 1 := by
    split
    · exact Or.inr rfl
    · exact Or.inl rfl
  obtain ⟨eq, heq2⟩ : ∃ q, (if lnB l 1 = lnB l 3 then (1 : Int) else 0) = q := ⟨_, rfl⟩
  rw [heq2] at har heq ⊢
  by_cases q : eq = al
  · simp only [if_pos q]
    obtain ⟨W1, hW1⟩ : ∃ q, rU W k 2517 23 = q := ⟨_, rfl⟩
    rw [hW1]
    have hC1 : CMD W1 k l := hC.fsl (by rw [← hW1]; exact FSL_k (k := k) ⟨by decide, by decide⟩)
    have h5 := hC1.2.2.2.2.1
    have hll := hC.2.2.2.1.2.2.2.2.1
    obtain ⟨N, hNN⟩ : ∃ q : Int, ((lnW l).length : Int) = q := ⟨_, rfl⟩
    have h99 := ecT_99 (l := l) (z := N) hll (by omega) (by omega) (w := 4) (m := (N - 4).toNat) (by decide) (by omega)
    have hcl := fun (σ : hM) (hP : PX σ0 W1 R σ) => x_clear0 (fb := fb) (d := d + 5) hP SH_wt
    have hjo := fun (σ : hM) (V : qR) (hP : PX σ0 V R σ) (hF : FB 2189 W1 V) (hB : BY V 2189 100 []) => x_join (fb := fb) (d := d + 4) (a := 4) (z := N) hP (hC1.fbx hF (by omega) (by omega)) hB (by omega) (by omega) (by decide) (by omega) (by omega) (by omega)
    have eJ : ecT l N 4 (N - 4).toNat = jnS l 4 := by rw [← hNN]; rfl
    rw [eJ] at hjo
    rw [hNN] at h5
    have h53 : ∀ σ : hM, PX σ0 W1 R σ → WP fb (d + 6) 196 49 [some (vR (some 2187)), some (vR (some k)), some (vI al)] [] σ (fun r σ' => r = some (vI 0) ∧ ∃ V, PX σ0 V R σ' ∧ JNX σ0 W1 R k 0 (jnS l 4) V) := fun σ hP => by
      refine x_lr (z := some 2187) T_196_49 rfl ?_
      refine x_gR (z := some 2189) T_196_50 F_15_1 (hP.o xo_2187) (hP.rc xo_2187 rfl rfl) ?_
      refine x_cv1 T_196_53 mN_27 mL_27 (Nat.le_of_ble_eq_true rfl) mO_27 (hP.o xo_2189) (Nat.le_of_ble_eq_true rfl) (hcl σ hP) ?_
      clear hP
      rintro _ σ ⟨rfl, V, hP, hB3, hFV⟩
      have h5V : V k 2516 = N := (hFV.of (by omega) (by decide)).trans h5
      refine cV ?_
      refine x_lr (z := some k) T_196_56 rfl ?_
      refine x_lr (z := some 2187) T_196_57 rfl ?_
      refine x_gR (z := some 2189) T_196_58 F_15_1 (hP.o xo_2187) (hP.rc xo_2187 rfl rfl) ?_
      refine x_ic T_196_61 ?_
      refine x_lr (z := some k) T_196_62 rfl ?_
      refine x_gI (z := N) T_196_63 (Or.inl F_16_4) (hP.o hk1) (Eq.trans (hP.gi hk1 (key := 2516) rfl) h5V) ?_
      refine x_cv4 T_196_66 mN_108 mL_108 (Nat.le_of_ble_eq_true rfl) mO_108 (hP.o hk1) (Nat.le_of_ble_eq_true rfl) (hjo σ V hP hFV hB3) ?_
      clear hP
      rintro _ σ ⟨rfl, V2, hP, hB4, hFV2⟩
      refine cV ?_
      refine x_lr (z := some 2187) T_196_69 rfl ?_
      refine x_ic T_196_70 ?_
      refine z_pZ hP T_196_71 F_15_5 rfl xo_2187 (key := 2485) rfl (fun σ hP => ?_)
      refine x_lr (z := some 2187) T_196_74 rfl ?_
      refine x_ic T_196_75 ?_
      refine z_pZ hP T_196_76 F_15_6 rfl xo_2187 (key := 2486) rfl (fun σ hP => ?_)
      refine x_ic T_196_79 ?_
      refine x_ri T_196_80 ?_
      exact ⟨rfl, _, hP, JNX_of (by omega) hFV hFV2 hB4⟩
    refine x_lr (z := some k) T_196_33 rfl ?_
    refine x_ic T_196_34 ?_
    refine x_ic T_196_35 ?_
    refine x_cv3 T_196_36 mN_197 mL_197 (Nat.le_of_ble_eq_true rfl) mO_197 (hP.o hk1) (Nat.le_of_ble_eq_true rfl) (har) ?_
    rintro _ σ ⟨rfl, rfl⟩
    refine cI ?_
    refine x_li (z := al) T_196_39 rfl ?_
    refine x_ic2 T_196_40 (fun h => absurd (show ¬ eq = al from h) (by omega)) (fun _ => ?_)
    refine x_lr (z := some k) T_196_43 rfl ?_
    refine x_ic T_196_44 ?_
    refine z_pI hP T_196_46 F_16_5 hk1 (key := 2517) rfl (fun σ hP => ?_)
    exact h53 σ (hW1 ▸ hP)
  · simp only [if_neg q]
    refine x_lr (z := some k) T_196_33 rfl ?_
    refine x_ic T_196_34 ?_
    refine x_ic T_196_35 ?_
    refine x_cv3 T_196_36 mN_197 mL_197 (Nat.le_of_ble_eq_true rfl) mO_197 (hP.o hk1) (Nat.le_of_ble_eq_true rfl) (har) ?_
    rintro _ σ ⟨rfl, rfl⟩
    refine cI ?_
    refine x_li (z := al) T_196_39 rfl ?_
    refine x_ic2 T_196_40 (fun _ => ?_) (fun h => absurd (show ¬ eq = al by exact q) h)
    refine x_ic T_196_79 ?_
    refine x_ri T_196_80 ?_
    exact ⟨rfl, rfl⟩
theorem x_choose (hP : PX σ0 W R σ) (hC : CMD W k l) (hi : ¬ ifK l = 0) : CL fb (d + 6) 196 [vR (some 2187), vR (some k)] σ (fun r σ' => r = some (vI 0) ∧ if (if lnB l 1 = lnB l 3 then (1 : Int) else 0) = (if ifK l = 1 then 1 else 0) then ∃ V, PX σ0 V R σ' ∧ JNX σ0 (rU W k 2517 23) R k 0 (jnS l 4) V else σ' = σ) := by
  have h54 := x_isA (fb := fb) (d := d) (j := 54) (w := 2) (by decide) (by decide) hP hC (by decide)
  have h55 := x_isA (fb := fb) (d := d) (j := 55) (w := 2) (by decide) (by decide) hP hC (by decide)
  have h5 := hC.2.2.2.2.1
  obtain ⟨hN, hor⟩ := (cho_rng (l := l)).resolve_left hi
  have h33 := fun (al : Int) (h : al = 0 ∨ al = 1) => cho_33 (fb := fb) (d := d) (al := al) hP hC hN h
  obtain ⟨N, hNN⟩ : ∃ q : Int, ((lnW l).length : Int) = q := ⟨_, rfl⟩
  rw [hNN] at h5 hN
  rcases hor with ⟨g1, g2⟩ | ⟨g1, g2, g3⟩
  · rw [if_pos g2] at h54
    rw [g1, if_pos rfl]
    refine CL_in mL_196 rfl ?_
    show WP fb _ 196 0 [some (vR (some 2187)), some (vR (some k)), none] [] σ _
    refine x_lr (z := some k) T_196_0 rfl ?_
    refine x_ic T_196_1 ?_
    refine x_sta T_196_2 rfl ?_
    refine x_cv3 T_196_4 mN_115 mL_115 (Nat.le_of_ble_eq_true rfl) mO_115 (hP.o hC.1) (Nat.le_of_ble_eq_true rfl) (h54) ?_
    rintro _ σ ⟨rfl, rfl⟩
    refine cI ?_
    refine x_si (ls1 := [some (vR (some 2187)), some (vR (some k)), some (vI 1)]) T_196_7 rfl ?_
    refine x_lr (z := some k) T_196_8 rfl ?_
    refine x_gI (z := N) T_196_9 (Or.inl F_16_4) (hP.o hC.1) (Eq.trans (hP.gi hC.1 (key := 2516) rfl) h5) ?_
    refine x_ic T_196_12 ?_
    refine x_ic2 T_196_13 (fun h => absurd (show N < 5 from h) (by omega)) (fun _ => ?_)
    refine x_li (z := 1) T_196_16 rfl ?_
    refine x_if T_196_17 (fun _ => ?_) (fun h => absurd (show ¬ (1 : Int) = 0 by decide) h)
    exact h33 1 (Or.inr rfl)
  · rw [if_neg g3] at h54
    rw [if_pos g2] at h55
    rw [g1, if_neg (show ¬ (2 : Int) = 1 by decide)]
    refine CL_in mL_196 rfl ?_
    show WP fb _ 196 0 [some (vR (some 2187)), some (vR (some k)), none] [] σ _
    refine x_lr (z := some k) T_196_0 rfl ?_
    refine x_ic T_196_1 ?_
    refine x_sta T_196_2 rfl ?_
    refine x_cv3 T_196_4 mN_115 mL_115 (Nat.le_of_ble_eq_true rfl) mO_115 (hP.o hC.1) (Nat.le_of_ble_eq_true rfl) (h54) ?_
    rintro _ σ ⟨rfl, rfl⟩
    refine cI ?_
    refine x_si (ls1 := [some (vR (some 2187)), some (vR (some k)), some (vI 0)]) T_196_7 rfl ?_
    refine x_lr (z := some k) T_196_8 rfl ?_
    refine x_gI (z := N) T_196_9 (Or.inl F_16_4) (hP.o hC.1) (Eq.trans (hP.gi hC.1 (key := 2516) rfl) h5) ?_
    refine x_ic T_196_12 ?_
    refine x_ic2 T_196_13 (fun h => absurd (show N < 5 from h) (by omega)) (fun _ => ?_)
    refine x_li (z := 0) T_196_16 rfl ?_
    refine x_if T_196_17 (fun h => absurd (show ¬ (0 : Int) = 0 from h) (by decide)) (fun _ => ?_)
    refine x_lr (z := some k) T_196_20 rfl ?_
    refine x_ic T_196_21 ?_
    refine x_sta T_196_22 rfl ?_
    refine x_cv3 T_196_24 mN_115 mL_115 (Nat.le_of_ble_eq_true rfl) mO_115 (hP.o hC.1) (Nat.le_of_ble_eq_true rfl) (h55) ?_
    rintro _ σ ⟨rfl, rfl⟩
    refine cI ?_
    refine x_if T_196_27 (fun _ => ?_) (fun h => absurd (show ¬ (1 : Int) = 0 by decide) h)
    exact h33 0 (Or.inl rfl)
end XSH2
