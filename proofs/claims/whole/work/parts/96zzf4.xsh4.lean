/-! The class's shell: the next word of a for; a command ends; a line is to begin. -/
theorem T_102_0 : hTab 102 0 = some ((3, 2, 2, []), 1) := rfl
theorem T_102_1 : hTab 102 1 = some ((24, 16, Int.ofNat 6, []), 4) := rfl
theorem T_102_4 : hTab 102 4 = some ((3, 2, 2, []), 5) := rfl
theorem T_102_5 : hTab 102 5 = some ((24, 16, Int.ofNat 7, []), 8) := rfl
theorem T_102_8 : hTab 102 8 = some ((0, 0, 1, []), 9) := rfl
theorem T_102_9 : hTab 102 9 = some ((10, 1, 0, []), 10) := rfl
theorem T_102_10 : hTab 102 10 = some ((19, 2, Int.ofNat 15, []), 13) := rfl
theorem T_102_13 : hTab 102 13 = some ((0, 0, 0, []), 14) := rfl
theorem T_102_14 : hTab 102 14 = some ((33, 2, 0, []), 15) := rfl
theorem T_102_15 : hTab 102 15 = some ((3, 1, 2, []), 16) := rfl
theorem T_102_16 : hTab 102 16 = some ((3, 2, 2, []), 17) := rfl
theorem T_102_17 : hTab 102 17 = some ((0, 0, 1, []), 18) := rfl
theorem T_102_18 : hTab 102 18 = some ((31, 103, 0, []), 21) := rfl
theorem T_102_21 : hTab 102 21 = some ((31, 107, 0, []), 24) := rfl
theorem T_102_24 : hTab 102 24 = some ((4, 3, 2, []), 25) := rfl
theorem T_102_25 : hTab 102 25 = some ((3, 3, 2, []), 26) := rfl
theorem T_102_26 : hTab 102 26 = some ((20, 0, Int.ofNat 42, []), 29) := rfl
theorem T_102_29 : hTab 102 29 = some ((3, 2, 2, []), 30) := rfl
theorem T_102_30 : hTab 102 30 = some ((3, 2, 2, []), 31) := rfl
theorem T_102_31 : hTab 102 31 = some ((24, 16, Int.ofNat 6, []), 34) := rfl
theorem T_102_34 : hTab 102 34 = some ((31, 105, 0, []), 37) := rfl
theorem T_102_37 : hTab 102 37 = some ((0, 0, 20, []), 39) := rfl
theorem T_102_39 : hTab 102 39 = some ((19, 5, Int.ofNat 50, []), 42) := rfl
theorem T_102_42 : hTab 102 42 = some ((3, 0, 2, []), 43) := rfl
theorem T_102_43 : hTab 102 43 = some ((0, 0, 18, []), 45) := rfl
theorem T_102_45 : hTab 102 45 = some ((25, 15, Int.ofNat 4, []), 48) := rfl
theorem T_102_48 : hTab 102 48 = some ((0, 0, 0, []), 49) := rfl
theorem T_102_49 : hTab 102 49 = some ((33, 2, 0, []), 50) := rfl
theorem T_102_50 : hTab 102 50 = some ((3, 3, 2, []), 51) := rfl
theorem T_102_51 : hTab 102 51 = some ((3, 2, 2, []), 52) := rfl
theorem T_102_52 : hTab 102 52 = some ((24, 16, Int.ofNat 0, []), 55) := rfl
theorem T_102_55 : hTab 102 55 = some ((3, 2, 2, []), 56) := rfl
theorem T_102_56 : hTab 102 56 = some ((3, 2, 2, []), 57) := rfl
theorem T_102_57 : hTab 102 57 = some ((24, 16, Int.ofNat 6, []), 60) := rfl
theorem T_102_60 : hTab 102 60 = some ((31, 104, 0, []), 63) := rfl
theorem T_102_63 : hTab 102 63 = some ((3, 2, 2, []), 64) := rfl
theorem T_102_64 : hTab 102 64 = some ((3, 2, 2, []), 65) := rfl
theorem T_102_65 : hTab 102 65 = some ((24, 16, Int.ofNat 6, []), 68) := rfl
theorem T_102_68 : hTab 102 68 = some ((31, 106, 0, []), 71) := rfl
theorem T_102_71 : hTab 102 71 = some ((31, 31, 0, []), 74) := rfl
theorem T_102_74 : hTab 102 74 = some ((7, 0, 0, []), 75) := rfl
theorem T_102_75 : hTab 102 75 = some ((3, 2, 2, []), 76) := rfl
theorem T_102_76 : hTab 102 76 = some ((6, 0, 0, []), 77) := rfl
theorem T_102_77 : hTab 102 77 = some ((24, 16, Int.ofNat 6, []), 80) := rfl
theorem T_102_80 : hTab 102 80 = some ((0, 0, 1, []), 81) := rfl
theorem T_102_81 : hTab 102 81 = some ((10, 0, 0, []), 82) := rfl
theorem T_102_82 : hTab 102 82 = some ((25, 16, Int.ofNat 6, []), 85) := rfl
theorem T_102_85 : hTab 102 85 = some ((3, 0, 2, []), 86) := rfl
theorem T_102_86 : hTab 102 86 = some ((24, 15, Int.ofNat 1, []), 89) := rfl
theorem T_102_89 : hTab 102 89 = some ((31, 27, 0, []), 92) := rfl
theorem T_102_92 : hTab 102 92 = some ((3, 2, 2, []), 93) := rfl
theorem T_102_93 : hTab 102 93 = some ((3, 0, 2, []), 94) := rfl
theorem T_102_94 : hTab 102 94 = some ((24, 15, Int.ofNat 1, []), 97) := rfl
theorem T_102_97 : hTab 102 97 = some ((3, 2, 2, []), 98) := rfl
theorem T_102_98 : hTab 102 98 = some ((24, 16, Int.ofNat 7, []), 101) := rfl
theorem T_102_101 : hTab 102 101 = some ((3, 2, 2, []), 102) := rfl
theorem T_102_102 : hTab 102 102 = some ((24, 16, Int.ofNat 4, []), 105) := rfl
theorem T_102_105 : hTab 102 105 = some ((31, 108, 0, []), 108) := rfl
theorem T_102_108 : hTab 102 108 = some ((3, 0, 2, []), 109) := rfl
theorem T_102_109 : hTab 102 109 = some ((0, 0, 1, []), 110) := rfl
theorem T_102_110 : hTab 102 110 = some ((25, 15, Int.ofNat 5, []), 113) := rfl
theorem T_102_113 : hTab 102 113 = some ((3, 0, 2, []), 114) := rfl
theorem T_102_114 : hTab 102 114 = some ((0, 0, 1, []), 115) := rfl
theorem T_102_115 : hTab 102 115 = some ((25, 15, Int.ofNat 6, []), 118) := rfl
theorem T_102_118 : hTab 102 118 = some ((0, 0, 1, []), 119) := rfl
theorem T_102_119 : hTab 102 119 = some ((33, 2, 0, []), 120) := rfl
theorem T_113_0 : hTab 113 0 = some ((3, 0, 2, []), 1) := rfl
theorem T_113_1 : hTab 113 1 = some ((3, 1, 0, []), 2) := rfl
theorem T_113_2 : hTab 113 2 = some ((25, 15, Int.ofNat 4, []), 5) := rfl
theorem T_113_5 : hTab 113 5 = some ((3, 0, 2, []), 6) := rfl
theorem T_113_6 : hTab 113 6 = some ((24, 15, Int.ofNat 2, []), 9) := rfl
theorem T_113_9 : hTab 113 9 = some ((18, 5, Int.ofNat 48, []), 12) := rfl
theorem T_113_12 : hTab 113 12 = some ((3, 0, 2, []), 13) := rfl
theorem T_113_13 : hTab 113 13 = some ((24, 15, Int.ofNat 2, []), 16) := rfl
theorem T_113_16 : hTab 113 16 = some ((0, 0, 12, []), 18) := rfl
theorem T_113_18 : hTab 113 18 = some ((19, 4, Int.ofNat 48, []), 21) := rfl
theorem T_113_21 : hTab 113 21 = some ((3, 0, 2, []), 22) := rfl
theorem T_113_22 : hTab 113 22 = some ((24, 15, Int.ofNat 0, []), 25) := rfl
theorem T_113_25 : hTab 113 25 = some ((3, 0, 2, []), 26) := rfl
theorem T_113_26 : hTab 113 26 = some ((24, 15, Int.ofNat 2, []), 29) := rfl
theorem T_113_29 : hTab 113 29 = some ((0, 0, 1, []), 30) := rfl
theorem T_113_30 : hTab 113 30 = some ((10, 1, 0, []), 31) := rfl
theorem T_113_31 : hTab 113 31 = some ((26, 10, 0, []), 32) := rfl
theorem T_113_32 : hTab 113 32 = some ((24, 16, Int.ofNat 5, []), 35) := rfl
theorem T_113_35 : hTab 113 35 = some ((18, 1, Int.ofNat 48, []), 38) := rfl
theorem T_113_38 : hTab 113 38 = some ((3, 0, 2, []), 39) := rfl
theorem T_113_39 : hTab 113 39 = some ((6, 0, 0, []), 40) := rfl
theorem T_113_40 : hTab 113 40 = some ((24, 15, Int.ofNat 2, []), 43) := rfl
theorem T_113_43 : hTab 113 43 = some ((0, 0, 1, []), 44) := rfl
theorem T_113_44 : hTab 113 44 = some ((10, 1, 0, []), 45) := rfl
theorem T_113_45 : hTab 113 45 = some ((25, 15, Int.ofNat 2, []), 48) := rfl
theorem T_113_48 : hTab 113 48 = some ((33, 0, 0, []), 49) := rfl
theorem mN_102 : hmN 102 = 3 := by decide +kernel
theorem mL_102 : hmL 102 = 4 := by decide +kernel
theorem mK_102 : hmK 102 = 1 := by decide +kernel
theorem mO_102 : hmO 102 = 15 := by decide +kernel
theorem mN_113 : hmN 113 = 2 := by decide +kernel
theorem mL_113 : hmL 113 = 2 := by decide +kernel
theorem mK_113 : hmK 113 = 1 := by decide +kernel
theorem mO_113 : hmO 113 = 15 := by decide +kernel
section XSH4
variable {fb : Bool} {d b k n : Nat} {σ0 σ : hM} {W W1 W2 V P : qR} {R : rR} {i j x z v s e p D pl N w nx bd E u K T U a : Int} {l sc lo wd : List Int} {y : Nat}
theorem XW.fsl (h : XW K T U W R P) (hF : FSL k W V) (hk : 2191 ≤ k ∧ k < 2275) : XW K T U V R P := h.hiw (fun x j hx => hF x j (by omega) (by omega) (by omega) (by omega)) (fun _ _ _ => rfl)
theorem x_nextWord0 (hP : PX σ0 W R σ) (hk : tX k = some (Sum.inl 16)) (hn : W k 2518 = pdO l) (hb : W k 2519 = pdO l + 1) (hr : 3 ≤ pdO l ∧ pdO l ≤ 100) : CL fb (d + 3) 102 [vR (some 2187), vR (some (prO p)), vR (some k)] σ (rP 0 σ) := by
  obtain ⟨nx, hnx⟩ : ∃ q, pdO l = q := ⟨_, rfl⟩
  rw [hnx] at hn hb hr
  obtain ⟨pr, hpr⟩ : ∃ q, prO p = q := ⟨_, rfl⟩
  rw [hpr]
  refine CL_in mL_102 rfl ?_
  show WP fb _ 102 0 [some (vR (some 2187)), some (vR (some pr)), some (vR (some k)), none] [] σ _
  refine x_lr (z := some k) T_102_0 rfl ?_
  refine x_gI (z := nx) T_102_1 (Or.inl F_16_6) (hP.o hk) (Eq.trans (hP.gi hk (key := 2518) rfl) hn) ?_
  refine x_lr (z := some k) T_102_4 rfl ?_
  refine x_gI (z := nx + 1) T_102_5 (Or.inl F_16_7) (hP.o hk) (Eq.trans (hP.gi hk (key := 2519) rfl) hb) ?_
  refine x_ic T_102_8 ?_
  refine x_ib (w := (nx + 1 - 1)) T_102_9 (fun h => absurd h.1 (by decide)) (w32_id (by omega) (by omega)) ?_
  refine x_ic2 T_102_10 (fun h => absurd (show nx < (nx + 1 - 1) from h) (by omega)) (fun _ => ?_)
  refine x_ic T_102_13 ?_
  refine x_rz T_102_14 rfl ?_
  exact ⟨rfl, rfl⟩
theorem foK_v (h : foK l) : vaN (lnB l 1) = lg (lnB l 1) 0 - 97 ∧ 0 ≤ lg (lnB l 1) 0 - 97 ∧ lg (lnB l 1) 0 - 97 < 26 ∧ 4 < ((lnW l).length : Int) ∧ 3 ≤ pdO l ∧ pdO l + 1 < ((lnW l).length : Int) := by
  obtain ⟨⟨g1, g2, g3, -⟩, g5, g6⟩ := h
  have hpr := pdR_rng (l := l) (((lnW l).length : Int) - 3).toNat 3
  have e : pdR l (((lnW l).length : Int) - 3).toNat 3 = pdO l := rfl
  rw [e] at hpr
  exact ⟨if_pos (by omega), by omega, by omega, g1, g5, by omega⟩
theorem x_nextWord (hP : PX σ0 W R σ) (hX : XW K T U W R P) (hp : 0 ≤ p ∧ p < 8) (hlv : ¬ P 2320 p = 0) (hC : CMD W k l) (hf : foK l) (hn : W k 2518 = nx) (hb : W k 2519 = pdO l + 1) (hr : 3 ≤ nx ∧ nx < pdO l) : CL fb (d + 3) 102 [vR (some 2187), vR (some (prO p)), vR (some k)] σ (fun r σ' => (20 < (lnB l nx).length → r = some (vI 0) ∧ PX σ0 (rU W 2187 2484 18) R σ') ∧ (¬ 20 < (lnB l nx).length → r = some (vI 1) ∧ ∃ V, PX σ0 V R σ' ∧ XW K T U V R (gVar P p (lg (lnB l 1) 0 - 97) (lnB l nx)) ∧ (∃ b W1, 128 ≤ b ∧ b + 1 < 2175 ∧ FB b W W1 ∧ FSL k W1 V) ∧ V k 2517 = W k 2517 ∧ V k 2518 = nx + 1 ∧ V k 2519 = W k 2519 ∧ V k 2520 = W k 2520 ∧ V 2187 2484 = W 2187 2484 ∧ V 2187 2485 = 1 ∧ V 2187 2486 = 1 ∧ BY V 2189 100 (jnS l (pdO l + 1)))) := by
  obtain ⟨f1, f2, f3, f4, f5, f6⟩ := foK_v hf
  have hk := hC.1
  have hkr := hC.2.2.1
  have hB := hC.2.2.2.1
  have hll := hB.2.2.2.2.1
  have hrp := prO_rng hp
  have hpo := prO_o hp
  have hva := x_variableA (fb := fb) (d := d) (w := 1) hP hC (by decide)
  rw [f1, if_pos (by omega)] at hva
  obtain ⟨v, hv⟩ : ∃ v, lg (lnB l 1) 0 - 97 = v := ⟨_, rfl⟩
  rw [hv] at hva f2 f3 ⊢
  have hvo := x_variableOf (fb := fb) (d := d + 2) (k := v) hP hp
  rw [if_pos ⟨f2, f3⟩] at hvo
  have hVB := ((hX.1.2.2.1.1 p hp.1 hp.2).2.2.2 hlv).2.2.2.2.2 v f2 f3
  have hle := x_lengthOf (fb := fb) (d := d + 1) (w := nx) hP hC ⟨by omega, by omega⟩ rfl
  obtain ⟨-, a, e, ha, he, g1, g2, g3, g4⟩ := hC.word (w := nx) ⟨by omega, by omega⟩
  have hso := x_startOf (fb := fb) (d := d + 2) hP hC ⟨by omega, by omega⟩ ha
  have heo := x_endOf (fb := fb) (d := d + 2) hP hC ⟨by omega, by omega⟩ he
  have hwb : byt (lnB l nx) := by
    rw [g4]
    exact byt_seg (fun i i0 i1 => hB.2.2.2.2.2.1 _ (by omega))
  obtain ⟨wd, hwd⟩ : ∃ q, lnB l nx = q := ⟨_, rfl⟩
  rw [hwd] at hle hwb g4 ⊢
  have h5 := hC.2.2.2.2.1
  obtain ⟨N, hNN⟩ : ∃ q : Int, ((lnW l).length : Int) = q := ⟨_, rfl⟩
  have h99 := ecT_99 (l := l) (z := N) hll (by omega) (by omega) (w := pdO l + 1) (m := (N - (pdO l + 1)).toNat) (by omega) (by omega)
  have eJ : ecT l N (pdO l + 1) (N - (pdO l + 1)).toNat = jnS l (pdO l + 1) := by rw [← hNN]; rfl
  rw [eJ] at h99
  have hN50 := (lnW_ok hll).2
  obtain ⟨z, hz⟩ : ∃ z : Int, (wd.length : Int) = z := ⟨_, rfl⟩
  rw [hz] at hle
  have h1 : SH 2189 100 := SH_wt
  by_cases q : 20 < z
  · obtain ⟨vb, hvb⟩ : ∃ q, prO p + 7 + 2 * v.toNat = q := ⟨_, rfl⟩
    rw [hvb] at hvo
    obtain ⟨pr, hpr⟩ : ∃ q, prO p = q := ⟨_, rfl⟩
    rw [hpr] at hpo hvo ⊢
    obtain ⟨bd, hbd⟩ : ∃ q, pdO l = q := ⟨_, rfl⟩
    rw [hbd] at hb hr f6
    refine CL_in mL_102 rfl ?_
    show WP fb _ 102 0 [some (vR (some 2187)), some (vR (some pr)), some (vR (some k)), none] [] σ _
    refine x_lr (z := some k) T_102_0 rfl ?_
    refine x_gI (z := nx) T_102_1 (Or.inl F_16_6) (hP.o hk) (Eq.trans (hP.gi hk (key := 2518) rfl) hn) ?_
    refine x_lr (z := some k) T_102_4 rfl ?_
    refine x_gI (z := bd + 1) T_102_5 (Or.inl F_16_7) (hP.o hk) (Eq.trans (hP.gi hk (key := 2519) rfl) hb) ?_
    refine x_ic T_102_8 ?_
    refine x_ib (w := (bd + 1 - 1)) T_102_9 (fun h => absurd h.1 (by decide)) (w32_id (by omega) (by omega)) ?_
    refine x_ic2 T_102_10 (fun _ => ?_) (fun h => absurd (show nx < (bd + 1 - 1) by omega) h)
    refine x_lr (z := some pr) T_102_15 rfl ?_
    refine x_lr (z := some k) T_102_16 rfl ?_
    refine x_ic T_102_17 ?_
    refine x_cv2 T_102_18 mN_103 mL_103 (Nat.le_of_ble_eq_true rfl) mO_103 (hP.o hk) (Nat.le_of_ble_eq_true rfl) (hva) ?_
    rintro _ σ ⟨rfl, rfl⟩
    refine cI ?_
    refine x_cv2 T_102_21 mN_107 mL_107 (Nat.le_of_ble_eq_true rfl) mO_107 (hP.o hpo) (Nat.le_of_ble_eq_true rfl) (hvo) ?_
    rintro _ σ ⟨rfl, rfl⟩
    refine cR ?_
    refine x_sr (ls1 := [some (vR (some 2187)), some (vR (some pr)), some (vR (some k)), some (vR (some vb))]) T_102_24 rfl ?_
    refine x_lr (z := some vb) T_102_25 rfl ?_
    refine x_nul T_102_26 (fun h0 => absurd h0 (by simp)) (fun _ _ => ?_)
    refine x_lr (z := some k) T_102_29 rfl ?_
    refine x_lr (z := some k) T_102_30 rfl ?_
    refine x_gI (z := nx) T_102_31 (Or.inl F_16_6) (hP.o hk) (Eq.trans (hP.gi hk (key := 2518) rfl) hn) ?_
    refine x_cv2 T_102_34 mN_105 mL_105 (Nat.le_of_ble_eq_true rfl) mO_105 (hP.o hk) (Nat.le_of_ble_eq_true rfl) (hle) ?_
    rintro _ σ ⟨rfl, rfl⟩
    refine cI ?_
    refine x_ic T_102_37 ?_
    refine x_ic2 T_102_39 (fun h => absurd (show z ≤ 20 from h) (by omega)) (fun _ => ?_)
    refine x_lr (z := some 2187) T_102_42 rfl ?_
    refine x_ic T_102_43 ?_
    refine z_pI hP T_102_45 F_15_4 xo_2187 (key := 2484) rfl (fun σ hP => ?_)
    refine x_ic T_102_48 ?_
    refine x_rz T_102_49 rfl ?_
    exact ⟨fun _ => ⟨rfl, hP⟩, fun c => absurd (show 20 < wd.length by omega) c⟩
  have hta := x_take (fb := fb) (d := d + 1) (s := a) (e := e) hP hVB hB (by omega) (Or.inr g1) g3
  have e20 : (seg (lg l) a (e - a).toNat).take 20 = wd := by rw [← g4, List.take_of_length_le (by omega)]
  rw [e20] at hta
  have hfin := fun (W2 : qR) (hF : FB (prO p + 7 + 2 * v.toNat) W W2) (hB : BY W2 (prO p + 7 + 2 * v.toNat) 20 wd) => hX.var hp ⟨f2, f3⟩ (by omega) hwb hlv hF hB
  obtain ⟨r1, hr1⟩ : ∃ q : Int, (if (e - a).toNat ≤ 20 then 1 else 0) = q := ⟨_, rfl⟩
  rw [hr1] at hta
  have hvt := hVB.1
  obtain ⟨vb, hvb⟩ : ∃ q, prO p + 7 + 2 * v.toNat = q := ⟨_, rfl⟩
  have hvr : 128 ≤ vb ∧ vb + 1 < 2175 := by omega
  rw [hvb] at hvo hta hfin hvt
  have hk1 : tX (k + 1) = some (Sum.inl 2) := hB.1
  -- behind the word
  have hjo : ∀ (σ : hM) (W1 V : qR), FB vb W W1 → FB 2189 (rU W1 k 2518 (nx + 1)) V → BY V 2189 100 [] → PX σ0 V R σ → CL fb (d + 2) 108 [vR (some k), vR (some 2189), vI (pdO l + 1), vI N] σ (fun r σ' => r = none ∧ ∃ W2, PX σ0 W2 R σ' ∧ BY W2 2189 100 (jnS l (pdO l + 1)) ∧ FB 2189 V W2) := fun σ W1 V hF1 hF2 hB3 hP => by
    have hC2 : CMD V k l := ((hC.fbx hF1 (by omega) (by omega)).fsl (k := k) (FSL_k (v := nx + 1) ⟨by decide, by decide⟩)).fbx hF2 (by omega) (by omega)
    have h := x_join (fb := fb) (d := d + 1) (a := pdO l + 1) (z := N) hP hC2 hB3 (by omega) (by omega) (by omega) (by omega) (by omega) (by rw [eJ]; omega)
    rw [eJ] at h
    exact h
  have hgo : ∀ (W1 V V2 : qR), FB vb W W1 → BY W1 vb 20 wd → FB 2189 (rU W1 k 2518 (nx + 1)) V → FB 2189 V V2 → BY V2 2189 100 (jnS l (pdO l + 1)) → XW K T U (rU (rU V2 2187 2485 1) 2187 2486 1) R (gVar P p v wd) ∧ (∃ b W1, 128 ≤ b ∧ b + 1 < 2175 ∧ FB b W W1 ∧ FSL k W1 (rU (rU V2 2187 2485 1) 2187 2486 1)) ∧ (rU (rU V2 2187 2485 1) 2187 2486 1) k 2517 = W k 2517 ∧ (rU (rU V2 2187 2485 1) 2187 2486 1) k 2518 = nx + 1 ∧ (rU (rU V2 2187 2485 1) 2187 2486 1) k 2519 = W k 2519 ∧ (rU (rU V2 2187 2485 1) 2187 2486 1) k 2520 = W k 2520 ∧ (rU (rU V2 2187 2485 1) 2187 2486 1) 2187 2484 = W 2187 2484 ∧ (rU (rU V2 2187 2485 1) 2187 2486 1) 2187 2485 = 1 ∧ (rU (rU V2 2187 2485 1) 2187 2486 1) 2187 2486 = 1 ∧ BY (rU (rU V2 2187 2485 1) 2187 2486 1) 2189 100 (jnS l (pdO l + 1)) := fun W1 V V2 hF1 hB1 hF2 hF3 hB4 => by
    obtain ⟨j1, j2, j3, j4, j5, j6⟩ := JNX_of (σ0 := σ0) (R := R) (k := k) (v := 1) (by omega) hF2 hF3 hB4
    have hFk : FSL k W1 (rU (rU V2 2187 2485 1) 2187 2486 1) := FSL_tr (FSL_k ⟨by decide, by decide⟩) j1
    refine ⟨(hfin W1 hF1 hB1).fsl hFk ⟨by omega, by omega⟩, ⟨vb, W1, hvr.1, hvr.2, hF1, hFk⟩, ?_, ?_, ?_, ?_, ?_, j4, j5, j6⟩
    · rw [j2, rU_j (by decide)]
      exact hF1 _ _ (by omega) (by omega)
    · rw [j2]
      exact rU_s
    · rw [j2, rU_j (by decide)]
      exact hF1 _ _ (by omega) (by omega)
    · rw [j2, rU_j (by decide)]
      exact hF1 _ _ (by omega) (by omega)
    · rw [j3, rU_f (by omega)]
      exact hF1 _ _ (by omega) (by omega)
  have h75 : ∀ (σ : hM) (W1 : qR) (x3 : Option AV), FB vb W W1 → BY W1 vb 20 wd → PX σ0 W1 R σ → WP fb (d + 3) 102 75 [some (vR (some 2187)), some (vR (some (prO p))), some (vR (some k)), x3] [] σ (fun r σ' => r = some (vI 1) ∧ ∃ V, PX σ0 V R σ' ∧ XW K T U V R (gVar P p v wd) ∧ (∃ b W1, 128 ≤ b ∧ b + 1 < 2175 ∧ FB b W W1 ∧ FSL k W1 V) ∧ V k 2517 = W k 2517 ∧ V k 2518 = nx + 1 ∧ V k 2519 = W k 2519 ∧ V k 2520 = W k 2520 ∧ V 2187 2484 = W 2187 2484 ∧ V 2187 2485 = 1 ∧ V 2187 2486 = 1 ∧ BY V 2189 100 (jnS l (pdO l + 1))) := fun σ W1 x3 hF1 hB1 hP => by
    have hn1 : W1 k 2518 = nx := (hF1 _ _ (by omega) (by omega)).trans hn
    have hb1 : W1 k 2519 = pdO l + 1 := (hF1 _ _ (by omega) (by omega)).trans hb
    have h51 : W1 k 2516 = N := ((hF1 _ _ (by omega) (by omega)).trans h5).trans hNN
    have hcl := fun (σ : hM) (hP : PX σ0 (rU W1 k 2518 (nx + 1)) R σ) => x_clear0 (fb := fb) (d := d + 2) hP SH_wt
    obtain ⟨pr, hpr⟩ : ∃ q, prO p = q := ⟨_, rfl⟩
    rw [hpr]
    obtain ⟨bd, hbd⟩ : ∃ q, pdO l = q := ⟨_, rfl⟩
    simp only [hbd] at hb1 hjo hgo hr f6 ⊢
    refine x_lr (z := some k) T_102_75 rfl ?_
    refine x_dupR T_102_76 ?_
    refine x_gI (z := nx) T_102_77 (Or.inl F_16_6) (hP.o hk) (Eq.trans (hP.gi hk (key := 2518) rfl) hn1) ?_
    refine x_ic T_102_80 ?_
    refine x_ib (w := (nx + 1)) T_102_81 (fun h => absurd h.1 (by decide)) (w32_id (by omega) (by omega)) ?_
    refine z_pI hP T_102_82 F_16_6 hk (key := 2518) rfl (fun σ hP => ?_)
    refine x_lr (z := some 2187) T_102_85 rfl ?_
    refine x_gR (z := some 2189) T_102_86 F_15_1 (hP.o xo_2187) (hP.rc xo_2187 rfl rfl) ?_
    refine x_cv1 T_102_89 mN_27 mL_27 (Nat.le_of_ble_eq_true rfl) mO_27 (hP.o xo_2189) (Nat.le_of_ble_eq_true rfl) (hcl σ hP) ?_
    clear hP
    rintro _ σ ⟨rfl, V, hP, hB3, hFV⟩
    have hbV : V k 2519 = bd + 1 := (hFV.of (by omega) (by decide)).trans ((rU_j (by decide)).trans hb1)
    have h5V : V k 2516 = N := (hFV.of (by omega) (by decide)).trans ((rU_j (by decide)).trans h51)
    refine cV ?_
    refine x_lr (z := some k) T_102_92 rfl ?_
    refine x_lr (z := some 2187) T_102_93 rfl ?_
    refine x_gR (z := some 2189) T_102_94 F_15_1 (hP.o xo_2187) (hP.rc xo_2187 rfl rfl) ?_
    refine x_lr (z := some k) T_102_97 rfl ?_
    refine x_gI (z := bd + 1) T_102_98 (Or.inl F_16_7) (hP.o hk) (Eq.trans (hP.gi hk (key := 2519) rfl) hbV) ?_
    refine x_lr (z := some k) T_102_101 rfl ?_
    refine x_gI (z := N) T_102_102 (Or.inl F_16_4) (hP.o hk) (Eq.trans (hP.gi hk (key := 2516) rfl) h5V) ?_
    refine x_cv4 T_102_105 mN_108 mL_108 (Nat.le_of_ble_eq_true rfl) mO_108 (hP.o hk) (Nat.le_of_ble_eq_true rfl) (hjo σ W1 V hF1 hFV hB3 hP) ?_
    clear hP
    rintro _ σ ⟨rfl, V2, hP, hB4, hFV2⟩
    refine cV ?_
    refine x_lr (z := some 2187) T_102_108 rfl ?_
    refine x_ic T_102_109 ?_
    refine z_pZ hP T_102_110 F_15_5 rfl xo_2187 (key := 2485) rfl (fun σ hP => ?_)
    refine x_lr (z := some 2187) T_102_113 rfl ?_
    refine x_ic T_102_114 ?_
    refine z_pZ hP T_102_115 F_15_6 rfl xo_2187 (key := 2486) rfl (fun σ hP => ?_)
    refine x_ic T_102_118 ?_
    refine x_rz T_102_119 rfl ?_
    exact ⟨rfl, _, hP, hgo W1 V V2 hF1 hB1 hFV hFV2 hB4⟩
  obtain ⟨pr, hpr⟩ : ∃ q, prO p = q := ⟨_, rfl⟩
  rw [hpr] at hpo hvo h75 ⊢
  have hgoal : CL fb (d + 3) 102 [vR (some 2187), vR (some pr), vR (some k)] σ (fun r σ' => r = some (vI 1) ∧ ∃ V, PX σ0 V R σ' ∧ XW K T U V R (gVar P p v wd) ∧ (∃ b W1, 128 ≤ b ∧ b + 1 < 2175 ∧ FB b W W1 ∧ FSL k W1 V) ∧ V k 2517 = W k 2517 ∧ V k 2518 = nx + 1 ∧ V k 2519 = W k 2519 ∧ V k 2520 = W k 2520 ∧ V 2187 2484 = W 2187 2484 ∧ V 2187 2485 = 1 ∧ V 2187 2486 = 1 ∧ BY V 2189 100 (jnS l (pdO l + 1))) := by
    obtain ⟨bd, hbd⟩ : ∃ q, pdO l = q := ⟨_, rfl⟩
    simp only [hbd] at hb h75 hr f6 ⊢
    refine CL_in mL_102 rfl ?_
    show WP fb _ 102 0 [some (vR (some 2187)), some (vR (some pr)), some (vR (some k)), none] [] σ _
    refine x_lr (z := some k) T_102_0 rfl ?_
    refine x_gI (z := nx) T_102_1 (Or.inl F_16_6) (hP.o hk) (Eq.trans (hP.gi hk (key := 2518) rfl) hn) ?_
    refine x_lr (z := some k) T_102_4 rfl ?_
    refine x_gI (z := bd + 1) T_102_5 (Or.inl F_16_7) (hP.o hk) (Eq.trans (hP.gi hk (key := 2519) rfl) hb) ?_
    refine x_ic T_102_8 ?_
    refine x_ib (w := (bd + 1 - 1)) T_102_9 (fun h => absurd h.1 (by decide)) (w32_id (by omega) (by omega)) ?_
    refine x_ic2 T_102_10 (fun _ => ?_) (fun h => absurd (show nx < (bd + 1 - 1) by omega) h)
    refine x_lr (z := some pr) T_102_15 rfl ?_
    refine x_lr (z := some k) T_102_16 rfl ?_
    refine x_ic T_102_17 ?_
    refine x_cv2 T_102_18 mN_103 mL_103 (Nat.le_of_ble_eq_true rfl) mO_103 (hP.o hk) (Nat.le_of_ble_eq_true rfl) (hva) ?_
    rintro _ σ ⟨rfl, rfl⟩
    refine cI ?_
    refine x_cv2 T_102_21 mN_107 mL_107 (Nat.le_of_ble_eq_true rfl) mO_107 (hP.o hpo) (Nat.le_of_ble_eq_true rfl) (hvo) ?_
    rintro _ σ ⟨rfl, rfl⟩
    refine cR ?_
    refine x_sr (ls1 := [some (vR (some 2187)), some (vR (some pr)), some (vR (some k)), some (vR (some vb))]) T_102_24 rfl ?_
    refine x_lr (z := some vb) T_102_25 rfl ?_
    refine x_nul T_102_26 (fun h0 => absurd h0 (by simp)) (fun _ _ => ?_)
    refine x_lr (z := some k) T_102_29 rfl ?_
    refine x_lr (z := some k) T_102_30 rfl ?_
    refine x_gI (z := nx) T_102_31 (Or.inl F_16_6) (hP.o hk) (Eq.trans (hP.gi hk (key := 2518) rfl) hn) ?_
    refine x_cv2 T_102_34 mN_105 mL_105 (Nat.le_of_ble_eq_true rfl) mO_105 (hP.o hk) (Nat.le_of_ble_eq_true rfl) (hle) ?_
    rintro _ σ ⟨rfl, rfl⟩
    refine cI ?_
    refine x_ic T_102_37 ?_
    refine x_ic2 T_102_39 (fun _ => ?_) (fun h => absurd (show z ≤ 20 by omega) h)
    refine x_lr (z := some vb) T_102_50 rfl ?_
    refine x_lr (z := some k) T_102_51 rfl ?_
    refine x_gR (z := some (k + 1)) T_102_52 F_16_0 (hP.o hk) (hP.rc hk rfl rfl) ?_
    refine x_lr (z := some k) T_102_55 rfl ?_
    refine x_lr (z := some k) T_102_56 rfl ?_
    refine x_gI (z := nx) T_102_57 (Or.inl F_16_6) (hP.o hk) (Eq.trans (hP.gi hk (key := 2518) rfl) hn) ?_
    refine x_cv2 T_102_60 mN_104 mL_104 (Nat.le_of_ble_eq_true rfl) mO_104 (hP.o hk) (Nat.le_of_ble_eq_true rfl) (hso) ?_
    rintro _ σ ⟨rfl, rfl⟩
    refine cI ?_
    refine x_lr (z := some k) T_102_63 rfl ?_
    refine x_lr (z := some k) T_102_64 rfl ?_
    refine x_gI (z := nx) T_102_65 (Or.inl F_16_6) (hP.o hk) (Eq.trans (hP.gi hk (key := 2518) rfl) hn) ?_
    refine x_cv2 T_102_68 mN_106 mL_106 (Nat.le_of_ble_eq_true rfl) mO_106 (hP.o hk) (Nat.le_of_ble_eq_true rfl) (heo) ?_
    rintro _ σ ⟨rfl, rfl⟩
    refine cI ?_
    refine x_cv4 T_102_71 mN_31 mL_31 (Nat.le_of_ble_eq_true rfl) mO_31 (hP.o hvt) (Nat.le_of_ble_eq_true rfl) (hta) ?_
    clear hP hta
    rintro _ σ ⟨rfl, V, hP, hB1, hF1⟩
    refine cI ?_
    refine x_popI T_102_74 ?_
    exact h75 σ V _ hF1 hB1 hP
  exact hgoal.mono (fun r σ' h => ⟨fun c => absurd c (by omega), fun _ => h⟩)
theorem x_endS (hP : PX σ0 W R σ) (hD : W 2187 2482 = D) (hDr : 1 ≤ D ∧ D ≤ 12) : CL fb d 113 [vR (some 2187), vI v] σ (fun r σ' => r = none ∧ PX σ0 (if W (cmO (D - 1)) 2517 = 0 then rU (rU W 2187 2484 v) 2187 2482 (D - 1) else rU W 2187 2484 v) R σ') := by
  have ho := cmO_o (i := D - 1) ⟨by omega, by omega⟩
  have hr := rA_cmd (i := D - 1) ⟨by omega, by omega⟩
  have hcr := cmO_rng (i := D - 1) ⟨by omega, by omega⟩
  obtain ⟨c, hc⟩ : ∃ q, cmO (D - 1) = q := ⟨_, rfl⟩
  rw [hc] at ho hr hcr ⊢
  obtain ⟨u, hu⟩ : ∃ q, W c 2517 = q := ⟨_, rfl⟩
  rw [hu]
  have hD1 : rU W 2187 2484 v 2187 2482 = D := (rU_j (by decide)).trans hD
  by_cases q : u = 0
  · rw [if_pos q]
    refine CL_in mL_113 rfl ?_
    show WP fb _ 113 0 [some (vR (some 2187)), some (vI v)] [] σ _
    refine x_lr (z := some 2187) T_113_0 rfl ?_
    refine x_li (z := v) T_113_1 rfl ?_
    refine z_pI hP T_113_2 F_15_4 xo_2187 (key := 2484) rfl (fun σ hP => ?_)
    refine x_lr (z := some 2187) T_113_5 rfl ?_
    refine x_gI (z := D) T_113_6 (Or.inl F_15_2) (hP.o xo_2187) (Eq.trans (Eq.trans (hP.gi xo_2187 (key := 2482) rfl) (rU_j (by decide))) hD1) ?_
    refine x_if T_113_9 (fun h => absurd (show D ≤ 0 from h) (by omega)) (fun _ => ?_)
    refine x_lr (z := some 2187) T_113_12 rfl ?_
    refine x_gI (z := D) T_113_13 (Or.inl F_15_2) (hP.o xo_2187) (Eq.trans (Eq.trans (hP.gi xo_2187 (key := 2482) rfl) (rU_j (by decide))) hD1) ?_
    refine x_ic T_113_16 ?_
    refine x_ic2 T_113_18 (fun h => absurd (show 12 < D from h) (by omega)) (fun _ => ?_)
    refine x_lr (z := some 2187) T_113_21 rfl ?_
    refine x_gR (z := some 2188) T_113_22 F_15_0 (hP.o xo_2187) (hP.rc xo_2187 rfl rfl) ?_
    refine x_lr (z := some 2187) T_113_25 rfl ?_
    refine x_gI (z := D) T_113_26 (Or.inl F_15_2) (hP.o xo_2187) (Eq.trans (Eq.trans (hP.gi xo_2187 (key := 2482) rfl) (rU_j (by decide))) hD1) ?_
    refine x_ic T_113_29 ?_
    refine x_ib (w := (D - 1)) T_113_30 (fun h => absurd h.1 (by decide)) (w32_id (by omega) (by omega)) ?_
    refine x_alR (z := some c) T_113_31 (hP.ta xa_2188) (by decide) (by omega) (by omega) (hP.arc xa_2188 rfl hr) ?_
    refine x_gI (z := u) T_113_32 (Or.inl F_16_5) (hP.o ho) (Eq.trans (Eq.trans (hP.gi ho (key := 2517) rfl) (rU_j (by decide))) hu) ?_
    refine x_if T_113_35 (fun h => absurd (show ¬ u = 0 from h) (by exact fun h => h q)) (fun _ => ?_)
    refine x_lr (z := some 2187) T_113_38 rfl ?_
    refine x_dupR T_113_39 ?_
    refine x_gI (z := D) T_113_40 (Or.inl F_15_2) (hP.o xo_2187) (Eq.trans (Eq.trans (hP.gi xo_2187 (key := 2482) rfl) (rU_j (by decide))) hD1) ?_
    refine x_ic T_113_43 ?_
    refine x_ib (w := (D - 1)) T_113_44 (fun h => absurd h.1 (by decide)) (w32_id (by omega) (by omega)) ?_
    refine z_pI hP T_113_45 F_15_2 xo_2187 (key := 2482) rfl (fun σ hP => ?_)
    refine x_rv T_113_48 ?_
    exact ⟨rfl, hP⟩
  · rw [if_neg q]
    refine CL_in mL_113 rfl ?_
    show WP fb _ 113 0 [some (vR (some 2187)), some (vI v)] [] σ _
    refine x_lr (z := some 2187) T_113_0 rfl ?_
    refine x_li (z := v) T_113_1 rfl ?_
    refine z_pI hP T_113_2 F_15_4 xo_2187 (key := 2484) rfl (fun σ hP => ?_)
    refine x_lr (z := some 2187) T_113_5 rfl ?_
    refine x_gI (z := D) T_113_6 (Or.inl F_15_2) (hP.o xo_2187) (Eq.trans (Eq.trans (hP.gi xo_2187 (key := 2482) rfl) (rU_j (by decide))) hD1) ?_
    refine x_if T_113_9 (fun h => absurd (show D ≤ 0 from h) (by omega)) (fun _ => ?_)
    refine x_lr (z := some 2187) T_113_12 rfl ?_
    refine x_gI (z := D) T_113_13 (Or.inl F_15_2) (hP.o xo_2187) (Eq.trans (Eq.trans (hP.gi xo_2187 (key := 2482) rfl) (rU_j (by decide))) hD1) ?_
    refine x_ic T_113_16 ?_
    refine x_ic2 T_113_18 (fun h => absurd (show 12 < D from h) (by omega)) (fun _ => ?_)
    refine x_lr (z := some 2187) T_113_21 rfl ?_
    refine x_gR (z := some 2188) T_113_22 F_15_0 (hP.o xo_2187) (hP.rc xo_2187 rfl rfl) ?_
    refine x_lr (z := some 2187) T_113_25 rfl ?_
    refine x_gI (z := D) T_113_26 (Or.inl F_15_2) (hP.o xo_2187) (Eq.trans (Eq.trans (hP.gi xo_2187 (key := 2482) rfl) (rU_j (by decide))) hD1) ?_
    refine x_ic T_113_29 ?_
    refine x_ib (w := (D - 1)) T_113_30 (fun h => absurd h.1 (by decide)) (w32_id (by omega) (by omega)) ?_
    refine x_alR (z := some c) T_113_31 (hP.ta xa_2188) (by decide) (by omega) (by omega) (hP.arc xa_2188 rfl hr) ?_
    refine x_gI (z := u) T_113_32 (Or.inl F_16_5) (hP.o ho) (Eq.trans (Eq.trans (hP.gi ho (key := 2517) rfl) (rU_j (by decide))) hu) ?_
    refine x_if T_113_35 (fun _ => ?_) (fun h => absurd (show ¬ u = 0 by exact q) h)
    refine x_rv T_113_48 ?_
    exact ⟨rfl, hP⟩
end XSH4
