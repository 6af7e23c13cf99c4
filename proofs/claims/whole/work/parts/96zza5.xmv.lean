/-! The class's commands: mv. -/
theorem T_157_0 : hTab 157 0 = some ((3, 2, 2, []), 1) := rfl
theorem T_157_1 : hTab 157 1 = some ((24, 16, Int.ofNat 4, []), 4) := rfl
theorem T_157_4 : hTab 157 4 = some ((0, 0, 3, []), 5) := rfl
theorem T_157_5 : hTab 157 5 = some ((19, 0, Int.ofNat 11, []), 8) := rfl
theorem T_157_11 : hTab 157 11 = some ((3, 0, 2, []), 12) := rfl
theorem T_157_12 : hTab 157 12 = some ((24, 14, Int.ofNat 0, []), 15) := rfl
theorem T_157_15 : hTab 157 15 = some ((3, 1, 2, []), 16) := rfl
theorem T_157_16 : hTab 157 16 = some ((3, 2, 2, []), 17) := rfl
theorem T_157_17 : hTab 157 17 = some ((0, 0, 1, []), 18) := rfl
theorem T_157_18 : hTab 157 18 = some ((3, 0, 2, []), 19) := rfl
theorem T_157_19 : hTab 157 19 = some ((24, 14, Int.ofNat 2, []), 22) := rfl
theorem T_157_22 : hTab 157 22 = some ((0, 0, 0, []), 23) := rfl
theorem T_157_23 : hTab 157 23 = some ((31, 117, 0, []), 26) := rfl
theorem T_157_26 : hTab 157 26 = some ((4, 3, 0, []), 27) := rfl
theorem T_157_27 : hTab 157 27 = some ((3, 3, 0, []), 28) := rfl
theorem T_157_28 : hTab 157 28 = some ((18, 1, Int.ofNat 86, []), 31) := rfl
theorem T_157_31 : hTab 157 31 = some ((3, 0, 2, []), 32) := rfl
theorem T_157_32 : hTab 157 32 = some ((3, 0, 2, []), 33) := rfl
theorem T_157_33 : hTab 157 33 = some ((24, 14, Int.ofNat 2, []), 36) := rfl
theorem T_157_36 : hTab 157 36 = some ((3, 0, 2, []), 37) := rfl
theorem T_157_37 : hTab 157 37 = some ((24, 14, Int.ofNat 0, []), 40) := rfl
theorem T_157_40 : hTab 157 40 = some ((3, 0, 2, []), 41) := rfl
theorem T_157_41 : hTab 157 41 = some ((24, 14, Int.ofNat 2, []), 44) := rfl
theorem T_157_44 : hTab 157 44 = some ((24, 5, Int.ofNat 1, []), 47) := rfl
theorem T_157_47 : hTab 157 47 = some ((1, 0, (-1), []), 50) := rfl
theorem T_157_50 : hTab 157 50 = some ((1, 0, (-1), []), 53) := rfl
theorem T_157_53 : hTab 157 53 = some ((3, 2, 2, []), 54) := rfl
theorem T_157_54 : hTab 157 54 = some ((24, 16, Int.ofNat 0, []), 57) := rfl
theorem T_157_57 : hTab 157 57 = some ((3, 2, 2, []), 58) := rfl
theorem T_157_58 : hTab 157 58 = some ((0, 0, 2, []), 59) := rfl
theorem T_157_59 : hTab 157 59 = some ((31, 104, 0, []), 62) := rfl
theorem T_157_62 : hTab 157 62 = some ((3, 2, 2, []), 63) := rfl
theorem T_157_63 : hTab 157 63 = some ((0, 0, 2, []), 64) := rfl
theorem T_157_64 : hTab 157 64 = some ((31, 106, 0, []), 67) := rfl
theorem T_157_67 : hTab 157 67 = some ((31, 158, 0, []), 70) := rfl
theorem T_157_70 : hTab 157 70 = some ((31, 136, 0, []), 73) := rfl
theorem T_157_73 : hTab 157 73 = some ((4, 3, 0, []), 74) := rfl
theorem T_157_74 : hTab 157 74 = some ((3, 0, 2, []), 75) := rfl
theorem T_157_75 : hTab 157 75 = some ((24, 14, Int.ofNat 0, []), 78) := rfl
theorem T_157_78 : hTab 157 78 = some ((3, 0, 2, []), 79) := rfl
theorem T_157_79 : hTab 157 79 = some ((24, 14, Int.ofNat 2, []), 82) := rfl
theorem T_157_82 : hTab 157 82 = some ((31, 132, 0, []), 85) := rfl
theorem T_157_85 : hTab 157 85 = some ((7, 0, 0, []), 86) := rfl
theorem T_157_86 : hTab 157 86 = some ((3, 3, 0, []), 87) := rfl
theorem T_157_87 : hTab 157 87 = some ((33, 1, 0, []), 88) := rfl
theorem mN_157 : hmN 157 = 3 := by decide +kernel
theorem mL_157 : hmL 157 = 4 := by decide +kernel
theorem mK_157 : hmK 157 = 1 := by decide +kernel
theorem mO_157 : hmO 157 = 14 := by decide +kernel
section XMV
variable {fb : Bool} {d b q m k c : Nat} {σ0 σ : hM} {W W0 W1 W2 W3 P Q : qR} {R R1 R2 : rR} {i j x z v s e w p o n g K T U thr : Int} {l l0 lo nm raw pre wd M : List Int} {ns : List (Int × Int)} {f : Int} {ch : Ch}
theorem x_mv (hP : PX σ0 W R σ) (hX : XW K T U W R P) (hT : T + 1200 ≤ 2147483000) (hp : 0 ≤ p ∧ p < 8) (hlv : ¬ P 2320 p = 0) (hC : CMD W k l) (hw : ((lnW l).length : Int) = 3) : CL fb (d + 10) 157 [vR (some 2175), vR (some (prO p)), vR (some k)] σ (XCM σ0 K (T + 312) U W R (cMv P p (lnB l 1) (lnB l 2))) := by
  have hre := x_reach (fb := fb) (d := d) (thr := 0) hP hX (by omega) hp hlv hC (w := 1) ⟨by decide, by omega⟩ one_o (by decide) (Or.inl rfl)
  obtain ⟨a, b2, h1, h2, h3, hll, h4, hse2⟩ := hC.at2 (R := R) (w := 2) ⟨by decide, by omega⟩
  obtain ⟨nm, hnm⟩ : ∃ q, lnB l 2 = q := ⟨_, rfl⟩
  rw [hnm] at h4 ⊢
  have hnl : (nm.length : Int) = b2 - a := by rw [h4, seg_len]; omega
  have eK : cMv P p (lnB l 1) nm = if 0 < (kWW P p 0 (lnB l 1)).1 then ((kWW P p 0 (lnB l 1)).1, (kWW P p 0 (lnB l 1)).2.1, []) else (tE (kWW P p 0 (lnB l 1)).2.1 (kWW P p 0 (lnB l 1)).2.2.1 (mWst (kWW P p 0 (lnB l 1)).2.2.2.1 nm 4294967295 (-1)), tP (kWW P p 0 (lnB l 1)).2.1 (kWW P p 0 (lnB l 1)).2.2.1 (mWst (kWW P p 0 (lnB l 1)).2.2.2.1 nm 4294967295 (-1)), [(kWW P p 0 (lnB l 1)).2.2]) := rfl
  have hpo := prO_o hp
  have h5 := hC.2.2.2.2.1.trans hw
  obtain ⟨pr, hpr⟩ : ∃ q, prO p = q := ⟨_, rfl⟩
  rw [hpr] at hre hpo ⊢
  have hr0 := (KF_kWW (thr := 0) (wd := lnB l 1) hX.1.2.2.2.1.iv hX.1.2.2.2.2.2.2 hp).2
  obtain ⟨A, hA⟩ : ∃ A, kWW P p 0 (lnB l 1) = A := ⟨_, rfl⟩
  rw [hA] at hre eK hr0
  rw [eK]
  obtain ⟨e, Q, s, f, pa, kd, cp⟩ := A
  by_cases q : e = 0
  · subst q
    rw [if_neg (show ¬ (0 : Int) < 0 by decide)]
    show CL fb (d + 10) 157 _ σ (XCM σ0 K (T + 312) U W R (tE Q s (mWst f nm 4294967295 (-1)), tP Q s (mWst f nm 4294967295 (-1)), [(s, f, pa, kd, cp)]))
    have hso := fun (σ : hM) (V : qR) (V3 : rR) (hP : PX σ0 V V3 σ) (hCV : CMD V k l) (hF : FCM W V R V3) => x_startOf (fb := fb) (d := d + 9) (w := 2) hP hCV ⟨by decide, by omega⟩ (hse2 V V3 hF).1
    have heo := fun (σ : hM) (V : qR) (V3 : rR) (hP : PX σ0 V V3 σ) (hCV : CMD V k l) (hF : FCM W V R V3) => x_endOf (fb := fb) (d := d + 9) (w := 2) hP hCV ⟨by decide, by omega⟩ (hse2 V V3 hF).2
    have hte := fun (σ : hM) (V : qR) (V3 : rR) (hP : PX σ0 V V3 σ) (hf : 0 ≤ f ∧ f ≤ 47) (hCV : CMD V k l) => x_telling (fb := fb) (d := d + 6) (f := f) (md := -1) (ln := -1) (s := a) (e := b2) (nm := nm) hP ⟨by omega, by omega⟩ (by decide) (by decide) hCV.2.2.2.1 (by have := hC.2.2.1; omega) ⟨h1, by omega, h3⟩ h4.symm (by omega)
    have hse := fun (σ : hM) (V : qR) (V3 : rR) (hX : XW K (T + 300) U V V3 Q) (V4 : qR) (hP : PX σ0 V4 V3 σ) (hF : FR1 V V4) (hB : BY V4 138 300 (mFr (mWst f nm (-1) (-1)))) (hs0 : V4 2178 2160 = s) (hs : 0 ≤ s ∧ s < 3) => mWst_s (fb := fb) (d := d + 1) hP (hX.fr1 hF) (by omega) hs0 one_o hs (by omega) hB
    simp only [mWst_m1] at hse hte
    obtain ⟨e2, he2⟩ : ∃ q, tE Q s (mWst f nm 4294967295 (-1)) = q := ⟨_, rfl⟩
    simp only [he2] at hse ⊢
    have hck := fun (σ : hM) (V : qR) (V3 : rR) (hP : PX σ0 V V3 σ) (hX : XW K (T + 300 + 4) U V V3 (tP Q s (mWst f nm 4294967295 (-1)))) (hch : CHX V V3 2178 (s, f, pa, kd, cp)) (hcr : chR (s, f, pa, kd, cp)) => x_clunk1 (fb := fb) (d := d + 1) hP hX (by omega) hch hcr
    obtain ⟨e3, he3⟩ : ∃ q, tE (tP Q s (mWst f nm 4294967295 (-1))) (s, f, pa, kd, cp).1 (mOne 120 (s, f, pa, kd, cp).2.1) = q := ⟨_, rfl⟩
    simp only [he3] at hck
    refine CL_in mL_157 rfl ?_
    show WP fb _ 157 0 [some (vR (some 2175)), some (vR (some pr)), some (vR (some k)), none] [] σ _
    refine x_lr (z := some k) T_157_0 rfl ?_
    refine x_gI (z := 3) T_157_1 (Or.inl F_16_4) (hP.o hC.1) (Eq.trans (hP.gi hC.1 (key := 2516) rfl) h5) ?_
    refine x_ic T_157_4 ?_
    refine x_ic2 T_157_5 (fun _ => ?_) (fun h => absurd (show (3 : Int) = 3 by decide) h)
    refine x_lr (z := some 2175) T_157_11 rfl ?_
    refine x_gR (z := some 129) T_157_12 F_14_0 (hP.o xo_2175) (hP.rc xo_2175 rfl rfl) ?_
    refine x_lr (z := some pr) T_157_15 rfl ?_
    refine x_lr (z := some k) T_157_16 rfl ?_
    refine x_ic T_157_17 ?_
    refine x_lr (z := some 2175) T_157_18 rfl ?_
    refine x_gR (z := some 2178) T_157_19 F_14_2 (hP.o xo_2175) (hP.rc xo_2175 rfl rfl) ?_
    refine x_ic T_157_22 ?_
    refine x_cv6 T_157_23 mN_117 mL_117 (Nat.le_of_ble_eq_true rfl) mO_117 (hP.o xo_129) (Nat.le_of_ble_eq_true rfl) (hre) ?_
    clear hP hre
    rintro _ σ ⟨rfl, V, V3, hP, hXV, hq, hFV⟩
    obtain ⟨⟨hch, hcr⟩, -⟩ := hq rfl
    have hf0 : V 2178 2161 = f := hch.2.1
    have hCV := hC.fcm (FCM_fk hFV (by decide))
    refine cI ?_
    refine x_si (ls1 := [some (vR (some 2175)), some (vR (some pr)), some (vR (some k)), some (vI 0)]) T_157_26 rfl ?_
    refine x_li (z := 0) T_157_27 rfl ?_
    refine x_if T_157_28 (fun h => absurd (show ¬ (0 : Int) = 0 from h) (by decide)) (fun _ => ?_)
    refine x_lr (z := some 2175) T_157_31 rfl ?_
    refine x_lr (z := some 2175) T_157_32 rfl ?_
    refine x_gR (z := some 2178) T_157_33 F_14_2 (hP.o xo_2175) (hP.rc xo_2175 rfl rfl) ?_
    refine x_lr (z := some 2175) T_157_36 rfl ?_
    refine x_gR (z := some 129) T_157_37 F_14_0 (hP.o xo_2175) (hP.rc xo_2175 rfl rfl) ?_
    refine x_lr (z := some 2175) T_157_40 rfl ?_
    refine x_gR (z := some 2178) T_157_41 F_14_2 (hP.o xo_2175) (hP.rc xo_2175 rfl rfl) ?_
    refine x_gI (z := f) T_157_44 (Or.inl F_5_1) (hP.o xo_2178) (Eq.trans (hP.gi xo_2178 (key := 2161) rfl) hf0) ?_
    refine x_lc T_157_47 ?_
    refine x_lc T_157_50 ?_
    refine x_lr (z := some k) T_157_53 rfl ?_
    refine x_gR (z := some (k + 1)) T_157_54 F_16_0 (hP.o hC.1) (hP.rc hC.1 rfl rfl) ?_
    refine x_lr (z := some k) T_157_57 rfl ?_
    refine x_ic T_157_58 ?_
    refine x_cw2 T_157_59 mN_104 mL_104 (Nat.le_of_ble_eq_true rfl) mO_104 (hP.o hC.1) mK_104 (Nat.le_of_ble_eq_true rfl) (hso σ V V3 hP hCV (FCM_fk hFV (by decide))) ?_
    rintro _ σ ⟨rfl, rfl⟩
    refine cI ?_
    refine x_lr (z := some k) T_157_62 rfl ?_
    refine x_ic T_157_63 ?_
    refine x_cw2 T_157_64 mN_106 mL_106 (Nat.le_of_ble_eq_true rfl) mO_106 (hP.o hC.1) mK_106 (Nat.le_of_ble_eq_true rfl) (heo σ V V3 hP hCV (FCM_fk hFV (by decide))) ?_
    rintro _ σ ⟨rfl, rfl⟩
    refine cI ?_
    refine x_cv7 T_157_67 mN_158 mL_158 (Nat.le_of_ble_eq_true rfl) mO_158 (hP.o xo_129) (Nat.le_of_ble_eq_true rfl) (hte σ V V3 hP hcr.2.1 hCV) ?_
    clear hP hte
    rintro _ σ ⟨rfl, V4, hP, hB4, hF4⟩
    refine cR ?_
    refine x_cv3 T_157_70 mN_136 mL_136 (Nat.le_of_ble_eq_true rfl) mO_136 (hP.o xo_2175) (Nat.le_of_ble_eq_true rfl) (hse σ V V3 hXV V4 hP hF4 hB4 (hch.sf hF4 (by decide)).1 hcr.1) ?_
    clear hP hse
    rintro _ σ ⟨rfl, V5, V6, hP, hX5, hB5, hF5⟩
    have hch5 := (hch.fa (FA_fr hF4) (by decide) (by decide) hcr.2.2).fa (FA_fs hF5) (by decide) (by decide) hcr.2.2
    refine cI ?_
    refine x_si (ls1 := [some (vR (some 2175)), some (vR (some pr)), some (vR (some k)), some (vI e2)]) T_157_73 rfl ?_
    refine x_lr (z := some 2175) T_157_74 rfl ?_
    refine x_gR (z := some 129) T_157_75 F_14_0 (hP.o xo_2175) (hP.rc xo_2175 rfl rfl) ?_
    refine x_lr (z := some 2175) T_157_78 rfl ?_
    refine x_gR (z := some 2178) T_157_79 F_14_2 (hP.o xo_2175) (hP.rc xo_2175 rfl rfl) ?_
    refine x_cv2 T_157_82 mN_132 mL_132 (Nat.le_of_ble_eq_true rfl) mO_132 (hP.o xo_129) (Nat.le_of_ble_eq_true rfl) (hck σ V5 V6 hP hX5 hch5 hcr) ?_
    clear hP hck
    rintro _ σ ⟨rfl, V7, V8, hP, hX7, hF7⟩
    refine cI ?_
    refine x_popI T_157_85 ?_
    refine x_li (z := e2) T_157_86 rfl ?_
    refine x_ri T_157_87 ?_
    exact ⟨rfl, V7, V8, hP, hX7.mono (by omega), FCM_tr (FCM_fk hFV (by decide)) (FCM_tr (FCM_fr hF4) (FCM_tr (FCM_fs hF5) (FCM_fa hF7)))⟩
  · rw [if_pos (show 0 < e by have : 0 ≤ e := hr0; omega)]
    show CL fb (d + 10) 157 _ σ (XCM σ0 K (T + 312) U W R (e, Q, []))
    refine CL_in mL_157 rfl ?_
    show WP fb _ 157 0 [some (vR (some 2175)), some (vR (some pr)), some (vR (some k)), none] [] σ _
    refine x_lr (z := some k) T_157_0 rfl ?_
    refine x_gI (z := 3) T_157_1 (Or.inl F_16_4) (hP.o hC.1) (Eq.trans (hP.gi hC.1 (key := 2516) rfl) h5) ?_
    refine x_ic T_157_4 ?_
    refine x_ic2 T_157_5 (fun _ => ?_) (fun h => absurd (show (3 : Int) = 3 by decide) h)
    refine x_lr (z := some 2175) T_157_11 rfl ?_
    refine x_gR (z := some 129) T_157_12 F_14_0 (hP.o xo_2175) (hP.rc xo_2175 rfl rfl) ?_
    refine x_lr (z := some pr) T_157_15 rfl ?_
    refine x_lr (z := some k) T_157_16 rfl ?_
    refine x_ic T_157_17 ?_
    refine x_lr (z := some 2175) T_157_18 rfl ?_
    refine x_gR (z := some 2178) T_157_19 F_14_2 (hP.o xo_2175) (hP.rc xo_2175 rfl rfl) ?_
    refine x_ic T_157_22 ?_
    refine x_cv6 T_157_23 mN_117 mL_117 (Nat.le_of_ble_eq_true rfl) mO_117 (hP.o xo_129) (Nat.le_of_ble_eq_true rfl) (hre) ?_
    clear hP hre
    rintro _ σ ⟨rfl, V, V3, hP, hXV, hq, hFV⟩
    refine cI ?_
    refine x_si (ls1 := [some (vR (some 2175)), some (vR (some pr)), some (vR (some k)), some (vI e)]) T_157_26 rfl ?_
    refine x_li (z := e) T_157_27 rfl ?_
    refine x_if T_157_28 (fun _ => ?_) (fun h => absurd (show ¬ e = 0 by omega) h)
    refine x_li (z := e) T_157_86 rfl ?_
    refine x_ri T_157_87 ?_
    exact ⟨rfl, V, V3, hP, XW.mono hXV (by omega), FCM_fk hFV (by decide)⟩
end XMV
