/-! The class's commands: cd. -/
theorem T_116_0 : hTab 116 0 = some ((3, 2, 2, []), 1) := rfl
theorem T_116_1 : hTab 116 1 = some ((24, 16, Int.ofNat 4, []), 4) := rfl
theorem T_116_4 : hTab 116 4 = some ((0, 0, 2, []), 5) := rfl
theorem T_116_5 : hTab 116 5 = some ((19, 0, Int.ofNat 11, []), 8) := rfl
theorem T_116_11 : hTab 116 11 = some ((3, 0, 2, []), 12) := rfl
theorem T_116_12 : hTab 116 12 = some ((24, 14, Int.ofNat 0, []), 15) := rfl
theorem T_116_15 : hTab 116 15 = some ((3, 1, 2, []), 16) := rfl
theorem T_116_16 : hTab 116 16 = some ((3, 2, 2, []), 17) := rfl
theorem T_116_17 : hTab 116 17 = some ((0, 0, 1, []), 18) := rfl
theorem T_116_18 : hTab 116 18 = some ((3, 0, 2, []), 19) := rfl
theorem T_116_19 : hTab 116 19 = some ((24, 14, Int.ofNat 2, []), 22) := rfl
theorem T_116_22 : hTab 116 22 = some ((0, 0, 1, []), 23) := rfl
theorem T_116_23 : hTab 116 23 = some ((31, 117, 0, []), 26) := rfl
theorem T_116_26 : hTab 116 26 = some ((4, 3, 0, []), 27) := rfl
theorem T_116_27 : hTab 116 27 = some ((3, 3, 0, []), 28) := rfl
theorem T_116_28 : hTab 116 28 = some ((18, 0, Int.ofNat 33, []), 31) := rfl
theorem T_116_31 : hTab 116 31 = some ((3, 3, 0, []), 32) := rfl
theorem T_116_32 : hTab 116 32 = some ((33, 1, 0, []), 33) := rfl
theorem T_116_33 : hTab 116 33 = some ((3, 0, 2, []), 34) := rfl
theorem T_116_34 : hTab 116 34 = some ((24, 14, Int.ofNat 0, []), 37) := rfl
theorem T_116_37 : hTab 116 37 = some ((3, 0, 2, []), 38) := rfl
theorem T_116_38 : hTab 116 38 = some ((24, 14, Int.ofNat 2, []), 41) := rfl
theorem T_116_41 : hTab 116 41 = some ((31, 132, 0, []), 44) := rfl
theorem T_116_44 : hTab 116 44 = some ((7, 0, 0, []), 45) := rfl
theorem T_116_45 : hTab 116 45 = some ((3, 0, 2, []), 46) := rfl
theorem T_116_46 : hTab 116 46 = some ((24, 14, Int.ofNat 2, []), 49) := rfl
theorem T_116_49 : hTab 116 49 = some ((24, 5, Int.ofNat 3, []), 52) := rfl
theorem T_116_52 : hTab 116 52 = some ((18, 1, Int.ofNat 57, []), 55) := rfl
theorem T_116_55 : hTab 116 55 = some ((0, 0, 2, []), 56) := rfl
theorem T_116_56 : hTab 116 56 = some ((33, 1, 0, []), 57) := rfl
theorem T_116_57 : hTab 116 57 = some ((3, 1, 2, []), 58) := rfl
theorem T_116_58 : hTab 116 58 = some ((24, 6, Int.ofNat 1, []), 61) := rfl
theorem T_116_61 : hTab 116 61 = some ((3, 0, 2, []), 62) := rfl
theorem T_116_62 : hTab 116 62 = some ((24, 14, Int.ofNat 0, []), 65) := rfl
theorem T_116_65 : hTab 116 65 = some ((24, 1, Int.ofNat 7, []), 68) := rfl
theorem T_116_68 : hTab 116 68 = some ((0, 0, 0, []), 69) := rfl
theorem T_116_69 : hTab 116 69 = some ((3, 0, 2, []), 70) := rfl
theorem T_116_70 : hTab 116 70 = some ((24, 14, Int.ofNat 0, []), 73) := rfl
theorem T_116_73 : hTab 116 73 = some ((24, 1, Int.ofNat 7, []), 76) := rfl
theorem T_116_76 : hTab 116 76 = some ((31, 28, 0, []), 79) := rfl
theorem T_116_79 : hTab 116 79 = some ((31, 31, 0, []), 82) := rfl
theorem T_116_82 : hTab 116 82 = some ((7, 0, 0, []), 83) := rfl
theorem T_116_83 : hTab 116 83 = some ((0, 0, 0, []), 84) := rfl
theorem T_116_84 : hTab 116 84 = some ((33, 1, 0, []), 85) := rfl
theorem mN_116 : hmN 116 = 3 := by decide +kernel
theorem mL_116 : hmL 116 = 4 := by decide +kernel
theorem mK_116 : hmK 116 = 1 := by decide +kernel
theorem mO_116 : hmO 116 = 14 := by decide +kernel
section XCD
variable {fb : Bool} {d b q m k c : Nat} {σ0 σ : hM} {W W0 W1 W2 W3 P Q : qR} {R R1 R2 : rR} {i j x z v s e w p o n g K T U thr : Int} {l l0 lo nm raw pre wd M : List Int} {f : Int} {ch : Ch}
theorem XW.lv (h : KF Q P) (hlv : ¬ P 2320 p = 0) : ¬ Q 2320 p = 0 := by rw [nsR_kf h 2320 _ rfl]; exact hlv
theorem x_cd (hP : PX σ0 W R σ) (hX : XW K T U W R P) (hT : T + 1200 ≤ 2147483000) (hp : 0 ≤ p ∧ p < 8) (hlv : ¬ P 2320 p = 0) (hC : CMD W k l) (hw : ((lnW l).length : Int) = 2) (hkd : (kWW P p 1 (lnB l 1)).1 = 0 → (and32 (kWW P p 1 (lnB l 1)).2.2.2.2.2.1 128 = 0 ↔ ¬ (kWW P p 1 (lnB l 1)).2.2.2.2.2.1 = 128)) : CL fb (d + 10) 116 [vR (some 2175), vR (some (prO p)), vR (some k)] σ (XCM σ0 K (T + 304) U W R (cCd P p (lnB l 1))) := by
  have hre := x_reach (fb := fb) (d := d) (thr := 1) hP hX (by omega) hp hlv hC (w := 1) ⟨by decide, by omega⟩ one_o (by decide) (Or.inr rfl)
  have hpo := prO_o hp
  have hrp := prO_rng hp
  have hprr : prO p = 295 + 125 * p.toNat := rfl
  have h5 := hC.2.2.2.2.1.trans hw
  have eK : cCd P p (lnB l 1) = if 0 < (kWW P p 1 (lnB l 1)).1 then ((kWW P p 1 (lnB l 1)).1, (kWW P p 1 (lnB l 1)).2.1, []) else if and32 (kWW P p 1 (lnB l 1)).2.2.2.2.2.1 128 = 0 then (2, (kWW P p 1 (lnB l 1)).2.1, [(kWW P p 1 (lnB l 1)).2.2]) else (0, gDot (kWW P p 1 (lnB l 1)).2.1 p (paL (paRaw P p (lnB l 1))), [(kWW P p 1 (lnB l 1)).2.2]) := rfl
  have hr0 := KF_kWW (thr := 1) (wd := lnB l 1) hX.1.2.2.2.1.iv hX.1.2.2.2.2.2.2 hp
  obtain ⟨raw, hraw⟩ : ∃ q, paRaw P p (lnB l 1) = q := ⟨_, rfl⟩
  rw [hraw] at hre eK
  obtain ⟨A, hA⟩ : ∃ A, kWW P p 1 (lnB l 1) = A := ⟨_, rfl⟩
  rw [hA] at hre eK hr0 hkd
  rw [eK]
  obtain ⟨e, Q, s, f, pa, kd, cp⟩ := A
  obtain ⟨hkf, hr0⟩ := hr0
  by_cases q : e = 0
  rotate_left
  · rw [if_pos (show 0 < e by have : 0 ≤ e := hr0; omega)]
    show CL fb (d + 10) 116 _ σ (XCM σ0 K (T + 304) U W R (e, Q, []))
    obtain ⟨pr, hpr⟩ : ∃ q, prO p = q := ⟨_, rfl⟩
    rw [hpr] at hre hpo ⊢
    refine CL_in mL_116 rfl ?_
    show WP fb _ 116 0 [some (vR (some 2175)), some (vR (some pr)), some (vR (some k)), none] [] σ _
    refine x_lr (z := some k) T_116_0 rfl ?_
    refine x_gI (z := 2) T_116_1 (Or.inl F_16_4) (hP.o hC.1) (Eq.trans (hP.gi hC.1 (key := 2516) rfl) h5) ?_
    refine x_ic T_116_4 ?_
    refine x_ic2 T_116_5 (fun _ => ?_) (fun h => absurd (show (2 : Int) = 2 by decide) h)
    refine x_lr (z := some 2175) T_116_11 rfl ?_
    refine x_gR (z := some 129) T_116_12 F_14_0 (hP.o xo_2175) (hP.rc xo_2175 rfl rfl) ?_
    refine x_lr (z := some pr) T_116_15 rfl ?_
    refine x_lr (z := some k) T_116_16 rfl ?_
    refine x_ic T_116_17 ?_
    refine x_lr (z := some 2175) T_116_18 rfl ?_
    refine x_gR (z := some 2178) T_116_19 F_14_2 (hP.o xo_2175) (hP.rc xo_2175 rfl rfl) ?_
    refine x_ic T_116_22 ?_
    refine x_cv6 T_116_23 mN_117 mL_117 (Nat.le_of_ble_eq_true rfl) mO_117 (hP.o xo_129) (Nat.le_of_ble_eq_true rfl) (hre) ?_
    clear hP hre
    rintro _ σ ⟨rfl, V, V3, hP, hXV, hq, hFV⟩
    refine cI ?_
    refine x_si (ls1 := [some (vR (some 2175)), some (vR (some pr)), some (vR (some k)), some (vI e)]) T_116_26 rfl ?_
    refine x_li (z := e) T_116_27 rfl ?_
    refine x_if T_116_28 (fun h => absurd (show e = 0 from h) (by omega)) (fun _ => ?_)
    refine x_li (z := e) T_116_31 rfl ?_
    refine x_ri T_116_32 ?_
    exact ⟨rfl, V, V3, hP, XW.mono hXV (by omega), FCM_fk hFV (by decide)⟩
  subst q
  have hkd : and32 kd 128 = 0 ↔ ¬ kd = 128 := hkd rfl
  rw [if_neg (show ¬ (0 : Int) < 0 by decide)]
  have hlv2 : ¬ kDrop Q (s, f, pa, kd, cp) 2320 p = 0 := XW.lv (KF_tr KF_tP hkf) hlv
  have hck := fun (σ : hM) (V : qR) (V3 : rR) (hP : PX σ0 V V3 σ) (hX : XW K (T + 300) U V V3 Q) (hch : CHX V V3 2178 (s, f, pa, kd, cp)) (hcr : chR (s, f, pa, kd, cp)) => x_clunk1 (fb := fb) (d := d + 1) hP hX (by omega) hch hcr
  obtain ⟨e3, he3⟩ : ∃ q, tE Q (s, f, pa, kd, cp).1 (mOne 120 (s, f, pa, kd, cp).2.1) = q := ⟨_, rfl⟩
  simp only [he3] at hck
  show CL fb (d + 10) 116 _ σ (XCM σ0 K (T + 304) U W R (if and32 kd 128 = 0 then (2, Q, [(s, f, pa, kd, cp)]) else (0, gDot Q p (paL raw), [(s, f, pa, kd, cp)])))
  by_cases qk : kd = 128
  rotate_left
  · rw [if_pos (hkd.mpr qk)]
    obtain ⟨pr, hpr⟩ : ∃ q, prO p = q := ⟨_, rfl⟩
    rw [hpr] at hre hpo ⊢
    refine CL_in mL_116 rfl ?_
    show WP fb _ 116 0 [some (vR (some 2175)), some (vR (some pr)), some (vR (some k)), none] [] σ _
    refine x_lr (z := some k) T_116_0 rfl ?_
    refine x_gI (z := 2) T_116_1 (Or.inl F_16_4) (hP.o hC.1) (Eq.trans (hP.gi hC.1 (key := 2516) rfl) h5) ?_
    refine x_ic T_116_4 ?_
    refine x_ic2 T_116_5 (fun _ => ?_) (fun h => absurd (show (2 : Int) = 2 by decide) h)
    refine x_lr (z := some 2175) T_116_11 rfl ?_
    refine x_gR (z := some 129) T_116_12 F_14_0 (hP.o xo_2175) (hP.rc xo_2175 rfl rfl) ?_
    refine x_lr (z := some pr) T_116_15 rfl ?_
    refine x_lr (z := some k) T_116_16 rfl ?_
    refine x_ic T_116_17 ?_
    refine x_lr (z := some 2175) T_116_18 rfl ?_
    refine x_gR (z := some 2178) T_116_19 F_14_2 (hP.o xo_2175) (hP.rc xo_2175 rfl rfl) ?_
    refine x_ic T_116_22 ?_
    refine x_cv6 T_116_23 mN_117 mL_117 (Nat.le_of_ble_eq_true rfl) mO_117 (hP.o xo_129) (Nat.le_of_ble_eq_true rfl) (hre) ?_
    clear hP hre
    rintro _ σ ⟨rfl, V, V3, hP, hXV, hq, hFV⟩
    obtain ⟨⟨hch, hcr⟩, hpl, -⟩ := hq rfl
    refine cI ?_
    refine x_si (ls1 := [some (vR (some 2175)), some (vR (some pr)), some (vR (some k)), some (vI 0)]) T_116_26 rfl ?_
    refine x_li (z := 0) T_116_27 rfl ?_
    refine x_if T_116_28 (fun _ => ?_) (fun h => absurd (show (0 : Int) = 0 by rfl) h)
    refine x_lr (z := some 2175) T_116_33 rfl ?_
    refine x_gR (z := some 129) T_116_34 F_14_0 (hP.o xo_2175) (hP.rc xo_2175 rfl rfl) ?_
    refine x_lr (z := some 2175) T_116_37 rfl ?_
    refine x_gR (z := some 2178) T_116_38 F_14_2 (hP.o xo_2175) (hP.rc xo_2175 rfl rfl) ?_
    refine x_cv2 T_116_41 mN_132 mL_132 (Nat.le_of_ble_eq_true rfl) mO_132 (hP.o xo_129) (Nat.le_of_ble_eq_true rfl) (hck σ V V3 hP hXV hch hcr) ?_
    clear hP hck
    rintro _ σ ⟨rfl, V7, V8, hP, hX7, hF7⟩
    have hd7 : V7 2178 2163 = 0 := (hch.fa hF7 (by decide) (by decide) hcr.2.2).2.2.2.1.trans (if_neg qk)
    refine cI ?_
    refine x_popI T_116_44 ?_
    refine x_lr (z := some 2175) T_116_45 rfl ?_
    refine x_gR (z := some 2178) T_116_46 F_14_2 (hP.o xo_2175) (hP.rc xo_2175 rfl rfl) ?_
    refine x_gI (z := 0) T_116_49 (Or.inr (Or.inl F_5_3)) (hP.o xo_2178) (Eq.trans (hP.gi xo_2178 (key := 2163) rfl) hd7) ?_
    refine x_if T_116_52 (fun h => absurd (show ¬ (0 : Int) = 0 from h) (by decide)) (fun _ => ?_)
    refine x_ic T_116_55 ?_
    refine x_ri T_116_56 ?_
    exact ⟨rfl, V7, V8, hP, hX7.mono (by omega), FCM_tr (FCM_fk hFV (by decide)) (FCM_fa hF7)⟩
  · subst qk
    rw [if_neg (show ¬ and32 128 128 = 0 by decide)]
    have hL0 := fun (V : qR) (V3 : rR) (hX : XW K (T + 300 + 4) U V V3 (kDrop Q (s, f, pa, 128, cp))) => ((hX.1.2.2.1.1 p hp.1 hp.2).2.2.2 hlv2).2.2.2.1
    have hdo := fun (V V2 : qR) (V3 : rR) (hX : XW K (T + 300 + 4) U V V3 (kDrop Q (s, f, pa, 128, cp))) (hb : byt (paL raw)) (hl : (paL raw).length ≤ 60) (hF : FB (prO p + 1) V V2) (hB : BY V2 (prO p + 1) 60 (paL raw)) => hX.dot hp hb hl hlv2 hF hB
    have eD : kDrops (gDot Q p (paL raw)) [(s, f, pa, 128, cp)] = gDot (kDrop Q (s, f, pa, 128, cp)) p (paL raw) := kDrop_dot
    obtain ⟨pl, hpl0⟩ : ∃ q, paL raw = q := ⟨_, rfl⟩
    unfold XWW at hre
    simp only [hpl0] at hre hdo eD ⊢
    obtain ⟨Z, hZ⟩ : ∃ q, seg (kDrop Q (s, f, pa, 128, cp) 2325) (60 * p) (kDrop Q (s, f, pa, 128, cp) 2326 p).toNat = q := ⟨_, rfl⟩
    rw [hZ] at hL0
    obtain ⟨z, hz⟩ : ∃ q : Int, (pl.length : Int) = q := ⟨_, rfl⟩
    have hot3 : tX (prO p + 1) = some (Sum.inl 2) := (((hX.1.2.2.1.1 p hp.1 hp.2).2.2.2 hlv).2.2.2.1).1
    have hsz := fun (σ : hM) (V : qR) (V3 : rR) (hP : PX σ0 V V3 σ) (hB : BY V 136 60 pl) => x_size (fb := fb) (d := d + 9) hP hB hz
    have hta := fun (σ : hM) (V : qR) (V3 : rR) (hP : PX σ0 V V3 σ) (hD : BY V (prO p + 1) 60 Z) (hB : BY V 136 60 pl) => x_take (fb := fb) (d := d + 8) (s := 0) (e := z) hP hD hB (by omega) (Or.inr (by decide)) (by omega)
    have etk : pl.length ≤ 60 → List.take 60 (seg (lg pl) 0 (z - 0).toNat) = pl := fun h => by
      rw [show (z - 0).toNat = pl.length by omega, seg_all, List.take_of_length_le h]
    obtain ⟨r1, hr1⟩ : ∃ q : Int, (if (z - 0).toNat ≤ 60 then 1 else 0) = q := ⟨_, rfl⟩
    simp only [hr1] at hta
    have hpb : prO p + 1 + 1 < 2187 := by omega
    obtain ⟨pr, hpr⟩ : ∃ q, prO p = q := ⟨_, rfl⟩
    rw [hpr] at hre hpo hot3 hpb ⊢
    simp only [hpr] at hL0 hdo hta
    refine CL_in mL_116 rfl ?_
    show WP fb _ 116 0 [some (vR (some 2175)), some (vR (some pr)), some (vR (some k)), none] [] σ _
    refine x_lr (z := some k) T_116_0 rfl ?_
    refine x_gI (z := 2) T_116_1 (Or.inl F_16_4) (hP.o hC.1) (Eq.trans (hP.gi hC.1 (key := 2516) rfl) h5) ?_
    refine x_ic T_116_4 ?_
    refine x_ic2 T_116_5 (fun _ => ?_) (fun h => absurd (show (2 : Int) = 2 by decide) h)
    refine x_lr (z := some 2175) T_116_11 rfl ?_
    refine x_gR (z := some 129) T_116_12 F_14_0 (hP.o xo_2175) (hP.rc xo_2175 rfl rfl) ?_
    refine x_lr (z := some pr) T_116_15 rfl ?_
    refine x_lr (z := some k) T_116_16 rfl ?_
    refine x_ic T_116_17 ?_
    refine x_lr (z := some 2175) T_116_18 rfl ?_
    refine x_gR (z := some 2178) T_116_19 F_14_2 (hP.o xo_2175) (hP.rc xo_2175 rfl rfl) ?_
    refine x_ic T_116_22 ?_
    refine x_cv6 T_116_23 mN_117 mL_117 (Nat.le_of_ble_eq_true rfl) mO_117 (hP.o xo_129) (Nat.le_of_ble_eq_true rfl) (hre) ?_
    clear hP hre
    rintro _ σ ⟨rfl, V, V3, hP, hXV, hq, hFV⟩
    obtain ⟨⟨hch, hcr⟩, hpl, -⟩ := hq trivial
    refine cI ?_
    refine x_si (ls1 := [some (vR (some 2175)), some (vR (some pr)), some (vR (some k)), some (vI 0)]) T_116_26 rfl ?_
    refine x_li (z := 0) T_116_27 rfl ?_
    refine x_if T_116_28 (fun _ => ?_) (fun h => absurd (show (0 : Int) = 0 by rfl) h)
    refine x_lr (z := some 2175) T_116_33 rfl ?_
    refine x_gR (z := some 129) T_116_34 F_14_0 (hP.o xo_2175) (hP.rc xo_2175 rfl rfl) ?_
    refine x_lr (z := some 2175) T_116_37 rfl ?_
    refine x_gR (z := some 2178) T_116_38 F_14_2 (hP.o xo_2175) (hP.rc xo_2175 rfl rfl) ?_
    refine x_cv2 T_116_41 mN_132 mL_132 (Nat.le_of_ble_eq_true rfl) mO_132 (hP.o xo_129) (Nat.le_of_ble_eq_true rfl) (hck σ V V3 hP hXV hch hcr) ?_
    clear hP hck
    rintro _ σ ⟨rfl, V7, V8, hP, hX7, hF7⟩
    have hd7 : V7 2178 2163 = 1 := (hch.fa hF7 (by decide) (by decide) hcr.2.2).2.2.2.1
    have hpl7 : BY V7 136 60 pl := hF7.by hpl (by decide) (by decide) (by decide)
    refine cI ?_
    refine x_popI T_116_44 ?_
    refine x_lr (z := some 2175) T_116_45 rfl ?_
    refine x_gR (z := some 2178) T_116_46 F_14_2 (hP.o xo_2175) (hP.rc xo_2175 rfl rfl) ?_
    refine x_gI (z := 1) T_116_49 (Or.inr (Or.inl F_5_3)) (hP.o xo_2178) (Eq.trans (hP.gi xo_2178 (key := 2163) rfl) hd7) ?_
    refine x_if T_116_52 (fun _ => ?_) (fun h => absurd (show ¬ (1 : Int) = 0 by decide) h)
    refine x_lr (z := some pr) T_116_57 rfl ?_
    refine x_gR (z := some (pr + 1)) T_116_58 F_6_1 (hP.o hpo) (hP.rc hpo rfl rfl) ?_
    refine x_lr (z := some 2175) T_116_61 rfl ?_
    refine x_gR (z := some 129) T_116_62 F_14_0 (hP.o xo_2175) (hP.rc xo_2175 rfl rfl) ?_
    refine x_gR (z := some 136) T_116_65 F_1_7 (hP.o xo_129) (hP.rc xo_129 rfl rfl) ?_
    refine x_ic T_116_68 ?_
    refine x_lr (z := some 2175) T_116_69 rfl ?_
    refine x_gR (z := some 129) T_116_70 F_14_0 (hP.o xo_2175) (hP.rc xo_2175 rfl rfl) ?_
    refine x_gR (z := some 136) T_116_73 F_1_7 (hP.o xo_129) (hP.rc xo_129 rfl rfl) ?_
    refine x_cv1 T_116_76 mN_28 mL_28 (Nat.le_of_ble_eq_true rfl) mO_28 (hP.o xo_136) (Nat.le_of_ble_eq_true rfl) (hsz σ V7 V8 hP hpl7) ?_
    rintro _ σ ⟨rfl, rfl⟩
    refine cI ?_
    refine x_cv4 T_116_79 mN_31 mL_31 (Nat.le_of_ble_eq_true rfl) mO_31 (hP.o hot3) (Nat.le_of_ble_eq_true rfl) (hta σ V7 V8 hP (hL0 V7 V8 hX7) hpl7) ?_
    clear hP hta
    rintro _ σ ⟨rfl, V9, hP, hB9, hF9⟩
    rw [etk hpl7.2.2.2.2.1] at hB9
    refine cI ?_
    refine x_popI T_116_82 ?_
    refine x_ic T_116_83 ?_
    refine x_ri T_116_84 ?_
    refine ⟨rfl, V9, V8, hP, ?_, FCM_tr (FCM_fk hFV (by decide)) (FCM_tr (FCM_fa hF7) (FCM_fb hF9 hpb))⟩
    rw [eD]
    exact XW.mono (hdo V7 V9 V8 hX7 hpl7.2.2.2.2.2.1 hpl7.2.2.2.2.1 hF9 hB9) (by omega)
end XCD
