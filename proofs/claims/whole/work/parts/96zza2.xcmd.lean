/-! The class's commands: a message is sent; rm, mv. -/
theorem T_136_0 : hTab 136 0 = some ((3, 0, 2, []), 1) := rfl
theorem T_136_1 : hTab 136 1 = some ((24, 14, Int.ofNat 0, []), 4) := rfl
theorem T_136_4 : hTab 136 4 = some ((3, 1, 2, []), 5) := rfl
theorem T_136_5 : hTab 136 5 = some ((24, 5, Int.ofNat 0, []), 8) := rfl
theorem T_136_8 : hTab 136 8 = some ((31, 122, 0, []), 11) := rfl
theorem T_136_11 : hTab 136 11 = some ((0, 0, 0, []), 12) := rfl
theorem T_136_12 : hTab 136 12 = some ((3, 2, 2, []), 13) := rfl
theorem T_136_13 : hTab 136 13 = some ((3, 0, 2, []), 14) := rfl
theorem T_136_14 : hTab 136 14 = some ((24, 14, Int.ofNat 0, []), 17) := rfl
theorem T_136_17 : hTab 136 17 = some ((24, 1, Int.ofNat 2, []), 20) := rfl
theorem T_136_20 : hTab 136 20 = some ((31, 26, 0, []), 23) := rfl
theorem T_136_23 : hTab 136 23 = some ((33, 1, 0, []), 24) := rfl
theorem T_156_0 : hTab 156 0 = some ((3, 2, 2, []), 1) := rfl
theorem T_156_1 : hTab 156 1 = some ((24, 16, Int.ofNat 4, []), 4) := rfl
theorem T_156_4 : hTab 156 4 = some ((0, 0, 2, []), 5) := rfl
theorem T_156_5 : hTab 156 5 = some ((19, 0, Int.ofNat 11, []), 8) := rfl
theorem T_156_11 : hTab 156 11 = some ((3, 0, 2, []), 12) := rfl
theorem T_156_12 : hTab 156 12 = some ((24, 14, Int.ofNat 0, []), 15) := rfl
theorem T_156_15 : hTab 156 15 = some ((3, 1, 2, []), 16) := rfl
theorem T_156_16 : hTab 156 16 = some ((3, 2, 2, []), 17) := rfl
theorem T_156_17 : hTab 156 17 = some ((0, 0, 1, []), 18) := rfl
theorem T_156_18 : hTab 156 18 = some ((3, 0, 2, []), 19) := rfl
theorem T_156_19 : hTab 156 19 = some ((24, 14, Int.ofNat 2, []), 22) := rfl
theorem T_156_22 : hTab 156 22 = some ((0, 0, 0, []), 23) := rfl
theorem T_156_23 : hTab 156 23 = some ((31, 117, 0, []), 26) := rfl
theorem T_156_26 : hTab 156 26 = some ((4, 3, 0, []), 27) := rfl
theorem T_156_27 : hTab 156 27 = some ((3, 3, 0, []), 28) := rfl
theorem T_156_28 : hTab 156 28 = some ((18, 1, Int.ofNat 58, []), 31) := rfl
theorem T_156_31 : hTab 156 31 = some ((3, 0, 2, []), 32) := rfl
theorem T_156_32 : hTab 156 32 = some ((3, 0, 2, []), 33) := rfl
theorem T_156_33 : hTab 156 33 = some ((24, 14, Int.ofNat 2, []), 36) := rfl
theorem T_156_36 : hTab 156 36 = some ((3, 0, 2, []), 37) := rfl
theorem T_156_37 : hTab 156 37 = some ((24, 14, Int.ofNat 0, []), 40) := rfl
theorem T_156_40 : hTab 156 40 = some ((0, 0, 122, []), 42) := rfl
theorem T_156_42 : hTab 156 42 = some ((3, 0, 2, []), 43) := rfl
theorem T_156_43 : hTab 156 43 = some ((24, 14, Int.ofNat 2, []), 46) := rfl
theorem T_156_46 : hTab 156 46 = some ((24, 5, Int.ofNat 1, []), 49) := rfl
theorem T_156_49 : hTab 156 49 = some ((31, 131, 0, []), 52) := rfl
theorem T_156_52 : hTab 156 52 = some ((31, 136, 0, []), 55) := rfl
theorem T_156_55 : hTab 156 55 = some ((22, 0, Int.ofNat 59, []), 58) := rfl
theorem T_156_58 : hTab 156 58 = some ((3, 3, 0, []), 59) := rfl
theorem T_156_59 : hTab 156 59 = some ((33, 1, 0, []), 60) := rfl
theorem F_14_0 : (hFd 14 0).2.2.1 = 4 := rfl
theorem F_14_2 : (hFd 14 2).2.2.1 = 4 := rfl
theorem mN_136 : hmN 136 = 3 := by decide +kernel
theorem mL_136 : hmL 136 = 3 := by decide +kernel
theorem mK_136 : hmK 136 = 1 := by decide +kernel
theorem mO_136 : hmO 136 = 14 := by decide +kernel
theorem mN_156 : hmN 156 = 3 := by decide +kernel
theorem mL_156 : hmL 156 = 4 := by decide +kernel
theorem mK_156 : hmK 156 = 1 := by decide +kernel
theorem mO_156 : hmO 156 = 14 := by decide +kernel
/-- what a command leaves: the shell, the commands' frames, what a person looks at -/
def FCM (W W2 : qR) (R R2 : rR) : Prop := (∀ (x : Nat) (k : Int), 2187 ≤ x → x < 2372 → k ≠ 2198 → W2 x k = W x k) ∧ ∀ (x : Nat) (k : Int), 2187 ≤ x → R2 x k = R x k
/-- what a command comes to -/
abbrev XCM (σ0 : hM) (K T U : Int) (W : qR) (R : rR) (a : Int × qR × List Ch) : Option AV → hM → Prop := fun r σ' => r = some (vI a.1) ∧ ∃ W2 R2, PX σ0 W2 R2 σ' ∧ XW K T U W2 R2 (kDrops a.2.1 a.2.2) ∧ FCM W W2 R R2
section XCMD
variable {fb : Bool} {d b q m k c : Nat} {σ0 σ : hM} {W W0 W1 W2 W3 P Q : qR} {R R1 R2 : rR} {i j x z v s e w p o n g K T U thr : Int} {l l0 lo nm raw pre wd M : List Int} {ns : List (Int × Int)} {f : Int} {ch : Ch}
theorem FCM_rfl : FCM W W R R := ⟨fun _ _ _ _ _ => rfl, fun _ _ _ => rfl⟩
theorem FCM_tr (h1 : FCM W W1 R R1) (h2 : FCM W1 W2 R1 R2) : FCM W W2 R R2 := ⟨fun x k a b e => (h2.1 x k a b e).trans (h1.1 x k a b e), fun x k a => (h2.2 x k a).trans (h1.2 x k a)⟩
theorem FCM_fk (h : FK c W W2 R R2) (hc : c < 2187) : FCM W W2 R R2 := ⟨fun x k a b e => h.1 x k (by omega) (Or.inr ⟨by omega, b⟩) e, fun x k a => h.2 x k (by omega) (Or.inr (by omega))⟩
theorem FCM_fa (h : FA W W2 R R2) : FCM W W2 R R2 := FCM_fk (c := 0) (FK_fa h) (by decide)
theorem FCM_fr (h : FR1 W W2) : FCM W W2 R R := FCM_fa (FA_fr h)
theorem FCM_fs (h : FVS 134 W W2 R R2) : FCM W W2 R R2 := FCM_fa (FA_fs h)
theorem CMD.fcm (h : CMD W k l) (hF : FCM W W2 R R2) : CMD W2 k l := by
  obtain ⟨h1, h2, h3, ⟨a1, a2, a3, a4, a5, a6, a7⟩, h5, h6⟩ := h
  have hl : k + 6 < 2281 := h2.2.2
  refine ⟨h1, h2, h3, ⟨a1, a2, a3, (hF.1 _ _ (by omega) (by omega) (by decide)).trans a4, a5, a6, fun i i0 i1 => (hF.1 _ _ (by omega) (by omega) (by omega)).trans (a7 i i0 i1)⟩, (hF.1 _ _ (by omega) (by omega) (by decide)).trans h5, fun i hi => ?_⟩
  have g := lnW_ok a5
  have := g.2
  exact ⟨(hF.1 _ _ (by omega) (by omega) (by omega)).trans (h6 i hi).1, (hF.1 _ _ (by omega) (by omega) (by omega)).trans (h6 i hi).2⟩
/-- a message that was made is sent to a channel's server -/
theorem x_send (hP : PX σ0 W R σ) (hX : XW K T U W R P) (hT : T + 110 ≤ 2147483000) (hc : tX c = some (Sum.inl 5)) (hs0 : W c 2160 = s) (hs : 0 ≤ s ∧ s < 3) (hB : BY W 138 300 (mFr M)) (hM1 : 3 ≤ M.length ∧ M.length ≤ 296) (hM2 : lg M 0 ≠ 100) (h1 : lg M 0 = 104 → nu (msgA M) 7 4 ≤ 47) (h2 : lg M 0 = 110 → nu (msgA M) 11 4 ≤ 47) : CL fb (d + 8) 136 [vR (some 2175), vR (some c), vR (some 138)] σ (XF σ0 K (T + 4) U W R (tE P s M) (tP P s M) (tA P s M)) := by
  have hho := x_host (fb := fb) (d := d + 7) (s := s) hP hs
  have hak := x_askM (fb := fb) (d := d) hP hX hT hs hB hM1 hM2 h1 h2
  have hO := srv_o hs
  obtain ⟨e, he⟩ : ∃ q, tE P s M = q := ⟨_, rfl⟩
  obtain ⟨sv, hsv⟩ : ∃ q, 1293 + 294 * s.toNat = q := ⟨_, rfl⟩
  rw [hsv] at hho hO
  rw [he, hsv] at hak
  rw [he]
  refine CL_in mL_136 rfl ?_
  show WP fb _ 136 0 [some (vR (some 2175)), some (vR (some c)), some (vR (some 138))] [] σ _
  refine x_lr (z := some 2175) T_136_0 rfl ?_
  refine x_gR (z := some 129) T_136_1 F_14_0 (hP.o xo_2175) (hP.rc xo_2175 rfl rfl) ?_
  refine x_lr (z := some c) T_136_4 rfl ?_
  refine x_gI (z := s) T_136_5 (Or.inl F_5_0) (hP.o hc) (Eq.trans (hP.gi hc (key := 2160) rfl) hs0) ?_
  refine x_cv2 T_136_8 mN_122 mL_122 (Nat.le_of_ble_eq_true rfl) mO_122 (hP.o xo_129) (Nat.le_of_ble_eq_true rfl) (hho) ?_
  rintro _ σ ⟨rfl, rfl⟩
  refine cR ?_
  refine x_ic T_136_11 ?_
  refine x_lr (z := some 138) T_136_12 rfl ?_
  refine x_lr (z := some 2175) T_136_13 rfl ?_
  refine x_gR (z := some 129) T_136_14 F_14_0 (hP.o xo_2175) (hP.rc xo_2175 rfl rfl) ?_
  refine x_gR (z := some 134) T_136_17 F_1_2 (hP.o xo_129) (hP.rc xo_129 rfl rfl) ?_
  refine x_cv4 T_136_20 mN_26 mL_26 (Nat.le_of_ble_eq_true rfl) mO_26 (hP.o hO) (Nat.le_of_ble_eq_true rfl) (hak) ?_
  clear hP hak
  rintro _ σ ⟨rfl, W3, R3, hP, hX3, hB3, hF3⟩
  refine cI ?_
  refine x_ri T_136_23 ?_
  exact ⟨rfl, W3, R3, hP, hX3, hB3, hF3⟩
theorem one_o : tX 2178 = some (Sum.inl 5) := rfl
theorem mOne_s {t : Int} (hP : PX σ0 W R σ) (hX : XW K T U W R P) (hT : T + 110 ≤ 2147483000) (hs0 : W c 2160 = s) (hc : tX c = some (Sum.inl 5)) (hs : 0 ≤ s ∧ s < 3) (ht : t = 120 ∨ t = 122 ∨ t = 124) (hB : BY W 138 300 (mFr (mOne t f))) : CL fb (d + 8) 136 [vR (some 2175), vR (some c), vR (some 138)] σ (XF σ0 K (T + 4) U W R (tE P s (mOne t f)) (tP P s (mOne t f)) (tA P s (mOne t f))) := by
  obtain ⟨m1, m2, m3, m4⟩ := mOne_ok (f := f) ht
  exact x_send hP hX hT hc hs0 hs hB m1 m2 m3 m4
theorem mWst_s {md ln : Int} (hP : PX σ0 W R σ) (hX : XW K T U W R P) (hT : T + 110 ≤ 2147483000) (hs0 : W c 2160 = s) (hc : tX c = some (Sum.inl 5)) (hs : 0 ≤ s ∧ s < 3) (hn : nm.length ≤ 200) (hB : BY W 138 300 (mFr (mWst f nm md ln))) : CL fb (d + 8) 136 [vR (some 2175), vR (some c), vR (some 138)] σ (XF σ0 K (T + 4) U W R (tE P s (mWst f nm md ln)) (tP P s (mWst f nm md ln)) (tA P s (mWst f nm md ln))) := by
  have hl := mWst_len (fd := f) (nm := nm) (mode := md) (len := ln)
  exact x_send hP hX hT hc hs0 hs hB ⟨by omega, by omega⟩ (by rw [mWst_0]; decide) (fun q => by rw [mWst_0] at q; exact absurd q (by decide)) (fun q => by rw [mWst_0] at q; exact absurd q (by decide))
theorem mWst_m1 {ln : Int} : mWst f nm (-1) ln = mWst f nm 4294967295 ln := by
  unfold mWst
  rw [show leb 4 (-1) = leb 4 4294967295 by decide]
/-- one channel's server and fid where it was reached -/
theorem CHX.sf (h : CHX W R c ch) (hF : FR1 W W2) (hc : 2175 ≤ c) : W2 c 2160 = ch.1 ∧ W2 c 2161 = ch.2.1 := ⟨(hF _ _ (by omega) (by omega) (by omega)).trans h.1, (hF _ _ (by omega) (by omega) (by omega)).trans h.2.1⟩
theorem x_rm (hP : PX σ0 W R σ) (hX : XW K T U W R P) (hT : T + 1200 ≤ 2147483000) (hp : 0 ≤ p ∧ p < 8) (hlv : ¬ P 2320 p = 0) (hC : CMD W k l) (hw : ((lnW l).length : Int) = 2) : CL fb (d + 10) 156 [vR (some 2175), vR (some (prO p)), vR (some k)] σ (XCM σ0 K (T + 304) U W R (cRm P p (lnB l 1))) := by
  have hre := x_reach (fb := fb) (d := d) (thr := 0) hP hX (by omega) hp hlv hC (w := 1) ⟨by decide, by omega⟩ one_o (by decide) (Or.inl rfl)
  have hpo := prO_o hp
  have h5 := hC.2.2.2.2.1.trans hw
  obtain ⟨pr, hpr⟩ : ∃ q, prO p = q := ⟨_, rfl⟩
  rw [hpr] at hre hpo ⊢
  have eK : cRm P p (lnB l 1) = if 0 < (kWW P p 0 (lnB l 1)).1 then ((kWW P p 0 (lnB l 1)).1, (kWW P p 0 (lnB l 1)).2.1, []) else (tE (kWW P p 0 (lnB l 1)).2.1 (kWW P p 0 (lnB l 1)).2.2.1 (mOne 122 (kWW P p 0 (lnB l 1)).2.2.2.1), tP (kWW P p 0 (lnB l 1)).2.1 (kWW P p 0 (lnB l 1)).2.2.1 (mOne 122 (kWW P p 0 (lnB l 1)).2.2.2.1), []) := rfl
  have hr0 := (KF_kWW (thr := 0) (wd := lnB l 1) hX.1.2.2.2.1.iv hX.1.2.2.2.2.2.2 hp).2
  obtain ⟨A, hA⟩ : ∃ A, kWW P p 0 (lnB l 1) = A := ⟨_, rfl⟩
  rw [hA] at hre eK hr0
  rw [eK]
  obtain ⟨e, Q, s, f, pa, kd, cp⟩ := A
  by_cases q : e = 0
  · subst q
    rw [if_neg (show ¬ (0 : Int) < 0 by decide)]
    show CL fb (d + 10) 156 _ σ (XCM σ0 K (T + 304) U W R (tE Q s (mOne 122 f), tP Q s (mOne 122 f), []))
    have hab := fun (σ : hM) (V : qR) (V3 : rR) (hP : PX σ0 V V3 σ) (hf : 0 ≤ f ∧ f ≤ 47) => x_about (fb := fb) (d := d + 6) (t := 122) (f := f) hP (by decide) ⟨by omega, by omega⟩
    have hse := fun (σ : hM) (V : qR) (V3 : rR) (hX : XW K (T + 300) U V V3 Q) (V4 : qR) (hP : PX σ0 V4 V3 σ) (hF : FR1 V V4) (hB : BY V4 138 300 (mFr (mOne 122 f))) (hs0 : V4 2178 2160 = s) (hs : 0 ≤ s ∧ s < 3) => mOne_s (fb := fb) (d := d + 1) hP (hX.fr1 hF) (by omega) hs0 one_o hs (Or.inr (Or.inl rfl)) hB
    obtain ⟨e2, he2⟩ : ∃ q, tE Q s (mOne 122 f) = q := ⟨_, rfl⟩
    simp only [he2] at hse ⊢
    refine CL_in mL_156 rfl ?_
    show WP fb _ 156 0 [some (vR (some 2175)), some (vR (some pr)), some (vR (some k)), none] [] σ _
    refine x_lr (z := some k) T_156_0 rfl ?_
    refine x_gI (z := 2) T_156_1 (Or.inl F_16_4) (hP.o hC.1) (Eq.trans (hP.gi hC.1 (key := 2516) rfl) h5) ?_
    refine x_ic T_156_4 ?_
    refine x_ic2 T_156_5 (fun _ => ?_) (fun h => absurd (show (2 : Int) = 2 by decide) h)
    refine x_lr (z := some 2175) T_156_11 rfl ?_
    refine x_gR (z := some 129) T_156_12 F_14_0 (hP.o xo_2175) (hP.rc xo_2175 rfl rfl) ?_
    refine x_lr (z := some pr) T_156_15 rfl ?_
    refine x_lr (z := some k) T_156_16 rfl ?_
    refine x_ic T_156_17 ?_
    refine x_lr (z := some 2175) T_156_18 rfl ?_
    refine x_gR (z := some 2178) T_156_19 F_14_2 (hP.o xo_2175) (hP.rc xo_2175 rfl rfl) ?_
    refine x_ic T_156_22 ?_
    refine x_cv6 T_156_23 mN_117 mL_117 (Nat.le_of_ble_eq_true rfl) mO_117 (hP.o xo_129) (Nat.le_of_ble_eq_true rfl) (hre) ?_
    clear hP hre
    rintro _ σ ⟨rfl, V, V3, hP, hXV, hq, hFV⟩
    obtain ⟨⟨hch, hcr⟩, -⟩ := hq rfl
    have hf0 : V 2178 2161 = f := hch.2.1
    refine cI ?_
    refine x_si (ls1 := [some (vR (some 2175)), some (vR (some pr)), some (vR (some k)), some (vI 0)]) T_156_26 rfl ?_
    refine x_li (z := 0) T_156_27 rfl ?_
    refine x_if T_156_28 (fun h => absurd (show ¬ (0 : Int) = 0 from h) (by decide)) (fun _ => ?_)
    refine x_lr (z := some 2175) T_156_31 rfl ?_
    refine x_lr (z := some 2175) T_156_32 rfl ?_
    refine x_gR (z := some 2178) T_156_33 F_14_2 (hP.o xo_2175) (hP.rc xo_2175 rfl rfl) ?_
    refine x_lr (z := some 2175) T_156_36 rfl ?_
    refine x_gR (z := some 129) T_156_37 F_14_0 (hP.o xo_2175) (hP.rc xo_2175 rfl rfl) ?_
    refine x_ic T_156_40 ?_
    refine x_lr (z := some 2175) T_156_42 rfl ?_
    refine x_gR (z := some 2178) T_156_43 F_14_2 (hP.o xo_2175) (hP.rc xo_2175 rfl rfl) ?_
    refine x_gI (z := f) T_156_46 (Or.inl F_5_1) (hP.o xo_2178) (Eq.trans (hP.gi xo_2178 (key := 2161) rfl) hf0) ?_
    refine x_cv3 T_156_49 mN_131 mL_131 (Nat.le_of_ble_eq_true rfl) mO_131 (hP.o xo_129) (Nat.le_of_ble_eq_true rfl) (hab σ V V3 hP hcr.2.1) ?_
    clear hP hab
    rintro _ σ ⟨rfl, V4, hP, hB4, hF4⟩
    refine cR ?_
    refine x_cv3 T_156_52 mN_136 mL_136 (Nat.le_of_ble_eq_true rfl) mO_136 (hP.o xo_2175) (Nat.le_of_ble_eq_true rfl) (hse σ V V3 hXV V4 hP hF4 hB4 (hch.sf hF4 (by decide)).1 hcr.1) ?_
    clear hP hse
    rintro _ σ ⟨rfl, V5, V6, hP, hX5, hB5, hF5⟩
    refine cI ?_
    refine x_goto T_156_55 ?_
    refine x_ri T_156_59 ?_
    exact ⟨rfl, V5, V6, hP, hX5.mono (by omega), FCM_tr (FCM_fk hFV (by decide)) (FCM_tr (FCM_fr hF4) (FCM_fs hF5))⟩
  · rw [if_pos (show 0 < e by have : 0 ≤ e := hr0; omega)]
    show CL fb (d + 10) 156 _ σ (XCM σ0 K (T + 304) U W R (e, Q, []))
    refine CL_in mL_156 rfl ?_
    show WP fb _ 156 0 [some (vR (some 2175)), some (vR (some pr)), some (vR (some k)), none] [] σ _
    refine x_lr (z := some k) T_156_0 rfl ?_
    refine x_gI (z := 2) T_156_1 (Or.inl F_16_4) (hP.o hC.1) (Eq.trans (hP.gi hC.1 (key := 2516) rfl) h5) ?_
    refine x_ic T_156_4 ?_
    refine x_ic2 T_156_5 (fun _ => ?_) (fun h => absurd (show (2 : Int) = 2 by decide) h)
    refine x_lr (z := some 2175) T_156_11 rfl ?_
    refine x_gR (z := some 129) T_156_12 F_14_0 (hP.o xo_2175) (hP.rc xo_2175 rfl rfl) ?_
    refine x_lr (z := some pr) T_156_15 rfl ?_
    refine x_lr (z := some k) T_156_16 rfl ?_
    refine x_ic T_156_17 ?_
    refine x_lr (z := some 2175) T_156_18 rfl ?_
    refine x_gR (z := some 2178) T_156_19 F_14_2 (hP.o xo_2175) (hP.rc xo_2175 rfl rfl) ?_
    refine x_ic T_156_22 ?_
    refine x_cv6 T_156_23 mN_117 mL_117 (Nat.le_of_ble_eq_true rfl) mO_117 (hP.o xo_129) (Nat.le_of_ble_eq_true rfl) (hre) ?_
    clear hP hre
    rintro _ σ ⟨rfl, V, V3, hP, hXV, hq, hFV⟩
    refine cI ?_
    refine x_si (ls1 := [some (vR (some 2175)), some (vR (some pr)), some (vR (some k)), some (vI e)]) T_156_26 rfl ?_
    refine x_li (z := e) T_156_27 rfl ?_
    refine x_if T_156_28 (fun _ => ?_) (fun h => absurd (show ¬ e = 0 by omega) h)
    refine x_li (z := e) T_156_58 rfl ?_
    refine x_ri T_156_59 ?_
    exact ⟨rfl, V, V3, hP, XW.mono hXV (by omega), FCM_fk hFV (by decide)⟩
end XCMD
