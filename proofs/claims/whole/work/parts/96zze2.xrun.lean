/-! The class's commands: a SCRIPT is read. -/
theorem T_199_0 : hTab 199 0 = some ((3, 2, 2, []), 1) := rfl
theorem T_199_1 : hTab 199 1 = some ((24, 16, Int.ofNat 4, []), 4) := rfl
theorem T_199_4 : hTab 199 4 = some ((0, 0, 2, []), 5) := rfl
theorem T_199_5 : hTab 199 5 = some ((19, 2, Int.ofNat 17, []), 8) := rfl
theorem T_199_8 : hTab 199 8 = some ((3, 2, 2, []), 9) := rfl
theorem T_199_9 : hTab 199 9 = some ((24, 16, Int.ofNat 4, []), 12) := rfl
theorem T_199_12 : hTab 199 12 = some ((0, 0, 11, []), 14) := rfl
theorem T_199_14 : hTab 199 14 = some ((19, 5, Int.ofNat 20, []), 17) := rfl
theorem T_199_20 : hTab 199 20 = some ((3, 0, 2, []), 21) := rfl
theorem T_199_21 : hTab 199 21 = some ((24, 14, Int.ofNat 0, []), 24) := rfl
theorem T_199_24 : hTab 199 24 = some ((3, 1, 2, []), 25) := rfl
theorem T_199_25 : hTab 199 25 = some ((3, 2, 2, []), 26) := rfl
theorem T_199_26 : hTab 199 26 = some ((0, 0, 1, []), 27) := rfl
theorem T_199_27 : hTab 199 27 = some ((3, 0, 2, []), 28) := rfl
theorem T_199_28 : hTab 199 28 = some ((24, 14, Int.ofNat 2, []), 31) := rfl
theorem T_199_31 : hTab 199 31 = some ((0, 0, 1, []), 32) := rfl
theorem T_199_32 : hTab 199 32 = some ((31, 117, 0, []), 35) := rfl
theorem T_199_35 : hTab 199 35 = some ((4, 3, 0, []), 36) := rfl
theorem T_199_36 : hTab 199 36 = some ((3, 2, 2, []), 37) := rfl
theorem T_199_37 : hTab 199 37 = some ((24, 16, Int.ofNat 1, []), 40) := rfl
theorem T_199_40 : hTab 199 40 = some ((31, 27, 0, []), 43) := rfl
theorem T_199_43 : hTab 199 43 = some ((3, 3, 0, []), 44) := rfl
theorem T_199_44 : hTab 199 44 = some ((18, 1, Int.ofNat 58, []), 47) := rfl
theorem T_199_47 : hTab 199 47 = some ((3, 0, 2, []), 48) := rfl
theorem T_199_48 : hTab 199 48 = some ((3, 2, 2, []), 49) := rfl
theorem T_199_49 : hTab 199 49 = some ((24, 16, Int.ofNat 1, []), 52) := rfl
theorem T_199_52 : hTab 199 52 = some ((31, 134, 0, []), 55) := rfl
theorem T_199_55 : hTab 199 55 = some ((22, 0, Int.ofNat 59, []), 58) := rfl
theorem T_199_58 : hTab 199 58 = some ((3, 3, 0, []), 59) := rfl
theorem T_199_59 : hTab 199 59 = some ((4, 3, 0, []), 60) := rfl
theorem T_199_60 : hTab 199 60 = some ((3, 3, 0, []), 61) := rfl
theorem T_199_61 : hTab 199 61 = some ((18, 1, Int.ofNat 75, []), 64) := rfl
theorem T_199_64 : hTab 199 64 = some ((3, 2, 2, []), 65) := rfl
theorem T_199_65 : hTab 199 65 = some ((0, 0, 25, []), 67) := rfl
theorem T_199_67 : hTab 199 67 = some ((25, 16, Int.ofNat 5, []), 70) := rfl
theorem T_199_70 : hTab 199 70 = some ((3, 2, 2, []), 71) := rfl
theorem T_199_71 : hTab 199 71 = some ((0, 0, 0, []), 72) := rfl
theorem T_199_72 : hTab 199 72 = some ((25, 16, Int.ofNat 6, []), 75) := rfl
theorem T_199_75 : hTab 199 75 = some ((3, 3, 0, []), 76) := rfl
theorem T_199_76 : hTab 199 76 = some ((33, 1, 0, []), 77) := rfl
theorem F_16_1 : (hFd 16 1).2.2.1 = 4 := rfl
theorem F_16_6 : (hFd 16 6).2.2.1 = 0 := rfl
theorem mN_199 : hmN 199 = 3 := by decide +kernel
theorem mL_199 : hmL 199 = 4 := by decide +kernel
theorem mK_199 : hmK 199 = 1 := by decide +kernel
theorem mO_199 : hmO 199 = 14 := by decide +kernel
/-- what reading a SCRIPT leaves -/
def FRN (k : Nat) (W W2 : qR) (R R2 : rR) : Prop := (∀ (x : Nat) (j : Int), 2187 ≤ x → x < 2372 → j ≠ 2198 → ¬ (k + 3 ≤ x ∧ x ≤ k + 4) → ¬ (x = k ∧ (j = 2517 ∨ j = 2518)) → W2 x j = W x j) ∧ ∀ (x : Nat) (j : Int), 2187 ≤ x → R2 x j = R x j
section XRUN
variable {fb : Bool} {d S b c q a0 m k tb n : Nat} {σ0 σ : hM} {W W0 W1 W2 V V1 P Q : qR} {R R1 R2 V3 : rR} {i j x z v s e w f g u p p2 K T U t a dd pa kd cp dr md off N : Int} {l l0 lo nm M wd A B : List Int}
theorem FRN_cm (h : FCM W W2 R R2) : FRN k W W2 R R2 := ⟨fun x j a b c _ _ => h.1 x j a b c, h.2⟩
theorem FRN_tr (h1 : FRN k W W1 R R1) (h2 : FRN k W1 W2 R1 R2) : FRN k W W2 R R2 := ⟨fun x j a b c e g => (h2.1 x j a b c e g).trans (h1.1 x j a b c e g), fun x j a => (h2.2 x j a).trans (h1.2 x j a)⟩
theorem FRN_fb (h : FB (k + 3) W W2) : FRN k W W2 R R := ⟨fun x j _ _ _ e _ => h x j (by omega) (by omega), fun _ _ _ => rfl⟩
theorem tk2 : ((A.take n) ++ B).take n = (A ++ B).take n := by
  by_cases q : A.length ≤ n
  · rw [List.take_of_length_le q]
  · rw [List.take_append_of_le_length (by rw [List.length_take]; omega), List.take_take, Nat.min_self, List.take_append_of_le_length (by omega)]
theorem XW.fbh (h : XW K T U W R P) (hF : FB b W W2) (hb : 2175 ≤ b ∧ b + 1 < 2372) : XW K T U W2 R P := h.hiw (fun x k hx => hF x k (by omega) (by omega)) (fun _ _ _ => rfl)
theorem x_run (hP : PX σ0 W R σ) (hX : XW K T U W R P) (hT : T + 3200 ≤ 2147483000) (hp : 0 ≤ p ∧ p < 8) (hlv : ¬ P 2320 p = 0) (hC : CMD W k l) (hS : SH (k + 3) 600) (hN : ((lnW l).length : Int) = N) (hN2 : 2 ≤ N ∧ N ≤ 11) (hkd : (kWW P p 1 (lnB l 1)).1 = 0 → (and32 (kWW P p 1 (lnB l 1)).2.2.2.2.2.1 128 = 0 ↔ ¬ (kWW P p 1 (lnB l 1)).2.2.2.2.2.1 = 128)) : CL fb (d + 10) 199 [vR (some 2175), vR (some (prO p)), vR (some k)] σ (fun r σ' => r = some (vI (cCat P 0 p (lnB l 1)).1) ∧ ∃ W2 R2, PX σ0 W2 R2 σ' ∧ XW K (T + 2712) U W2 R2 (kDrops (cCat P 0 p (lnB l 1)).2.1 (cCat P 0 p (lnB l 1)).2.2.1) ∧ BY W2 (k + 3) 600 ((cCat P 0 p (lnB l 1)).2.2.2.take 600) ∧ ((cCat P 0 p (lnB l 1)).1 = 0 → W2 k 2517 = 25 ∧ W2 k 2518 = 0) ∧ (¬ (cCat P 0 p (lnB l 1)).1 = 0 → W2 k 2517 = W k 2517 ∧ W2 k 2518 = W k 2518) ∧ FRN k W W2 R R2) := by
  have hre := x_reach (fb := fb) (d := d) (thr := 1) hP hX (by omega) hp hlv hC (w := 1) ⟨by decide, by omega⟩ one_o (by decide) (Or.inr rfl)
  have hpo := prO_o hp
  have hk := hC.1
  have hkr := hC.2.2.1
  have h5 := hC.2.2.2.2.1.trans hN
  have hwf := (KF_kWW (thr := 1) (wd := lnB l 1) hX.1.2.2.2.1.iv hX.1.2.2.2.2.2.2 hp).1
  have hr0 := (KF_kWW (thr := 1) (wd := lnB l 1) hX.1.2.2.2.1.iv hX.1.2.2.2.2.2.2 hp).2
  have hcl := fun (σ : hM) (V : qR) (V3 : rR) (hP : PX σ0 V V3 σ) => x_clear0 (fb := fb) (d := d + 9) hP hS
  have hk3 : tX (k + 3) = some (Sum.inl 2) := hS.1
  rw [cCat_R]
  obtain ⟨A, hA⟩ : ∃ A, kWW P p 1 (lnB l 1) = A := ⟨_, rfl⟩
  rw [hA] at hre hr0 hwf hkd
  rw [hA]
  obtain ⟨e, Q, s, f, pa, kd, cp⟩ := A
  replace hwf : KF Q P := hwf
  replace hr0 : 0 ≤ e := hr0
  replace hkd : e = 0 → (and32 kd 128 = 0 ↔ ¬ kd = 128) := hkd
  have hdk : ∀ (V V2 : qR) (V3 V4 : rR), FK 2178 V V2 V3 V4 → V2 k 2517 = V k 2517 ∧ V2 k 2518 = V k 2518 := fun V V2 V3 V4 h => ⟨h.1 _ _ (by omega) (Or.inr ⟨by omega, by omega⟩) (by decide), h.1 _ _ (by omega) (Or.inr ⟨by omega, by omega⟩) (by decide)⟩
  have hdb : ∀ (V V2 : qR), FB (k + 3) V V2 → V2 k 2517 = V k 2517 ∧ V2 k 2518 = V k 2518 := fun V V2 h => ⟨h _ _ (by omega) (by omega), h _ _ (by omega) (by omega)⟩
  by_cases q4 : e = 0
  rotate_left
  · rw [if_pos (show 0 < e by omega)]
    obtain ⟨pr, hpr⟩ : ∃ q, prO p = q := ⟨_, rfl⟩
    rw [hpr] at hre hpo ⊢
    refine CL_in mL_199 rfl ?_
    show WP fb _ 199 0 [some (vR (some 2175)), some (vR (some pr)), some (vR (some k)), none] [] σ _
    refine x_lr (z := some k) T_199_0 rfl ?_
    refine x_gI (z := N) T_199_1 (Or.inl F_16_4) (hP.o hk) (Eq.trans (hP.gi hk (key := 2516) rfl) h5) ?_
    refine x_ic T_199_4 ?_
    refine x_ic2 T_199_5 (fun h => absurd (show N < 2 from h) (by omega)) (fun _ => ?_)
    refine x_lr (z := some k) T_199_8 rfl ?_
    refine x_gI (z := N) T_199_9 (Or.inl F_16_4) (hP.o hk) (Eq.trans (hP.gi hk (key := 2516) rfl) h5) ?_
    refine x_ic T_199_12 ?_
    refine x_ic2 T_199_14 (fun _ => ?_) (fun h => absurd (show N ≤ 11 by omega) h)
    refine x_lr (z := some 2175) T_199_20 rfl ?_
    refine x_gR (z := some 129) T_199_21 F_14_0 (hP.o xo_2175) (hP.rc xo_2175 rfl rfl) ?_
    refine x_lr (z := some pr) T_199_24 rfl ?_
    refine x_lr (z := some k) T_199_25 rfl ?_
    refine x_ic T_199_26 ?_
    refine x_lr (z := some 2175) T_199_27 rfl ?_
    refine x_gR (z := some 2178) T_199_28 F_14_2 (hP.o xo_2175) (hP.rc xo_2175 rfl rfl) ?_
    refine x_ic T_199_31 ?_
    refine x_cv6 T_199_32 mN_117 mL_117 (Nat.le_of_ble_eq_true rfl) mO_117 (hP.o xo_129) (Nat.le_of_ble_eq_true rfl) (hre) ?_
    clear hP hre
    rintro _ σ ⟨rfl, V, V3, hP, hXV, hq, hFV⟩
    refine cI ?_
    refine x_si (ls1 := [some (vR (some 2175)), some (vR (some pr)), some (vR (some k)), some (vI e)]) T_199_35 rfl ?_
    refine x_lr (z := some k) T_199_36 rfl ?_
    refine x_gR (z := some (k + 3)) T_199_37 F_16_1 (hP.o hk) (hP.rc hk rfl rfl) ?_
    refine x_cv1 T_199_40 mN_27 mL_27 (Nat.le_of_ble_eq_true rfl) mO_27 (hP.o hk3) (Nat.le_of_ble_eq_true rfl) (hcl σ V V3 hP) ?_
    clear hP
    rintro _ σ ⟨rfl, V4, hP, hB4, hF4⟩
    refine cV ?_
    refine x_li (z := e) T_199_43 rfl ?_
    refine x_if T_199_44 (fun _ => ?_) (fun h => absurd (show ¬ e = 0 by exact q4) h)
    refine x_li (z := e) T_199_58 rfl ?_
    refine x_si (ls1 := [some (vR (some 2175)), some (vR (some pr)), some (vR (some k)), some (vI e)]) T_199_59 rfl ?_
    refine x_li (z := e) T_199_60 rfl ?_
    refine x_if T_199_61 (fun _ => ?_) (fun h => absurd (show ¬ e = 0 by exact q4) h)
    refine x_li (z := e) T_199_75 rfl ?_
    refine x_ri T_199_76 ?_
    exact ⟨rfl, V4, V3, hP, XW.mono (hXV.fbh hF4 (by omega)) (by omega), hB4, fun c => absurd c q4, fun _ => ⟨(hdb V V4 hF4).1.trans (hdk W V R V3 hFV).1, (hdb V V4 hF4).2.trans (hdk W V R V3 hFV).2⟩, FRN_tr (FRN_cm (FCM_fk hFV (by decide))) (FRN_fb hF4)⟩
  subst q4
  rw [if_neg (show ¬ (0 : Int) < 0 by decide)]
  have hpou := fun (σ : hM) (V : qR) (V3 : rR) (hP : PX σ0 V V3 σ) (hXV : XW K (T + 300) U V V3 Q) (hch : CHX V V3 2178 (s, f, pa, kd, cp)) (hcr : chR (s, f, pa, kd, cp)) (hB : BY V (k + 3) 600 []) (hFV : FRN k W V R V3) (hfd : V k 2517 = W k 2517 ∧ V k 2518 = W k 2518) => x_pour (fb := fb) (d := d) (T := T + 300) (o := oC 0 p) (tb := k + 3) (TG := fun T V V3 Q l => XW K T U V V3 Q ∧ CHX V V3 2178 (s, f, pa, kd, cp) ∧ BY V (k + 3) 600 (l.take 600) ∧ FRN k W V R V3 ∧ V k 2517 = W k 2517 ∧ V k 2518 = W k 2518) (fun T T2 V V3 Q l h1 h2 => ⟨XW.mono h2.1 h1, h2.2⟩) (fun T V V3 Q l h => ⟨h.1, h.2.1⟩) (fun T V V3 Q l V2 V4 M h hF hX => ⟨hX, h.2.1.fa hF (by decide) (by decide) hcr.2.2, hF.by h.2.2.1 (Or.inr (by omega)) (by omega) (Or.inr (by omega)), FRN_tr h.2.2.2.1 (FRN_cm (FCM_fa hF)), (hF.cm.1 _ _ (by omega) (by omega) (by decide)).trans h.2.2.2.2.1, (hF.cm.1 _ _ (by omega) (by omega) (by decide)).trans h.2.2.2.2.2⟩) (fun T V V3 Q l A e σ hP h hB h11 hle => (x_addAll (fb := fb) (d := d + 8) hP h.2.2.1 hB (by omega) (Or.inr (by decide)) hle).mono (fun r σ' h3 => by
    obtain ⟨rfl, W2, g1, g2, g3⟩ := h3
    rw [tk2] at g2
    have eo : oC 0 p Q (seg (lg A) 11 (e - 11).toNat) = Q := if_neg (by decide)
    refine ⟨_, rfl, W2, g1, ?_, h.2.1.fbw g3, g2, FRN_tr h.2.2.2.1 (FRN_fb g3), (hdb V W2 g3).1.trans h.2.2.2.2.1, (hdb V W2 g3).2.trans h.2.2.2.2.2⟩
    rw [eo]
    exact h.1.fbh g3 (by omega))) (fun Q b off => rdMu_oC hp) hcr hk3 (hkd rfl) (by omega) hP ⟨hXV, hch, hB, hFV, hfd⟩
  show CL fb (d + 10) 199 _ σ (fun r σ' => r = some (vI (pouR (oC 0 p) Q s f kd).1) ∧ ∃ W2 R2, PX σ0 W2 R2 σ' ∧ XW K (T + 2712) U W2 R2 (kDrop (pouR (oC 0 p) Q s f kd).2.1 (s, f, pa, kd, cp)) ∧ BY W2 (k + 3) 600 ((pouR (oC 0 p) Q s f kd).2.2.take 600) ∧ ((pouR (oC 0 p) Q s f kd).1 = 0 → W2 k 2517 = 25 ∧ W2 k 2518 = 0) ∧ (¬ (pouR (oC 0 p) Q s f kd).1 = 0 → W2 k 2517 = W k 2517 ∧ W2 k 2518 = W k 2518) ∧ FRN k W W2 R R2)
  obtain ⟨A, hA⟩ : ∃ A, pouR (oC 0 p) Q s f kd = A := ⟨_, rfl⟩
  simp only [hA] at hpou
  rw [hA]
  obtain ⟨e2, Q2, told⟩ := A
  have hpou : ∀ (σ : hM) (V : qR) (V3 : rR) (hP : PX σ0 V V3 σ) (hXV : XW K (T + 300) U V V3 Q) (hch : CHX V V3 2178 (s, f, pa, kd, cp)) (hcr : chR (s, f, pa, kd, cp)) (hB : BY V (k + 3) 600 []) (hFV : FRN k W V R V3) (hfd : V k 2517 = W k 2517 ∧ V k 2518 = W k 2518), CL fb (d + 9) 134 [vR (some 2175), vR (some (k + 3))] σ (fun r σ' => r = some (vI e2) ∧ ∃ V7 V8, PX σ0 V7 V8 σ' ∧ XW K (T + 2712) U V7 V8 (kDrop Q2 (s, f, pa, kd, cp)) ∧ BY V7 (k + 3) 600 (told.take 600) ∧ (V7 k 2517 = W k 2517 ∧ V7 k 2518 = W k 2518) ∧ FRN k W V7 R V8) := fun σ V V3 hP hXV hch hcr hB hFV hfd => (hpou σ V V3 hP hXV hch hcr hB hFV hfd).mono (fun r σ' h => by
    obtain ⟨rfl, V5, V6, V7, V8, g1, g2, g3, g4⟩ := h
    exact ⟨rfl, V7, V8, g1, XW.mono g3 (by omega), g4.by g2.2.2.1 (Or.inr (by omega)) (by omega) (Or.inr (by omega)), ⟨(g4.cm.1 _ _ (by omega) (by omega) (by decide)).trans g2.2.2.2.2.1, (g4.cm.1 _ _ (by omega) (by omega) (by decide)).trans g2.2.2.2.2.2⟩, FRN_tr g2.2.2.2.1 (FRN_cm (FCM_fa g4))⟩)
  have hch2 : ∀ (V V4 : qR) (V3 : rR), CHX V V3 2178 (s, f, pa, kd, cp) → FB (k + 3) V V4 → CHX V4 V3 2178 (s, f, pa, kd, cp) := fun V V4 V3 h hF => h.fbw hF
  obtain ⟨pr, hpr⟩ : ∃ q, prO p = q := ⟨_, rfl⟩
  rw [hpr] at hre hpo ⊢
  by_cases q5 : e2 = 0
  · subst q5
    have hfin : ∀ (V7 : qR) (V8 : rR), XW K (T + 2712) U V7 V8 (kDrop Q2 (s, f, pa, kd, cp)) → BY V7 (k + 3) 600 (told.take 600) → FRN k W V7 R V8 → XW K (T + 2712) U (rU (rU V7 k 2517 25) k 2518 0) V8 (kDrop Q2 (s, f, pa, kd, cp)) ∧ BY (rU (rU V7 k 2517 25) k 2518 0) (k + 3) 600 (told.take 600) ∧ ((rU (rU V7 k 2517 25) k 2518 0) k 2517 = 25 ∧ (rU (rU V7 k 2517 25) k 2518 0) k 2518 = 0) ∧ FRN k W (rU (rU V7 k 2517 25) k 2518 0) R V8 := fun V7 V8 h1 h2 h3 => by
      have hW : ∀ (x : Nat) (j : Int), ¬ (x = k ∧ (j = 2517 ∨ j = 2518)) → rU (rU V7 k 2517 25) k 2518 0 x j = V7 x j := fun x j hx => (if_neg (fun c => hx ⟨c.1, Or.inr c.2⟩)).trans (if_neg (fun c => hx ⟨c.1, Or.inl c.2⟩))
      obtain ⟨y1, y2, y3, y4, y5, y6, y7⟩ := h2
      exact ⟨h1.hiw (fun x j hx => hW x j (by omega)) (fun _ _ _ => rfl), ⟨y1, y2, y3, (hW _ _ (by omega)).trans y4, y5, y6, fun i i0 i1 => (hW _ _ (by omega)).trans (y7 i i0 i1)⟩, ⟨(rU_k (by decide)).trans rU_s, rU_s⟩, ⟨fun x j a b c e g => (hW x j g).trans (h3.1 x j a b c e g), h3.2⟩⟩
    refine CL_in mL_199 rfl ?_
    show WP fb _ 199 0 [some (vR (some 2175)), some (vR (some pr)), some (vR (some k)), none] [] σ _
    refine x_lr (z := some k) T_199_0 rfl ?_
    refine x_gI (z := N) T_199_1 (Or.inl F_16_4) (hP.o hk) (Eq.trans (hP.gi hk (key := 2516) rfl) h5) ?_
    refine x_ic T_199_4 ?_
    refine x_ic2 T_199_5 (fun h => absurd (show N < 2 from h) (by omega)) (fun _ => ?_)
    refine x_lr (z := some k) T_199_8 rfl ?_
    refine x_gI (z := N) T_199_9 (Or.inl F_16_4) (hP.o hk) (Eq.trans (hP.gi hk (key := 2516) rfl) h5) ?_
    refine x_ic T_199_12 ?_
    refine x_ic2 T_199_14 (fun _ => ?_) (fun h => absurd (show N ≤ 11 by omega) h)
    refine x_lr (z := some 2175) T_199_20 rfl ?_
    refine x_gR (z := some 129) T_199_21 F_14_0 (hP.o xo_2175) (hP.rc xo_2175 rfl rfl) ?_
    refine x_lr (z := some pr) T_199_24 rfl ?_
    refine x_lr (z := some k) T_199_25 rfl ?_
    refine x_ic T_199_26 ?_
    refine x_lr (z := some 2175) T_199_27 rfl ?_
    refine x_gR (z := some 2178) T_199_28 F_14_2 (hP.o xo_2175) (hP.rc xo_2175 rfl rfl) ?_
    refine x_ic T_199_31 ?_
    refine x_cv6 T_199_32 mN_117 mL_117 (Nat.le_of_ble_eq_true rfl) mO_117 (hP.o xo_129) (Nat.le_of_ble_eq_true rfl) (hre) ?_
    clear hP hre
    rintro _ σ ⟨rfl, V, V3, hP, hXV, hq, hFV⟩
    obtain ⟨⟨hch, hcr⟩, -⟩ := hq rfl
    refine cI ?_
    refine x_si (ls1 := [some (vR (some 2175)), some (vR (some pr)), some (vR (some k)), some (vI 0)]) T_199_35 rfl ?_
    refine x_lr (z := some k) T_199_36 rfl ?_
    refine x_gR (z := some (k + 3)) T_199_37 F_16_1 (hP.o hk) (hP.rc hk rfl rfl) ?_
    refine x_cv1 T_199_40 mN_27 mL_27 (Nat.le_of_ble_eq_true rfl) mO_27 (hP.o hk3) (Nat.le_of_ble_eq_true rfl) (hcl σ V V3 hP) ?_
    clear hP
    rintro _ σ ⟨rfl, V4, hP, hB4, hF4⟩
    refine cV ?_
    refine x_li (z := 0) T_199_43 rfl ?_
    refine x_if T_199_44 (fun h => absurd (show ¬ (0 : Int) = 0 from h) (by decide)) (fun _ => ?_)
    refine x_lr (z := some 2175) T_199_47 rfl ?_
    refine x_lr (z := some k) T_199_48 rfl ?_
    refine x_gR (z := some (k + 3)) T_199_49 F_16_1 (hP.o hk) (hP.rc hk rfl rfl) ?_
    refine x_cv2 T_199_52 mN_134 mL_134 (Nat.le_of_ble_eq_true rfl) mO_134 (hP.o xo_2175) (Nat.le_of_ble_eq_true rfl) (hpou σ V4 V3 hP (hXV.fbh hF4 (by omega)) (hch2 V V4 V3 hch hF4) hcr hB4 (FRN_tr (FRN_cm (FCM_fk hFV (by decide))) (FRN_fb hF4)) ⟨(hdb V V4 hF4).1.trans (hdk W V R V3 hFV).1, (hdb V V4 hF4).2.trans (hdk W V R V3 hFV).2⟩) ?_
    clear hP hpou
    rintro _ σ ⟨rfl, V7, V8, hP, hX7, hB7, hd7, hF7⟩
    obtain ⟨y1, y2, y3, y4⟩ := hfin V7 V8 hX7 hB7 hF7
    refine cI ?_
    refine x_goto T_199_55 ?_
    refine x_si (ls1 := [some (vR (some 2175)), some (vR (some pr)), some (vR (some k)), some (vI 0)]) T_199_59 rfl ?_
    refine x_li (z := 0) T_199_60 rfl ?_
    refine x_if T_199_61 (fun h => absurd (show ¬ (0 : Int) = 0 from h) (by decide)) (fun _ => ?_)
    refine x_lr (z := some k) T_199_64 rfl ?_
    refine x_ic T_199_65 ?_
    refine z_pI hP T_199_67 F_16_5 hk (key := 2517) rfl (fun σ hP => ?_)
    refine x_lr (z := some k) T_199_70 rfl ?_
    refine x_ic T_199_71 ?_
    refine z_pI hP T_199_72 F_16_6 hk (key := 2518) rfl (fun σ hP => ?_)
    refine x_li (z := 0) T_199_75 rfl ?_
    refine x_ri T_199_76 ?_
    exact ⟨rfl, _, V8, hP, y1, y2, fun _ => y3, fun c => absurd rfl c, y4⟩
  · skip
    refine CL_in mL_199 rfl ?_
    show WP fb _ 199 0 [some (vR (some 2175)), some (vR (some pr)), some (vR (some k)), none] [] σ _
    refine x_lr (z := some k) T_199_0 rfl ?_
    refine x_gI (z := N) T_199_1 (Or.inl F_16_4) (hP.o hk) (Eq.trans (hP.gi hk (key := 2516) rfl) h5) ?_
    refine x_ic T_199_4 ?_
    refine x_ic2 T_199_5 (fun h => absurd (show N < 2 from h) (by omega)) (fun _ => ?_)
    refine x_lr (z := some k) T_199_8 rfl ?_
    refine x_gI (z := N) T_199_9 (Or.inl F_16_4) (hP.o hk) (Eq.trans (hP.gi hk (key := 2516) rfl) h5) ?_
    refine x_ic T_199_12 ?_
    refine x_ic2 T_199_14 (fun _ => ?_) (fun h => absurd (show N ≤ 11 by omega) h)
    refine x_lr (z := some 2175) T_199_20 rfl ?_
    refine x_gR (z := some 129) T_199_21 F_14_0 (hP.o xo_2175) (hP.rc xo_2175 rfl rfl) ?_
    refine x_lr (z := some pr) T_199_24 rfl ?_
    refine x_lr (z := some k) T_199_25 rfl ?_
    refine x_ic T_199_26 ?_
    refine x_lr (z := some 2175) T_199_27 rfl ?_
    refine x_gR (z := some 2178) T_199_28 F_14_2 (hP.o xo_2175) (hP.rc xo_2175 rfl rfl) ?_
    refine x_ic T_199_31 ?_
    refine x_cv6 T_199_32 mN_117 mL_117 (Nat.le_of_ble_eq_true rfl) mO_117 (hP.o xo_129) (Nat.le_of_ble_eq_true rfl) (hre) ?_
    clear hP hre
    rintro _ σ ⟨rfl, V, V3, hP, hXV, hq, hFV⟩
    obtain ⟨⟨hch, hcr⟩, -⟩ := hq rfl
    refine cI ?_
    refine x_si (ls1 := [some (vR (some 2175)), some (vR (some pr)), some (vR (some k)), some (vI 0)]) T_199_35 rfl ?_
    refine x_lr (z := some k) T_199_36 rfl ?_
    refine x_gR (z := some (k + 3)) T_199_37 F_16_1 (hP.o hk) (hP.rc hk rfl rfl) ?_
    refine x_cv1 T_199_40 mN_27 mL_27 (Nat.le_of_ble_eq_true rfl) mO_27 (hP.o hk3) (Nat.le_of_ble_eq_true rfl) (hcl σ V V3 hP) ?_
    clear hP
    rintro _ σ ⟨rfl, V4, hP, hB4, hF4⟩
    refine cV ?_
    refine x_li (z := 0) T_199_43 rfl ?_
    refine x_if T_199_44 (fun h => absurd (show ¬ (0 : Int) = 0 from h) (by decide)) (fun _ => ?_)
    refine x_lr (z := some 2175) T_199_47 rfl ?_
    refine x_lr (z := some k) T_199_48 rfl ?_
    refine x_gR (z := some (k + 3)) T_199_49 F_16_1 (hP.o hk) (hP.rc hk rfl rfl) ?_
    refine x_cv2 T_199_52 mN_134 mL_134 (Nat.le_of_ble_eq_true rfl) mO_134 (hP.o xo_2175) (Nat.le_of_ble_eq_true rfl) (hpou σ V4 V3 hP (hXV.fbh hF4 (by omega)) (hch2 V V4 V3 hch hF4) hcr hB4 (FRN_tr (FRN_cm (FCM_fk hFV (by decide))) (FRN_fb hF4)) ⟨(hdb V V4 hF4).1.trans (hdk W V R V3 hFV).1, (hdb V V4 hF4).2.trans (hdk W V R V3 hFV).2⟩) ?_
    clear hP hpou
    rintro _ σ ⟨rfl, V7, V8, hP, hX7, hB7, hd7, hF7⟩
    refine cI ?_
    refine x_goto T_199_55 ?_
    refine x_si (ls1 := [some (vR (some 2175)), some (vR (some pr)), some (vR (some k)), some (vI e2)]) T_199_59 rfl ?_
    refine x_li (z := e2) T_199_60 rfl ?_
    refine x_if T_199_61 (fun _ => ?_) (fun h => absurd (show ¬ e2 = 0 by exact q5) h)
    refine x_li (z := e2) T_199_75 rfl ?_
    refine x_ri T_199_76 ?_
    exact ⟨rfl, V7, V8, hP, hX7, hB7, fun c => absurd c q5, fun _ => hd7, hF7⟩
end XRUN
