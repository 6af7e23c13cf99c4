/-! The class's kernel: a walk from its start. -/
theorem T_121_0 : hTab 121 0 = some ((3, 0, 2, []), 1) := rfl
theorem T_121_1 : hTab 121 1 = some ((24, 1, Int.ofNat 17, []), 4) := rfl
theorem T_121_4 : hTab 121 4 = some ((0, 0, (-1), []), 5) := rfl
theorem T_121_5 : hTab 121 5 = some ((19, 1, Int.ofNat 12, []), 8) := rfl
theorem T_121_8 : hTab 121 8 = some ((0, 0, 0, []), 9) := rfl
theorem T_121_9 : hTab 121 9 = some ((22, 0, Int.ofNat 16, []), 12) := rfl
theorem T_121_12 : hTab 121 12 = some ((3, 0, 2, []), 13) := rfl
theorem T_121_13 : hTab 121 13 = some ((24, 1, Int.ofNat 17, []), 16) := rfl
theorem T_121_16 : hTab 121 16 = some ((4, 5, 0, []), 18) := rfl
theorem T_121_18 : hTab 121 18 = some ((3, 0, 2, []), 19) := rfl
theorem T_121_19 : hTab 121 19 = some ((3, 5, 0, []), 21) := rfl
theorem T_121_21 : hTab 121 21 = some ((31, 122, 0, []), 24) := rfl
theorem T_121_24 : hTab 121 24 = some ((0, 0, 0, []), 25) := rfl
theorem T_121_25 : hTab 121 25 = some ((3, 0, 2, []), 26) := rfl
theorem T_121_26 : hTab 121 26 = some ((24, 1, Int.ofNat 17, []), 29) := rfl
theorem T_121_29 : hTab 121 29 = some ((0, 0, (-1), []), 30) := rfl
theorem T_121_30 : hTab 121 30 = some ((19, 1, Int.ofNat 46, []), 33) := rfl
theorem T_121_33 : hTab 121 33 = some ((3, 0, 2, []), 34) := rfl
theorem T_121_34 : hTab 121 34 = some ((0, 0, 0, []), 35) := rfl
theorem T_121_35 : hTab 121 35 = some ((3, 1, 2, []), 36) := rfl
theorem T_121_36 : hTab 121 36 = some ((24, 6, Int.ofNat 8, []), 39) := rfl
theorem T_121_39 : hTab 121 39 = some ((0, 0, (-1), []), 40) := rfl
theorem T_121_40 : hTab 121 40 = some ((31, 123, 0, []), 43) := rfl
theorem T_121_43 : hTab 121 43 = some ((22, 0, Int.ofNat 56, []), 46) := rfl
theorem T_121_46 : hTab 121 46 = some ((3, 0, 2, []), 47) := rfl
theorem T_121_47 : hTab 121 47 = some ((3, 5, 0, []), 49) := rfl
theorem T_121_49 : hTab 121 49 = some ((3, 1, 2, []), 50) := rfl
theorem T_121_50 : hTab 121 50 = some ((24, 6, Int.ofNat 7, []), 53) := rfl
theorem T_121_53 : hTab 121 53 = some ((31, 127, 0, []), 56) := rfl
theorem T_121_56 : hTab 121 56 = some ((3, 0, 2, []), 57) := rfl
theorem T_121_57 : hTab 121 57 = some ((24, 1, Int.ofNat 2, []), 60) := rfl
theorem T_121_60 : hTab 121 60 = some ((31, 26, 0, []), 63) := rfl
theorem T_121_63 : hTab 121 63 = some ((4, 6, 0, []), 65) := rfl
theorem T_121_65 : hTab 121 65 = some ((3, 6, 0, []), 67) := rfl
theorem T_121_67 : hTab 121 67 = some ((18, 0, Int.ofNat 73, []), 70) := rfl
theorem T_121_70 : hTab 121 70 = some ((3, 6, 0, []), 72) := rfl
theorem T_121_72 : hTab 121 72 = some ((33, 1, 0, []), 73) := rfl
theorem T_121_73 : hTab 121 73 = some ((3, 2, 2, []), 74) := rfl
theorem T_121_74 : hTab 121 74 = some ((3, 5, 0, []), 76) := rfl
theorem T_121_76 : hTab 121 76 = some ((3, 0, 2, []), 77) := rfl
theorem T_121_77 : hTab 121 77 = some ((24, 1, Int.ofNat 5, []), 80) := rfl
theorem T_121_80 : hTab 121 80 = some ((0, 0, 0, []), 81) := rfl
theorem T_121_81 : hTab 121 81 = some ((0, 0, 1, []), 82) := rfl
theorem T_121_82 : hTab 121 82 = some ((31, 128, 0, []), 85) := rfl
theorem T_121_85 : hTab 121 85 = some ((0, 0, 0, []), 86) := rfl
theorem T_121_86 : hTab 121 86 = some ((4, 7, 0, []), 88) := rfl
theorem F_1_17 : (hFd 1 17).2.2.1 = 0 := rfl
theorem F_6_8 : (hFd 6 8).2.2.1 = 0 := rfl
section XWLKD
variable {fb : Bool} {d S b c q m f0 pr y0 : Nat} {σ0 σ : hM} {W W0 W1 W2 W3 P Q : qR} {R R0 R1 R2 R3 : rR} {i j k x z v s e w f g u p n o K T U t TE most thr at5 path pt : Int} {l l0 lo nm M A : List Int} {nms : List (List Int)} {r : Option Nat} {ch : Ch} {x6 x7 x8 x9 x10 x11 x12 x13 : Option AV}
theorem x_walk (hP : PX σ0 W R σ) (hX : XW K T U W R P) (hT : T + 28 * nms.length + 410 ≤ 2147483000) (hp : 0 ≤ p ∧ p < 8) (hlv : ¬ P 2320 p = 0) (hc : tX c = some (Sum.inl 5)) (hc2 : 2175 ≤ c) (ht : thr = 0 ∨ thr = 1) (hm : (nms.length : Int) = most) (hn : W 129 2038 = n) (hmm : most ≤ n ∧ n ≤ 100) (hB : BY W 145 161 lo) (hN : NMs W lo 0 nms) (ho : W 129 2049 = o) (hor : o = -1 ∨ (0 ≤ o ∧ o < 3)) : CL fb (d + 8) 121 [vR (some 129), vR (some (prO p)), vR (some c), vI most, vI thr] σ (XK σ0 K (T + 28 * nms.length + 12) U W R c (kWalk P p o thr nms)) := by
  have hcl := (tX_o hc).2
  have hIV := hX.1.2.2.2.1.iv
  have hXN := hX.1.2.2.1
  have hL := (hXN.1 p hp.1 hp.2).2.2.2 hlv
  have hus : 0 ≤ P 2322 p ∧ P 2322 p ≤ 3 := IV.a hIV 2322 0 8 rfl rfl rfl (by omega) (by omega)
  have hrt : 0 ≤ P 2324 p ∧ P 2324 p ≤ 47 := IV.a hIV 2324 0 8 rfl rfl rfl (by omega) (by omega)
  have hu0 := hL.1
  have hr0 := hL.2.1
  have hpo := prO_o hp
  obtain ⟨pr, hpr⟩ : ∃ q, prO p = q := ⟨_, rfl⟩
  rw [hpr] at hu0 hr0 hpo ⊢
  obtain ⟨rt, hrt0⟩ : ∃ q, P 2324 p = q := ⟨_, rfl⟩
  obtain ⟨us, hus0⟩ : ∃ q, P 2322 p = q := ⟨_, rfl⟩
  rw [hrt0] at hr0 hrt
  rw [hus0] at hu0 hus
  have eK : kWalk P p o thr nms = if o < 0 then (if 0 < kCpE P 0 (P 2324 p) then (kCpE P 0 (P 2324 p), kCpP P 0 (P 2324 p), c0) else kWalkT (kCpP P 0 (P 2324 p)) p thr nms (0, qNewF P 0, 0, 128, -1)) else (if 0 < kAtE P o (P 2322 p) then (kAtE P o (P 2322 p), kAtP P o (P 2322 p), c0) else kWalkT (kAtP P o (P 2322 p)) p thr nms (o, qNewF P o, 0, 128, -1)) := rfl
  rw [hrt0, hus0] at eK
  rw [eK]
  have hgo : ∀ (s g : Int) (Q V : qR) (V3 : rR) (σ : hM) (at5 : Int) (x8 x9 x10 x11 x12 x13 : Option AV), 0 ≤ s ∧ s < 3 → 0 ≤ g ∧ g ≤ 47 → KF Q P → PX σ0 (chW V c s g 0 1) (oU V3 c 2164 none) σ → XW K (T + 4) U V V3 Q → FA W V R V3 → WP fb (d + 8) 121 88 [some (vR (some 129)), some (vR (some pr)), some (vR (some c)), some (vI most), some (vI thr), some (vI at5), some (vI 0), some (vI 0), x8, x9, x10, x11, x12, x13] [] σ (XK σ0 K (T + 28 * nms.length + 12) U W R c (kWalkT Q p thr nms (s, g, 0, 128, -1))) := fun s g Q V V3 σ at5 x8 x9 x10 x11 x12 x13 hs hg hk hP hX3 hF => by
    have hFC : FC c W (chW V c s g 0 1) R (oU V3 c 2164 none) := FC_tr (FC_fa hF) (FC_own (fun x k hx => chW_o hx) (fun x k hx => oU_f hx))
    have hw := wk_loop (fb := fb) (d := d) (at5 := at5) (thr := thr) hp hpr hc hc2 ht hmm nms 0 (T + 4) Q _ _ σ (s, g, 0, 128, -1) x8 x9 x10 x11 x12 x13 (by omega) (by decide) hP (hX3.chn hc2 hcl) (by omega) (by rw [nsR_kf hk 2320 _ rfl]; exact hlv) (CHX_new rfl) ⟨hs, hg, by show (-1 : Int) < 64; decide⟩ (hFC.by hB hc2 (by decide) (by decide) (by decide)) ((hFC.kn hc2).1.trans hn) (hN.fc hFC hc2 ⟨by decide, by omega⟩)
    refine WP.mono hw (fun r2 σ' h => ?_)
    obtain ⟨rfl, W3, R3, k1, k2, k3, k4⟩ := h
    exact ⟨rfl, W3, R3, k1, k2.mono (by omega), k3, FC_tr hFC k4⟩
  have hg37 : ∀ (g : Int) (V : qR), FR1 W V → V 129 2037 = g → ∀ (V2 : qR) (V3 : rR), FVS 134 V V2 R V3 → V2 129 2037 = g := fun g V _ hg V2 V3 h => (h.1 _ _ (by decide) (Or.inl (by decide)) (by decide) (by decide) (by decide) (fun c => by unfold ioP at c; omega) (by decide) (by decide)).trans hg
  have hbc := fun (s g : Int) (σ : hM) (V : qR) (V3 : rR) (hP : PX σ0 V V3 σ) => x_become (fb := fb) (d := d + 7) (s := s) (f2 := g) (p := 0) (e := 1) hP hc (Or.inr rfl)
  rcases hor with rfl | q0
  · rw [if_pos (show (-1 : Int) < 0 by decide)]
    have hs3 : (0 : Int) ≤ 0 ∧ (0 : Int) < 3 := ⟨by decide, by decide⟩
    obtain ⟨ord, tt, hXs⟩ := hX.1.1.1 0 hs3.1 hs3.2
    have hho := x_host (fb := fb) (d := d + 7) (s := 0) hP hs3
    have hwk := x_walking0 (fb := fb) (d := d + 4) hP ⟨hs3, rfl⟩ hXs hIV hrt
    obtain ⟨g, hg⟩ : ∃ q, qNewF P 0 = q := ⟨_, rfl⟩
    have hgr : g = -1 ∨ (0 ≤ g ∧ g ≤ 47) := by rw [← hg]; exact qNewF_rng
    have eE : kCpE P 0 rt = if g < 0 then 12 else tE P 0 (mCopy rt g) := by unfold kCpE; rw [hg]
    have eP : kCpP P 0 rt = if g < 0 then P else tP P 0 (mCopy rt g) := by unfold kCpP; rw [hg]
    rw [hg] at hwk ⊢
    have hak := fun (σ : hM) (W2 : qR) (hP : PX σ0 W2 R σ) (hF : FR1 W W2) (hB : BY W2 138 300 (mFr (mCopy rt g))) => x_askN (fb := fb) (d := d) (g := g) hP (hX.fr1 hF) (by omega) hs3 hB (by rw [mCopy_len]; decide) (by rw [mCopy_0]; decide) (fun q => ⟨fun c => by rw [mCopy_0] at c; exact absurd c (by decide), fun _ => by rw [mCopy_g ⟨by omega, by omega⟩]; omega⟩)
    rw [← eE, ← eP] at hak
    have hE0 : kCpE P 0 rt = 0 → ¬ g < 0 := fun q c => by rw [eE, if_pos c] at q; omega
    have hEr := kCpE_rng (P := P) (s := 0) (f := rt)
    have hkf : KF (kCpP P 0 rt) P := KF_cp
    have hO := srv_o hs3
    obtain ⟨sv, hsv⟩ : ∃ q, 1293 + 294 * (0 : Int).toNat = q := ⟨_, rfl⟩
    rw [hsv] at hho hO
    simp only [hsv] at hak
    obtain ⟨e, he⟩ : ∃ q, kCpE P 0 rt = q := ⟨_, rfl⟩
    obtain ⟨Q, hQ⟩ : ∃ q, kCpP P 0 rt = q := ⟨_, rfl⟩
    rw [he] at hak hE0 hEr ⊢
    rw [hQ] at hak hkf ⊢
    by_cases qe : e = 0
    · subst qe
      have hg0 := hE0 rfl
      rw [if_neg (show ¬ (0 : Int) < 0 by decide)]
      refine CL_in mL_121 rfl ?_
      show WP fb _ 121 0 [some (vR (some 129)), some (vR (some pr)), some (vR (some c)), some (vI most), some (vI thr), none, none, none, none, none, none, none, none, none] [] σ _
      refine x_lr (z := some 129) T_121_0 rfl ?_
      refine x_gI (z := (-1)) T_121_1 (Or.inl F_1_17) (hP.o xo_129) (Eq.trans (hP.gi xo_129 (key := 2049) rfl) ho) ?_
      refine x_ic T_121_4 ?_
      refine x_ic2 T_121_5 (fun h => absurd (show ¬ ((-1) : Int) = (-1) from h) (by decide)) (fun _ => ?_)
      refine x_ic T_121_8 ?_
      refine x_goto T_121_9 ?_
      refine x_si (ls1 := [some (vR (some 129)), some (vR (some pr)), some (vR (some c)), some (vI most), some (vI thr), some (vI 0), none, none, none, none, none, none, none, none]) T_121_16 rfl ?_
      refine x_lr (z := some 129) T_121_18 rfl ?_
      refine x_li (z := 0) T_121_19 rfl ?_
      refine x_cv2 T_121_21 mN_122 mL_122 (Nat.le_of_ble_eq_true rfl) mO_122 (hP.o xo_129) (Nat.le_of_ble_eq_true rfl) (hho) ?_
      rintro _ σ ⟨rfl, rfl⟩
      refine cR ?_
      refine x_ic T_121_24 ?_
      refine x_lr (z := some 129) T_121_25 rfl ?_
      refine x_gI (z := (-1)) T_121_26 (Or.inl F_1_17) (hP.o xo_129) (Eq.trans (hP.gi xo_129 (key := 2049) rfl) ho) ?_
      refine x_ic T_121_29 ?_
      refine x_ic2 T_121_30 (fun h => absurd (show ¬ ((-1) : Int) = (-1) from h) (by decide)) (fun _ => ?_)
      refine x_lr (z := some 129) T_121_33 rfl ?_
      refine x_ic T_121_34 ?_
      refine x_lr (z := some pr) T_121_35 rfl ?_
      refine x_gI (z := rt) T_121_36 (Or.inl F_6_8) (hP.o hpo) (Eq.trans (hP.gi hpo (key := 2200) rfl) hr0) ?_
      refine x_ic T_121_39 ?_
      refine x_cv4 T_121_40 mN_123 mL_123 (Nat.le_of_ble_eq_true rfl) mO_123 (hP.o xo_129) (Nat.le_of_ble_eq_true rfl) (hwk) ?_
      clear hP hwk
      rintro _ σ ⟨rfl, W2, hP, hB2, hF2, hg2⟩
      refine cR ?_
      refine x_goto T_121_43 ?_
      refine x_lr (z := some 129) T_121_56 rfl ?_
      refine x_gR (z := some 134) T_121_57 F_1_2 (hP.o xo_129) (hP.rc xo_129 rfl rfl) ?_
      refine x_cv4 T_121_60 mN_26 mL_26 (Nat.le_of_ble_eq_true rfl) mO_26 (hP.o hO) (Nat.le_of_ble_eq_true rfl) (hak σ W2 hP hF2 hB2) ?_
      clear hP hak
      rintro _ σ ⟨rfl, W3, R3, hP, hX3, hB3, hF3⟩
      have hg3 := hg37 g W2 hF2 hg2 W3 R3 hF3
      have hA3 := FA_tr (FA_fr hF2) (FA_fs hF3)
      refine cI ?_
      refine x_si (ls1 := [some (vR (some 129)), some (vR (some pr)), some (vR (some c)), some (vI most), some (vI thr), some (vI 0), some (vI 0), none, none, none, none, none, none, none]) T_121_63 rfl ?_
      refine x_li (z := 0) T_121_65 rfl ?_
      refine x_if T_121_67 (fun _ => ?_) (fun h => absurd (show (0 : Int) = 0 by rfl) h)
      refine x_lr (z := some c) T_121_73 rfl ?_
      refine x_li (z := 0) T_121_74 rfl ?_
      refine x_lr (z := some 129) T_121_76 rfl ?_
      refine x_gI (z := g) T_121_77 (Or.inl F_1_5) (hP.o xo_129) (Eq.trans (hP.gi xo_129 (key := 2037) rfl) hg3) ?_
      refine x_ic T_121_80 ?_
      refine x_ic T_121_81 ?_
      refine x_cv5 T_121_82 mN_128 mL_128 (Nat.le_of_ble_eq_true rfl) mO_128 (hP.o hc) (Nat.le_of_ble_eq_true rfl) (hbc 0 g σ W3 R3 hP) ?_
      clear hP hbc
      rintro _ σ ⟨rfl, hP⟩
      refine cV ?_
      refine x_ic T_121_85 ?_
      refine x_si (ls1 := [some (vR (some 129)), some (vR (some pr)), some (vR (some c)), some (vI most), some (vI thr), some (vI 0), some (vI 0), some (vI 0), none, none, none, none, none, none]) T_121_86 rfl ?_
      exact hgo 0 g Q W3 R3 σ _ _ _ _ _ _ _ hs3 ⟨by omega, by omega⟩ hkf hP hX3 hA3
    · rw [if_pos (show 0 < e by omega)]
      refine CL_in mL_121 rfl ?_
      show WP fb _ 121 0 [some (vR (some 129)), some (vR (some pr)), some (vR (some c)), some (vI most), some (vI thr), none, none, none, none, none, none, none, none, none] [] σ _
      refine x_lr (z := some 129) T_121_0 rfl ?_
      refine x_gI (z := (-1)) T_121_1 (Or.inl F_1_17) (hP.o xo_129) (Eq.trans (hP.gi xo_129 (key := 2049) rfl) ho) ?_
      refine x_ic T_121_4 ?_
      refine x_ic2 T_121_5 (fun h => absurd (show ¬ ((-1) : Int) = (-1) from h) (by decide)) (fun _ => ?_)
      refine x_ic T_121_8 ?_
      refine x_goto T_121_9 ?_
      refine x_si (ls1 := [some (vR (some 129)), some (vR (some pr)), some (vR (some c)), some (vI most), some (vI thr), some (vI 0), none, none, none, none, none, none, none, none]) T_121_16 rfl ?_
      refine x_lr (z := some 129) T_121_18 rfl ?_
      refine x_li (z := 0) T_121_19 rfl ?_
      refine x_cv2 T_121_21 mN_122 mL_122 (Nat.le_of_ble_eq_true rfl) mO_122 (hP.o xo_129) (Nat.le_of_ble_eq_true rfl) (hho) ?_
      rintro _ σ ⟨rfl, rfl⟩
      refine cR ?_
      refine x_ic T_121_24 ?_
      refine x_lr (z := some 129) T_121_25 rfl ?_
      refine x_gI (z := (-1)) T_121_26 (Or.inl F_1_17) (hP.o xo_129) (Eq.trans (hP.gi xo_129 (key := 2049) rfl) ho) ?_
      refine x_ic T_121_29 ?_
      refine x_ic2 T_121_30 (fun h => absurd (show ¬ ((-1) : Int) = (-1) from h) (by decide)) (fun _ => ?_)
      refine x_lr (z := some 129) T_121_33 rfl ?_
      refine x_ic T_121_34 ?_
      refine x_lr (z := some pr) T_121_35 rfl ?_
      refine x_gI (z := rt) T_121_36 (Or.inl F_6_8) (hP.o hpo) (Eq.trans (hP.gi hpo (key := 2200) rfl) hr0) ?_
      refine x_ic T_121_39 ?_
      refine x_cv4 T_121_40 mN_123 mL_123 (Nat.le_of_ble_eq_true rfl) mO_123 (hP.o xo_129) (Nat.le_of_ble_eq_true rfl) (hwk) ?_
      clear hP hwk
      rintro _ σ ⟨rfl, W2, hP, hB2, hF2, hg2⟩
      refine cR ?_
      refine x_goto T_121_43 ?_
      refine x_lr (z := some 129) T_121_56 rfl ?_
      refine x_gR (z := some 134) T_121_57 F_1_2 (hP.o xo_129) (hP.rc xo_129 rfl rfl) ?_
      refine x_cv4 T_121_60 mN_26 mL_26 (Nat.le_of_ble_eq_true rfl) mO_26 (hP.o hO) (Nat.le_of_ble_eq_true rfl) (hak σ W2 hP hF2 hB2) ?_
      clear hP hak
      rintro _ σ ⟨rfl, W3, R3, hP, hX3, hB3, hF3⟩
      have hg3 := hg37 g W2 hF2 hg2 W3 R3 hF3
      have hA3 := FA_tr (FA_fr hF2) (FA_fs hF3)
      refine cI ?_
      refine x_si (ls1 := [some (vR (some 129)), some (vR (some pr)), some (vR (some c)), some (vI most), some (vI thr), some (vI 0), some (vI e), none, none, none, none, none, none, none]) T_121_63 rfl ?_
      refine x_li (z := e) T_121_65 rfl ?_
      refine x_if T_121_67 (fun h => absurd (show e = 0 from h) (by omega)) (fun _ => ?_)
      refine x_li (z := e) T_121_70 rfl ?_
      refine x_ri T_121_72 ?_
      exact ⟨rfl, W3, R3, hP, hX3.mono (by omega), fun c => absurd c qe, FC_fa hA3⟩
  · rw [if_neg (show ¬ o < 0 by omega)]
    have hs3 : (0 : Int) ≤ o ∧ (o : Int) < 3 := q0
    obtain ⟨ord, tt, hXs⟩ := hX.1.1.1 o hs3.1 hs3.2
    have hho := x_host (fb := fb) (d := d + 7) (s := o) hP hs3
    have hwk := x_attaching (fb := fb) (d := d + 4) hP ⟨hs3, rfl⟩ hXs hIV hus
    obtain ⟨g, hg⟩ : ∃ q, qNewF P o = q := ⟨_, rfl⟩
    have hgr : g = -1 ∨ (0 ≤ g ∧ g ≤ 47) := by rw [← hg]; exact qNewF_rng
    have eE : kAtE P o us = if g < 0 then 12 else tE P o (mAtt g us) := by unfold kAtE; rw [hg]
    have eP : kAtP P o us = if g < 0 then P else tP P o (mAtt g us) := by unfold kAtP; rw [hg]
    rw [hg] at hwk ⊢
    have hak := fun (σ : hM) (W2 : qR) (hP : PX σ0 W2 R σ) (hF : FR1 W W2) (hB : BY W2 138 300 (mFr (mAtt g us))) => x_askN (fb := fb) (d := d) (g := g) hP (hX.fr1 hF) (by omega) hs3 hB (by rw [mAtt_len]; decide) (by rw [mAtt_0]; decide) (fun q => ⟨fun _ => by rw [mAtt_f ⟨by omega, by omega⟩]; omega, fun c => by rw [mAtt_0] at c; exact absurd c (by decide)⟩)
    rw [← eE, ← eP] at hak
    have hE0 : kAtE P o us = 0 → ¬ g < 0 := fun q c => by rw [eE, if_pos c] at q; omega
    have hEr := kAtE_rng (P := P) (s := o) (u := us)
    have hkf : KF (kAtP P o us) P := KF_at
    have hO := srv_o hs3
    obtain ⟨sv, hsv⟩ : ∃ q, 1293 + 294 * (o : Int).toNat = q := ⟨_, rfl⟩
    rw [hsv] at hho hO
    simp only [hsv] at hak
    obtain ⟨e, he⟩ : ∃ q, kAtE P o us = q := ⟨_, rfl⟩
    obtain ⟨Q, hQ⟩ : ∃ q, kAtP P o us = q := ⟨_, rfl⟩
    rw [he] at hak hE0 hEr ⊢
    rw [hQ] at hak hkf ⊢
    by_cases qe : e = 0
    · subst qe
      have hg0 := hE0 rfl
      rw [if_neg (show ¬ (0 : Int) < 0 by decide)]
      refine CL_in mL_121 rfl ?_
      show WP fb _ 121 0 [some (vR (some 129)), some (vR (some pr)), some (vR (some c)), some (vI most), some (vI thr), none, none, none, none, none, none, none, none, none] [] σ _
      refine x_lr (z := some 129) T_121_0 rfl ?_
      refine x_gI (z := o) T_121_1 (Or.inl F_1_17) (hP.o xo_129) (Eq.trans (hP.gi xo_129 (key := 2049) rfl) ho) ?_
      refine x_ic T_121_4 ?_
      refine x_ic2 T_121_5 (fun _ => ?_) (fun h => absurd (show ¬ o = (-1) by omega) h)
      refine x_lr (z := some 129) T_121_12 rfl ?_
      refine x_gI (z := o) T_121_13 (Or.inl F_1_17) (hP.o xo_129) (Eq.trans (hP.gi xo_129 (key := 2049) rfl) ho) ?_
      refine x_si (ls1 := [some (vR (some 129)), some (vR (some pr)), some (vR (some c)), some (vI most), some (vI thr), some (vI o), none, none, none, none, none, none, none, none]) T_121_16 rfl ?_
      refine x_lr (z := some 129) T_121_18 rfl ?_
      refine x_li (z := o) T_121_19 rfl ?_
      refine x_cv2 T_121_21 mN_122 mL_122 (Nat.le_of_ble_eq_true rfl) mO_122 (hP.o xo_129) (Nat.le_of_ble_eq_true rfl) (hho) ?_
      rintro _ σ ⟨rfl, rfl⟩
      refine cR ?_
      refine x_ic T_121_24 ?_
      refine x_lr (z := some 129) T_121_25 rfl ?_
      refine x_gI (z := o) T_121_26 (Or.inl F_1_17) (hP.o xo_129) (Eq.trans (hP.gi xo_129 (key := 2049) rfl) ho) ?_
      refine x_ic T_121_29 ?_
      refine x_ic2 T_121_30 (fun _ => ?_) (fun h => absurd (show ¬ o = (-1) by omega) h)
      refine x_lr (z := some 129) T_121_46 rfl ?_
      refine x_li (z := o) T_121_47 rfl ?_
      refine x_lr (z := some pr) T_121_49 rfl ?_
      refine x_gI (z := us) T_121_50 (Or.inl F_6_7) (hP.o hpo) (Eq.trans (hP.gi hpo (key := 2199) rfl) hu0) ?_
      refine x_cv3 T_121_53 mN_127 mL_127 (Nat.le_of_ble_eq_true rfl) mO_127 (hP.o xo_129) (Nat.le_of_ble_eq_true rfl) (hwk) ?_
      clear hP hwk
      rintro _ σ ⟨rfl, W2, hP, hB2, hF2, hg2⟩
      refine cR ?_
      refine x_lr (z := some 129) T_121_56 rfl ?_
      refine x_gR (z := some 134) T_121_57 F_1_2 (hP.o xo_129) (hP.rc xo_129 rfl rfl) ?_
      refine x_cv4 T_121_60 mN_26 mL_26 (Nat.le_of_ble_eq_true rfl) mO_26 (hP.o hO) (Nat.le_of_ble_eq_true rfl) (hak σ W2 hP hF2 hB2) ?_
      clear hP hak
      rintro _ σ ⟨rfl, W3, R3, hP, hX3, hB3, hF3⟩
      have hg3 := hg37 g W2 hF2 hg2 W3 R3 hF3
      have hA3 := FA_tr (FA_fr hF2) (FA_fs hF3)
      refine cI ?_
      refine x_si (ls1 := [some (vR (some 129)), some (vR (some pr)), some (vR (some c)), some (vI most), some (vI thr), some (vI o), some (vI 0), none, none, none, none, none, none, none]) T_121_63 rfl ?_
      refine x_li (z := 0) T_121_65 rfl ?_
      refine x_if T_121_67 (fun _ => ?_) (fun h => absurd (show (0 : Int) = 0 by rfl) h)
      refine x_lr (z := some c) T_121_73 rfl ?_
      refine x_li (z := o) T_121_74 rfl ?_
      refine x_lr (z := some 129) T_121_76 rfl ?_
      refine x_gI (z := g) T_121_77 (Or.inl F_1_5) (hP.o xo_129) (Eq.trans (hP.gi xo_129 (key := 2037) rfl) hg3) ?_
      refine x_ic T_121_80 ?_
      refine x_ic T_121_81 ?_
      refine x_cv5 T_121_82 mN_128 mL_128 (Nat.le_of_ble_eq_true rfl) mO_128 (hP.o hc) (Nat.le_of_ble_eq_true rfl) (hbc o g σ W3 R3 hP) ?_
      clear hP hbc
      rintro _ σ ⟨rfl, hP⟩
      refine cV ?_
      refine x_ic T_121_85 ?_
      refine x_si (ls1 := [some (vR (some 129)), some (vR (some pr)), some (vR (some c)), some (vI most), some (vI thr), some (vI o), some (vI 0), some (vI 0), none, none, none, none, none, none]) T_121_86 rfl ?_
      exact hgo o g Q W3 R3 σ _ _ _ _ _ _ _ hs3 ⟨by omega, by omega⟩ hkf hP hX3 hA3
    · rw [if_pos (show 0 < e by omega)]
      refine CL_in mL_121 rfl ?_
      show WP fb _ 121 0 [some (vR (some 129)), some (vR (some pr)), some (vR (some c)), some (vI most), some (vI thr), none, none, none, none, none, none, none, none, none] [] σ _
      refine x_lr (z := some 129) T_121_0 rfl ?_
      refine x_gI (z := o) T_121_1 (Or.inl F_1_17) (hP.o xo_129) (Eq.trans (hP.gi xo_129 (key := 2049) rfl) ho) ?_
      refine x_ic T_121_4 ?_
      refine x_ic2 T_121_5 (fun _ => ?_) (fun h => absurd (show ¬ o = (-1) by omega) h)
      refine x_lr (z := some 129) T_121_12 rfl ?_
      refine x_gI (z := o) T_121_13 (Or.inl F_1_17) (hP.o xo_129) (Eq.trans (hP.gi xo_129 (key := 2049) rfl) ho) ?_
      refine x_si (ls1 := [some (vR (some 129)), some (vR (some pr)), some (vR (some c)), some (vI most), some (vI thr), some (vI o), none, none, none, none, none, none, none, none]) T_121_16 rfl ?_
      refine x_lr (z := some 129) T_121_18 rfl ?_
      refine x_li (z := o) T_121_19 rfl ?_
      refine x_cv2 T_121_21 mN_122 mL_122 (Nat.le_of_ble_eq_true rfl) mO_122 (hP.o xo_129) (Nat.le_of_ble_eq_true rfl) (hho) ?_
      rintro _ σ ⟨rfl, rfl⟩
      refine cR ?_
      refine x_ic T_121_24 ?_
      refine x_lr (z := some 129) T_121_25 rfl ?_
      refine x_gI (z := o) T_121_26 (Or.inl F_1_17) (hP.o xo_129) (Eq.trans (hP.gi xo_129 (key := 2049) rfl) ho) ?_
      refine x_ic T_121_29 ?_
      refine x_ic2 T_121_30 (fun _ => ?_) (fun h => absurd (show ¬ o = (-1) by omega) h)
      refine x_lr (z := some 129) T_121_46 rfl ?_
      refine x_li (z := o) T_121_47 rfl ?_
      refine x_lr (z := some pr) T_121_49 rfl ?_
      refine x_gI (z := us) T_121_50 (Or.inl F_6_7) (hP.o hpo) (Eq.trans (hP.gi hpo (key := 2199) rfl) hu0) ?_
      refine x_cv3 T_121_53 mN_127 mL_127 (Nat.le_of_ble_eq_true rfl) mO_127 (hP.o xo_129) (Nat.le_of_ble_eq_true rfl) (hwk) ?_
      clear hP hwk
      rintro _ σ ⟨rfl, W2, hP, hB2, hF2, hg2⟩
      refine cR ?_
      refine x_lr (z := some 129) T_121_56 rfl ?_
      refine x_gR (z := some 134) T_121_57 F_1_2 (hP.o xo_129) (hP.rc xo_129 rfl rfl) ?_
      refine x_cv4 T_121_60 mN_26 mL_26 (Nat.le_of_ble_eq_true rfl) mO_26 (hP.o hO) (Nat.le_of_ble_eq_true rfl) (hak σ W2 hP hF2 hB2) ?_
      clear hP hak
      rintro _ σ ⟨rfl, W3, R3, hP, hX3, hB3, hF3⟩
      have hg3 := hg37 g W2 hF2 hg2 W3 R3 hF3
      have hA3 := FA_tr (FA_fr hF2) (FA_fs hF3)
      refine cI ?_
      refine x_si (ls1 := [some (vR (some 129)), some (vR (some pr)), some (vR (some c)), some (vI most), some (vI thr), some (vI o), some (vI e), none, none, none, none, none, none, none]) T_121_63 rfl ?_
      refine x_li (z := e) T_121_65 rfl ?_
      refine x_if T_121_67 (fun h => absurd (show e = 0 from h) (by omega)) (fun _ => ?_)
      refine x_li (z := e) T_121_70 rfl ?_
      refine x_ri T_121_72 ?_
      exact ⟨rfl, W3, R3, hP, hX3.mono (by omega), fun c => absurd c qe, FC_fa hA3⟩
end XWLKD
