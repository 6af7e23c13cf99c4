/-! The class's shell: the command that is next. -/
theorem T_100_0 : hTab 100 0 = some ((3, 0, 2, []), 1) := rfl
theorem T_100_1 : hTab 100 1 = some ((24, 15, Int.ofNat 5, []), 4) := rfl
theorem T_100_4 : hTab 100 4 = some ((18, 1, Int.ofNat 14, []), 7) := rfl
theorem T_100_14 : hTab 100 14 = some ((3, 0, 2, []), 15) := rfl
theorem T_100_15 : hTab 100 15 = some ((0, 0, 0, []), 16) := rfl
theorem T_100_16 : hTab 100 16 = some ((25, 15, Int.ofNat 5, []), 19) := rfl
theorem T_100_19 : hTab 100 19 = some ((3, 0, 2, []), 20) := rfl
theorem T_100_20 : hTab 100 20 = some ((24, 15, Int.ofNat 2, []), 23) := rfl
theorem T_100_23 : hTab 100 23 = some ((0, 0, 12, []), 25) := rfl
theorem T_100_25 : hTab 100 25 = some ((19, 3, Int.ofNat 38, []), 28) := rfl
theorem T_100_28 : hTab 100 28 = some ((3, 0, 2, []), 29) := rfl
theorem T_100_29 : hTab 100 29 = some ((24, 15, Int.ofNat 3, []), 32) := rfl
theorem T_100_32 : hTab 100 32 = some ((0, 0, 200, []), 35) := rfl
theorem T_100_35 : hTab 100 35 = some ((19, 2, Int.ofNat 46, []), 38) := rfl
theorem T_100_38 : hTab 100 38 = some ((3, 0, 2, []), 39) := rfl
theorem T_100_39 : hTab 100 39 = some ((0, 0, 20, []), 41) := rfl
theorem T_100_41 : hTab 100 41 = some ((25, 15, Int.ofNat 4, []), 44) := rfl
theorem T_100_44 : hTab 100 44 = some ((2, 0, 0, []), 45) := rfl
theorem T_100_45 : hTab 100 45 = some ((33, 4, 0, []), 46) := rfl
theorem T_100_46 : hTab 100 46 = some ((3, 0, 2, []), 47) := rfl
theorem T_100_47 : hTab 100 47 = some ((24, 15, Int.ofNat 0, []), 50) := rfl
theorem T_100_50 : hTab 100 50 = some ((3, 0, 2, []), 51) := rfl
theorem T_100_51 : hTab 100 51 = some ((24, 15, Int.ofNat 2, []), 54) := rfl
theorem T_100_54 : hTab 100 54 = some ((26, 10, 0, []), 55) := rfl
theorem T_100_55 : hTab 100 55 = some ((4, 2, 2, []), 56) := rfl
theorem T_100_56 : hTab 100 56 = some ((3, 0, 2, []), 57) := rfl
theorem T_100_57 : hTab 100 57 = some ((31, 110, 0, []), 60) := rfl
theorem T_100_60 : hTab 100 60 = some ((4, 3, 2, []), 61) := rfl
theorem T_100_61 : hTab 100 61 = some ((3, 0, 2, []), 62) := rfl
theorem T_100_62 : hTab 100 62 = some ((6, 0, 0, []), 63) := rfl
theorem T_100_63 : hTab 100 63 = some ((24, 15, Int.ofNat 2, []), 66) := rfl
theorem T_100_66 : hTab 100 66 = some ((0, 0, 1, []), 67) := rfl
theorem T_100_67 : hTab 100 67 = some ((10, 0, 0, []), 68) := rfl
theorem T_100_68 : hTab 100 68 = some ((25, 15, Int.ofNat 2, []), 71) := rfl
theorem T_100_71 : hTab 100 71 = some ((3, 0, 2, []), 72) := rfl
theorem T_100_72 : hTab 100 72 = some ((6, 0, 0, []), 73) := rfl
theorem T_100_73 : hTab 100 73 = some ((24, 15, Int.ofNat 3, []), 76) := rfl
theorem T_100_76 : hTab 100 76 = some ((0, 0, 1, []), 77) := rfl
theorem T_100_77 : hTab 100 77 = some ((10, 0, 0, []), 78) := rfl
theorem T_100_78 : hTab 100 78 = some ((25, 15, Int.ofNat 3, []), 81) := rfl
theorem T_100_81 : hTab 100 81 = some ((3, 0, 2, []), 82) := rfl
theorem T_100_82 : hTab 100 82 = some ((24, 15, Int.ofNat 6, []), 85) := rfl
theorem T_100_85 : hTab 100 85 = some ((18, 0, Int.ofNat 101, []), 88) := rfl
theorem T_100_88 : hTab 100 88 = some ((3, 0, 2, []), 89) := rfl
theorem T_100_89 : hTab 100 89 = some ((3, 1, 2, []), 90) := rfl
theorem T_100_90 : hTab 100 90 = some ((3, 2, 2, []), 91) := rfl
theorem T_100_91 : hTab 100 91 = some ((24, 16, Int.ofNat 0, []), 94) := rfl
theorem T_100_94 : hTab 100 94 = some ((3, 3, 2, []), 95) := rfl
theorem T_100_95 : hTab 100 95 = some ((31, 111, 0, []), 98) := rfl
theorem T_100_98 : hTab 100 98 = some ((22, 0, Int.ofNat 120, []), 101) := rfl
theorem T_100_101 : hTab 100 101 = some ((3, 2, 2, []), 102) := rfl
theorem T_100_102 : hTab 100 102 = some ((24, 16, Int.ofNat 0, []), 105) := rfl
theorem T_100_105 : hTab 100 105 = some ((3, 0, 2, []), 106) := rfl
theorem T_100_106 : hTab 100 106 = some ((24, 15, Int.ofNat 1, []), 109) := rfl
theorem T_100_109 : hTab 100 109 = some ((0, 0, 0, []), 110) := rfl
theorem T_100_110 : hTab 100 110 = some ((3, 0, 2, []), 111) := rfl
theorem T_100_111 : hTab 100 111 = some ((24, 15, Int.ofNat 1, []), 114) := rfl
theorem T_100_114 : hTab 100 114 = some ((31, 28, 0, []), 117) := rfl
theorem T_100_117 : hTab 100 117 = some ((31, 31, 0, []), 120) := rfl
theorem T_100_120 : hTab 100 120 = some ((4, 4, 0, []), 122) := rfl
theorem T_100_122 : hTab 100 122 = some ((3, 2, 2, []), 123) := rfl
theorem T_100_123 : hTab 100 123 = some ((31, 112, 0, []), 126) := rfl
theorem T_100_126 : hTab 100 126 = some ((3, 4, 0, []), 128) := rfl
theorem T_100_128 : hTab 100 128 = some ((18, 1, Int.ofNat 139, []), 131) := rfl
theorem T_100_131 : hTab 100 131 = some ((3, 0, 2, []), 132) := rfl
theorem T_100_132 : hTab 100 132 = some ((0, 0, 18, []), 134) := rfl
theorem T_100_134 : hTab 100 134 = some ((31, 113, 0, []), 137) := rfl
theorem T_100_137 : hTab 100 137 = some ((2, 0, 0, []), 138) := rfl
theorem T_100_138 : hTab 100 138 = some ((33, 4, 0, []), 139) := rfl
theorem T_100_139 : hTab 100 139 = some ((3, 2, 2, []), 140) := rfl
theorem T_100_140 : hTab 100 140 = some ((33, 4, 0, []), 141) := rfl
theorem F_15_3 : (hFd 15 3).2.2.1 = 0 := rfl
theorem mN_100 : hmN 100 = 2 := by decide +kernel
theorem mL_100 : hmL 100 = 5 := by decide +kernel
theorem mK_100 : hmK 100 = 1 := by decide +kernel
theorem mO_100 : hmO 100 = 15 := by decide +kernel
section XSH6
variable {fb : Bool} {d b k n : Nat} {σ0 σ : hM} {W W1 W2 V V2 V3 P : qR} {R : rR} {i j x z v s e p D pl N w nx bd E u K T U a c ex : Int} {l sc lo wd src L L2 : List Int} {y : Nat} {ar : Option (List Int)} {fs : List Fr} {fr : Fr}
theorem FNX_rfl : FNX k W W := fun _ _ _ _ => rfl
theorem FNX_tr (h1 : FNX k W W1) (h2 : FNX k W1 W2) : FNX k W W2 := fun x j a b => (h2 x j a b).trans (h1 x j a b)
theorem FNX_s (hj : 2482 ≤ j ∧ j ≤ 2486) : FNX k W (rU W 2187 j v) := fun x i a _ => if_neg (fun c => a ⟨c.1, by omega⟩)
theorem FNX_fb (h : FB b W V) (hb : k ≤ b ∧ b + 1 < k + 7) : FNX k W V := fun x j _ a => h x j (fun c => a ⟨by omega, by omega⟩) (fun c => a ⟨by omega, by omega⟩)
theorem FNX_wg (h : WG k (rU (rU (rU W k 2516 0) k 2517 0) k 2520 0) V) : FNX k W V := fun x j _ a => h.new.2.2 x j (fun c => a ⟨by omega, by omega⟩) (fun c => a ⟨by omega, by omega⟩) (fun c => a ⟨by omega, by omega⟩)
theorem x_nextR (hP : PX σ0 W R σ) (hn : n ≤ 12) (hD : W 2187 2482 = (n : Int)) (hc : W 2187 2483 = c) (hc0 : 0 ≤ c ∧ c ≤ 200) (hw : W 2187 2485 = 1) (hq : n = 12 ∨ c = 200) : CL fb (d + 3) 100 [vR (some 2187), vR (some (prO p))] σ (NXX σ0 W R n c e L) := by
  obtain ⟨D, hDD⟩ : ∃ D : Int, (n : Int) = D := ⟨_, rfl⟩
  rw [hDD] at hD
  have hD1 : rU W 2187 2485 0 2187 2482 = D := (rU_j (by decide)).trans hD
  have hc1 : rU W 2187 2485 0 2187 2483 = c := (rU_j (by decide)).trans hc
  have hb : bgE (n : Int) c L = 20 := if_pos (by omega)
  have hbc : bgC (n : Int) c = c := if_pos (by omega)
  have hfin : SHL (rU (rU W 2187 2485 0) 2187 2484 20) (n : Int) (bgC (n : Int) c) (bgE (n : Int) c L) 0 := by
    rw [hb, hbc, hDD]
    exact ⟨(rU_j (by decide)).trans hD1, (rU_j (by decide)).trans hc1, rU_s, (rU_j (by decide)).trans rU_s⟩
  have hne : ¬ bgE (n : Int) c L = 0 := by rw [hb]; decide
  obtain ⟨pr, hpr⟩ : ∃ q, prO p = q := ⟨_, rfl⟩
  rw [hpr]
  by_cases q : 12 ≤ D
  · skip
    refine CL_in mL_100 rfl ?_
    show WP fb _ 100 0 [some (vR (some 2187)), some (vR (some pr)), none, none, none] [] σ _
    refine x_lr (z := some 2187) T_100_0 rfl ?_
    refine x_gI (z := 1) T_100_1 (Or.inr (Or.inl F_15_5)) (hP.o xo_2187) (Eq.trans (hP.gi xo_2187 (key := 2485) rfl) hw) ?_
    refine x_if T_100_4 (fun _ => ?_) (fun h => absurd (show ¬ (1 : Int) = 0 by decide) h)
    refine x_lr (z := some 2187) T_100_14 rfl ?_
    refine x_ic T_100_15 ?_
    refine z_pZ hP T_100_16 F_15_5 rfl xo_2187 (key := 2485) rfl (fun σ hP => ?_)
    refine x_lr (z := some 2187) T_100_19 rfl ?_
    refine x_gI (z := D) T_100_20 (Or.inl F_15_2) (hP.o xo_2187) (Eq.trans (Eq.trans (hP.gi xo_2187 (key := 2482) rfl) (rU_j (by decide))) hD1) ?_
    refine x_ic T_100_23 ?_
    refine x_ic2 T_100_25 (fun _ => ?_) (fun h => absurd (show 12 ≤ D by omega) h)
    refine x_lr (z := some 2187) T_100_38 rfl ?_
    refine x_ic T_100_39 ?_
    refine z_pI hP T_100_41 F_15_4 xo_2187 (key := 2484) rfl (fun σ hP => ?_)
    refine x_nu T_100_44 ?_
    refine x_rr T_100_45 ?_
    exact ⟨_, hP, ⟨FNX_tr (FNX_s ⟨by decide, by decide⟩) (FNX_s ⟨by decide, by decide⟩), fun _ => FNX_tr (FNX_s ⟨by decide, by decide⟩) (FNX_s ⟨by decide, by decide⟩)⟩, Or.inr ⟨hne, rfl, hfin⟩⟩
  · skip
    refine CL_in mL_100 rfl ?_
    show WP fb _ 100 0 [some (vR (some 2187)), some (vR (some pr)), none, none, none] [] σ _
    refine x_lr (z := some 2187) T_100_0 rfl ?_
    refine x_gI (z := 1) T_100_1 (Or.inr (Or.inl F_15_5)) (hP.o xo_2187) (Eq.trans (hP.gi xo_2187 (key := 2485) rfl) hw) ?_
    refine x_if T_100_4 (fun _ => ?_) (fun h => absurd (show ¬ (1 : Int) = 0 by decide) h)
    refine x_lr (z := some 2187) T_100_14 rfl ?_
    refine x_ic T_100_15 ?_
    refine z_pZ hP T_100_16 F_15_5 rfl xo_2187 (key := 2485) rfl (fun σ hP => ?_)
    refine x_lr (z := some 2187) T_100_19 rfl ?_
    refine x_gI (z := D) T_100_20 (Or.inl F_15_2) (hP.o xo_2187) (Eq.trans (Eq.trans (hP.gi xo_2187 (key := 2482) rfl) (rU_j (by decide))) hD1) ?_
    refine x_ic T_100_23 ?_
    refine x_ic2 T_100_25 (fun h => absurd (show 12 ≤ D from h) (by omega)) (fun _ => ?_)
    refine x_lr (z := some 2187) T_100_28 rfl ?_
    refine x_gI (z := c) T_100_29 (Or.inl F_15_3) (hP.o xo_2187) (Eq.trans (Eq.trans (hP.gi xo_2187 (key := 2483) rfl) (rU_j (by decide))) hc1) ?_
    refine x_ic T_100_32 ?_
    refine x_ic2 T_100_35 (fun h => absurd (show c < 200 from h) (by omega)) (fun _ => ?_)
    refine x_lr (z := some 2187) T_100_38 rfl ?_
    refine x_ic T_100_39 ?_
    refine z_pI hP T_100_41 F_15_4 xo_2187 (key := 2484) rfl (fun σ hP => ?_)
    refine x_nu T_100_44 ?_
    refine x_rr T_100_45 ?_
    exact ⟨_, hP, ⟨FNX_tr (FNX_s ⟨by decide, by decide⟩) (FNX_s ⟨by decide, by decide⟩), fun _ => FNX_tr (FNX_s ⟨by decide, by decide⟩) (FNX_s ⟨by decide, by decide⟩)⟩, Or.inr ⟨hne, rfl, hfin⟩⟩
theorem nx_120 (hn : n < 12) (hk : cmO (n : Int) = k) (hP : PX σ0 V R σ) (hB : BY V (k + 1) 100 L2) (hL : L.length ≤ 100 → L2 = L) (hF : FNX k W V) (hd : V 2187 2482 = (n : Int) + 1) (hc : V 2187 2483 = c + 1) (he : V 2187 2484 = e) (hw : V 2187 2485 = 0) (hc0 : 0 ≤ c ∧ c < 200) {x2 x4 : Option AV} {pr : Nat} {sc : Option Nat} : WP fb (d + 3) 100 120 [some (vR (some 2187)), some (vR (some pr)), some (vR (some k)), some (vR sc), x4] [vI (if L.length ≤ 100 then 1 else 0)] σ (NXX σ0 W R n c e L) := by
  have ho : tX k = some (Sum.inl 16) := by rw [← hk]; exact cmO_o ⟨by omega, by omega⟩
  have hA := cmO_a (i := (n : Int)) ⟨by omega, by omega⟩
  have hr := cmO_rng (i := (n : Int)) ⟨by omega, by omega⟩
  rw [hk] at hA hr
  have hsp := x_splitS (fb := fb) (d := d + 1) hP ho hA.1 hA.2 ⟨by omega, by omega⟩ hB
  have h12 : ¬ ((n : Int) = 12 ∨ c = 200) := by omega
  have hs : ∀ (V3 : qR) (j : Int), WG k (rU (rU (rU V k 2516 0) k 2517 0) k 2520 0) V3 → V3 2187 j = V 2187 j := fun V3 j h => h.new.2.2 _ _ (fun c => by omega) (fun c => by omega) (fun c => by omega)
  by_cases q : L.length ≤ 100
  · rw [if_pos q]
    have hb : bgE (n : Int) c L = 0 := by unfold bgE; rw [if_neg h12, if_neg (by omega)]
    have hfin : ∀ V3 : qR, CMD V3 k L2 → WG k (rU (rU (rU V k 2516 0) k 2517 0) k 2520 0) V3 → FNX (cmO (n : Int)) W V3 ∧ FRX V3 (cmO (n : Int)) (0, L, 0, 0, []) ∧ SHL V3 ((n : Int) + 1) (c + 1) e 0 := fun V3 hC hG => by
      rw [hk]
      rw [hL q] at hC
      refine ⟨FNX_tr hF (FNX_wg hG), ⟨hC, hG.new.1, fun (h : (2 : Int) ≤ 0) => absurd h (by decide), fun (h : (0 : Int) = 2) => absurd h (by decide), hG.new.2.1, fun (h : (0 : Int) = 3) => absurd h (by decide)⟩, (hs V3 _ hG).trans hd, (hs V3 _ hG).trans hc, (hs V3 _ hG).trans he, (hs V3 _ hG).trans hw⟩
    refine x_si (ls1 := [some (vR (some 2187)), some (vR (some pr)), some (vR (some k)), some (vR sc), some (vI 1)]) T_100_120 rfl ?_
    refine x_lr (z := some k) T_100_122 rfl ?_
    refine x_cv1 T_100_123 mN_112 mL_112 (Nat.le_of_ble_eq_true rfl) mO_112 (hP.o ho) (Nat.le_of_ble_eq_true rfl) (hsp) ?_
    clear hP hsp
    rintro _ σ ⟨rfl, V3, hP, hC, hG⟩
    obtain ⟨f1, f2, f3⟩ := hfin V3 hC hG
    refine cV ?_
    refine x_li (z := 1) T_100_126 rfl ?_
    refine x_if T_100_128 (fun _ => ?_) (fun h => absurd (show ¬ (1 : Int) = 0 by decide) h)
    refine x_lr (z := some k) T_100_139 rfl ?_
    refine x_rr T_100_140 ?_
    exact ⟨V3, hP, ⟨f1, fun h => absurd h (by omega)⟩, Or.inl ⟨hb, by rw [hk], f2, f3⟩⟩
  · rw [if_neg q]
    have hb : bgE (n : Int) c L = 18 := by unfold bgE; rw [if_neg h12, if_pos (by omega)]
    have hbc : bgC (n : Int) c = c + 1 := if_neg h12
    have hen := fun (σ : hM) (V3 : qR) (hP : PX σ0 V3 R σ) (hG : WG k (rU (rU (rU V k 2516 0) k 2517 0) k 2520 0) V3) => x_endS (fb := fb) (d := d + 2) (v := 18) (D := (n : Int) + 1) hP ((hs V3 _ hG).trans hd) ⟨by omega, by omega⟩
    have hfin : ∀ V3 : qR, WG k (rU (rU (rU V k 2516 0) k 2517 0) k 2520 0) V3 → FNX (cmO (n : Int)) W (rU (rU V3 2187 2484 18) 2187 2482 (n : Int)) ∧ SHL (rU (rU V3 2187 2484 18) 2187 2482 (n : Int)) (n : Int) (bgC (n : Int) c) (bgE (n : Int) c L) 0 := fun V3 hG => by
      rw [hk, hb, hbc]
      exact ⟨FNX_tr (FNX_tr (FNX_tr hF (FNX_wg hG)) (FNX_s ⟨by decide, by decide⟩)) (FNX_s ⟨by decide, by decide⟩), rU_s, (rU_j (by decide)).trans ((rU_j (by decide)).trans ((hs V3 _ hG).trans hc)), (rU_j (by decide)).trans rU_s, (rU_j (by decide)).trans ((rU_j (by decide)).trans ((hs V3 _ hG).trans hw))⟩
    have hne : ¬ bgE (n : Int) c L = 0 := by rw [hb]; decide
    have hen2 : ∀ (σ : hM) (V3 : qR), PX σ0 V3 R σ → WG k (rU (rU (rU V k 2516 0) k 2517 0) k 2520 0) V3 → CL fb (d + 2) 113 [vR (some 2187), vI 18] σ (fun r σ' => r = none ∧ PX σ0 (rU (rU V3 2187 2484 18) 2187 2482 (n : Int)) R σ') := fun σ V3 hP hG => by
      have h := hen σ V3 hP hG
      rw [show (n : Int) + 1 - 1 = (n : Int) by omega, hk, if_pos hG.new.1] at h
      exact h
    refine x_si (ls1 := [some (vR (some 2187)), some (vR (some pr)), some (vR (some k)), some (vR sc), some (vI 0)]) T_100_120 rfl ?_
    refine x_lr (z := some k) T_100_122 rfl ?_
    refine x_cv1 T_100_123 mN_112 mL_112 (Nat.le_of_ble_eq_true rfl) mO_112 (hP.o ho) (Nat.le_of_ble_eq_true rfl) (hsp) ?_
    clear hP hsp
    rintro _ σ ⟨rfl, V3, hP, hC, hG⟩
    obtain ⟨f1, f2⟩ := hfin V3 hG
    refine cV ?_
    refine x_li (z := 0) T_100_126 rfl ?_
    refine x_if T_100_128 (fun h => absurd (show ¬ (0 : Int) = 0 from h) (by decide)) (fun _ => ?_)
    refine x_lr (z := some 2187) T_100_131 rfl ?_
    refine x_ic T_100_132 ?_
    refine x_cv2 T_100_134 mN_113 mL_113 (Nat.le_of_ble_eq_true rfl) mO_113 (hP.o xo_2187) (Nat.le_of_ble_eq_true rfl) (hen2 σ V3 hP hG) ?_
    clear hP
    rintro _ σ ⟨rfl, hP⟩
    refine cV ?_
    refine x_nu T_100_137 ?_
    refine x_rr T_100_138 ?_
    exact ⟨_, hP, ⟨f1, fun h => absurd h (by omega)⟩, Or.inr ⟨hne, rfl, f2⟩⟩
theorem x_nextW (hP : PX σ0 W R σ) (hX : XW K T U W R P) (hp : 0 ≤ p ∧ p < 8) (hlv : ¬ P 2320 p = 0) (hn : fs.length = n) (hn2 : n ≤ 12) (hFS : FSX W fs) (hS : SHL W (n : Int) c e 1) (hc0 : 0 ≤ c ∧ c ≤ 200) (hex : W 2187 2486 = ex) (hex1 : ex = 0 ∨ ex = 1) (hB : BY W 2189 100 src) : CL fb (d + 3) 100 [vR (some 2187), vR (some (prO p))] σ (NXX σ0 W R n c e (exL P p (arOf fs) ex src)) := by
  obtain ⟨hD, hc, he, hw⟩ := hS
  by_cases q : n = 12 ∨ c = 200
  · exact x_nextR hP hn2 hD hc hc0 hw q
  have hn12 : n < 12 := by omega
  have hcc : c < 200 := by omega
  have hL := (hX.1.2.2.1.1 p hp.1 hp.2).2.2.2 hlv
  have ho := cmO_o (i := (n : Int)) ⟨by omega, by omega⟩
  have hra := rA_cmd (i := (n : Int)) ⟨by omega, by omega⟩
  have hkr := cmO_rng (i := (n : Int)) ⟨by omega, by omega⟩
  have hsh := (cmO_s (i := (n : Int)) ⟨by omega, by omega⟩).1
  have hpo := prO_o hp
  have hpr2 := prO_rng hp
  have ek : cmO (n : Int) = 2191 + 7 * n := by unfold cmO; omega
  obtain ⟨k, hk⟩ : ∃ q, cmO (n : Int) = q := ⟨_, rfl⟩
  rw [hk] at ho hra hkr hsh ek
  have h120 := fun (σ : hM) (V : qR) (L L2 : List Int) (x4 : Option AV) (sc : Option Nat) (hP : PX σ0 V R σ) (hB2 : BY V (k + 1) 100 L2) (hL2 : L.length ≤ 100 → L2 = L) (hF : FNX k W V) (hd : V 2187 2482 = (n : Int) + 1) (hc : V 2187 2483 = c + 1) (he : V 2187 2484 = e) (hw : V 2187 2485 = 0) => nx_120 (fb := fb) (d := d) (x2 := none) (x4 := x4) (pr := prO p) (sc := sc) hn12 hk hP hB2 hL2 hF hd hc he hw ⟨hc0.1, hcc⟩
  obtain ⟨W1, hW1⟩ : ∃ q, rU (rU (rU W 2187 2485 0) 2187 2482 ((n : Int) + 1)) 2187 2483 (c + 1) = q := ⟨_, rfl⟩
  have hF1 : FNX k W W1 := by
    rw [← hW1]
    exact FNX_tr (FNX_tr (FNX_s ⟨by decide, by decide⟩) (FNX_s ⟨by decide, by decide⟩)) (FNX_s ⟨by decide, by decide⟩)
  have h1 : W1 2187 2482 = (n : Int) + 1 ∧ W1 2187 2483 = c + 1 ∧ W1 2187 2484 = e ∧ W1 2187 2485 = 0 ∧ W1 2187 2486 = ex := by
    rw [← hW1]
    exact ⟨(rU_j (by decide)).trans rU_s, rU_s, (rU_j (by decide)).trans ((rU_j (by decide)).trans ((rU_j (by decide)).trans he)), (rU_j (by decide)).trans ((rU_j (by decide)).trans rU_s), (rU_j (by decide)).trans ((rU_j (by decide)).trans ((rU_j (by decide)).trans hex))⟩
  obtain ⟨hd1, hc1, he1, hw1, hex2⟩ := h1
  have hB1 : BY W1 2189 100 src := by
    rw [← hW1]
    exact ((hB.key (by decide) (by decide)).key (by decide) (by decide)).key (by decide) (by decide)
  have hin := fun (σ : hM) (hP : PX σ0 (rU W 2187 2485 0) R σ) => x_inner (fb := fb) (d := d + 2) (n := n) hP hn2 ((rU_j (by decide)).trans hD)
  rw [inS_eqv (fun x hx => rU_f (by omega))] at hin
  have hFS1 : FSX W1 fs := hFS.eqv (fun x j a b => hF1 x j (by omega) (by omega))
  have hsc := hFS1.scp (n := n) (b := k + 1) (by omega) (by omega)
  have hie : inS W1 fs.length = inS W n := by
    rw [hn]
    refine inS_eqv (fun x hx => ?_)
    rw [← hW1]
    exact (rU_f (by omega)).trans ((rU_f (by omega)).trans (rU_f (by omega)))
  rw [hie] at hsc
  have hL1 : LIV W1 R P p := ((hX.fnx hF1 ⟨hkr.1, by omega⟩).1.2.2.1.1 p hp.1 hp.2).2.2.2 hlv
  have hxp := fun (σ : hM) (hP : PX σ0 W1 R σ) => x_expand (fb := fb) (d := d + 1) hP hp hL1 hB1 (by omega) hsh hsc
  obtain ⟨L, hLL⟩ : ∃ q, exL P p (arOf fs) ex src = q := ⟨_, rfl⟩
  obtain ⟨sc, hscc⟩ : ∃ q, inS W n = q := ⟨_, rfl⟩
  rw [hscc] at hin hxp
  have hD0 : rU W 2187 2485 0 2187 2482 = (n : Int) := (rU_j (by decide)).trans hD
  have hc00 : rU W 2187 2485 0 2187 2483 = c := (rU_j (by decide)).trans hc
  have hc02 : rU (rU W 2187 2485 0) 2187 2482 ((n : Int) + 1) 2187 2483 = c := (rU_j (by decide)).trans hc00
  have hk1 : tX (k + 1) = some (Sum.inl 2) := hsh.1
  rcases hex1 with rfl | rfl
  · rw [exL_0] at hLL ⊢
    have hl := hB.2.2.2.2.1
    obtain ⟨z, hz⟩ : ∃ z : Int, (src.length : Int) = z := ⟨_, rfl⟩
    have hsz := fun (σ : hM) (hP : PX σ0 W1 R σ) => x_size (fb := fb) (d := d + 2) hP hB1 hz
    have hta : ∀ (σ : hM), PX σ0 W1 R σ → CL fb (d + 2) 31 [vR (some (k + 1)), vR (some 2189), vI 0, vI z] σ (XB σ0 W1 R (k + 1) 100 src (some (vI (if src.length ≤ 100 then 1 else 0)))) := fun σ hP => by
      have h := x_take0 (fb := fb) (d := d + 1) (s := 0) (e := z) hP hsh hB1 (by omega) (Or.inr (by decide)) (by omega)
      rw [show (z - 0).toNat = src.length by omega, seg_all, List.take_of_length_le hl] at h
      exact h
    have hfl : ∃ fl : Int, (if src.length ≤ 100 then (1 : Int) else 0) = fl := ⟨_, rfl⟩
    obtain ⟨fl, hfl⟩ := hfl
    have h120 := fun (σ : hM) (V : qR) (x4 : Option AV) (hP : PX σ0 V R σ) (hB2 : BY V (k + 1) 100 src) (hF : FB (k + 1) W1 V) => h120 σ V src src x4 sc hP hB2 (fun _ => rfl) (FNX_tr hF1 (FNX_fb hF (by omega))) ((hF _ _ (by omega) (by omega)).trans hd1) ((hF _ _ (by omega) (by omega)).trans hc1) ((hF _ _ (by omega) (by omega)).trans he1) ((hF _ _ (by omega) (by omega)).trans hw1)
    rw [hfl] at hta h120
    obtain ⟨pr, hpr⟩ : ∃ q, prO p = q := ⟨_, rfl⟩
    obtain ⟨D, hDD⟩ : ∃ q : Int, (n : Int) = q := ⟨_, rfl⟩
    rw [hpr] at h120 ⊢
    rw [hDD] at hD0 hra hc02 hW1
    refine CL_in mL_100 rfl ?_
    show WP fb _ 100 0 [some (vR (some 2187)), some (vR (some pr)), none, none, none] [] σ _
    refine x_lr (z := some 2187) T_100_0 rfl ?_
    refine x_gI (z := 1) T_100_1 (Or.inr (Or.inl F_15_5)) (hP.o xo_2187) (Eq.trans (hP.gi xo_2187 (key := 2485) rfl) hw) ?_
    refine x_if T_100_4 (fun _ => ?_) (fun h => absurd (show ¬ (1 : Int) = 0 by decide) h)
    refine x_lr (z := some 2187) T_100_14 rfl ?_
    refine x_ic T_100_15 ?_
    refine z_pZ hP T_100_16 F_15_5 rfl xo_2187 (key := 2485) rfl (fun σ hP => ?_)
    refine x_lr (z := some 2187) T_100_19 rfl ?_
    refine x_gI (z := D) T_100_20 (Or.inl F_15_2) (hP.o xo_2187) (Eq.trans (Eq.trans (hP.gi xo_2187 (key := 2482) rfl) (rU_j (by decide))) hD0) ?_
    refine x_ic T_100_23 ?_
    refine x_ic2 T_100_25 (fun h => absurd (show 12 ≤ D from h) (by omega)) (fun _ => ?_)
    refine x_lr (z := some 2187) T_100_28 rfl ?_
    refine x_gI (z := c) T_100_29 (Or.inl F_15_3) (hP.o xo_2187) (Eq.trans (Eq.trans (hP.gi xo_2187 (key := 2483) rfl) (rU_j (by decide))) hc00) ?_
    refine x_ic T_100_32 ?_
    refine x_ic2 T_100_35 (fun _ => ?_) (fun h => absurd (show c < 200 by omega) h)
    refine x_lr (z := some 2187) T_100_46 rfl ?_
    refine x_gR (z := some 2188) T_100_47 F_15_0 (hP.o xo_2187) (hP.rc xo_2187 rfl rfl) ?_
    refine x_lr (z := some 2187) T_100_50 rfl ?_
    refine x_gI (z := D) T_100_51 (Or.inl F_15_2) (hP.o xo_2187) (Eq.trans (Eq.trans (hP.gi xo_2187 (key := 2482) rfl) (rU_j (by decide))) hD0) ?_
    refine x_alR (z := some k) T_100_54 (hP.ta xa_2188) (by decide) (by omega) (by omega) (hP.arc xa_2188 rfl hra) ?_
    refine x_sr (ls1 := [some (vR (some 2187)), some (vR (some pr)), some (vR (some k)), none, none]) T_100_55 rfl ?_
    refine x_lr (z := some 2187) T_100_56 rfl ?_
    refine x_cv1 T_100_57 mN_110 mL_110 (Nat.le_of_ble_eq_true rfl) mO_110 (hP.o xo_2187) (Nat.le_of_ble_eq_true rfl) (hin σ hP) ?_
    rintro _ σ ⟨rfl, rfl⟩
    refine cR ?_
    refine x_sr (ls1 := [some (vR (some 2187)), some (vR (some pr)), some (vR (some k)), some (vR (@sc)), none]) T_100_60 rfl ?_
    refine x_lr (z := some 2187) T_100_61 rfl ?_
    refine x_dupR T_100_62 ?_
    refine x_gI (z := D) T_100_63 (Or.inl F_15_2) (hP.o xo_2187) (Eq.trans (Eq.trans (hP.gi xo_2187 (key := 2482) rfl) (rU_j (by decide))) hD0) ?_
    refine x_ic T_100_66 ?_
    refine x_ib (w := (D + 1)) T_100_67 (fun h => absurd h.1 (by decide)) (w32_id (by omega) (by omega)) ?_
    refine z_pI hP T_100_68 F_15_2 xo_2187 (key := 2482) rfl (fun σ hP => ?_)
    refine x_lr (z := some 2187) T_100_71 rfl ?_
    refine x_dupR T_100_72 ?_
    refine x_gI (z := c) T_100_73 (Or.inl F_15_3) (hP.o xo_2187) (Eq.trans (Eq.trans (hP.gi xo_2187 (key := 2483) rfl) (Eq.trans (rU_j (by decide)) (rU_j (by decide)))) hc02) ?_
    refine x_ic T_100_76 ?_
    refine x_ib (w := (c + 1)) T_100_77 (fun h => absurd h.1 (by decide)) (w32_id (by omega) (by omega)) ?_
    refine z_pI hP T_100_78 F_15_3 xo_2187 (key := 2483) rfl (fun σ hP => ?_)
    refine x_lr (z := some 2187) T_100_81 rfl ?_
    refine x_gI (z := 0) T_100_82 (Or.inr (Or.inl F_15_6)) (hP.o xo_2187) (Eq.trans (Eq.trans (hP.gi xo_2187 (key := 2486) rfl) (Eq.trans (rU_j (by decide)) (Eq.trans (rU_j (by decide)) (rU_j (by decide))))) ((congrFun (congrFun hW1 _) _).trans hex2)) ?_
    refine x_if T_100_85 (fun _ => ?_) (fun h => absurd (show (0 : Int) = 0 by rfl) h)
    refine x_lr (z := some k) T_100_101 rfl ?_
    refine x_gR (z := some (k + 1)) T_100_102 F_16_0 (hP.o ho) (hP.rc ho rfl rfl) ?_
    refine x_lr (z := some 2187) T_100_105 rfl ?_
    refine x_gR (z := some 2189) T_100_106 F_15_1 (hP.o xo_2187) (hP.rc xo_2187 rfl rfl) ?_
    refine x_ic T_100_109 ?_
    refine x_lr (z := some 2187) T_100_110 rfl ?_
    refine x_gR (z := some 2189) T_100_111 F_15_1 (hP.o xo_2187) (hP.rc xo_2187 rfl rfl) ?_
    refine x_cv1 T_100_114 mN_28 mL_28 (Nat.le_of_ble_eq_true rfl) mO_28 (hP.o xo_2189) (Nat.le_of_ble_eq_true rfl) (hsz σ (hW1 ▸ hP)) ?_
    rintro _ σ ⟨rfl, rfl⟩
    refine cI ?_
    refine x_cv4 T_100_117 mN_31 mL_31 (Nat.le_of_ble_eq_true rfl) mO_31 (hP.o hk1) (Nat.le_of_ble_eq_true rfl) (hta σ (hW1 ▸ hP)) ?_
    clear hP
    rintro _ σ ⟨rfl, V, hP, hB3, hF3⟩
    refine cI ?_
    exact h120 σ V _ hP hB3 hF3
  · have hfl : ∃ fl : Int, (if L.length ≤ 100 then (1 : Int) else 0) = fl := ⟨_, rfl⟩
    obtain ⟨fl, hfl⟩ := hfl
    rw [hLL] at hxp ⊢
    have h120 := fun (σ : hM) (V : qR) (L2 : List Int) (x4 : Option AV) (hP : PX σ0 V R σ) (hB2 : BY V (k + 1) 100 L2) (hL2 : L.length ≤ 100 → L2 = L) (hF : FB (k + 1) W1 V) => h120 σ V L L2 x4 sc hP hB2 hL2 (FNX_tr hF1 (FNX_fb hF (by omega))) ((hF _ _ (by omega) (by omega)).trans hd1) ((hF _ _ (by omega) (by omega)).trans hc1) ((hF _ _ (by omega) (by omega)).trans he1) ((hF _ _ (by omega) (by omega)).trans hw1)
    unfold XEX at hxp
    rw [hfl] at hxp h120
    obtain ⟨pr, hpr⟩ : ∃ q, prO p = q := ⟨_, rfl⟩
    obtain ⟨D, hDD⟩ : ∃ q : Int, (n : Int) = q := ⟨_, rfl⟩
    rw [hpr] at h120 hxp hpo ⊢
    rw [hDD] at hD0 hra hc02 hW1
    refine CL_in mL_100 rfl ?_
    show WP fb _ 100 0 [some (vR (some 2187)), some (vR (some pr)), none, none, none] [] σ _
    refine x_lr (z := some 2187) T_100_0 rfl ?_
    refine x_gI (z := 1) T_100_1 (Or.inr (Or.inl F_15_5)) (hP.o xo_2187) (Eq.trans (hP.gi xo_2187 (key := 2485) rfl) hw) ?_
    refine x_if T_100_4 (fun _ => ?_) (fun h => absurd (show ¬ (1 : Int) = 0 by decide) h)
    refine x_lr (z := some 2187) T_100_14 rfl ?_
    refine x_ic T_100_15 ?_
    refine z_pZ hP T_100_16 F_15_5 rfl xo_2187 (key := 2485) rfl (fun σ hP => ?_)
    refine x_lr (z := some 2187) T_100_19 rfl ?_
    refine x_gI (z := D) T_100_20 (Or.inl F_15_2) (hP.o xo_2187) (Eq.trans (Eq.trans (hP.gi xo_2187 (key := 2482) rfl) (rU_j (by decide))) hD0) ?_
    refine x_ic T_100_23 ?_
    refine x_ic2 T_100_25 (fun h => absurd (show 12 ≤ D from h) (by omega)) (fun _ => ?_)
    refine x_lr (z := some 2187) T_100_28 rfl ?_
    refine x_gI (z := c) T_100_29 (Or.inl F_15_3) (hP.o xo_2187) (Eq.trans (Eq.trans (hP.gi xo_2187 (key := 2483) rfl) (rU_j (by decide))) hc00) ?_
    refine x_ic T_100_32 ?_
    refine x_ic2 T_100_35 (fun _ => ?_) (fun h => absurd (show c < 200 by omega) h)
    refine x_lr (z := some 2187) T_100_46 rfl ?_
    refine x_gR (z := some 2188) T_100_47 F_15_0 (hP.o xo_2187) (hP.rc xo_2187 rfl rfl) ?_
    refine x_lr (z := some 2187) T_100_50 rfl ?_
    refine x_gI (z := D) T_100_51 (Or.inl F_15_2) (hP.o xo_2187) (Eq.trans (Eq.trans (hP.gi xo_2187 (key := 2482) rfl) (rU_j (by decide))) hD0) ?_
    refine x_alR (z := some k) T_100_54 (hP.ta xa_2188) (by decide) (by omega) (by omega) (hP.arc xa_2188 rfl hra) ?_
    refine x_sr (ls1 := [some (vR (some 2187)), some (vR (some pr)), some (vR (some k)), none, none]) T_100_55 rfl ?_
    refine x_lr (z := some 2187) T_100_56 rfl ?_
    refine x_cv1 T_100_57 mN_110 mL_110 (Nat.le_of_ble_eq_true rfl) mO_110 (hP.o xo_2187) (Nat.le_of_ble_eq_true rfl) (hin σ hP) ?_
    rintro _ σ ⟨rfl, rfl⟩
    refine cR ?_
    refine x_sr (ls1 := [some (vR (some 2187)), some (vR (some pr)), some (vR (some k)), some (vR (@sc)), none]) T_100_60 rfl ?_
    refine x_lr (z := some 2187) T_100_61 rfl ?_
    refine x_dupR T_100_62 ?_
    refine x_gI (z := D) T_100_63 (Or.inl F_15_2) (hP.o xo_2187) (Eq.trans (Eq.trans (hP.gi xo_2187 (key := 2482) rfl) (rU_j (by decide))) hD0) ?_
    refine x_ic T_100_66 ?_
    refine x_ib (w := (D + 1)) T_100_67 (fun h => absurd h.1 (by decide)) (w32_id (by omega) (by omega)) ?_
    refine z_pI hP T_100_68 F_15_2 xo_2187 (key := 2482) rfl (fun σ hP => ?_)
    refine x_lr (z := some 2187) T_100_71 rfl ?_
    refine x_dupR T_100_72 ?_
    refine x_gI (z := c) T_100_73 (Or.inl F_15_3) (hP.o xo_2187) (Eq.trans (Eq.trans (hP.gi xo_2187 (key := 2483) rfl) (Eq.trans (rU_j (by decide)) (rU_j (by decide)))) hc02) ?_
    refine x_ic T_100_76 ?_
    refine x_ib (w := (c + 1)) T_100_77 (fun h => absurd h.1 (by decide)) (w32_id (by omega) (by omega)) ?_
    refine z_pI hP T_100_78 F_15_3 xo_2187 (key := 2483) rfl (fun σ hP => ?_)
    refine x_lr (z := some 2187) T_100_81 rfl ?_
    refine x_gI (z := 1) T_100_82 (Or.inr (Or.inl F_15_6)) (hP.o xo_2187) (Eq.trans (Eq.trans (hP.gi xo_2187 (key := 2486) rfl) (Eq.trans (rU_j (by decide)) (Eq.trans (rU_j (by decide)) (rU_j (by decide))))) ((congrFun (congrFun hW1 _) _).trans hex2)) ?_
    refine x_if T_100_85 (fun h => absurd (show (1 : Int) = 0 from h) (by decide)) (fun _ => ?_)
    refine x_lr (z := some 2187) T_100_88 rfl ?_
    refine x_lr (z := some pr) T_100_89 rfl ?_
    refine x_lr (z := some k) T_100_90 rfl ?_
    refine x_gR (z := some (k + 1)) T_100_91 F_16_0 (hP.o ho) (hP.rc ho rfl rfl) ?_
    refine x_lr (z := @sc) T_100_94 rfl ?_
    refine x_cv4 T_100_95 mN_111 mL_111 (Nat.le_of_ble_eq_true rfl) mO_111 (hP.o xo_2187) (Nat.le_of_ble_eq_true rfl) (hxp σ (hW1 ▸ hP)) ?_
    clear hP
    rintro _ σ ⟨rfl, V, hP, hF3, L2, hB3, hL3⟩
    refine cI ?_
    refine x_goto T_100_98 ?_
    exact h120 σ V L2 _ hP hB3 hL3 hF3
end XSH6
