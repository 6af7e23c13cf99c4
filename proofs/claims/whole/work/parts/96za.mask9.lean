/-! ask, for the reference: the bytes fed are handed over as one message from outside; what comes back is kept; what is dying ends. -/
theorem T_412_15 : hTab 412 15 = some ((3, 0, 2, []), 16) := rfl
theorem T_412_16 : hTab 412 16 = some ((3, 0, 2, []), 17) := rfl
theorem T_412_17 : hTab 412 17 = some ((24, 17, Int.ofNat 47, []), 20) := rfl
theorem T_412_20 : hTab 412 20 = some ((25, 17, Int.ofNat 4, []), 23) := rfl
theorem T_412_23 : hTab 412 23 = some ((0, 0, 0, []), 24) := rfl
theorem T_412_24 : hTab 412 24 = some ((4, 2, 0, []), 25) := rfl
theorem T_412_25 : hTab 412 25 = some ((3, 2, 0, []), 26) := rfl
theorem T_412_26 : hTab 412 26 = some ((3, 0, 2, []), 27) := rfl
theorem T_412_27 : hTab 412 27 = some ((24, 17, Int.ofNat 47, []), 30) := rfl
theorem T_412_30 : hTab 412 30 = some ((19, 3, Int.ofNat 51, []), 33) := rfl
theorem T_412_33 : hTab 412 33 = some ((3, 0, 2, []), 34) := rfl
theorem T_412_34 : hTab 412 34 = some ((24, 17, Int.ofNat 3, []), 37) := rfl
theorem T_412_37 : hTab 412 37 = some ((3, 2, 0, []), 38) := rfl
theorem T_412_38 : hTab 412 38 = some ((3, 0, 2, []), 39) := rfl
theorem T_412_39 : hTab 412 39 = some ((24, 17, Int.ofNat 46, []), 42) := rfl
theorem T_412_42 : hTab 412 42 = some ((3, 2, 0, []), 43) := rfl
theorem T_412_43 : hTab 412 43 = some ((26, 0, 0, []), 44) := rfl
theorem T_412_44 : hTab 412 44 = some ((27, 0, 0, []), 45) := rfl
theorem T_412_45 : hTab 412 45 = some ((5, 2, 1, []), 48) := rfl
theorem T_412_48 : hTab 412 48 = some ((22, 0, Int.ofNat 25, []), 51) := rfl
theorem T_412_51 : hTab 412 51 = some ((3, 0, 2, []), 52) := rfl
theorem T_412_52 : hTab 412 52 = some ((0, 0, 0, []), 53) := rfl
theorem T_412_53 : hTab 412 53 = some ((25, 17, Int.ofNat 47, []), 56) := rfl
theorem T_412_56 : hTab 412 56 = some ((3, 0, 2, []), 57) := rfl
theorem T_412_57 : hTab 412 57 = some ((3, 1, 0, []), 58) := rfl
theorem T_412_58 : hTab 412 58 = some ((0, 0, 1, []), 59) := rfl
theorem T_412_59 : hTab 412 59 = some ((31, 233, 0, []), 62) := rfl
theorem T_412_62 : hTab 412 62 = some ((3, 0, 2, []), 63) := rfl
theorem T_412_63 : hTab 412 63 = some ((3, 0, 2, []), 64) := rfl
theorem T_412_64 : hTab 412 64 = some ((24, 17, Int.ofNat 6, []), 67) := rfl
theorem T_412_67 : hTab 412 67 = some ((25, 17, Int.ofNat 49, []), 70) := rfl
theorem T_412_70 : hTab 412 70 = some ((0, 0, 0, []), 71) := rfl
theorem T_412_71 : hTab 412 71 = some ((4, 2, 0, []), 72) := rfl
theorem T_412_72 : hTab 412 72 = some ((3, 2, 0, []), 73) := rfl
theorem T_412_73 : hTab 412 73 = some ((3, 0, 2, []), 74) := rfl
theorem T_412_74 : hTab 412 74 = some ((24, 17, Int.ofNat 6, []), 77) := rfl
theorem T_412_77 : hTab 412 77 = some ((19, 3, Int.ofNat 98, []), 80) := rfl
theorem T_412_80 : hTab 412 80 = some ((3, 0, 2, []), 81) := rfl
theorem T_412_81 : hTab 412 81 = some ((24, 17, Int.ofNat 48, []), 84) := rfl
theorem T_412_84 : hTab 412 84 = some ((3, 2, 0, []), 85) := rfl
theorem T_412_85 : hTab 412 85 = some ((3, 0, 2, []), 86) := rfl
theorem T_412_86 : hTab 412 86 = some ((24, 17, Int.ofNat 5, []), 89) := rfl
theorem T_412_89 : hTab 412 89 = some ((3, 2, 0, []), 90) := rfl
theorem T_412_90 : hTab 412 90 = some ((26, 0, 0, []), 91) := rfl
theorem T_412_91 : hTab 412 91 = some ((27, 0, 0, []), 92) := rfl
theorem T_412_92 : hTab 412 92 = some ((5, 2, 1, []), 95) := rfl
theorem T_412_95 : hTab 412 95 = some ((22, 0, Int.ofNat 72, []), 98) := rfl
theorem T_412_98 : hTab 412 98 = some ((3, 0, 2, []), 99) := rfl
theorem T_412_99 : hTab 412 99 = some ((31, 401, 0, []), 102) := rfl
theorem T_412_102 : hTab 412 102 = some ((3, 0, 2, []), 103) := rfl
theorem T_412_103 : hTab 412 103 = some ((24, 17, Int.ofNat 49, []), 106) := rfl
theorem T_412_106 : hTab 412 106 = some ((18, 1, Int.ofNat 113, []), 109) := rfl
theorem T_412_109 : hTab 412 109 = some ((0, 0, (-1), []), 110) := rfl
theorem T_412_110 : hTab 412 110 = some ((22, 0, Int.ofNat 117, []), 113) := rfl
theorem T_412_113 : hTab 412 113 = some ((3, 0, 2, []), 114) := rfl
theorem T_412_114 : hTab 412 114 = some ((24, 17, Int.ofNat 49, []), 117) := rfl
theorem T_412_117 : hTab 412 117 = some ((33, 1, 0, []), 118) := rfl
section MASK9
variable {fb : Bool} {d : Nat} {σ0 σ : hM} {P P1 P2 Q0 R S S0 S1 S2 : qR} {T U s w g u p k e t z o n N v b c c2 i mu dn : Int} {l L tx tt sc src A : List Int} {h : List Ch} {F : Int → Int}
theorem m_ask_in (hI : IV false T U P) (hn : P 2281 47 = n) (hn1 : 0 ≤ n ∧ n ≤ 400) {Q : Option AV → hM → Prop} (hQ : ∀ σ : hM, PM σ0 P (rW S 2285 0 (seg (P 2318) 0 n.toNat)) σ → WP fb d 412 51 [some (vR (some 2281)), some (vI s), some (vI n)] [] σ Q) : ∀ (m : Nat) (k : Int) (σ : hM), k + m = n → 0 ≤ k → PM σ0 P (rW S 2285 0 (seg (P 2318) 0 k.toNat)) σ → WP fb d 412 25 [some (vR (some 2281)), some (vI s), some (vI k)] [] σ Q := by
  intro m
  induction m with
  | zero =>
    intro k σ h1 h2 hP
    have h1 : k + ((0 : Nat) : Int) = n := h1
    have hk : k = n := by omega
    subst hk
    have hgo := hQ σ hP
    refine x_li (z := k) T_412_25 rfl ?_
    refine x_lr (z := some 2281) T_412_26 rfl ?_
    refine x_gI (z := k) T_412_27 (Or.inl F_17_47) (PM.t hP) (Eq.trans (PM.nP hP 2281 47 47 rfl rfl rfl) hn) ?_
    refine x_ic2 T_412_30 (fun _ => ?_) (fun h => absurd (show k ≤ k by omega) h)
    exact hgo
  | succ m ih =>
    intro k σ h1 h2 hP
    have hgo := fun (σ : hM) (hP : PM σ0 P (rU (rW S 2285 0 (seg (P 2318) 0 k.toNat)) 2285 k (P 2318 k)) σ) => ih (k + 1) σ (by omega) (by omega) (by
      have e1 := rW_segs (P := S) (F := P 2318) (o := 0) (f := 2285) (a := 0) h2
      rw [Int.zero_add] at e1
      rw [← e1]
      exact hP)
    refine x_li (z := k) T_412_25 rfl ?_
    refine x_lr (z := some 2281) T_412_26 rfl ?_
    refine x_gI (z := n) T_412_27 (Or.inl F_17_47) (PM.t hP) (Eq.trans (PM.nP hP 2281 47 47 rfl rfl rfl) hn) ?_
    refine x_ic2 T_412_30 (fun h => absurd (show n ≤ k from h) (by omega)) (fun _ => ?_)
    refine x_lr (z := some 2281) T_412_33 rfl ?_
    refine x_gR (z := some 2285) T_412_34 F_17_3 (PM.t hP) (PM.r hP 3 2285 rfl) ?_
    refine x_li (z := k) T_412_37 rfl ?_
    refine x_lr (z := some 2281) T_412_38 rfl ?_
    refine x_gR (z := some 2318) T_412_39 F_17_46 (PM.t hP) (PM.r hP 46 2318 rfl) ?_
    refine x_li (z := k) T_412_42 rfl ?_
    have b1 : 0 ≤ P 2318 k ∧ P 2318 k ≤ 255 := IV.a hI 2318 0 400 rfl rfl rfl (by omega) (by omega)
    refine x_alI (z := P 2318 k) T_412_43 (by decide) (PM.ta hP 2318 0 400 rfl rfl) (by omega) (by omega) (PM.aP hP 2318 rfl rfl (by omega)) ?_
    refine y_aIS hP T_412_44 2285 512 rfl rfl rfl (by omega) (by omega) (fun σ hP => ?_)
    refine x_inc (w := (k + 1)) (ls1 := [some (vR (some 2281)), some (vI s), some (vI (k + 1))]) T_412_45 rfl (w32_id (by omega) (by omega)) rfl ?_
    refine x_goto T_412_48 ?_
    exact hgo σ hP
theorem m_ask_out (hJ : IV true T U S) (hn : S 2281 6 = n) (hn1 : 0 ≤ n ∧ n ≤ 407) {Q : Option AV → hM → Prop} (hQ : ∀ σ : hM, PM σ0 (rW P 2319 0 (seg (S 2286) 0 n.toNat)) S σ → WP fb d 412 98 [some (vR (some 2281)), some (vI s), some (vI n)] [] σ Q) : ∀ (m : Nat) (k : Int) (σ : hM), k + m = n → 0 ≤ k → PM σ0 (rW P 2319 0 (seg (S 2286) 0 k.toNat)) S σ → WP fb d 412 72 [some (vR (some 2281)), some (vI s), some (vI k)] [] σ Q := by
  intro m
  induction m with
  | zero =>
    intro k σ h1 h2 hP
    have h1 : k + ((0 : Nat) : Int) = n := h1
    have hk : k = n := by omega
    subst hk
    have hgo := hQ σ hP
    refine x_li (z := k) T_412_72 rfl ?_
    refine x_lr (z := some 2281) T_412_73 rfl ?_
    refine x_gI (z := k) T_412_74 (Or.inl F_17_6) (PM.t hP) (Eq.trans (PM.nS hP 2281 6 6 rfl rfl rfl) hn) ?_
    refine x_ic2 T_412_77 (fun _ => ?_) (fun h => absurd (show k ≤ k by omega) h)
    exact hgo
  | succ m ih =>
    intro k σ h1 h2 hP
    have hgo := fun (σ : hM) (hP : PM σ0 (rU (rW P 2319 0 (seg (S 2286) 0 k.toNat)) 2319 k (S 2286 k)) S σ) => ih (k + 1) σ (by omega) (by omega) (by
      have e1 := rW_segs (P := P) (F := S 2286) (o := 0) (f := 2319) (a := 0) h2
      rw [Int.zero_add] at e1
      rw [← e1]
      exact hP)
    refine x_li (z := k) T_412_72 rfl ?_
    refine x_lr (z := some 2281) T_412_73 rfl ?_
    refine x_gI (z := n) T_412_74 (Or.inl F_17_6) (PM.t hP) (Eq.trans (PM.nS hP 2281 6 6 rfl rfl rfl) hn) ?_
    refine x_ic2 T_412_77 (fun h => absurd (show n ≤ k from h) (by omega)) (fun _ => ?_)
    refine x_lr (z := some 2281) T_412_80 rfl ?_
    refine x_gR (z := some 2319) T_412_81 F_17_48 (PM.t hP) (PM.r hP 48 2319 rfl) ?_
    refine x_li (z := k) T_412_84 rfl ?_
    refine x_lr (z := some 2281) T_412_85 rfl ?_
    refine x_gR (z := some 2286) T_412_86 F_17_5 (PM.t hP) (PM.r hP 5 2286 rfl) ?_
    refine x_li (z := k) T_412_89 rfl ?_
    have b1 : 0 ≤ S 2286 k ∧ S 2286 k ≤ 255 := IV.a hJ 2286 0 512 rfl rfl rfl (by omega) (by omega)
    refine x_alI (z := S 2286 k) T_412_90 (by decide) (PM.ta hP 2286 0 512 rfl rfl) (by omega) (by omega) (PM.aS hP 2286 rfl rfl (by omega)) ?_
    refine y_aIP hP T_412_91 2319 512 rfl rfl rfl (by omega) (by omega) (fun σ hP => ?_)
    refine x_inc (w := (k + 1)) (ls1 := [some (vR (some 2281)), some (vI s), some (vI (k + 1))]) T_412_92 rfl (w32_id (by omega) (by omega)) rfl ?_
    refine x_goto T_412_95 ?_
    exact hgo σ hP
theorem m_ask (hP : PM σ0 P S σ) (hK : KS T U P S l []) (hT : T + 6000 ≤ 2147483000) : CL fb (d + 15) 412 [vR (some 2281), vI s] σ (fun r σ' => ∃ S2 : qR, r = some (vI (cAsk P s).1) ∧ PM σ0 (cAsk P s).2 S2 σ' ∧ KS (T + 1872) U (cAsk P s).2 S2 l []) := by
  unfold cAsk
  have hm : 0 ≤ P 2281 42 ∧ P 2281 42 ≤ T := IV.n hK.1.iv 42 42 rfl rfl (by decide)
  by_cases hs : 0 ≤ s ∧ s ≤ 2
  · rw [if_neg (fun c => c hs)]
    have hI := hK.1.iv
    have hn1 : 0 ≤ P 2281 47 ∧ P 2281 47 ≤ 400 := IV.n hI 47 47 rfl rfl (by decide)
    have ht0 : ∀ j, 0 ≤ j → j < P 2281 47 → 0 ≤ P 2318 j ∧ P 2318 j ≤ 255 := fun j a b => IV.a hI 2318 0 400 rfl rfl rfl (by omega) (by omega)
    obtain ⟨n, hn⟩ : ∃ n, P 2281 47 = n := ⟨_, rfl⟩
    have hS0 : asS P s = srvP (rU P 2281 47 0) s 1 (P 2318) n := by unfold asS; rw [hn]
    have hA0 : asA P s = srvA (rU P 2281 47 0) s 1 (P 2318) n := by unfold asA; rw [hn]
    rw [hn] at hn1 ht0
    -- the state handed to the server
    obtain ⟨tp, htp⟩ : ∃ tp, seg (P 2318) 0 n.toNat = tp := ⟨_, rfl⟩
    have htl : (tp.length : Int) = n := by rw [← htp, seg_len]; omega
    have hbt : byt tp := by rw [← htp]; exact byt_seg (fun i a b => ht0 _ (by omega) (by omega))
    have hJ1 : IV true T U (rW (rU S 2281 4 n) 2285 0 tp) := (hK.2.2.1.uN 4 4 rfl (by show 0 ≤ n ∧ n ≤ 512; omega)).wA 2285 rfl (fun k _ _ => hbt _ (by omega))
    have hX1 : SX scR scN S (rW (rU S 2281 4 n) 2285 0 tp) := ⟨fun k a => (rW_f (by decide)).trans (rU_k (fun q => by rw [q] at a; exact absurd a (by decide))), fun f k a b => (rW_f (fun q => by rw [q] at b; exact absurd b (by decide))).trans (rU_f (fun q => by rw [q] at a; exact absurd a (by decide)))⟩
    have hK1 : KS T U (rU P 2281 47 0) S l [] := hK.num (v := 0) 47 (j := 47) rfl (by show (0 : Int) ≤ 0 ∧ (0 : Int) ≤ 400; decide)
    have e4 : rW (rU S 2281 4 n) 2285 0 tp 2281 4 = n := (rW_f (by decide)).trans rU_s
    have eqa : eqz n (rW (rU S 2281 4 n) 2285 0 tp 2285) (P 2318) := fun i a b => by
      rw [show (2285 : Nat) = 2285 from rfl, rW_i ⟨a, by omega⟩, ← htp, lg_seg _ _ _ _ (by omega) (by omega)]
      congr 1
      omega
    have hsv := fun (σ : hM) (hP : PM σ0 (rU P 2281 47 0) (rW (rU S 2281 4 n) 2285 0 tp) σ) => m_serve (fb := fb) (d := d + 5) (s := s) (c := 1) hP hJ1 (hK1.1.si (by omega) hs.1) ⟨hs.1, by omega⟩ (by decide) (by rw [e4]; omega)
    unfold SRV at hsv
    rw [e4, srvP_c eqa ht0, srvE_c eqa ht0, srvA_c eqa ht0, ← hS0, ← hA0] at hsv
    have hG2 : GI (T + 48) U (asS P s) := by rw [hS0]; exact GI_srv1 hK1.1 (by omega) ⟨hs.1, by omega⟩ ht0
    have hPT2 : PTS (asS P s) := by
      rw [hS0]
      exact hK1.2.1.row (fun k => SF_srvP _ k rfl (fun e => absurd e.1 (by decide))) (fun k => SF_srvP _ k rfl (fun e => absurd e.1 (by decide)))
    unfold asP
    obtain ⟨P2, hP2⟩ : ∃ P2, asS P s = P2 := ⟨_, rfl⟩
    obtain ⟨A, hA⟩ : ∃ A, asA P s = A := ⟨_, rfl⟩
    obtain ⟨e, he⟩ : ∃ e, srvE (rU P 2281 47 0) s 1 (P 2318) n = e := ⟨_, rfl⟩
    rw [hP2, hA, he] at hsv
    rw [hP2] at hG2 hPT2
    rw [hP2, hA]
    obtain ⟨z, hz⟩ : ∃ z, (A.length : Int) = z := ⟨_, rfl⟩
    rw [hz]
    obtain ⟨P3, hP3⟩ : ∃ P3, rW (rU P2 2281 49 z) 2319 0 A = P3 := ⟨_, rfl⟩
    rw [hP3]
    dsimp only
    have hen := fun (σ : hM) (S2 : qR) (hP : PM σ0 P3 S2 σ) (hK3 : KS (T + 48) U P3 S2 l []) => m_endAll (fb := fb) (d := d) hP hK3 (by omega)
    obtain ⟨P4, hP4⟩ : ∃ P4, enAll 8 0 P3 = P4 := ⟨_, rfl⟩
    rw [hP4] at hen ⊢
    obtain ⟨y, hy⟩ : ∃ y, P4 2281 49 = y := ⟨_, rfl⟩
    rw [hy]
    -- behind the second loop
    have h98 : ∀ (σ : hM) (S2 : qR), PM σ0 P3 S2 σ → KS (T + 48) U P3 S2 l [] → WP fb (d + 15) 412 98 [some (vR (some 2281)), some (vI s), some (vI z)] [] σ (fun r σ' => ∃ S2 : qR, r = some (vI (if y = 0 then -1 else y)) ∧ PM σ0 P4 S2 σ' ∧ KS (T + 1872) U P4 S2 l []) := fun σ S2 hP hK3 => by
      have hen := fun (σ : hM) (hP : PM σ0 P3 S2 σ) => hen σ S2 hP hK3
      by_cases q : y = 0
      · rw [if_pos q]
        refine x_lr (z := some 2281) T_412_98 rfl ?_
        refine x_cv1 T_412_99 mN_401 mL_401 (Nat.le_of_ble_eq_true rfl) mO_401 (PM.t hP) (Nat.le_of_ble_eq_true rfl) (hen σ hP) ?_
        clear hP hen
        rintro _ σ ⟨S3, rfl, hP, hK4, -⟩
        refine cV ?_
        refine x_lr (z := some 2281) T_412_102 rfl ?_
        refine x_gI (z := y) T_412_103 (Or.inl F_17_49) (PM.t hP) (Eq.trans (PM.nP hP 2281 49 49 rfl rfl rfl) hy) ?_
        refine x_if T_412_106 (fun h => absurd (show ¬ y = 0 from h) (by omega)) (fun _ => ?_)
        refine x_ic T_412_109 ?_
        refine x_goto T_412_110 ?_
        refine x_ri T_412_117 ?_
        exact ⟨S3, rfl, hP, hK4.mono (by omega)⟩
      · rw [if_neg q]
        refine x_lr (z := some 2281) T_412_98 rfl ?_
        refine x_cv1 T_412_99 mN_401 mL_401 (Nat.le_of_ble_eq_true rfl) mO_401 (PM.t hP) (Nat.le_of_ble_eq_true rfl) (hen σ hP) ?_
        clear hP hen
        rintro _ σ ⟨S3, rfl, hP, hK4, -⟩
        refine cV ?_
        refine x_lr (z := some 2281) T_412_102 rfl ?_
        refine x_gI (z := y) T_412_103 (Or.inl F_17_49) (PM.t hP) (Eq.trans (PM.nP hP 2281 49 49 rfl rfl rfl) hy) ?_
        refine x_if T_412_106 (fun _ => ?_) (fun h => absurd (show ¬ y = 0 by omega) h)
        refine x_lr (z := some 2281) T_412_113 rfl ?_
        refine x_gI (z := y) T_412_114 (Or.inl F_17_49) (PM.t hP) (Eq.trans (PM.nP hP 2281 49 49 rfl rfl rfl) hy) ?_
        refine x_ri T_412_117 ?_
        exact ⟨S3, rfl, hP, hK4.mono (by omega)⟩
    have h51 : ∀ σ : hM, PM σ0 P (rW (rU S 2281 4 n) 2285 0 (seg (P 2318) 0 n.toNat)) σ → WP fb (d + 15) 412 51 [some (vR (some 2281)), some (vI s), some (vI n)] [] σ (fun r σ' => ∃ S2 : qR, r = some (vI (if y = 0 then -1 else y)) ∧ PM σ0 P4 S2 σ' ∧ KS (T + 1872) U P4 S2 l []) := fun σ hP => by
      rw [htp] at hP
      have h72 : ∀ (σ : hM) (S2 : qR), PM σ0 (rU P2 2281 49 z) S2 σ → SA T U (rW (rU S 2281 4 n) 2285 0 tp) S2 e A → WP fb (d + 15) 412 72 [some (vR (some 2281)), some (vI s), some (vI 0)] [] σ (fun r σ' => ∃ S2 : qR, r = some (vI (if y = 0 then -1 else y)) ∧ PM σ0 P4 S2 σ' ∧ KS (T + 1872) U P4 S2 l []) := fun σ S2 hP hSA => by
        have hX2 := SX_tr hX1 hSA.sx
        obtain ⟨a1, a2, a3, a4, a5, a6, a7, a8⟩ := hSA
        have a2 : S2 2281 6 = z := a2.trans hz
        have hJ2 : IV true (T + 48) U S2 := a4.mono (by omega) (Int.le_refl U)
        have hsA : seg (S2 2286) 0 z.toNat = A := seg_eq.mpr ⟨by omega, fun i b1 b2 => by rw [Int.zero_add]; exact a3 i b1 (by omega)⟩
        have hKf : KS (T + 48) U P3 S2 l [] := by
          rw [← hP3]
          have g1 : GI (T + 48) U (rU P2 2281 49 z) := GI_num 49 hG2 rfl (by show 0 ≤ z ∧ z ≤ 512; omega)
          have g2 : GI (T + 48) U (rW (rU P2 2281 49 z) 2319 0 A) := GI_wr (f := 2319) (o := 0) (l := A) g1 rfl (fun k b1 b2 => by
            rw [Int.sub_zero, ← a3 k b1 (by omega)]
            exact IV.a a4 2286 0 512 rfl rfl rfl b1 (by omega)) rfl rfl rfl rfl rfl rfl rfl rfl rfl (by decide) (by decide)
          exact ⟨g2, hPT2.row (fun _ => (rW_f (by decide)).trans (rU_f (by decide))) (fun _ => (rW_f (by decide)).trans (rU_f (by decide))), hJ2, ⟨(a6 91 (by decide) (by decide) (by decide) (by decide) (by decide) (by decide)).trans (((rW_f (by decide)).trans (rU_k (by decide))).trans hK.2.2.2.1.1), by decide, fun i hi => absurd hi (Nat.not_lt_zero i)⟩, hK.2.2.2.2.sc hX2⟩
        refine m_ask_out (d := d + 15) (n := z) hJ2 a2 ⟨by omega, by omega⟩ (fun σ hP => ?_) z.toNat 0 σ (by omega) (by decide) (by rw [rW_seg0]; exact hP)
        rw [hsA, hP3] at hP
        exact h98 σ S2 hP hKf
      refine x_lr (z := some 2281) T_412_51 rfl ?_
      refine x_ic T_412_52 ?_
      refine y_pIP hP T_412_53 F_17_47 47 rfl rfl (fun σ hP => ?_)
      refine x_lr (z := some 2281) T_412_56 rfl ?_
      refine x_li (z := s) T_412_57 rfl ?_
      refine x_ic T_412_58 ?_
      refine x_cv3 T_412_59 mN_233 mL_233 (Nat.le_of_ble_eq_true rfl) mO_233 (PM.t hP) (Nat.le_of_ble_eq_true rfl) (hsv σ hP) ?_
      clear hP hsv
      rintro _ σ ⟨rfl, S2, hP, hSA⟩
      refine cV ?_
      refine x_lr (z := some 2281) T_412_62 rfl ?_
      refine x_lr (z := some 2281) T_412_63 rfl ?_
      refine x_gI (z := z) T_412_64 (Or.inl F_17_6) (PM.t hP) (Eq.trans (PM.nS hP 2281 6 6 rfl rfl rfl) (hSA.2.1.trans hz)) ?_
      refine y_pIP hP T_412_67 F_17_49 49 rfl rfl (fun σ hP => ?_)
      refine x_ic T_412_70 ?_
      refine x_si (ls1 := [some (vR (some 2281)), some (vI s), some (vI 0)]) T_412_71 rfl ?_
      exact h72 σ S2 hP hSA
    have hlo := fun (σ : hM) (hP : PM σ0 P (rU S 2281 4 n) σ) => m_ask_in (fb := fb) (d := d + 15) (s := s) (S := rU S 2281 4 n) hI hn hn1 h51 n.toNat 0 σ (by omega) (by decide) (by rw [rW_seg0]; exact hP)
    refine CL_in mL_412 rfl ?_
    show WP fb _ 412 0 [some (vR (some 2281)), some (vI s), none] [] σ _
    refine x_li (z := s) T_412_0 rfl ?_
    refine x_i2l T_412_1 ?_
    refine x_lc T_412_2 ?_
    refine x_lc T_412_3 ?_
    refine x_cs3 T_412_6 mN_282 mL_282 (Nat.le_of_ble_eq_true rfl) mK_282 (Nat.le_of_ble_eq_true rfl) (m_in) ?_
    rintro _ σ ⟨rfl, rfl⟩
    refine cI ?_
    refine x_if T_412_9 (fun _ => ?_) (fun h => absurd (show ¬ (if 0 ≤ s ∧ s ≤ 2 then (1 : Int) else 0) = 0 by rw [if_pos hs]; decide) h)
    refine x_lr (z := some 2281) T_412_15 rfl ?_
    refine x_lr (z := some 2281) T_412_16 rfl ?_
    refine x_gI (z := n) T_412_17 (Or.inl F_17_47) (PM.t hP) (Eq.trans (PM.nP hP 2281 47 47 rfl rfl rfl) hn) ?_
    refine y_pIS hP T_412_20 F_17_4 4 rfl rfl (fun σ hP => ?_)
    refine x_ic T_412_23 ?_
    refine x_si (ls1 := [some (vR (some 2281)), some (vI s), some (vI 0)]) T_412_24 rfl ?_
    exact hlo σ hP
  · rw [if_pos hs]
    refine CL_in mL_412 rfl ?_
    show WP fb _ 412 0 [some (vR (some 2281)), some (vI s), none] [] σ _
    refine x_li (z := s) T_412_0 rfl ?_
    refine x_i2l T_412_1 ?_
    refine x_lc T_412_2 ?_
    refine x_lc T_412_3 ?_
    refine x_cs3 T_412_6 mN_282 mL_282 (Nat.le_of_ble_eq_true rfl) mK_282 (Nat.le_of_ble_eq_true rfl) (m_in) ?_
    rintro _ σ ⟨rfl, rfl⟩
    refine cI ?_
    refine x_if T_412_9 (fun h => absurd (show ¬ (if 0 ≤ s ∧ s ≤ 2 then (1 : Int) else 0) = 0 from h) (by rw [if_neg hs]; decide)) (fun _ => ?_)
    refine x_ic T_412_12 ?_
    refine x_ri T_412_14 ?_
    exact ⟨S, rfl, hP, hK.mono (by omega)⟩
end MASK9
