/-! A message served as a whole: what is answered, byte by byte. -/
theorem T_233_0 : hTab 233 0 = some ((3, 0, 2, []), 1) := rfl
theorem T_233_1 : hTab 233 1 = some ((0, 0, 0, []), 2) := rfl
theorem T_233_2 : hTab 233 2 = some ((25, 17, Int.ofNat 7, []), 5) := rfl
theorem T_233_5 : hTab 233 5 = some ((3, 0, 2, []), 6) := rfl
theorem T_233_6 : hTab 233 6 = some ((0, 0, 0, []), 7) := rfl
theorem T_233_7 : hTab 233 7 = some ((25, 17, Int.ofNat 6, []), 10) := rfl
theorem T_233_10 : hTab 233 10 = some ((3, 0, 2, []), 11) := rfl
theorem T_233_11 : hTab 233 11 = some ((0, 0, 0, []), 12) := rfl
theorem T_233_12 : hTab 233 12 = some ((25, 17, Int.ofNat 9, []), 15) := rfl
theorem T_233_15 : hTab 233 15 = some ((3, 0, 2, []), 16) := rfl
theorem T_233_16 : hTab 233 16 = some ((0, 0, 0, []), 17) := rfl
theorem T_233_17 : hTab 233 17 = some ((25, 17, Int.ofNat 12, []), 20) := rfl
theorem T_233_20 : hTab 233 20 = some ((3, 0, 2, []), 21) := rfl
theorem T_233_21 : hTab 233 21 = some ((0, 0, 0, []), 22) := rfl
theorem T_233_22 : hTab 233 22 = some ((25, 17, Int.ofNat 8, []), 25) := rfl
theorem T_233_25 : hTab 233 25 = some ((3, 0, 2, []), 26) := rfl
theorem T_233_26 : hTab 233 26 = some ((24, 17, Int.ofNat 4, []), 29) := rfl
theorem T_233_29 : hTab 233 29 = some ((0, 0, 7, []), 31) := rfl
theorem T_233_31 : hTab 233 31 = some ((19, 2, Int.ofNat 48, []), 34) := rfl
theorem T_233_34 : hTab 233 34 = some ((3, 0, 2, []), 35) := rfl
theorem T_233_35 : hTab 233 35 = some ((0, 0, 4, []), 36) := rfl
theorem T_233_36 : hTab 233 36 = some ((31, 234, 0, []), 39) := rfl
theorem T_233_39 : hTab 233 39 = some ((3, 0, 2, []), 40) := rfl
theorem T_233_40 : hTab 233 40 = some ((24, 17, Int.ofNat 4, []), 43) := rfl
theorem T_233_43 : hTab 233 43 = some ((14, 0, 0, []), 44) := rfl
theorem T_233_44 : hTab 233 44 = some ((17, 0, 0, []), 45) := rfl
theorem T_233_45 : hTab 233 45 = some ((18, 0, Int.ofNat 49, []), 48) := rfl
theorem T_233_48 : hTab 233 48 = some ((33, 0, 0, []), 49) := rfl
theorem T_233_49 : hTab 233 49 = some ((3, 0, 2, []), 50) := rfl
theorem T_233_50 : hTab 233 50 = some ((0, 0, 1, []), 51) := rfl
theorem T_233_51 : hTab 233 51 = some ((31, 234, 0, []), 54) := rfl
theorem T_233_54 : hTab 233 54 = some ((15, 0, 0, []), 55) := rfl
theorem T_233_55 : hTab 233 55 = some ((4, 3, 0, []), 56) := rfl
theorem T_233_56 : hTab 233 56 = some ((3, 0, 2, []), 57) := rfl
theorem T_233_57 : hTab 233 57 = some ((0, 0, 7, []), 59) := rfl
theorem T_233_59 : hTab 233 59 = some ((25, 17, Int.ofNat 8, []), 62) := rfl
theorem T_233_62 : hTab 233 62 = some ((3, 0, 2, []), 63) := rfl
theorem T_233_63 : hTab 233 63 = some ((24, 17, Int.ofNat 4, []), 66) := rfl
theorem T_233_66 : hTab 233 66 = some ((3, 0, 2, []), 67) := rfl
theorem T_233_67 : hTab 233 67 = some ((24, 17, Int.ofNat 37, []), 70) := rfl
theorem T_233_70 : hTab 233 70 = some ((0, 0, 2, []), 71) := rfl
theorem T_233_71 : hTab 233 71 = some ((3, 1, 0, []), 72) := rfl
theorem T_233_72 : hTab 233 72 = some ((10, 2, 0, []), 73) := rfl
theorem T_233_73 : hTab 233 73 = some ((3, 2, 0, []), 74) := rfl
theorem T_233_74 : hTab 233 74 = some ((10, 0, 0, []), 75) := rfl
theorem T_233_75 : hTab 233 75 = some ((26, 0, 0, []), 76) := rfl
theorem T_233_76 : hTab 233 76 = some ((19, 5, Int.ofNat 88, []), 79) := rfl
theorem T_233_79 : hTab 233 79 = some ((3, 0, 2, []), 80) := rfl
theorem T_233_80 : hTab 233 80 = some ((0, 0, 14, []), 82) := rfl
theorem T_233_82 : hTab 233 82 = some ((31, 235, 0, []), 85) := rfl
theorem T_233_85 : hTab 233 85 = some ((22, 0, Int.ofNat 111, []), 88) := rfl
theorem T_233_88 : hTab 233 88 = some ((3, 3, 0, []), 89) := rfl
theorem T_233_89 : hTab 233 89 = some ((0, 0, 113, []), 91) := rfl
theorem T_233_91 : hTab 233 91 = some ((19, 3, Int.ofNat 104, []), 94) := rfl
theorem T_233_94 : hTab 233 94 = some ((3, 0, 2, []), 95) := rfl
theorem T_233_95 : hTab 233 95 = some ((3, 1, 0, []), 96) := rfl
theorem T_233_96 : hTab 233 96 = some ((3, 2, 0, []), 97) := rfl
theorem T_233_97 : hTab 233 97 = some ((3, 3, 0, []), 98) := rfl
theorem T_233_98 : hTab 233 98 = some ((31, 238, 0, []), 101) := rfl
theorem T_233_101 : hTab 233 101 = some ((22, 0, Int.ofNat 111, []), 104) := rfl
theorem T_233_104 : hTab 233 104 = some ((3, 0, 2, []), 105) := rfl
theorem T_233_105 : hTab 233 105 = some ((3, 1, 0, []), 106) := rfl
theorem T_233_106 : hTab 233 106 = some ((3, 2, 0, []), 107) := rfl
theorem T_233_107 : hTab 233 107 = some ((3, 3, 0, []), 108) := rfl
theorem T_233_108 : hTab 233 108 = some ((31, 278, 0, []), 111) := rfl
theorem T_233_111 : hTab 233 111 = some ((3, 0, 2, []), 112) := rfl
theorem T_233_112 : hTab 233 112 = some ((31, 305, 0, []), 115) := rfl
theorem T_233_115 : hTab 233 115 = some ((33, 0, 0, []), 116) := rfl
theorem mN_233 : hmN 233 = 3 := by decide +kernel
theorem mL_233 : hmL 233 = 4 := by decide +kernel
theorem mK_233 : hmK 233 = 1 := by decide +kernel
theorem mO_233 : hmO 233 = 17 := by decide +kernel
def srvE (P : qR) (s c : Int) (a : Int → Int) (z : Int) : Int := if ¬ (7 ≤ z ∧ nu a 0 4 = z) then 0 else if P 2313 (2 * s + c) < z then 14 else srE P s c (nu a 4 1) a z
def srvP (P : qR) (s c : Int) (a : Int → Int) (z : Int) : qR := if ¬ (7 ≤ z ∧ nu a 0 4 = z) then P else if P 2313 (2 * s + c) < z then P else srP P s c (nu a 4 1) a z
/-- an answer: its type and what follows its tag -/
def ansL (a : Int → Int) (t : Int) (l : List Int) : List Int := leb 4 (7 + (l.length : Int)) ++ ([t % 256, a 5, a 6] ++ l)
def srvA (P : qR) (s c : Int) (a : Int → Int) (z : Int) : List Int := if ¬ (7 ≤ z ∧ nu a 0 4 = z) then [] else ansL a (if srvE P s c a z = 0 then nu a 4 1 + 1 else 107) (if srvE P s c a z = 0 then srL P s c (nu a 4 1) a z else errL (srvE P s c a z))
/-- what lies ready to be sent -/
def SA (T U : Int) (S S1 : qR) (e : Int) (l : List Int) : Prop := S1 2281 7 = e ∧ S1 2281 6 = (l.length : Int) ∧ (∀ i : Int, 0 ≤ i → i < l.length → S1 2286 i = lg l i) ∧ IV true T U S1 ∧ (∀ k : Int, S1 2285 k = S 2285 k) ∧ kS S1 S ∧ (∀ (f : Nat) (k : Int), scrR f = true → f ≠ 2286 → f ≠ 2287 → f ≠ 2288 → S1 f k = S f k) ∧ (l.length : Int) ≤ 407
theorem ansL_len {a : Int → Int} {t : Int} {l : List Int} : ((ansL a t l).length : Int) = 7 + l.length := by
  unfold ansL
  rw [List.length_append, leb_len, List.length_append]
  simp only [List.length_cons, List.length_nil]
  omega
theorem SA_fin {T U e t : Int} {S S1 : qR} {l : List Int} (h : RP T U S S1 e t l) : SA T U S (fin S1) e (ansL (S 2285) t l) := by
  obtain ⟨h1, h2, h3, h4, h5, h6, h7, h8⟩ := h
  unfold fin
  refine ⟨(rW_f (by decide)).trans h1, ?_, fun i i0 i1 => ?_, h4.wA 2286 rfl (fun k q1 q2 => byt_leb 4 _ _ (by omega)), fun k => (rW_f (by decide)).trans (h5 k), fun k k1 k2 k3 k4 k5 k6 => (rW_f (by decide)).trans (h6 k k1 k2 k3 k4 k5 k6), fun f k q1 q2 q3 q4 => (rW_f q2).trans (h7 f k q1 q2 q3 q4), by rw [ansL_len]; omega⟩
  · rw [rW_f (by decide), ansL_len]
    exact h2
  · rw [ansL_len] at i1
    unfold ansL
    rw [lg_app i0, leb_len]
    split <;> rename_i hi
    · rw [rW_i (by rw [leb_len]; omega), h2, Int.sub_zero]
    · rw [rW_o (by rw [leb_len]; omega)]
      have := h3 (i - ((4 : Nat) : Int)) (by omega) (by omega)
      rw [show (4 : Int) + (i - ((4 : Nat) : Int)) = i by omega] at this
      exact this
section MSERVE9
variable {fb : Bool} {d : Nat} {σ0 σ : hM} {P Q S S1 : qR} {T U s n u c t p z : Int} {st : List (Int × Int)}
abbrev SRV (T U : Int) (σ0 : hM) (P S : qR) (s c : Int) : Option AV → hM → Prop := fun r σ' => r = none ∧ ∃ S2, PM σ0 (srvP P s c (S 2285) (S 2281 4)) S2 σ' ∧ SA T U S S2 (srvE P s c (S 2285) (S 2281 4)) (srvA P s c (S 2285) (S 2281 4))
theorem RS.none (hP : PM σ0 P S1 σ) (h : RS T U S S1 p st) (h0 : S 2281 7 = 0) (h6 : S1 2281 6 = 0) (hn : ¬ (7 ≤ S 2281 4 ∧ nu (S 2285) 0 4 = S 2281 4)) : SRV T U σ0 P S s c none σ := by
  refine ⟨rfl, S1, ?_, ?_⟩
  · rw [show srvP P s c (S 2285) (S 2281 4) = P from if_pos hn]
    exact hP
  · rw [show srvE P s c (S 2285) (S 2281 4) = 0 from if_pos hn, show srvA P s c (S 2285) (S 2281 4) = [] from if_pos hn]
    exact ⟨(h.sc (by decide)).trans h0, h6, fun i i0 i1 => absurd i1 (by show ¬ i < 0; omega), h.iv, fun k => h.ask, fun k _ _ h8 h9 h12 _ => h.2.1 k h8 h9 h12, fun f k q1 q2 q3 q4 => h.1 f k (fun e => by rw [e] at q1; exact absurd q1 (by decide)) q3 q4, by decide⟩
theorem RS.at7 (h : RS T U S S1 5 st) (hz : 7 ≤ S 2281 4) : RS T U S (rU S1 2281 8 7) 7 st := by
  have h1 := h.move (q := 7) hz
  have e : pS S1 7 = rU S1 2281 8 7 := by
    unfold pS
    rw [show (if (7 : Int) < 0 then (1 : Int) else 0) = S1 2281 9 by rw [h.2.2.1]; rfl, rU_self, if_neg (by decide)]
  rw [e] at h1
  exact h1
theorem m_srv1 (hP : PM σ0 P S σ) (hR : RS T U S S 0 []) (hI : SI T U s P) (hs : 0 ≤ s ∧ s < 3) (hc : 0 ≤ c ∧ c < 2) (hz4 : S 2281 4 ≤ 420) (h0 : S 2281 7 = 0) (h6 : S 2281 6 = 0) : WP fb (d + 9) 233 25 [some (vR (some 2281)), some (vI s), some (vI c), none] [] σ (SRV T U σ0 P S s c) := by
  obtain ⟨hz0, hz1, hb⟩ := hR.pb
  have hIV := hI.1.1.1
  obtain ⟨z, hz⟩ : ∃ z, S 2281 4 = z := ⟨_, rfl⟩
  rw [hz] at hz0 hz1 hb hz4
  by_cases h7 : z < 7
  · skip
    refine x_lr (z := some 2281) T_233_25 rfl ?_
    refine x_gI (z := z) T_233_26 (Or.inl F_17_4) (PM.t hP) (Eq.trans (PM.nS hP 2281 4 4 rfl rfl rfl) hz) ?_
    refine x_ic T_233_29 ?_
    refine x_ic2 T_233_31 (fun _ => ?_) (fun h => absurd (show z < 7 by omega) h)
    refine x_rv T_233_48 ?_
    exact hR.none hP h0 h6 (by omega)
  · have a0 : av (S 2281 4) 0 4 = 4 := if_neg (by omega)
    obtain ⟨w, hw⟩ : ∃ w, nu (S 2285) 0 4 = w := ⟨_, rfl⟩
    have hv1 : nv (S 2285) (S 2281 4) 0 4 = w := (nv_ok (n := 4) (by decide) (by omega) (by rw [hz]; exact hb)).1.trans hw
    by_cases hwz : w = z
    · obtain ⟨t, ht⟩ : ∃ t, nu (S 2285) 4 1 = t := ⟨_, rfl⟩
      have hm2 := nv_ok (a := S 2285) (z := S 2281 4) (p := 4) (n := 1) (by decide) (by omega) (by rw [hz]; exact hb)
      rw [ht] at hm2
      have htr : 0 ≤ t ∧ t < 256 := hm2.2
      have a1 : av (S 2281 4) 4 1 = 5 := if_neg (by omega)
      have hg : ¬ ¬ (7 ≤ S 2281 4 ∧ nu (S 2285) 0 4 = S 2281 4) := fun q => q ⟨by omega, by omega⟩
      have done : ∀ {σ : hM} {Q S2 : qR} {e : Int} {l : List Int} {t1 : Int}, PM σ0 Q (fin S2) σ → RP T U S S2 e (if e = 0 then t1 else 107) (if e = 0 then l else errL e) → srvP P s c (S 2285) (S 2281 4) = Q → srvE P s c (S 2285) (S 2281 4) = e → (e = 0 → t1 = t + 1 ∧ l = srL P s c t (S 2285) (S 2281 4)) → SRV T U σ0 P S s c none σ := by
        intro σ Q S2 e l t1 hP hRP g1 g2 g3
        refine ⟨rfl, _, by rw [g1]; exact hP, ?_⟩
        rw [g2, show srvA P s c (S 2285) (S 2281 4) = ansL (S 2285) (if e = 0 then t1 else 107) (if e = 0 then l else errL e) by
          unfold srvA
          rw [if_neg hg, g2, ht]
          by_cases e0 : e = 0
          · rw [if_pos e0, if_pos e0, if_pos e0, if_pos e0, (g3 e0).1, (g3 e0).2]
          · rw [if_neg e0, if_neg e0, if_neg e0, if_neg e0]]
        exact SA_fin hRP
      by_cases hbig : P 2313 (2 * s + c) < S 2281 4
      · have g1 : srvP P s c (S 2285) (S 2281 4) = P := (if_neg hg).trans (if_pos hbig)
        have g2 : srvE P s c (S 2285) (S 2281 4) = 14 := (if_neg hg).trans (if_pos hbig)
        refine x_lr (z := some 2281) T_233_25 rfl ?_
        refine x_gI (z := z) T_233_26 (Or.inl F_17_4) (PM.t hP) (Eq.trans (PM.nS hP 2281 4 4 rfl rfl rfl) hz) ?_
        refine x_ic T_233_29 ?_
        refine x_ic2 T_233_31 (fun h => absurd (show z < 7 from h) (by omega)) (fun _ => ?_)
        refine x_lr (z := some 2281) T_233_34 rfl ?_
        refine x_ic T_233_35 ?_
        refine x_cv2 T_233_36 mN_234 mL_234 (Nat.le_of_ble_eq_true rfl) mO_234 (PM.t hP) (Nat.le_of_ble_eq_true rfl) (r_num 4 rfl hP hR (by decide) hv1) ?_
        rintro _ σ ⟨rfl, S1, hP, hR⟩
        rw [a0] at hR
        refine cL ?_
        refine x_lr (z := some 2281) T_233_39 rfl ?_
        refine x_gI (z := z) T_233_40 (Or.inl F_17_4) (PM.t hP) (Eq.trans (PM.nS hP 2281 4 4 rfl rfl rfl) (hR.sz.trans hz)) ?_
        refine x_i2l T_233_43 ?_
        refine x_lif T_233_44 T_233_45 (fun _ => ?_) (fun h => absurd (show w = z by omega) h)
        refine x_lr (z := some 2281) T_233_49 rfl ?_
        refine x_ic T_233_50 ?_
        refine x_cv2 T_233_51 mN_234 mL_234 (Nat.le_of_ble_eq_true rfl) mO_234 (PM.t hP) (Nat.le_of_ble_eq_true rfl) (r_num 1 rfl hP hR (by decide) hm2.1) ?_
        rintro _ σ ⟨rfl, S1, hP, hR⟩
        rw [a1] at hR
        refine cL ?_
        refine x_l2i (w := t) T_233_54 (w32_id (by omega) (by omega)) ?_
        refine x_si (ls1 := [some (vR (some 2281)), some (vI s), some (vI c), some (vI t)]) T_233_55 rfl ?_
        refine x_lr (z := some 2281) T_233_56 rfl ?_
        refine x_ic T_233_57 ?_
        refine y_pIS hP T_233_59 F_17_8 8 rfl rfl (fun σ hP => ?_)
        refine x_lr (z := some 2281) T_233_62 rfl ?_
        have hR7 : RS T U S (rU S1 2281 8 7) 7 [] := hR.at7 (by omega)
        have hz8 : rU S1 2281 8 7 2281 4 = z := hR7.sz.trans hz
        refine x_gI (z := z) T_233_63 (Or.inl F_17_4) (PM.t hP) (Eq.trans (Eq.trans (PM.nS hP 2281 4 4 rfl rfl rfl) (rU_k (by decide))) (hR.sz.trans hz)) ?_
        refine x_lr (z := some 2281) T_233_66 rfl ?_
        refine x_gR (z := some 2313) T_233_67 F_17_37 (PM.t hP) (PM.r hP 37 2313 rfl) ?_
        refine x_ic T_233_70 ?_
        refine x_li (z := s) T_233_71 rfl ?_
        refine x_ib (w := (2 * s)) T_233_72 (fun h => absurd h.1 (by decide)) (w32_id (by omega) (by omega)) ?_
        refine x_li (z := c) T_233_73 rfl ?_
        refine x_ib (w := ((2 * s) + c)) T_233_74 (fun h => absurd h.1 (by decide)) (w32_id (by omega) (by omega)) ?_
        have b1 : 64 ≤ P 2313 ((2 * s) + c) ∧ P 2313 ((2 * s) + c) ≤ 300 := IV.a hIV 2313 0 6 rfl rfl rfl (by omega) (by omega)
        refine x_alI (z := P 2313 ((2 * s) + c)) T_233_75 (by decide) (PM.ta hP 2313 0 6 rfl rfl) (by omega) (by omega) (PM.aP hP 2313 rfl rfl (by omega)) ?_
        refine x_ic2 T_233_76 (fun h => absurd (show z ≤ P 2313 ((2 * s) + c) from h) (by omega)) (fun _ => ?_)
        refine x_lr (z := some 2281) T_233_79 rfl ?_
        refine x_ic T_233_80 ?_
        refine x_cv2 T_233_82 mN_235 mL_235 (Nat.le_of_ble_eq_true rfl) mO_235 (PM.t hP) (Nat.le_of_ble_eq_true rfl) (m_refuse hP (by omega)) ?_
        rintro _ σ ⟨rfl, hP⟩
        refine cV ?_
        refine x_goto T_233_85 ?_
        refine x_lr (z := some 2281) T_233_111 rfl ?_
        refine x_cv1 T_233_112 mN_305 mL_305 (Nat.le_of_ble_eq_true rfl) mO_305 (PM.t hP) (Nat.le_of_ble_eq_true rfl) (m_finish hP (rA_zn rfl rpl_z) (by have := errL_len (e := 14) (by decide); omega)) ?_
        rintro _ σ ⟨rfl, hP⟩
        refine cV ?_
        refine x_rv T_233_115 ?_
        exact done (e := 14) (t1 := 0) (l := []) hP (by rw [if_neg (by decide), if_neg (by decide)]; exact RP_rfs hR7 (by decide)) g1 g2 (fun q => absurd q (by decide))
      · have g1 : srvP P s c (S 2285) (S 2281 4) = srP P s c t (S 2285) (S 2281 4) := by
          rw [← ht]
          exact (if_neg hg).trans (if_neg hbig)
        have g2 : srvE P s c (S 2285) (S 2281 4) = srE P s c t (S 2285) (S 2281 4) := by
          rw [← ht]
          exact (if_neg hg).trans (if_neg hbig)
        refine x_lr (z := some 2281) T_233_25 rfl ?_
        refine x_gI (z := z) T_233_26 (Or.inl F_17_4) (PM.t hP) (Eq.trans (PM.nS hP 2281 4 4 rfl rfl rfl) hz) ?_
        refine x_ic T_233_29 ?_
        refine x_ic2 T_233_31 (fun h => absurd (show z < 7 from h) (by omega)) (fun _ => ?_)
        refine x_lr (z := some 2281) T_233_34 rfl ?_
        refine x_ic T_233_35 ?_
        refine x_cv2 T_233_36 mN_234 mL_234 (Nat.le_of_ble_eq_true rfl) mO_234 (PM.t hP) (Nat.le_of_ble_eq_true rfl) (r_num 4 rfl hP hR (by decide) hv1) ?_
        rintro _ σ ⟨rfl, S1, hP, hR⟩
        rw [a0] at hR
        refine cL ?_
        refine x_lr (z := some 2281) T_233_39 rfl ?_
        refine x_gI (z := z) T_233_40 (Or.inl F_17_4) (PM.t hP) (Eq.trans (PM.nS hP 2281 4 4 rfl rfl rfl) (hR.sz.trans hz)) ?_
        refine x_i2l T_233_43 ?_
        refine x_lif T_233_44 T_233_45 (fun _ => ?_) (fun h => absurd (show w = z by omega) h)
        refine x_lr (z := some 2281) T_233_49 rfl ?_
        refine x_ic T_233_50 ?_
        refine x_cv2 T_233_51 mN_234 mL_234 (Nat.le_of_ble_eq_true rfl) mO_234 (PM.t hP) (Nat.le_of_ble_eq_true rfl) (r_num 1 rfl hP hR (by decide) hm2.1) ?_
        rintro _ σ ⟨rfl, S1, hP, hR⟩
        rw [a1] at hR
        refine cL ?_
        refine x_l2i (w := t) T_233_54 (w32_id (by omega) (by omega)) ?_
        refine x_si (ls1 := [some (vR (some 2281)), some (vI s), some (vI c), some (vI t)]) T_233_55 rfl ?_
        refine x_lr (z := some 2281) T_233_56 rfl ?_
        refine x_ic T_233_57 ?_
        refine y_pIS hP T_233_59 F_17_8 8 rfl rfl (fun σ hP => ?_)
        refine x_lr (z := some 2281) T_233_62 rfl ?_
        have hR7 : RS T U S (rU S1 2281 8 7) 7 [] := hR.at7 (by omega)
        refine x_gI (z := z) T_233_63 (Or.inl F_17_4) (PM.t hP) (Eq.trans (Eq.trans (PM.nS hP 2281 4 4 rfl rfl rfl) (rU_k (by decide))) (hR.sz.trans hz)) ?_
        refine x_lr (z := some 2281) T_233_66 rfl ?_
        refine x_gR (z := some 2313) T_233_67 F_17_37 (PM.t hP) (PM.r hP 37 2313 rfl) ?_
        refine x_ic T_233_70 ?_
        refine x_li (z := s) T_233_71 rfl ?_
        refine x_ib (w := (2 * s)) T_233_72 (fun h => absurd h.1 (by decide)) (w32_id (by omega) (by omega)) ?_
        refine x_li (z := c) T_233_73 rfl ?_
        refine x_ib (w := ((2 * s) + c)) T_233_74 (fun h => absurd h.1 (by decide)) (w32_id (by omega) (by omega)) ?_
        have b1 : 64 ≤ P 2313 ((2 * s) + c) ∧ P 2313 ((2 * s) + c) ≤ 300 := IV.a hIV 2313 0 6 rfl rfl rfl (by omega) (by omega)
        refine x_alI (z := P 2313 ((2 * s) + c)) T_233_75 (by decide) (PM.ta hP 2313 0 6 rfl rfl) (by omega) (by omega) (PM.aP hP 2313 rfl rfl (by omega)) ?_
        refine x_ic2 T_233_76 (fun _ => ?_) (fun h => absurd (show z ≤ P 2313 ((2 * s) + c) by omega) h)
        refine x_li (z := t) T_233_88 rfl ?_
        refine x_ic T_233_89 ?_
        refine x_ic2 T_233_91 (fun h91 => ?_) (fun h91 => ?_)
        · replace h91 : 113 ≤ t := h91
          refine x_lr (z := some 2281) T_233_104 rfl ?_
          refine x_li (z := s) T_233_105 rfl ?_
          refine x_li (z := c) T_233_106 rfl ?_
          refine x_li (z := t) T_233_107 rfl ?_
          refine x_cv4 T_233_108 mN_278 mL_278 (Nat.le_of_ble_eq_true rfl) mO_278 (PM.t hP) (Nat.le_of_ble_eq_true rfl) (m_serveMore hP hR7 hI hs hc (by omega) h0 (by omega) (by omega)) ?_
          rintro _ σ ⟨rfl, S2, hP, hRP⟩
          refine cV ?_
          refine x_lr (z := some 2281) T_233_111 rfl ?_
          refine x_cv1 T_233_112 mN_305 mL_305 (Nat.le_of_ble_eq_true rfl) mO_305 (PM.t hP) (Nat.le_of_ble_eq_true rfl) (m_finish hP hRP.2.1 (by rw [← hRP.2.1]; exact IV.n hRP.2.2.2.1 6 6 rfl rfl (by decide))) ?_
          rintro _ σ ⟨rfl, hP⟩
          refine cV ?_
          refine x_rv T_233_115 ?_
          exact done hP hRP g1 g2 (fun _ => ⟨rfl, rfl⟩)
        · replace h91 : ¬ (113 ≤ t) := h91
          refine x_lr (z := some 2281) T_233_94 rfl ?_
          refine x_li (z := s) T_233_95 rfl ?_
          refine x_li (z := c) T_233_96 rfl ?_
          refine x_li (z := t) T_233_97 rfl ?_
          refine x_cv4 T_233_98 mN_238 mL_238 (Nat.le_of_ble_eq_true rfl) mO_238 (PM.t hP) (Nat.le_of_ble_eq_true rfl) (m_serveFirst hP hR7 hI hs hc (by omega) h0 (by omega) (by omega)) ?_
          rintro _ σ ⟨rfl, S2, hP, hRP⟩
          refine cV ?_
          refine x_goto T_233_101 ?_
          refine x_lr (z := some 2281) T_233_111 rfl ?_
          refine x_cv1 T_233_112 mN_305 mL_305 (Nat.le_of_ble_eq_true rfl) mO_305 (PM.t hP) (Nat.le_of_ble_eq_true rfl) (m_finish hP hRP.2.1 (by rw [← hRP.2.1]; exact IV.n hRP.2.2.2.1 6 6 rfl rfl (by decide))) ?_
          rintro _ σ ⟨rfl, hP⟩
          refine cV ?_
          refine x_rv T_233_115 ?_
          exact done hP hRP g1 g2 (fun _ => ⟨rfl, rfl⟩)
    · skip
      refine x_lr (z := some 2281) T_233_25 rfl ?_
      refine x_gI (z := z) T_233_26 (Or.inl F_17_4) (PM.t hP) (Eq.trans (PM.nS hP 2281 4 4 rfl rfl rfl) hz) ?_
      refine x_ic T_233_29 ?_
      refine x_ic2 T_233_31 (fun h => absurd (show z < 7 from h) (by omega)) (fun _ => ?_)
      refine x_lr (z := some 2281) T_233_34 rfl ?_
      refine x_ic T_233_35 ?_
      refine x_cv2 T_233_36 mN_234 mL_234 (Nat.le_of_ble_eq_true rfl) mO_234 (PM.t hP) (Nat.le_of_ble_eq_true rfl) (r_num 4 rfl hP hR (by decide) hv1) ?_
      rintro _ σ ⟨rfl, S1, hP, hR⟩
      rw [a0] at hR
      refine cL ?_
      refine x_lr (z := some 2281) T_233_39 rfl ?_
      refine x_gI (z := z) T_233_40 (Or.inl F_17_4) (PM.t hP) (Eq.trans (PM.nS hP 2281 4 4 rfl rfl rfl) (hR.sz.trans hz)) ?_
      refine x_i2l T_233_43 ?_
      refine x_lif T_233_44 T_233_45 (fun h => absurd (show w = z from h) (by omega)) (fun _ => ?_)
      refine x_rv T_233_48 ?_
      exact hR.none hP h0 ((hR.sc (by decide)).trans h6) (by omega)
/-- the numbers at hand before a message is served -/
def zS (S : qR) : qR := rU (rU (rU (rU (rU S 2281 7 0) 2281 6 0) 2281 9 0) 2281 12 0) 2281 8 0
theorem zS_f {f : Nat} {k : Int} (h : f ≠ 2281) : zS S f k = S f k := by
  unfold zS
  rw [rU_f h, rU_f h, rU_f h, rU_f h, rU_f h]
theorem zS_k {k : Int} (h6 : k ≠ 6) (h7 : k ≠ 7) (h8 : k ≠ 8) (h9 : k ≠ 9) (h12 : k ≠ 12) : zS S 2281 k = S 2281 k := by
  unfold zS
  rw [rU_k h8, rU_k h12, rU_k h9, rU_k h6, rU_k h7]
theorem SA.zS0 {e : Int} {l : List Int} (h : SA T U (zS S) S1 e l) : SA T U S S1 e l := ⟨h.1, h.2.1, h.2.2.1, h.2.2.2.1, fun k => (h.2.2.2.2.1 k).trans (zS_f (by decide)), fun k k6 k7 k8 k9 k12 k92 => (h.2.2.2.2.2.1 k k6 k7 k8 k9 k12 k92).trans (zS_k k6 k7 k8 k9 k12), fun f k q1 q2 q3 q4 => (h.2.2.2.2.2.2.1 f k q1 q2 q3 q4).trans (zS_f (fun e => by rw [e] at q1; exact absurd q1 (by decide))), h.2.2.2.2.2.2.2⟩
theorem m_serve (hP : PM σ0 P S σ) (hJ : IV true T U S) (hI : SI T U s P) (hs : 0 ≤ s ∧ s < 3) (hc : 0 ≤ c ∧ c < 2) (hz4 : S 2281 4 ≤ 420) : CL fb (d + 9) 233 [vR (some 2281), vI s, vI c] σ (SRV T U σ0 P S s c) := by
  have hz : 0 ≤ S 2281 4 ∧ S 2281 4 ≤ 512 := IV.n hJ 4 4 rfl rfl (by decide)
  have hR : RS T U (zS S) (zS S) 0 [] := by
    refine ⟨fun _ _ _ _ _ => rfl, fun _ _ _ _ => rfl, ?_, ?_, ?_, ?_, ?_, fun i h1 => absurd h1 (by show ¬ i < 0; omega)⟩
    · show rU (rU (rU (rU (rU S 2281 7 0) 2281 6 0) 2281 9 0) 2281 12 0) 2281 8 0 2281 9 = 0
      rw [rU_k (by decide), rU_k (by decide), rU_s]
    · exact rU_s
    · rw [zS_k (by decide) (by decide) (by decide) (by decide) (by decide)]
      exact hz.1
    · exact ((((hJ.uN 7 7 rfl (v := 0) (by show (0 : Int) ≤ 0 ∧ (0 : Int) ≤ 20; decide)).uN 6 6 rfl (v := 0) (by show (0 : Int) ≤ 0 ∧ (0 : Int) ≤ 512; decide)).uN 9 9 rfl (v := 0) (by show (0 : Int) ≤ 0 ∧ (0 : Int) ≤ 1; decide)).uN 12 12 rfl (v := 0) (by show (0 : Int) ≤ 0 ∧ (0 : Int) ≤ 600; decide)).uN 8 8 rfl (v := 0) (by show (0 : Int) ≤ 0 ∧ (0 : Int) ≤ 513; decide)
    · show rU (rU (rU (rU (rU S 2281 7 0) 2281 6 0) 2281 9 0) 2281 12 0) 2281 8 0 2281 12 = 0
      rw [rU_k (by decide), rU_s]
  have ha : zS S 2285 = S 2285 := funext (fun k => zS_f (by decide))
  have hz2 : zS S 2281 4 = S 2281 4 := zS_k (by decide) (by decide) (by decide) (by decide) (by decide)
  have h7 : zS S 2281 7 = 0 := by
    show rU (rU (rU (rU (rU S 2281 7 0) 2281 6 0) 2281 9 0) 2281 12 0) 2281 8 0 2281 7 = 0
    rw [rU_k (by decide), rU_k (by decide), rU_k (by decide), rU_k (by decide), rU_s]
  have h6 : zS S 2281 6 = 0 := by
    show rU (rU (rU (rU (rU S 2281 7 0) 2281 6 0) 2281 9 0) 2281 12 0) 2281 8 0 2281 6 = 0
    rw [rU_k (by decide), rU_k (by decide), rU_k (by decide), rU_s]
  refine CL_in mL_233 rfl ?_
  show WP fb _ 233 0 [some (vR (some 2281)), some (vI s), some (vI c), none] [] σ _
  refine x_lr (z := some 2281) T_233_0 rfl ?_
  refine x_ic T_233_1 ?_
  refine y_pIS hP T_233_2 F_17_7 7 rfl rfl (fun σ hP => ?_)
  refine x_lr (z := some 2281) T_233_5 rfl ?_
  refine x_ic T_233_6 ?_
  refine y_pIS hP T_233_7 F_17_6 6 rfl rfl (fun σ hP => ?_)
  refine x_lr (z := some 2281) T_233_10 rfl ?_
  refine x_ic T_233_11 ?_
  refine y_pZS hP T_233_12 F_17_9 rfl 9 rfl rfl (fun σ hP => ?_)
  refine x_lr (z := some 2281) T_233_15 rfl ?_
  refine x_ic T_233_16 ?_
  refine y_pIS hP T_233_17 F_17_12 12 rfl rfl (fun σ hP => ?_)
  refine x_lr (z := some 2281) T_233_20 rfl ?_
  refine x_ic T_233_21 ?_
  refine y_pIS hP T_233_22 F_17_8 8 rfl rfl (fun σ hP => ?_)
  refine (m_srv1 (d := d) (S := zS S) hP hR hI hs hc (by rw [hz2]; exact hz4) h7 h6).mono ?_
  rintro r σ1 ⟨q1, S2, q2, q3⟩
  rw [ha, hz2] at q2 q3
  exact ⟨q1, S2, q2, q3.zS0⟩
end MSERVE9
