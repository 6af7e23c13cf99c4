/-! The class's kernel: a point's members are clunked. -/
theorem T_178_0 : hTab 178 0 = some ((0, 0, 0, []), 1) := rfl
theorem T_178_1 : hTab 178 1 = some ((4, 2, 0, []), 2) := rfl
theorem T_178_2 : hTab 178 2 = some ((3, 1, 2, []), 3) := rfl
theorem T_178_3 : hTab 178 3 = some ((20, 0, Int.ofNat 57, []), 6) := rfl
theorem T_178_6 : hTab 178 6 = some ((3, 2, 0, []), 7) := rfl
theorem T_178_7 : hTab 178 7 = some ((3, 1, 2, []), 8) := rfl
theorem T_178_8 : hTab 178 8 = some ((24, 4, Int.ofNat 3, []), 11) := rfl
theorem T_178_11 : hTab 178 11 = some ((19, 3, Int.ofNat 57, []), 14) := rfl
theorem T_178_14 : hTab 178 14 = some ((3, 1, 2, []), 15) := rfl
theorem T_178_15 : hTab 178 15 = some ((3, 2, 0, []), 16) := rfl
theorem T_178_16 : hTab 178 16 = some ((31, 130, 0, []), 19) := rfl
theorem T_178_19 : hTab 178 19 = some ((4, 3, 2, []), 20) := rfl
theorem T_178_20 : hTab 178 20 = some ((3, 3, 2, []), 21) := rfl
theorem T_178_21 : hTab 178 21 = some ((20, 0, Int.ofNat 51, []), 24) := rfl
theorem T_178_24 : hTab 178 24 = some ((3, 0, 2, []), 25) := rfl
theorem T_178_25 : hTab 178 25 = some ((3, 3, 2, []), 26) := rfl
theorem T_178_26 : hTab 178 26 = some ((24, 5, Int.ofNat 0, []), 29) := rfl
theorem T_178_29 : hTab 178 29 = some ((31, 122, 0, []), 32) := rfl
theorem T_178_32 : hTab 178 32 = some ((0, 0, 0, []), 33) := rfl
theorem T_178_33 : hTab 178 33 = some ((3, 0, 2, []), 34) := rfl
theorem T_178_34 : hTab 178 34 = some ((0, 0, 120, []), 36) := rfl
theorem T_178_36 : hTab 178 36 = some ((3, 3, 2, []), 37) := rfl
theorem T_178_37 : hTab 178 37 = some ((24, 5, Int.ofNat 1, []), 40) := rfl
theorem T_178_40 : hTab 178 40 = some ((31, 131, 0, []), 43) := rfl
theorem T_178_43 : hTab 178 43 = some ((3, 0, 2, []), 44) := rfl
theorem T_178_44 : hTab 178 44 = some ((24, 1, Int.ofNat 2, []), 47) := rfl
theorem T_178_47 : hTab 178 47 = some ((31, 26, 0, []), 50) := rfl
theorem T_178_50 : hTab 178 50 = some ((7, 0, 0, []), 51) := rfl
theorem T_178_51 : hTab 178 51 = some ((5, 2, 1, []), 54) := rfl
theorem T_178_54 : hTab 178 54 = some ((22, 0, Int.ofNat 2, []), 57) := rfl
theorem T_178_57 : hTab 178 57 = some ((3, 1, 2, []), 58) := rfl
theorem T_178_58 : hTab 178 58 = some ((20, 0, Int.ofNat 66, []), 61) := rfl
theorem T_178_61 : hTab 178 61 = some ((3, 1, 2, []), 62) := rfl
theorem T_178_62 : hTab 178 62 = some ((0, 0, 0, []), 63) := rfl
theorem T_178_63 : hTab 178 63 = some ((25, 4, Int.ofNat 3, []), 66) := rfl
theorem T_178_66 : hTab 178 66 = some ((33, 0, 0, []), 67) := rfl
theorem mN_178 : hmN 178 = 2 := by decide +kernel
theorem mL_178 : hmL 178 = 4 := by decide +kernel
theorem mK_178 : hmK 178 = 1 := by decide +kernel
theorem mO_178 : hmO 178 = 1 := by decide +kernel
section XCLM
variable {fb : Bool} {d S b c q a0 y0 : Nat} {σ0 σ : hM} {W W1 W2 V P Q : qR} {R R1 R2 V3 : rR} {i j k x z v s e w f g u p pt K T U t n : Int} {l l0 lo nm M A : List Int}
theorem clm_loop (hpt : 0 ≤ pt ∧ pt < 64) (hn : n ≤ 6) {Qf : Option AV → hM → Prop} : ∀ (m : Nat) (j T : Int) (σ : hM) (V : qR) (V3 : rR) (Q : qR) (x3 : Option AV), j + m = n → 0 ≤ j → Q 2337 pt = n → T + 4 * m + 110 ≤ 2147483000 → PX σ0 V V3 σ → XM K T U V V3 Q → PTM V V3 y0 Q pt → (∀ (σ : hM) (V2 : qR) (V4 : rR) (x3 : Option AV), PX σ0 V2 V4 σ → XM K (T + 4 * m) U V2 V4 (kDrM pt m j Q) → FA V V2 V3 V4 → WP fb (d + 8) 178 57 [some (vR (some 129)), some (vR (some y0)), some (vI n), x3] [] σ Qf) → WP fb (d + 8) 178 2 [some (vR (some 129)), some (vR (some y0)), some (vI j), x3] [] σ Qf := by
  intro m
  induction m with
  | zero =>
    intro j T σ V V3 Q x3 h1 h2 h3 h4 hP hX hM hc
    have h1 : j + ((0 : Nat) : Int) = n := h1
    have hj : j = n := by omega
    subst hj
    obtain ⟨hyo, hya, hyr, hyc, hym⟩ := hM
    have hyc := hyc.trans h3
    have hgo := fun (x3 : Option AV) => hc σ V V3 x3 hP (hX.mono (by omega)) FA_rfl
    refine x_lr (z := some y0) T_178_2 rfl ?_
    refine x_nul T_178_3 (fun h0 => absurd h0 (by simp)) (fun _ _ => ?_)
    refine x_li (z := j) T_178_6 rfl ?_
    refine x_lr (z := some y0) T_178_7 rfl ?_
    refine x_gI (z := j) T_178_8 (Or.inl F_4_3) (hP.o hyo) (Eq.trans (hP.gi hyo (key := 2131) rfl) hyc) ?_
    refine x_ic2 T_178_11 (fun _ => ?_) (fun h => absurd (show j ≤ j by omega) h)
    exact hgo x3
  | succ m ih =>
    intro j T σ V V3 Q x3 h1 h2 h3 h4 hP hX hM hc
    have hI := hX.2.2.1.iv
    have hb1 : 0 ≤ Q 2338 (6 * pt + j) ∧ Q 2338 (6 * pt + j) ≤ 2 := IV.a hI 2338 0 384 rfl rfl rfl (by omega) (by omega)
    have hb2 : 0 ≤ Q 2339 (6 * pt + j) ∧ Q 2339 (6 * pt + j) ≤ 47 := IV.a hI 2339 0 384 rfl rfl rfl (by omega) (by omega)
    have hM0 := hM
    obtain ⟨hyo, hya, hyr, hyc, hym⟩ := hM
    have hyc := hyc.trans h3
    obtain ⟨c0, c1, c2, c3, m1, m2, -⟩ := hym j h2 (by omega)
    have hmo := x_memberOf (fb := fb) (d := d + 7) (k := j) hP hyo hya (by omega) hyc ⟨by omega, hn⟩ (fun _ _ => c1)
    rw [if_pos ⟨h2, by omega⟩] at hmo
    have eK : kDrM pt (m + 1) j Q = kDrM pt m (j + 1) (tP Q (Q 2338 (6 * pt + j)) (mOne 120 (Q 2339 (6 * pt + j)))) := rfl
    rw [eK] at hc
    obtain ⟨s, hsv⟩ : ∃ y, Q 2338 (6 * pt + j) = y := ⟨_, rfl⟩
    obtain ⟨f, hfd⟩ : ∃ y, Q 2339 (6 * pt + j) = y := ⟨_, rfl⟩
    rw [hsv] at m1 hb1 hc
    rw [hfd] at m2 hb2 hc
    have hs : 0 ≤ s ∧ s < 3 := ⟨hb1.1, by omega⟩
    have hho := x_host (fb := fb) (d := d + 7) (s := s) hP hs
    have hO := srv_o hs
    have hab := x_about (fb := fb) (d := d + 4) (t := 120) (f := f) hP (by decide) ⟨by omega, by omega⟩
    obtain ⟨o1, o2, o3, o4⟩ := mOne_ok (t := 120) (f := f) (Or.inl rfl)
    have hak := fun (σ : hM) (V2 : qR) (hP : PX σ0 V2 V3 σ) (hF : FR1 V V2) (hB : BY V2 138 300 (mFr (mOne 120 f))) => x_askX (fb := fb) (d := d) hP (hX.fr1 hF) (by omega) hs hB o1 o2 o3 o4
    have hkf : KF (tP Q s (mOne 120 f)) Q := KF_tP
    have hgo := fun (σ : hM) (V5 : qR) (V6 : rR) (x3 : Option AV) (hP : PX σ0 V5 V6 σ) (hX5 : XM K (T + 4) U V5 V6 (tP Q s (mOne 120 f))) (hA : FA V V5 V3 V6) => ih (j + 1) (T + 4) σ V5 V6 (tP Q s (mOne 120 f)) x3 (by omega) (by omega) ((nsR_kf hkf 2337 _ rfl).trans h3) (by omega) hP hX5 (hM0.frn hA.ns.1 hA.ns.2 (fun f k hf => nsR_kf hkf f k hf)) (fun σ V7 V8 x3 g1 g2 g3 => hc σ V7 V8 x3 g1 (g2.mono (by omega)) (FA_tr hA g3))
    obtain ⟨e, he⟩ : ∃ q, tE Q s (mOne 120 f) = q := ⟨_, rfl⟩
    obtain ⟨sv, hsw⟩ : ∃ q, 1293 + 294 * s.toNat = q := ⟨_, rfl⟩
    rw [hsw] at hho hO
    simp only [he, hsw] at hak
    refine x_lr (z := some y0) T_178_2 rfl ?_
    refine x_nul T_178_3 (fun h0 => absurd h0 (by simp)) (fun _ _ => ?_)
    refine x_li (z := j) T_178_6 rfl ?_
    refine x_lr (z := some y0) T_178_7 rfl ?_
    refine x_gI (z := n) T_178_8 (Or.inl F_4_3) (hP.o hyo) (Eq.trans (hP.gi hyo (key := 2131) rfl) hyc) ?_
    refine x_ic2 T_178_11 (fun h => absurd (show n ≤ j from h) (by omega)) (fun _ => ?_)
    refine x_lr (z := some y0) T_178_14 rfl ?_
    refine x_li (z := j) T_178_15 rfl ?_
    refine x_cv2 T_178_16 mN_130 mL_130 (Nat.le_of_ble_eq_true rfl) mO_130 (hP.o hyo) (Nat.le_of_ble_eq_true rfl) (hmo) ?_
    rintro _ σ ⟨rfl, rfl⟩
    refine cR ?_
    refine x_sr (ls1 := [some (vR (some 129)), some (vR (some y0)), some (vI j), some (vR (some c0))]) T_178_19 rfl ?_
    refine x_lr (z := some c0) T_178_20 rfl ?_
    refine x_nul T_178_21 (fun h0 => absurd h0 (by simp)) (fun _ _ => ?_)
    refine x_lr (z := some 129) T_178_24 rfl ?_
    refine x_lr (z := some c0) T_178_25 rfl ?_
    refine x_gI (z := s) T_178_26 (Or.inl F_5_0) (hP.o c2) (Eq.trans (hP.gi c2 (key := 2160) rfl) m1) ?_
    refine x_cv2 T_178_29 mN_122 mL_122 (Nat.le_of_ble_eq_true rfl) mO_122 (hP.o xo_129) (Nat.le_of_ble_eq_true rfl) (hho) ?_
    rintro _ σ ⟨rfl, rfl⟩
    refine cR ?_
    refine x_ic T_178_32 ?_
    refine x_lr (z := some 129) T_178_33 rfl ?_
    refine x_ic T_178_34 ?_
    refine x_lr (z := some c0) T_178_36 rfl ?_
    refine x_gI (z := f) T_178_37 (Or.inl F_5_1) (hP.o c2) (Eq.trans (hP.gi c2 (key := 2161) rfl) m2) ?_
    refine x_cv3 T_178_40 mN_131 mL_131 (Nat.le_of_ble_eq_true rfl) mO_131 (hP.o xo_129) (Nat.le_of_ble_eq_true rfl) (hab) ?_
    clear hP hab
    rintro _ σ ⟨rfl, V4, hP, hB4, hF4⟩
    refine cR ?_
    refine x_lr (z := some 129) T_178_43 rfl ?_
    refine x_gR (z := some 134) T_178_44 F_1_2 (hP.o xo_129) (hP.rc xo_129 rfl rfl) ?_
    refine x_cv4 T_178_47 mN_26 mL_26 (Nat.le_of_ble_eq_true rfl) mO_26 (hP.o hO) (Nat.le_of_ble_eq_true rfl) (hak σ V4 hP hF4 hB4) ?_
    clear hP hak
    rintro _ σ ⟨rfl, V5, V6, hP, hX5, hB5, hF5⟩
    refine cI ?_
    refine x_popI T_178_50 ?_
    refine x_inc (w := (j + 1)) (ls1 := [some (vR (some 129)), some (vR (some y0)), some (vI (j + 1)), some (vR (some c0))]) T_178_51 rfl (w32_id (by omega) (by omega)) rfl ?_
    refine x_goto T_178_54 ?_
    exact hgo σ V5 V6 _ hP hX5 (FA_tr (FA_fr hF4) (FA_fs hF5))
theorem x_clunkM (hP : PX σ0 W R σ) (hX : XM K T U W R P) (hM : PTM W R y0 P pt) (hpt : 0 ≤ pt ∧ pt < 64) (hn : P 2337 pt = n) (hT : T + 200 ≤ 2147483000) : CL fb (d + 8) 178 [vR (some 129), vR (some y0)] σ (fun r σ' => r = none ∧ ∃ W2 R2, PX σ0 W2 R2 σ' ∧ XM K (T + 24) U W2 R2 (kDrM pt n.toNat 0 P) ∧ FCL y0 W W2 R R2 ∧ W2 y0 2131 = 0) := by
  have hn6 : 0 ≤ P 2337 pt ∧ P 2337 pt ≤ 6 := IV.a hX.2.2.1.iv 2337 0 64 rfl rfl rfl (by omega) (by omega)
  rw [hn] at hn6
  obtain ⟨hyo, hya, hyr, -, -⟩ := id hM
  have hgo := fun (h57 : _) => clm_loop (fb := fb) (d := d) (σ0 := σ0) (K := K) (U := U) (y0 := y0) (n := n) (Qf := fun r σ' => r = none ∧ ∃ W2 R2, PX σ0 W2 R2 σ' ∧ XM K (T + 24) U W2 R2 (kDrM pt n.toNat 0 P) ∧ FCL y0 W W2 R R2 ∧ W2 y0 2131 = 0) hpt hn6.2 n.toNat 0 T σ W R P none (by omega) (by decide) hn (by omega) hP hX hM h57
  refine CL_in mL_178 rfl ?_
  show WP fb _ 178 0 [some (vR (some 129)), some (vR (some y0)), none, none] [] σ _
  refine x_ic T_178_0 ?_
  refine x_si (ls1 := [some (vR (some 129)), some (vR (some y0)), some (vI 0), none]) T_178_1 rfl ?_
  refine hgo ?_
  clear hP
  intro σ V2 V4 x3 hP hX2 hA
  have hX3 : XM K (T + 24) U (rU V2 y0 2131 0) V4 (kDrM pt n.toNat 0 P) := (hX2.mono (T2 := T + 24) (by omega)).rowG RF_rfl (hX2.2.2.1.mono (by omega)) (fun x k hx => if_neg (by omega)) (fun _ _ _ => rfl) (fun p p0 p1 hl => (hX2.2.2.2.2.1 p p0 p1 hl).hold (fun x k hk => if_neg (by omega)) (fun _ => ⟨rfl, rfl⟩))
  refine x_lr (z := some y0) T_178_57 rfl ?_
  refine x_nul T_178_58 (fun h0 => absurd h0 (by simp)) (fun _ _ => ?_)
  refine x_lr (z := some y0) T_178_61 rfl ?_
  refine x_ic T_178_62 ?_
  refine z_pI hP T_178_63 F_4_3 hyo (key := 2131) rfl (fun σ hP => ?_)
  refine x_rv T_178_66 ?_
  exact ⟨rfl, _, V4, hP, hX3, FCL_tr (FCL_fa hA) ⟨fun x k _ _ _ _ hk => if_neg hk, fun _ _ _ => rfl⟩, rU_s⟩
end XCLM
