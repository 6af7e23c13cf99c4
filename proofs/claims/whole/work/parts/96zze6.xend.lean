/-! The class's kernel: a process ends: its descriptors, its group's points. -/
theorem T_170_10 : hTab 170 10 = some ((33, 0, 0, []), 11) := rfl
theorem T_201_2 : hTab 201 2 = some ((3, 2, 0, []), 3) := rfl
theorem T_201_3 : hTab 201 3 = some ((0, 0, 8, []), 5) := rfl
theorem T_201_5 : hTab 201 5 = some ((19, 3, Int.ofNat 20, []), 8) := rfl
theorem T_201_8 : hTab 201 8 = some ((3, 0, 2, []), 9) := rfl
theorem T_201_9 : hTab 201 9 = some ((3, 1, 2, []), 10) := rfl
theorem T_201_10 : hTab 201 10 = some ((3, 2, 0, []), 11) := rfl
theorem T_201_11 : hTab 201 11 = some ((31, 170, 0, []), 14) := rfl
theorem T_201_14 : hTab 201 14 = some ((5, 2, 1, []), 17) := rfl
theorem T_201_17 : hTab 201 17 = some ((22, 0, Int.ofNat 2, []), 20) := rfl
theorem T_201_45 : hTab 201 45 = some ((3, 2, 0, []), 46) := rfl
theorem T_201_46 : hTab 201 46 = some ((3, 1, 2, []), 47) := rfl
theorem T_201_47 : hTab 201 47 = some ((24, 6, Int.ofNat 9, []), 50) := rfl
theorem T_201_50 : hTab 201 50 = some ((24, 3, Int.ofNat 1, []), 53) := rfl
theorem T_201_53 : hTab 201 53 = some ((19, 3, Int.ofNat 74, []), 56) := rfl
theorem T_201_56 : hTab 201 56 = some ((3, 0, 2, []), 57) := rfl
theorem T_201_57 : hTab 201 57 = some ((3, 1, 2, []), 58) := rfl
theorem T_201_58 : hTab 201 58 = some ((24, 6, Int.ofNat 9, []), 61) := rfl
theorem T_201_61 : hTab 201 61 = some ((3, 2, 0, []), 62) := rfl
theorem T_201_62 : hTab 201 62 = some ((31, 189, 0, []), 65) := rfl
theorem T_201_65 : hTab 201 65 = some ((31, 178, 0, []), 68) := rfl
theorem T_201_68 : hTab 201 68 = some ((5, 2, 1, []), 71) := rfl
theorem T_201_71 : hTab 201 71 = some ((22, 0, Int.ofNat 45, []), 74) := rfl
theorem mN_201 : hmN 201 = 2 := by decide +kernel
theorem mL_201 : hmL 201 = 3 := by decide +kernel
theorem mK_201 : hmK 201 = 1 := by decide +kernel
theorem mO_201 : hmO 201 = 1 := by decide +kernel
/-- no point's number of members, no message's places: all else stays -/
def FCG (g : Int) (W W2 : qR) (R R2 : rR) : Prop := (∀ (x : Nat) (k : Int), 229 ≤ x → (x < 1293 ∨ 2175 ≤ x) → x < 2372 → k ≠ 2198 → ¬ (k = 2131 ∧ grO g ≤ x ∧ x < grO g + 66) → W2 x k = W x k) ∧ ∀ (x : Nat) (k : Int), (x < 1293 ∨ 2175 ≤ x) → R2 x k = R x k
section XEND
variable {fb : Bool} {d S b c q a0 y0 y2 : Nat} {σ0 σ : hM} {W W1 W2 V P Q : qR} {R R1 R2 V3 : rR} {i j k x z v s e w f g u p pt K T U t n o : Int} {l l0 lo nm M A : List Int}
theorem FCG_rfl : FCG g W W R R := ⟨fun _ _ _ _ _ _ _ => rfl, fun _ _ _ => rfl⟩
theorem FCG_tr (h1 : FCG g W W1 R R1) (h2 : FCG g W1 W2 R1 R2) : FCG g W W2 R R2 := ⟨fun x k a b c e f => (h2.1 x k a b c e f).trans (h1.1 x k a b c e f), fun x k a => (h2.2 x k a).trans (h1.2 x k a)⟩
theorem FCG_cl (h : FCL y0 W W2 R R2) (hy : grO g ≤ y0 ∧ y0 < grO g + 66) : FCG g W W2 R R2 := ⟨fun x k a b c e f => h.1 x k a b c e (fun q => f ⟨q.2, by omega, by omega⟩), h.2⟩
theorem FCG_fa (h : FA W W2 R R2) : FCG g W W2 R R2 := ⟨fun x k a b c e _ => (FCL_fa (y0 := 0) h).1 x k a b c e (by omega), h.2⟩
theorem cClP_op (ho : P 2327 (8 * p + k) = o) : cClP P p k 2327 x = if x = 8 * p + k then -1 else P 2327 x := by
  rw [cClP_C1 ho]
  split
  · rw [tP_f (by decide) (by decide) (by decide) (by decide)]
    exact gC1_op
  · exact gC1_op
theorem enCl_out : ∀ (m : Nat) (k : Int) (P : qR), x < 8 * p + k → enCl p m k P 2327 x = P 2327 x
  | 0, _, _, _ => rfl
  | m + 1, k, P, h => by
    show enCl p m (k + 1) (if P 2327 (8 * p + k) < 0 then P else cClP P p k) 2327 x = P 2327 x
    rw [enCl_out m (k + 1) _ (by omega)]
    split
    · rfl
    · rw [cClP_op rfl, if_neg (by omega)]
theorem enCl_neg : ∀ (m : Nat) (k : Int) (P : qR) (j : Int), k ≤ j → j < k + (m : Int) → enCl p m k P 2327 (8 * p + j) < 0
  | 0, k, _, j, h1, h2 => by omega
  | m + 1, k, P, j, h1, h2 => by
    show enCl p m (k + 1) (if P 2327 (8 * p + k) < 0 then P else cClP P p k) 2327 (8 * p + j) < 0
    by_cases q : j = k
    · subst q
      rw [enCl_out m (j + 1) _ (by omega)]
      split
      · assumption
      · rw [cClP_op rfl, if_pos rfl]
        decide
    · exact enCl_neg m (k + 1) _ j (by omega) (by omega)
theorem enCl_oth : ∀ (m : Nat) (k : Int) (P : qR), 8 * p + k + m ≤ x → enCl p m k P 2327 x = P 2327 x
  | 0, _, _, _ => rfl
  | m + 1, k, P, h => by
    show enCl p m (k + 1) (if P 2327 (8 * p + k) < 0 then P else cClP P p k) 2327 x = P 2327 x
    rw [enCl_oth m (k + 1) _ (by omega)]
    split
    · rfl
    · rw [cClP_op rfl, if_neg (by omega)]
theorem x_closeK0 (hP : PX σ0 W R σ) (hX : XN W R P) (hp : 0 ≤ p ∧ p < 8) (hlv : ¬ P 2320 p = 0) (hk : 0 ≤ k ∧ k < 8) (ho : P 2327 (8 * p + k) < 0) : CL fb (d + 1) 170 [vR (some 129), vR (some (prO p)), vI k] σ (fun r σ' => r = none ∧ σ' = σ) := by
  have hop := x_opOf (fb := fb) (d := d) (k := k) hP hX hp hlv hk
  have hpo := prO_o hp
  rw [if_pos ho] at hop
  obtain ⟨pr, hpr⟩ : ∃ q, prO p = q := ⟨_, rfl⟩
  rw [hpr] at hop hpo ⊢
  refine CL_in mL_170 rfl ?_
  show WP fb _ 170 0 [some (vR (some 129)), some (vR (some pr)), some (vI k), none] [] σ _
  refine x_lr (z := some pr) T_170_0 rfl ?_
  refine x_li (z := k) T_170_1 rfl ?_
  refine x_cv2 T_170_2 mN_166 mL_166 (Nat.le_of_ble_eq_true rfl) mO_166 (hP.o hpo) (Nat.le_of_ble_eq_true rfl) (hop) ?_
  rintro _ σ ⟨rfl, rfl⟩
  refine cR ?_
  refine x_sr (ls1 := [some (vR (some 129)), some (vR (some pr)), some (vI k), some (vR none)]) T_170_5 rfl ?_
  refine x_lr (z := none) T_170_6 rfl ?_
  refine x_nnul T_170_7 (fun a0 h0 => absurd h0 (by simp)) (fun _ => ?_)
  refine x_rv T_170_10 ?_
  exact ⟨rfl, rfl⟩
theorem end_cl (hp : 0 ≤ p ∧ p < 8) {Qf : Option AV → hM → Prop} : ∀ (m : Nat) (k T : Int) (σ : hM) (V : qR) (V3 : rR) (Q : qR), k + m = 8 → 0 ≤ k → T + 4 * m + 110 ≤ 2147483000 → PX σ0 V V3 σ → XW K T U V V3 Q → ¬ Q 2320 p = 0 → (∀ (σ : hM) (V2 : qR) (V4 : rR), PX σ0 V2 V4 σ → XW K (T + 4 * m) U V2 V4 (enCl p m k Q) → FCM V V2 V3 V4 → WP fb (d + 9) 201 20 [some (vR (some 129)), some (vR (some (prO p))), some (vI 8)] [] σ Qf) → WP fb (d + 9) 201 2 [some (vR (some 129)), some (vR (some (prO p))), some (vI k)] [] σ Qf := by
  have hpo := prO_o hp
  intro m
  induction m with
  | zero =>
    intro k T σ V V3 Q h1 h2 h3 hP hX hlv hc
    have h1 : k + ((0 : Nat) : Int) = 8 := h1
    have hk : k = 8 := by omega
    subst hk
    have hgo := hc σ V V3 hP (hX.mono (by omega)) FCM_rfl
    obtain ⟨pr, hpr⟩ : ∃ q, prO p = q := ⟨_, rfl⟩
    rw [hpr] at hpo hgo ⊢
    refine x_li (z := 8) T_201_2 rfl ?_
    refine x_ic T_201_3 ?_
    refine x_ic2 T_201_5 (fun _ => ?_) (fun h => absurd (show 8 ≤ (8 : Int) by decide) h)
    exact hgo
  | succ m ih =>
    intro k T σ V V3 Q h1 h2 h3 hP hX hlv hc
    have eK : enCl p (m + 1) k Q = enCl p m (k + 1) (if Q 2327 (8 * p + k) < 0 then Q else cClP Q p k) := rfl
    rw [eK] at hc
    by_cases q : Q 2327 (8 * p + k) < 0
    · rw [if_pos q] at hc
      have hck := x_closeK0 (fb := fb) (d := d + 7) hP hX.1.2.2.1 hp hlv ⟨h2, by omega⟩ q
      have hgo := fun (σ : hM) (hP : PX σ0 V V3 σ) => ih (k + 1) (T + 4) σ V V3 Q (by omega) (by omega) (by omega) hP (hX.mono (by omega)) hlv (fun σ V2 V4 g1 g2 g3 => hc σ V2 V4 g1 (XW.mono g2 (by omega)) g3)
      obtain ⟨pr, hpr⟩ : ∃ q, prO p = q := ⟨_, rfl⟩
      simp only [hpr] at hpo hgo hck ⊢
      refine x_li (z := k) T_201_2 rfl ?_
      refine x_ic T_201_3 ?_
      refine x_ic2 T_201_5 (fun h => absurd (show 8 ≤ k from h) (by omega)) (fun _ => ?_)
      refine x_lr (z := some 129) T_201_8 rfl ?_
      refine x_lr (z := some pr) T_201_9 rfl ?_
      refine x_li (z := k) T_201_10 rfl ?_
      refine x_cv3 T_201_11 mN_170 mL_170 (Nat.le_of_ble_eq_true rfl) mO_170 (hP.o xo_129) (Nat.le_of_ble_eq_true rfl) (hck) ?_
      rintro _ σ1 ⟨rfl, rfl⟩
      refine cV ?_
      refine x_inc (w := (k + 1)) (ls1 := [some (vR (some 129)), some (vR (some pr)), some (vI (k + 1))]) T_201_14 rfl (w32_id (by omega) (by omega)) rfl ?_
      refine x_goto T_201_17 ?_
      exact hgo _ hP
    · rw [if_neg q] at hc
      have hck := x_closeK (fb := fb) (d := d) hP hX (by omega) hp hlv (dd := k) ⟨h2, by omega⟩ (by omega)
      have hl2 : ¬ cClP Q p k 2320 p = 0 := by
        rw [cClP_kf rfl (by decide) (by decide) (by decide) (by decide) (by decide)]
        exact hlv
      have hgo := fun (σ : hM) (V5 : qR) (V6 : rR) (hP : PX σ0 V5 V6 σ) (hX5 : XW K (T + 4) U V5 V6 (cClP Q p k)) (hF : FCM V V5 V3 V6) => ih (k + 1) (T + 4) σ V5 V6 (cClP Q p k) (by omega) (by omega) (by omega) hP hX5 hl2 (fun σ V2 V4 g1 g2 g3 => hc σ V2 V4 g1 (XW.mono g2 (by omega)) (FCM_tr hF g3))
      obtain ⟨pr, hpr⟩ : ∃ q, prO p = q := ⟨_, rfl⟩
      simp only [hpr] at hpo hgo hck ⊢
      refine x_li (z := k) T_201_2 rfl ?_
      refine x_ic T_201_3 ?_
      refine x_ic2 T_201_5 (fun h => absurd (show 8 ≤ k from h) (by omega)) (fun _ => ?_)
      refine x_lr (z := some 129) T_201_8 rfl ?_
      refine x_lr (z := some pr) T_201_9 rfl ?_
      refine x_li (z := k) T_201_10 rfl ?_
      refine x_cv3 T_201_11 mN_170 mL_170 (Nat.le_of_ble_eq_true rfl) mO_170 (hP.o xo_129) (Nat.le_of_ble_eq_true rfl) (hck) ?_
      clear hP hck
      rintro _ σ ⟨rfl, V5, V6, hP, hX5, hF5⟩
      refine cV ?_
      refine x_inc (w := (k + 1)) (ls1 := [some (vR (some 129)), some (vR (some pr)), some (vI (k + 1))]) T_201_14 rfl (w32_id (by omega) (by omega)) rfl ?_
      refine x_goto T_201_17 ?_
      exact hgo σ V5 V6 hP hX5 hF5
theorem PTM.set {v : Int} (h : PTM (rU W y2 2131 v) R y0 P x) (hne : y0 ≠ y2) : PTM W R y0 P x := by
  obtain ⟨a1, a2, a3, a4, a5⟩ := h
  refine ⟨a1, a2, a3, by rw [← a4]; exact (rU_f hne).symm, fun j j0 j1 => ?_⟩
  obtain ⟨cc, c0, c1, c2, m1, m2, m3, m4, m5⟩ := a5 j j0 j1
  exact ⟨cc, c0, c1, c2, (rU_j (by decide)).symm.trans m1, (rU_j (by decide)).symm.trans m2, (rU_j (by decide)).symm.trans m3, (rU_j (by decide)).symm.trans m4, (rU_j (by decide)).symm.trans m5⟩
theorem PTM.fcl (h : PTM W R y0 P x) (hF : FCL y2 W W2 R R2) (hne : y0 ≠ y2) (hQ : ∀ (f : Nat) (k : Int), nsR.elem f = true → Q f k = P f k) : PTM W2 R2 y0 Q x := by
  refine (h.frn (W2 := rU W2 y2 2131 (W y2 2131)) (R2 := R2) (Q := Q) (fun x k x0 x1 hk => ?_) (fun x k _ x1 => hF.2 x k (Or.inl x1)) hQ).set hne
  by_cases q : x = y2 ∧ k = 2131
  · rw [q.1, q.2]
    exact rU_s
  · exact (if_neg q).trans (hF.1 x k x0 (Or.inl x1) (by omega) hk q)
/-- a group's points' members are clunked, where its last process goes -/
theorem end_dr (hp : 0 ≤ p ∧ p < 8) (hg : 0 ≤ g ∧ g < 8) (hn8 : n ≤ 8) (hinj : ∀ i j : Int, 0 ≤ i → i < 8 → 0 ≤ j → j < 8 → R (grO g + 1) i = R (grO g + 1) j → i = j) {Qf : Option AV → hM → Prop} : ∀ (m : Nat) (k T : Int) (σ : hM) (V : qR) (V3 : rR) (Q : qR), k + m = n → 0 ≤ k → T + 24 * m + 200 ≤ 2147483000 → PX σ0 V V3 σ → XM K T U V V3 Q → V (grO g) 2097 = n → V3 (prO p) 2201 = some (grO g) → (∀ k, V3 (grO g + 1) k = R (grO g + 1) k) → (∀ j, k ≤ j → j < n → ∃ y0, V3 (grO g + 1) j = some y0 ∧ (grO g ≤ y0 ∧ y0 < grO g + 66) ∧ PTM V V3 y0 Q (8 * g + j)) → (∀ (σ : hM) (V2 : qR) (V4 : rR), PX σ0 V2 V4 σ → XM K (T + 24 * m) U V2 V4 (enDr g m k Q) → FCG g V V2 V3 V4 → WP fb (d + 9) 201 74 [some (vR (some 129)), some (vR (some (prO p))), some (vI n)] [] σ Qf) → WP fb (d + 9) 201 45 [some (vR (some 129)), some (vR (some (prO p))), some (vI k)] [] σ Qf := by
  have hpo := prO_o hp
  have hgo3 := grO_o hg
  have hgA := grO_a hg
  have hrg := grO_rng hg
  have hrp := prO_rng hp
  intro m
  induction m with
  | zero =>
    intro k T σ V V3 Q h1 h2 h3 hP hX h97 h01 hrow hpt hc
    have h1 : k + ((0 : Nat) : Int) = n := h1
    have hk : k = n := by omega
    subst hk
    have hgo := hc σ V V3 hP (hX.mono (by omega)) FCG_rfl
    obtain ⟨pr, hpr⟩ : ∃ q, prO p = q := ⟨_, rfl⟩
    obtain ⟨ga, hga⟩ : ∃ q, grO g = q := ⟨_, rfl⟩
    simp only [hpr, hga] at hpo hgo hgo3 h97 h01 ⊢
    refine x_li (z := k) T_201_45 rfl ?_
    refine x_lr (z := some pr) T_201_46 rfl ?_
    refine x_gR (z := some ga) T_201_47 F_6_9 (hP.o hpo) (Eq.trans (hP.rm hpo rfl (key := 2201) rfl) h01) ?_
    refine x_gI (z := k) T_201_50 (Or.inl F_3_1) (hP.o hgo3) (Eq.trans (hP.gi hgo3 (key := 2097) rfl) h97) ?_
    refine x_ic2 T_201_53 (fun _ => ?_) (fun h => absurd (show k ≤ k by omega) h)
    exact hgo
  | succ m ih =>
    intro k T σ V V3 Q h1 h2 h3 hP hX h97 h01 hrow hpt hc
    have eK : enDr g (m + 1) k Q = enDr g m (k + 1) (kDrM (8 * g + k) (Q 2337 (8 * g + k)).toNat 0 Q) := rfl
    rw [eK] at hc
    obtain ⟨y0, hy0, hy1, hPM⟩ := hpt k (Int.le_refl _) (by omega)
    have hcm := fun (hP : PX σ0 V V3 σ) => x_clunkM (fb := fb) (d := d) (pt := 8 * g + k) hP hX hPM ⟨by omega, by omega⟩ rfl (by omega)
    obtain ⟨hyo, hya, hyr, -, -⟩ := id hPM
    have hkf : ∀ (m : Nat) (j : Int) (A : qR), KF (kDrM (8 * g + k) m j A) A := fun m => by
      induction m with
      | zero => intro j A; exact KF_rfl
      | succ m ih => intro j A; exact KF_tr (ih (j + 1) _) KF_tP
    have hkf := hkf (Q 2337 (8 * g + k)).toNat 0 Q
    obtain ⟨Q2, hQ2⟩ : ∃ q, kDrM (8 * g + k) (Q 2337 (8 * g + k)).toNat 0 Q = q := ⟨_, rfl⟩
    rw [hQ2] at hkf hc
    simp only [hQ2] at hcm
    have hgo := fun (σ : hM) (V5 : qR) (V6 : rR) (hP : PX σ0 V5 V6 σ) (hX5 : XM K (T + 24) U V5 V6 Q2) (hF : FCL y0 V V5 V3 V6) => ih (k + 1) (T + 24) σ V5 V6 Q2 (by omega) (by omega) (by omega) hP hX5 ((hF.1 _ _ (by omega) (Or.inl (by omega)) (by omega) (by decide) (by omega)).trans h97) ((hF.2 _ _ (Or.inl (by omega))).trans h01) (fun k => (hF.2 _ _ (Or.inl (by omega))).trans (hrow k)) (fun j j0 j1 => by
      obtain ⟨y2, hy2, hy3, hM2⟩ := hpt j (by omega) j1
      refine ⟨y2, (hF.2 _ _ (Or.inl (by omega))).trans hy2, hy3, hM2.fcl hF (fun c => ?_) (fun f k hf => nsR_kf hkf f k hf)⟩
      have := hinj j k (by omega) (by omega) h2 (by omega) ((hrow j).symm.trans (hy2.trans ((congrArg some c).trans (hy0.symm.trans (hrow k)))))
      omega) (fun σ V2 V4 g1 g2 g3 => hc σ V2 V4 g1 (g2.mono (by omega)) (FCG_tr (FCG_cl hF hy1) g3))
    have hpo2 : CL fb (d + 8) 189 [vR (some (grO g)), vI k] σ (rPR (some y0) σ) := by
      obtain ⟨ga, hga⟩ : ∃ q, grO g = q := ⟨_, rfl⟩
      rw [hga] at hgo3 hgA h97 hy0 hrg ⊢
      have hmu : mutA (ga + 1) 14 8 = true := rfl
      refine CL_in mL_189 rfl ?_
      show WP fb _ 189 0 [some (vR (some ga)), some (vI k)] [] σ _
      refine x_li (z := k) T_189_0 rfl ?_
      refine x_if T_189_1 (fun h => absurd (show k < 0 from h) (by omega)) (fun _ => ?_)
      refine x_li (z := k) T_189_4 rfl ?_
      refine x_lr (z := some ga) T_189_5 rfl ?_
      refine x_gI (z := n) T_189_6 (Or.inl F_3_1) (hP.o hgo3) (Eq.trans (hP.gi hgo3 (key := 2097) rfl) h97) ?_
      refine x_ic2 T_189_9 (fun h => absurd (show n ≤ k from h) (by omega)) (fun _ => ?_)
      refine x_li (z := k) T_189_12 rfl ?_
      refine x_ic T_189_13 ?_
      refine x_ic2 T_189_15 (fun _ => ?_) (fun h => absurd (show k < 8 by omega) h)
      refine x_lr (z := some ga) T_189_22 rfl ?_
      refine x_gR (z := some (ga + 1)) T_189_23 F_3_0 (hP.o hgo3) (hP.rc hgo3 rfl rfl) ?_
      refine x_li (z := k) T_189_26 rfl ?_
      refine x_alR (z := some y0) T_189_27 (hP.ta hgA) (by decide) (by omega) (by omega) (Eq.trans (hP.arm hgA hmu (by omega)) hy0) ?_
      refine x_rr T_189_28 ?_
      exact ⟨rfl, rfl⟩
    obtain ⟨pr, hpr⟩ : ∃ q, prO p = q := ⟨_, rfl⟩
    obtain ⟨ga, hga⟩ : ∃ q, grO g = q := ⟨_, rfl⟩
    simp only [hpr, hga] at hpo hgo hgo3 h97 h01 hpo2 ⊢
    refine x_li (z := k) T_201_45 rfl ?_
    refine x_lr (z := some pr) T_201_46 rfl ?_
    refine x_gR (z := some ga) T_201_47 F_6_9 (hP.o hpo) (Eq.trans (hP.rm hpo rfl (key := 2201) rfl) h01) ?_
    refine x_gI (z := n) T_201_50 (Or.inl F_3_1) (hP.o hgo3) (Eq.trans (hP.gi hgo3 (key := 2097) rfl) h97) ?_
    refine x_ic2 T_201_53 (fun h => absurd (show n ≤ k from h) (by omega)) (fun _ => ?_)
    refine x_lr (z := some 129) T_201_56 rfl ?_
    refine x_lr (z := some pr) T_201_57 rfl ?_
    refine x_gR (z := some ga) T_201_58 F_6_9 (hP.o hpo) (Eq.trans (hP.rm hpo rfl (key := 2201) rfl) h01) ?_
    refine x_li (z := k) T_201_61 rfl ?_
    refine x_cv2 T_201_62 mN_189 mL_189 (Nat.le_of_ble_eq_true rfl) mO_189 (hP.o hgo3) (Nat.le_of_ble_eq_true rfl) (hpo2) ?_
    rintro _ σ ⟨rfl, rfl⟩
    refine cR ?_
    refine x_cv2 T_201_65 mN_178 mL_178 (Nat.le_of_ble_eq_true rfl) mO_178 (hP.o xo_129) (Nat.le_of_ble_eq_true rfl) (hcm hP) ?_
    clear hP hcm
    rintro _ σ ⟨rfl, V5, V6, hP, hX5, hF5, -⟩
    refine cV ?_
    refine x_inc (w := (k + 1)) (ls1 := [some (vR (some 129)), some (vR (some pr)), some (vI (k + 1))]) T_201_68 rfl (w32_id (by omega) (by omega)) rfl ?_
    refine x_goto T_201_71 ?_
    exact hgo σ V5 V6 hP hX5 hF5
end XEND
