/-! enter, for the reference: the line typed is copied, done as a command, and what is dying ends. -/
theorem T_307_11 : hTab 307 11 = some ((3, 0, 2, []), 12) := rfl
theorem T_307_12 : hTab 307 12 = some ((3, 0, 2, []), 13) := rfl
theorem T_307_13 : hTab 307 13 = some ((24, 17, Int.ofNat 103, []), 16) := rfl
theorem T_307_16 : hTab 307 16 = some ((25, 17, Int.ofNat 105, []), 19) := rfl
theorem T_307_19 : hTab 307 19 = some ((0, 0, 0, []), 20) := rfl
theorem T_307_20 : hTab 307 20 = some ((4, 2, 0, []), 21) := rfl
theorem T_307_21 : hTab 307 21 = some ((3, 2, 0, []), 22) := rfl
theorem T_307_22 : hTab 307 22 = some ((3, 0, 2, []), 23) := rfl
theorem T_307_23 : hTab 307 23 = some ((24, 17, Int.ofNat 103, []), 26) := rfl
theorem T_307_26 : hTab 307 26 = some ((19, 3, Int.ofNat 47, []), 29) := rfl
theorem T_307_29 : hTab 307 29 = some ((3, 0, 2, []), 30) := rfl
theorem T_307_30 : hTab 307 30 = some ((24, 17, Int.ofNat 104, []), 33) := rfl
theorem T_307_33 : hTab 307 33 = some ((3, 2, 0, []), 34) := rfl
theorem T_307_34 : hTab 307 34 = some ((3, 0, 2, []), 35) := rfl
theorem T_307_35 : hTab 307 35 = some ((24, 17, Int.ofNat 102, []), 38) := rfl
theorem T_307_38 : hTab 307 38 = some ((3, 2, 0, []), 39) := rfl
theorem T_307_39 : hTab 307 39 = some ((26, 0, 0, []), 40) := rfl
theorem T_307_40 : hTab 307 40 = some ((27, 0, 0, []), 41) := rfl
theorem T_307_41 : hTab 307 41 = some ((5, 2, 1, []), 44) := rfl
theorem T_307_44 : hTab 307 44 = some ((22, 0, Int.ofNat 21, []), 47) := rfl
theorem T_307_47 : hTab 307 47 = some ((3, 0, 2, []), 48) := rfl
theorem T_307_48 : hTab 307 48 = some ((0, 0, 0, []), 49) := rfl
theorem T_307_49 : hTab 307 49 = some ((25, 17, Int.ofNat 103, []), 52) := rfl
theorem T_307_52 : hTab 307 52 = some ((3, 0, 2, []), 53) := rfl
theorem T_307_53 : hTab 307 53 = some ((3, 1, 0, []), 54) := rfl
theorem T_307_54 : hTab 307 54 = some ((31, 309, 0, []), 57) := rfl
theorem T_307_57 : hTab 307 57 = some ((4, 2, 0, []), 58) := rfl
theorem T_307_58 : hTab 307 58 = some ((3, 0, 2, []), 59) := rfl
theorem T_307_59 : hTab 307 59 = some ((31, 401, 0, []), 62) := rfl
theorem T_307_62 : hTab 307 62 = some ((3, 2, 0, []), 63) := rfl
theorem T_307_63 : hTab 307 63 = some ((13, 0, 0, []), 64) := rfl
theorem T_307_64 : hTab 307 64 = some ((33, 1, 0, []), 65) := rfl
def eSrc (P : qR) : List Int := seg (P 2363) 0 (P 2281 103).toNat
def cEnt (P : qR) (p : Int) : Int × qR := (w32 (-(cPerf (rU P 2281 103 0) p (eSrc P)).1), enAll 8 0 (cPerf (rU P 2281 103 0) p (eSrc P)).2.1)
section MENT
variable {fb : Bool} {d : Nat} {σ0 σ : hM} {P P1 Q0 R S S0 S1 S2 : qR} {T U s w g u p k e t z o n N v b c c2 i mu dn : Int} {l L tx tt sc src : List Int} {h : List Ch} {J : qR → Prop}
theorem GI_num {j : Int} (j1 : Nat) (h : GI T U P) (e1 : (j1 : Int) = j) (hv : (ivN T U j1).1 ≤ v ∧ v ≤ (ivN T U j1).2) : GI T U (rU P 2281 j v) := by
  have hs : ∀ (f : Nat) (k : Int), f ≠ 2281 → rU P 2281 j v f k = P f k := fun f k a => rU_f a
  exact h.of (l := [2281]) ⟨h.iv.uN j1 j e1 hv, h.1.1.2.of (fun _ => hs _ _ (by decide)) (fun _ => hs _ _ (by decide)) (fun _ => hs _ _ (by decide)) (fun _ => hs _ _ (by decide))⟩ (fun f k hf => hs f k (fun q => by rw [q] at hf; exact absurd hf (by decide))) rfl rfl rfl rfl rfl rfl rfl rfl rfl
theorem KS.num {j : Int} {hs : List Ch} (j1 : Nat) (h : KS T U P S l hs) (e1 : (j1 : Int) = j) (hv : (ivN T U j1).1 ≤ v ∧ v ≤ (ivN T U j1).2) : KS T U (rU P 2281 j v) S l hs := ⟨GI_num j1 h.1 e1 hv, h.2.1.row (fun _ => rU_f (by decide)) (fun _ => rU_f (by decide)), h.2.2⟩
theorem eSrc_ok (h : GI T U P) : (eSrc P).length ≤ 100 ∧ byt (eSrc P) := by
  have h1 : 0 ≤ P 2281 103 ∧ P 2281 103 ≤ 100 := IV.n h.iv 103 103 rfl rfl (by decide)
  refine ⟨by unfold eSrc; rw [seg_len]; omega, byt_seg (fun i a b => ?_)⟩
  exact IV.a (k := 0 + i) h.iv 2363 0 100 rfl rfl rfl (by omega) (by omega)
theorem m_enter_loop (hI : IV false T U P) (hn : P 2281 103 = n) (hn1 : 0 ≤ n ∧ n ≤ 100) {Q : Option AV → hM → Prop} (hQ : ∀ σ : hM, PM σ0 P (rW S 2364 0 (seg (P 2363) 0 n.toNat)) σ → WP fb d 307 47 [some (vR (some 2281)), some (vI p), some (vI n)] [] σ Q) : ∀ (m : Nat) (k : Int) (σ : hM), k + m = n → 0 ≤ k → PM σ0 P (rW S 2364 0 (seg (P 2363) 0 k.toNat)) σ → WP fb d 307 21 [some (vR (some 2281)), some (vI p), some (vI k)] [] σ Q := by
  intro m
  induction m with
  | zero =>
    intro k σ h1 h2 hP
    have h1 : k + ((0 : Nat) : Int) = n := h1
    have hk : k = n := by omega
    subst hk
    have hgo := hQ σ hP
    refine x_li (z := k) T_307_21 rfl ?_
    refine x_lr (z := some 2281) T_307_22 rfl ?_
    refine x_gI (z := k) T_307_23 (Or.inl F_17_103) (PM.t hP) (Eq.trans (PM.nP hP 2281 103 103 rfl rfl rfl) hn) ?_
    refine x_ic2 T_307_26 (fun _ => ?_) (fun h => absurd (show k ≤ k by omega) h)
    exact hgo
  | succ m ih =>
    intro k σ h1 h2 hP
    have hgo := fun (σ : hM) (hP : PM σ0 P (rU (rW S 2364 0 (seg (P 2363) 0 k.toNat)) 2364 k (P 2363 k)) σ) => ih (k + 1) σ (by omega) (by omega) (by
      have e1 := rW_segs (P := S) (F := P 2363) (o := 0) (f := 2364) (a := 0) h2
      rw [Int.zero_add] at e1
      rw [← e1]
      exact hP)
    refine x_li (z := k) T_307_21 rfl ?_
    refine x_lr (z := some 2281) T_307_22 rfl ?_
    refine x_gI (z := n) T_307_23 (Or.inl F_17_103) (PM.t hP) (Eq.trans (PM.nP hP 2281 103 103 rfl rfl rfl) hn) ?_
    refine x_ic2 T_307_26 (fun h => absurd (show n ≤ k from h) (by omega)) (fun _ => ?_)
    refine x_lr (z := some 2281) T_307_29 rfl ?_
    refine x_gR (z := some 2364) T_307_30 F_17_104 (PM.t hP) (PM.r hP 104 2364 rfl) ?_
    refine x_li (z := k) T_307_33 rfl ?_
    refine x_lr (z := some 2281) T_307_34 rfl ?_
    refine x_gR (z := some 2363) T_307_35 F_17_102 (PM.t hP) (PM.r hP 102 2363 rfl) ?_
    refine x_li (z := k) T_307_38 rfl ?_
    have b1 : 0 ≤ P 2363 k ∧ P 2363 k ≤ 255 := IV.a hI 2363 0 100 rfl rfl rfl (by omega) (by omega)
    refine x_alI (z := P 2363 k) T_307_39 (by decide) (PM.ta hP 2363 0 100 rfl rfl) (by omega) (by omega) (PM.aP hP 2363 rfl rfl (by omega)) ?_
    refine y_aIS hP T_307_40 2364 200 rfl rfl rfl (by omega) (by omega) (fun σ hP => ?_)
    refine x_inc (w := (k + 1)) (ls1 := [some (vR (some 2281)), some (vI p), some (vI (k + 1))]) T_307_41 rfl (w32_id (by omega) (by omega)) rfl ?_
    refine x_goto T_307_44 ?_
    exact hgo σ hP
theorem m_enter (hP : PM σ0 P S σ) (hK : KS T U P S l []) (hp : 0 ≤ p ∧ p < 8) (hlv : ¬ P 2320 p = 0) (hJH : JH p J) (hJp : J (rU P 2281 103 0)) (hT : T + 700000 ≤ 2147483000) (hU : 10000 ≤ U ∧ U + 100000 ≤ 2147480000) : CL fb (d + 21) 307 [vR (some 2281), vI p] σ (fun r σ' => ∃ (S2 : qR) (l2 : List Int), r = some (vI (cEnt P p).1) ∧ PM σ0 (cEnt P p).2 S2 σ' ∧ KS (T + 612000) (U + 82000) (cEnt P p).2 S2 l2 []) := by
  have hI := hK.1.iv
  obtain ⟨hz, hb⟩ := eSrc_ok hK.1
  have hn1 : 0 ≤ P 2281 103 ∧ P 2281 103 ≤ 100 := IV.n hI 103 103 rfl rfl (by decide)
  obtain ⟨n, hn⟩ : ∃ n, P 2281 103 = n := ⟨_, rfl⟩
  rw [hn] at hn1
  have hs : eSrc P = seg (P 2363) 0 n.toNat := by unfold eSrc; rw [hn]
  have hsl : ((eSrc P).length : Int) = n := by rw [hs, seg_len]; omega
  obtain ⟨src, hsr⟩ : ∃ src, eSrc P = src := ⟨_, rfl⟩
  unfold cEnt
  rw [hsr] at hs hb hsl hz ⊢
  have hhp := m_hasProcess (fb := fb) (d := d + 19) (p := p) hP
  rw [if_pos ⟨⟨hp.1, by omega⟩, hlv⟩] at hhp
  have hJ1 : IV true T U (rU S 2281 105 n) := hK.2.2.1.uN 105 105 rfl (by show 0 ≤ n ∧ n ≤ 200; omega)
  have hJ2 : IV true T U (rW (rU S 2281 105 n) 2364 0 src) := hJ1.wA 2364 rfl (fun k _ _ => hb _ (by omega))
  have hX2 : SX fmR fmN S (rW (rU S 2281 105 n) 2364 0 src) := ⟨fun k a => (rW_f (by decide)).trans (rU_k (fun q => by rw [q] at a; exact absurd a (by decide))), fun f k a b => (rW_f (fun q => by rw [q] at b; exact absurd b (by decide))).trans (rU_f (fun q => by rw [q] at a; exact absurd a (by decide)))⟩
  have hK2 := (hK.fm hX2 hJ2).num (v := 0) 103 (j := 103) rfl (by show (0 : Int) ≤ 0 ∧ (0 : Int) ≤ 100; decide)
  have hS2 : SRC (rW (rU S 2281 105 n) 2364 0 src) src := ⟨(rW_f (by decide)).trans (rU_s.trans hsl.symm), by omega, hb, fun j a b => by
    rw [rW_i ⟨a, by omega⟩, Int.sub_zero]⟩
  have hpf := fun (σ : hM) (hP : PM σ0 (rU P 2281 103 0) (rW (rU S 2281 105 n) 2364 0 src) σ) => m_perform (fb := fb) (d := d) hP hK2 hp hS2 hJH hJp hT hU
  obtain ⟨e, he⟩ : ∃ e, (cPerf (rU P 2281 103 0) p src).1 = e := ⟨_, rfl⟩
  obtain ⟨P1, hP1⟩ : ∃ P1, (cPerf (rU P 2281 103 0) p src).2.1 = P1 := ⟨_, rfl⟩
  rw [he, hP1] at hpf
  rw [he, hP1]
  dsimp only
  have h47 : ∀ σ : hM, PM σ0 P (rW (rU S 2281 105 n) 2364 0 (seg (P 2363) 0 n.toNat)) σ → WP fb (d + 21) 307 47 [some (vR (some 2281)), some (vI p), some (vI n)] [] σ (fun r σ' => ∃ (S2 : qR) (l2 : List Int), r = some (vI (w32 (-e))) ∧ PM σ0 (enAll 8 0 P1) S2 σ' ∧ KS (T + 612000) (U + 82000) (enAll 8 0 P1) S2 l2 []) := fun σ hP => by
    rw [← hs] at hP
    have hpe := fun (σ : hM) (S2 : qR) (l2 : List Int) (hP : PM σ0 P1 S2 σ) (hK3 : KS (T + 610000) (U + 82000) P1 S2 l2 []) => m_endAll (fb := fb) (d := d + 6) hP hK3 (by omega)
    refine x_lr (z := some 2281) T_307_47 rfl ?_
    refine x_ic T_307_48 ?_
    refine y_pIP hP T_307_49 F_17_103 103 rfl rfl (fun σ hP => ?_)
    refine x_lr (z := some 2281) T_307_52 rfl ?_
    refine x_li (z := p) T_307_53 rfl ?_
    refine x_cv2 T_307_54 mN_309 mL_309 (Nat.le_of_ble_eq_true rfl) mO_309 (PM.t hP) (Nat.le_of_ble_eq_true rfl) (hpf σ hP) ?_
    clear hP hpf
    rintro _ σ ⟨S2, l2, rfl, hP, hK3, -, -⟩
    refine cI ?_
    refine x_si (ls1 := [some (vR (some 2281)), some (vI p), some (vI e)]) T_307_57 rfl ?_
    refine x_lr (z := some 2281) T_307_58 rfl ?_
    refine x_cv1 T_307_59 mN_401 mL_401 (Nat.le_of_ble_eq_true rfl) mO_401 (PM.t hP) (Nat.le_of_ble_eq_true rfl) (hpe σ S2 l2 hP hK3) ?_
    clear hP hpe
    rintro _ σ ⟨S3, rfl, hP, hK4, -⟩
    refine cV ?_
    refine x_li (z := e) T_307_62 rfl ?_
    refine x_neg (w := (w32 (-e))) T_307_63 rfl ?_
    refine x_ri T_307_64 ?_
    exact ⟨S3, l2, rfl, hP, hK4.mono (by omega)⟩
  have hlo := fun (σ : hM) (hP : PM σ0 P (rU S 2281 105 n) σ) => m_enter_loop (fb := fb) (d := d + 21) (p := p) (S := rU S 2281 105 n) hI hn hn1 h47 n.toNat 0 σ (by omega) (by decide) (by rw [rW_seg0]; exact hP)
  refine CL_in mL_307 rfl ?_
  show WP fb _ 307 0 [some (vR (some 2281)), some (vI p), none] [] σ _
  refine x_lr (z := some 2281) T_307_0 rfl ?_
  refine x_li (z := p) T_307_1 rfl ?_
  refine x_cv2 T_307_2 mN_308 mL_308 (Nat.le_of_ble_eq_true rfl) mO_308 (PM.t hP) (Nat.le_of_ble_eq_true rfl) (hhp) ?_
  rintro _ σ ⟨rfl, rfl⟩
  refine cI ?_
  refine x_if T_307_5 (fun _ => ?_) (fun h => absurd (show ¬ (1 : Int) = 0 by decide) h)
  refine x_lr (z := some 2281) T_307_11 rfl ?_
  refine x_lr (z := some 2281) T_307_12 rfl ?_
  refine x_gI (z := n) T_307_13 (Or.inl F_17_103) (PM.t hP) (Eq.trans (PM.nP hP 2281 103 103 rfl rfl rfl) hn) ?_
  refine y_pIS hP T_307_16 F_17_105 105 rfl rfl (fun σ hP => ?_)
  refine x_ic T_307_19 ?_
  refine x_si (ls1 := [some (vR (some 2281)), some (vI p), some (vI 0)]) T_307_20 rfl ?_
  exact hlo σ hP
end MENT
