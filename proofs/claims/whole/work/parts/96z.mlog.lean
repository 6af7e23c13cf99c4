/-! login and ask, for the reference. -/
theorem T_403_15 : hTab 403 15 = some ((3, 0, 2, []), 16) := rfl
theorem T_403_16 : hTab 403 16 = some ((31, 383, 0, []), 19) := rfl
theorem T_403_19 : hTab 403 19 = some ((4, 2, 0, []), 20) := rfl
theorem T_403_20 : hTab 403 20 = some ((3, 2, 0, []), 21) := rfl
theorem T_403_21 : hTab 403 21 = some ((18, 3, Int.ofNat 27, []), 24) := rfl
theorem T_403_24 : hTab 403 24 = some ((0, 0, (-101), []), 26) := rfl
theorem T_403_26 : hTab 403 26 = some ((33, 1, 0, []), 27) := rfl
theorem T_403_27 : hTab 403 27 = some ((3, 0, 2, []), 28) := rfl
theorem T_403_28 : hTab 403 28 = some ((0, 0, 0, []), 29) := rfl
theorem T_403_29 : hTab 403 29 = some ((3, 1, 0, []), 30) := rfl
theorem T_403_30 : hTab 403 30 = some ((31, 337, 0, []), 33) := rfl
theorem T_403_33 : hTab 403 33 = some ((4, 3, 0, []), 34) := rfl
theorem T_403_34 : hTab 403 34 = some ((3, 3, 0, []), 35) := rfl
theorem T_403_35 : hTab 403 35 = some ((18, 5, Int.ofNat 41, []), 38) := rfl
theorem T_403_38 : hTab 403 38 = some ((3, 3, 0, []), 39) := rfl
theorem T_403_39 : hTab 403 39 = some ((13, 0, 0, []), 40) := rfl
theorem T_403_40 : hTab 403 40 = some ((33, 1, 0, []), 41) := rfl
theorem T_403_41 : hTab 403 41 = some ((3, 0, 2, []), 42) := rfl
theorem T_403_42 : hTab 403 42 = some ((0, 0, 0, []), 43) := rfl
theorem T_403_43 : hTab 403 43 = some ((25, 17, Int.ofNat 91, []), 46) := rfl
theorem T_403_46 : hTab 403 46 = some ((3, 0, 2, []), 47) := rfl
theorem T_403_47 : hTab 403 47 = some ((3, 2, 0, []), 48) := rfl
theorem T_403_48 : hTab 403 48 = some ((3, 1, 0, []), 49) := rfl
theorem T_403_49 : hTab 403 49 = some ((3, 0, 2, []), 50) := rfl
theorem T_403_50 : hTab 403 50 = some ((31, 384, 0, []), 53) := rfl
theorem T_403_53 : hTab 403 53 = some ((3, 0, 2, []), 54) := rfl
theorem T_403_54 : hTab 403 54 = some ((24, 17, Int.ofNat 87, []), 57) := rfl
theorem T_403_57 : hTab 403 57 = some ((0, 0, 0, []), 58) := rfl
theorem T_403_58 : hTab 403 58 = some ((26, 0, 0, []), 59) := rfl
theorem T_403_59 : hTab 403 59 = some ((31, 386, 0, []), 62) := rfl
theorem T_403_62 : hTab 403 62 = some ((3, 2, 0, []), 63) := rfl
theorem T_403_63 : hTab 403 63 = some ((33, 1, 0, []), 64) := rfl
def cLog (P : qR) (u : Int) : Int × qR := if ¬ (0 ≤ u ∧ u ≤ 3) then (-100, P) else if qFp P < 0 then (-101, P) else if 0 < kAtE P 0 u then (-kAtE P 0 u, kAtP P 0 u) else (qFp P, gBg (rU (kAtP P 0 u) 2334 (qFg (kAtP P 0 u)) 0) (qFp P) u (qFg (kAtP P 0 u)) (qNewF P 0))
def asS (P : qR) (s : Int) : qR := srvP (rU P 2281 47 0) s 1 (P 2318) (P 2281 47)
def asA (P : qR) (s : Int) : List Int := srvA (rU P 2281 47 0) s 1 (P 2318) (P 2281 47)
def asP (P : qR) (s : Int) : qR := enAll 8 0 (rW (rU (asS P s) 2281 49 ((asA P s).length : Int)) 2319 0 (asA P s))
def cAsk (P : qR) (s : Int) : Int × qR := if ¬ (0 ≤ s ∧ s ≤ 2) then (-100, P) else (if asP P s 2281 49 = 0 then -1 else asP P s 2281 49, asP P s)
section MLOG
variable {fb : Bool} {d : Nat} {σ0 σ : hM} {P P1 P2 Q0 R S S0 S1 S2 : qR} {T U s w g u p k e t z o n N v b c c2 i mu dn : Int} {l L tx tt sc src A : List Int} {h : List Ch}
theorem GI_srv1 {a : Int → Int} (h : GI T U P) (hT : 0 ≤ T) (hs : 0 ≤ s ∧ s < 3) (hb : ∀ j, 0 ≤ j → j < z → 0 ≤ a j ∧ a j ≤ 255) : GI (T + 48) U (srvP P s 1 a z) := by
  unfold srvP
  split
  · exact h.mono (by omega)
  · rename_i q
    split
    · exact h.mono (by omega)
    · by_cases t : nu a 4 1 = 100
      · unfold srP
        rw [if_pos t]
        split
        · rename_i e
          have : 64 ≤ nu a 7 4 := by
            unfold vsE at e
            split at e
            · exact absurd e (by decide)
            · split at e
              · exact absurd e (by decide)
              · omega
          exact GI_vsP h hs (by decide) this
        · exact h.mono (by omega)
      · exact (GI_srP h hT hs (by decide) hb (by omega) (fun _ c => absurd c (by decide)) (fun _ c => absurd c (by decide)) t).mono (by omega)
theorem SA.sx (h : SA T U S S1 e l) : SX scR scN S S1 := by
  obtain ⟨h1, h2, h3, h4, h5, h6, h7, h8⟩ := h
  have ne : ∀ (L : List Int) (x k : Int), L.elem k = false → L.elem x = true → k ≠ x := fun L x k a b q => by rw [q, b] at a; cases a
  have nf : ∀ (L : List Nat) (x f : Nat), L.elem f = false → L.elem x = true → f ≠ x := fun L x f a b q => by rw [q, b] at a; cases a
  exact ⟨fun k a => h6 k (ne _ _ _ a rfl) (ne _ _ _ a rfl) (ne _ _ _ a rfl) (ne _ _ _ a rfl) (ne _ _ _ a rfl) (ne _ _ _ a rfl), fun f k a b => h7 f k a (nf _ _ _ b rfl) (nf _ _ _ b rfl) (nf _ _ _ b rfl)⟩
theorem SX_hs {rows : List Nat} {sc : List Int} (hh : HS S h) (hX : SX rows sc S S1) (h0 : sc.elem 91 = false) (h1 : rows.elem 2350 = false) (h2 : rows.elem 2351 = false) (h3 : rows.elem 2352 = false) (h4 : rows.elem 2353 = false) (h5 : rows.elem 2354 = false) : HS S1 h := by
  refine ⟨(hX.1 _ h0).trans hh.1, hh.2.1, fun i hi => ?_⟩
  rw [hX.2 _ _ rfl h1, hX.2 _ _ rfl h2, hX.2 _ _ rfl h3, hX.2 _ _ rfl h4, hX.2 _ _ rfl h5]
  exact hh.2.2 i hi
theorem m_login (hP : PM σ0 P S σ) (hK : KS T U P S l []) (hT : T + 600 ≤ 2147483000) : CL fb (d + 13) 403 [vR (some 2281), vI u] σ (fun r σ' => ∃ S2 : qR, r = some (vI (cLog P u).1) ∧ PM σ0 (cLog P u).2 S2 σ' ∧ KS (T + 4) U (cLog P u).2 S2 l []) := by
  unfold cLog
  by_cases hu : 0 ≤ u ∧ u ≤ 3
  · rw [if_neg (fun c => c hu)]
    have hfp := m_freeProcess (fb := fb) (d := d + 12) hP
    have hqr := qFp_rng (P := P)
    obtain ⟨q, hq⟩ : ∃ q, qFp P = q := ⟨_, rfl⟩
    rw [hq] at hqr hfp ⊢
    by_cases q0 : q < 0
    · rw [if_pos q0]
      refine CL_in mL_403 rfl ?_
      show WP fb _ 403 0 [some (vR (some 2281)), some (vI u), none, none] [] σ _
      refine x_li (z := u) T_403_0 rfl ?_
      refine x_i2l T_403_1 ?_
      refine x_lc T_403_2 ?_
      refine x_lc T_403_3 ?_
      refine x_cs3 T_403_6 mN_282 mL_282 (Nat.le_of_ble_eq_true rfl) mK_282 (Nat.le_of_ble_eq_true rfl) (m_in) ?_
      rintro _ σ ⟨rfl, rfl⟩
      refine cI ?_
      refine x_if T_403_9 (fun _ => ?_) (fun h => absurd (show ¬ (if 0 ≤ u ∧ u ≤ 3 then (1 : Int) else 0) = 0 by rw [if_pos hu]; decide) h)
      refine x_lr (z := some 2281) T_403_15 rfl ?_
      refine x_cv1 T_403_16 mN_383 mL_383 (Nat.le_of_ble_eq_true rfl) mO_383 (PM.t hP) (Nat.le_of_ble_eq_true rfl) (hfp) ?_
      rintro _ σ ⟨rfl, rfl⟩
      refine cI ?_
      refine x_si (ls1 := [some (vR (some 2281)), some (vI u), some (vI q), none]) T_403_19 rfl ?_
      refine x_li (z := q) T_403_20 rfl ?_
      refine x_if T_403_21 (fun h => absurd (show 0 ≤ q from h) (by omega)) (fun _ => ?_)
      refine x_ic T_403_24 ?_
      refine x_ri T_403_26 ?_
      exact ⟨S, rfl, hP, hK.mono (by omega)⟩
    rw [if_neg q0]
    obtain ⟨hq0, hq8, hqf⟩ := hqr.resolve_left (by omega)
    have her := kAtE_rng (P := P) (s := 0) (u := u)
    have hat := fun (σ : hM) (hP : PM σ0 P S σ) => m_attach (fb := fb) (d := d) hP hK.2.2.1 hK.1 (show T + 49 ≤ 2147483000 by omega) (show (0 : Int) ≤ 0 ∧ (0 : Int) < 3 by decide) hK.2.2.2.1 (show 0 < 60 by decide) hu
    have hkf : KF (kAtP P 0 u) P := KF_at
    have hcK : ∀ (r : Option AV) (σ1 : hM), KR (T + 4) U σ0 S (kAtE P 0 u) (kAtP P 0 u) (kHold (kAtE P 0 u) [] (0, qNewF P 0, 0, 128, -1)) r σ1 → ∃ S2 : qR, r = some (vI (kAtE P 0 u)) ∧ PM σ0 (kAtP P 0 u) S2 σ1 ∧ KS (T + 4) U (kAtP P 0 u) S2 l (kHold (kAtE P 0 u) [] (0, qNewF P 0, 0, 128, -1)) ∧ SX scR scN S S2 := fun r σ1 hr => hK.copy hkf hr
    obtain ⟨e, he⟩ : ∃ e, kAtE P 0 u = e := ⟨_, rfl⟩
    obtain ⟨P1, hP1⟩ : ∃ P1, kAtP P 0 u = P1 := ⟨_, rfl⟩
    obtain ⟨f, hf⟩ : ∃ f, qNewF P 0 = f := ⟨_, rfl⟩
    rw [he] at her
    rw [hP1] at hkf
    rw [he, hP1, hf] at hat hcK
    rw [he, hP1, hf]
    by_cases q1 : 0 < e
    · rw [if_pos q1]
      rw [kHoldn (by omega)] at hat hcK
      refine CL_in mL_403 rfl ?_
      show WP fb _ 403 0 [some (vR (some 2281)), some (vI u), none, none] [] σ _
      refine x_li (z := u) T_403_0 rfl ?_
      refine x_i2l T_403_1 ?_
      refine x_lc T_403_2 ?_
      refine x_lc T_403_3 ?_
      refine x_cs3 T_403_6 mN_282 mL_282 (Nat.le_of_ble_eq_true rfl) mK_282 (Nat.le_of_ble_eq_true rfl) (m_in) ?_
      rintro _ σ ⟨rfl, rfl⟩
      refine cI ?_
      refine x_if T_403_9 (fun _ => ?_) (fun h => absurd (show ¬ (if 0 ≤ u ∧ u ≤ 3 then (1 : Int) else 0) = 0 by rw [if_pos hu]; decide) h)
      refine x_lr (z := some 2281) T_403_15 rfl ?_
      refine x_cv1 T_403_16 mN_383 mL_383 (Nat.le_of_ble_eq_true rfl) mO_383 (PM.t hP) (Nat.le_of_ble_eq_true rfl) (hfp) ?_
      rintro _ σ ⟨rfl, rfl⟩
      refine cI ?_
      refine x_si (ls1 := [some (vR (some 2281)), some (vI u), some (vI q), none]) T_403_19 rfl ?_
      refine x_li (z := q) T_403_20 rfl ?_
      refine x_if T_403_21 (fun _ => ?_) (fun h => absurd (show 0 ≤ q by omega) h)
      refine x_lr (z := some 2281) T_403_27 rfl ?_
      refine x_ic T_403_28 ?_
      refine x_li (z := u) T_403_29 rfl ?_
      refine x_cv3 T_403_30 mN_337 mL_337 (Nat.le_of_ble_eq_true rfl) mO_337 (PM.t hP) (Nat.le_of_ble_eq_true rfl) (hat σ hP) ?_
      clear hP hat
      intro r σ hr
      obtain ⟨S2, rfl, hP, hK2, -⟩ := hcK r σ hr
      refine cI ?_
      refine x_si (ls1 := [some (vR (some 2281)), some (vI u), some (vI q), some (vI e)]) T_403_33 rfl ?_
      refine x_li (z := e) T_403_34 rfl ?_
      refine x_if T_403_35 (fun h => absurd (show e ≤ 0 from h) (by omega)) (fun _ => ?_)
      refine x_li (z := e) T_403_38 rfl ?_
      refine x_neg (w := (-e)) T_403_39 (w32_id (by omega) (by omega)) ?_
      refine x_ri T_403_40 ?_
      exact ⟨S2, rfl, hP, hK2⟩
    · rw [if_neg q1]
      have he0 : e = 0 := by omega
      subst he0
      rw [kHold0] at hat hcK
      have hqf1 : P1 2320 q = 0 := (hkf 2320 q rfl (by decide) (by decide) (by decide)).trans hqf
      have hfg := fun (σ : hM) (S2 : qR) (hP : PM σ0 P1 S2 σ) => m_freeGroup (fb := fb) (d := d + 11) hP ⟨hq0, hq8⟩ hqf1
      have hok := qFg_ok (P := P1) ⟨hq0, hq8⟩ hqf1
      obtain ⟨g, hg⟩ : ∃ g, qFg P1 = g := ⟨_, rfl⟩
      rw [hg] at hfg hok ⊢
      dsimp only
      have hst := fun (σ : hM) (S2 : qR) (hP : PM σ0 (rU P1 2334 g 0) S2 σ) => m_start (fb := fb) (d := d + 12) (q := q) (u := u) (g := g) (r := f) hP ⟨hq0, hq8⟩
      have hfi := fun (σ : hM) (S2 : qR) (hK2 : KS (T + 4) U P1 S2 l [(0, f, 0, 128, -1)]) (hP : PM σ0 (gBg (rU P1 2334 g 0) q u g f) (rU S2 2281 91 0) σ) => (by
        have hch := hK2.2.2.2.1.get (i := 0) (z := 0) rfl rfl
        have hbf := HS.ci hK2.2.2.1 hK2.2.2.2.1 (i := 0) rfl
        have hG1 : GI (T + 4) U (rU P1 2334 g 0) := GI_one (f := 2334) (ty := 0) (len := 8) hK2.1 rfl (show (0 : Int) ≤ 0 ∧ (0 : Int) ≤ 8 by decide) rfl rfl rfl rfl rfl rfl rfl rfl rfl (by decide) (by decide)
        have hG2 := GI_gBg (q := q) (u := u) (g := g) (r := f) hG1 ⟨hq0, hq8⟩ hu ⟨hok.1, by omega⟩ hbf.2.1
        exact ⟨rU S2 2281 91 0, rfl, hP, hG2, PTS_rf (PTS_pt0 hK2.2.1) gBg_rf rfl rfl, hK2.none.2.2⟩ : ∃ S3 : qR, some (vI q) = some (vI q) ∧ PM σ0 (gBg (rU P1 2334 g 0) q u g f) S3 σ ∧ KS (T + 4) U (gBg (rU P1 2334 g 0) q u g f) S3 l [])
      have h38 : ∀ (σ : hM) (S2 : qR), PM σ0 P1 S2 σ → KS (T + 4) U P1 S2 l [(0, f, 0, 128, -1)] → WP fb (d + 13) 403 41 [some (vR (some 2281)), some (vI u), some (vI q), some (vI 0)] [] σ (fun r σ' => ∃ S3 : qR, r = some (vI q) ∧ PM σ0 (gBg (rU P1 2334 g 0) q u g f) S3 σ' ∧ KS (T + 4) U (gBg (rU P1 2334 g 0) q u g f) S3 l []) := fun σ S2 hP hK2 => by
        have hch := (hK2.2.2.2.1.get (i := 0) (z := 0) rfl rfl).2.1
        have hch : S2 2351 0 = f := hch
        have hch2 : rU S2 2281 91 0 2351 0 = f := (rU_f (by decide)).trans hch
        have hfg := fun (σ : hM) (hP : PM σ0 P1 (rU S2 2281 91 0) σ) => hfg σ _ hP
        have hst := fun (σ : hM) (hP : PM σ0 (rU P1 2334 g 0) (rU S2 2281 91 0) σ) => hst σ _ hP
        refine x_lr (z := some 2281) T_403_41 rfl ?_
        refine x_ic T_403_42 ?_
        refine y_pIS hP T_403_43 F_17_91 91 rfl rfl (fun σ hP => ?_)
        refine x_lr (z := some 2281) T_403_46 rfl ?_
        refine x_li (z := q) T_403_47 rfl ?_
        refine x_li (z := u) T_403_48 rfl ?_
        refine x_lr (z := some 2281) T_403_49 rfl ?_
        refine x_cv1 T_403_50 mN_384 mL_384 (Nat.le_of_ble_eq_true rfl) mO_384 (PM.t hP) (Nat.le_of_ble_eq_true rfl) (hfg σ hP) ?_
        clear hP hfg
        rintro _ σ ⟨rfl, hP⟩
        refine cI ?_
        refine x_lr (z := some 2281) T_403_53 rfl ?_
        refine x_gR (z := some 2351) T_403_54 F_17_87 (PM.t hP) (PM.r hP 87 2351 rfl) ?_
        refine x_ic T_403_57 ?_
        refine x_alI (z := f) T_403_58 (by decide) (PM.ta hP 2351 0 64 rfl rfl) (by omega) (by omega) (Eq.trans (Eq.trans (PM.aS hP 2351 rfl rfl (by omega)) (rU_f (Nat.ne_of_beq_eq_false rfl))) hch2) ?_
        refine x_cv5 T_403_59 mN_386 mL_386 (Nat.le_of_ble_eq_true rfl) mO_386 (PM.t hP) (Nat.le_of_ble_eq_true rfl) (hst σ hP) ?_
        clear hP hst
        rintro _ σ ⟨rfl, hP⟩
        refine cV ?_
        refine x_li (z := q) T_403_62 rfl ?_
        refine x_ri T_403_63 ?_
        exact hfi σ S2 hK2 hP
      refine CL_in mL_403 rfl ?_
      show WP fb _ 403 0 [some (vR (some 2281)), some (vI u), none, none] [] σ _
      refine x_li (z := u) T_403_0 rfl ?_
      refine x_i2l T_403_1 ?_
      refine x_lc T_403_2 ?_
      refine x_lc T_403_3 ?_
      refine x_cs3 T_403_6 mN_282 mL_282 (Nat.le_of_ble_eq_true rfl) mK_282 (Nat.le_of_ble_eq_true rfl) (m_in) ?_
      rintro _ σ ⟨rfl, rfl⟩
      refine cI ?_
      refine x_if T_403_9 (fun _ => ?_) (fun h => absurd (show ¬ (if 0 ≤ u ∧ u ≤ 3 then (1 : Int) else 0) = 0 by rw [if_pos hu]; decide) h)
      refine x_lr (z := some 2281) T_403_15 rfl ?_
      refine x_cv1 T_403_16 mN_383 mL_383 (Nat.le_of_ble_eq_true rfl) mO_383 (PM.t hP) (Nat.le_of_ble_eq_true rfl) (hfp) ?_
      rintro _ σ ⟨rfl, rfl⟩
      refine cI ?_
      refine x_si (ls1 := [some (vR (some 2281)), some (vI u), some (vI q), none]) T_403_19 rfl ?_
      refine x_li (z := q) T_403_20 rfl ?_
      refine x_if T_403_21 (fun _ => ?_) (fun h => absurd (show 0 ≤ q by omega) h)
      refine x_lr (z := some 2281) T_403_27 rfl ?_
      refine x_ic T_403_28 ?_
      refine x_li (z := u) T_403_29 rfl ?_
      refine x_cv3 T_403_30 mN_337 mL_337 (Nat.le_of_ble_eq_true rfl) mO_337 (PM.t hP) (Nat.le_of_ble_eq_true rfl) (hat σ hP) ?_
      clear hP hat
      intro r σ hr
      obtain ⟨S2, rfl, hP, hK2, -⟩ := hcK r σ hr
      refine cI ?_
      refine x_si (ls1 := [some (vR (some 2281)), some (vI u), some (vI q), some (vI 0)]) T_403_33 rfl ?_
      refine x_li (z := 0) T_403_34 rfl ?_
      refine x_if T_403_35 (fun _ => ?_) (fun h => absurd (show (0 : Int) ≤ 0 by decide) h)
      exact h38 σ S2 hP hK2
  · rw [if_pos hu]
    refine CL_in mL_403 rfl ?_
    show WP fb _ 403 0 [some (vR (some 2281)), some (vI u), none, none] [] σ _
    refine x_li (z := u) T_403_0 rfl ?_
    refine x_i2l T_403_1 ?_
    refine x_lc T_403_2 ?_
    refine x_lc T_403_3 ?_
    refine x_cs3 T_403_6 mN_282 mL_282 (Nat.le_of_ble_eq_true rfl) mK_282 (Nat.le_of_ble_eq_true rfl) (m_in) ?_
    rintro _ σ ⟨rfl, rfl⟩
    refine cI ?_
    refine x_if T_403_9 (fun h => absurd (show ¬ (if 0 ≤ u ∧ u ≤ 3 then (1 : Int) else 0) = 0 from h) (by rw [if_neg hu]; decide)) (fun _ => ?_)
    refine x_ic T_403_12 ?_
    refine x_ri T_403_14 ?_
    exact ⟨S, rfl, hP, hK.mono (by omega)⟩
end MLOG
