/-! Commands: open, create, write, chmod. -/
theorem T_392_0 : hTab 392 0 = some ((3, 0, 2, []), 1) := rfl
theorem T_392_1 : hTab 392 1 = some ((0, 0, 2, []), 2) := rfl
theorem T_392_2 : hTab 392 2 = some ((0, 0, 2, []), 3) := rfl
theorem T_392_3 : hTab 392 3 = some ((31, 359, 0, []), 6) := rfl
theorem T_392_6 : hTab 392 6 = some ((4, 2, 0, []), 7) := rfl
theorem T_392_7 : hTab 392 7 = some ((3, 2, 0, []), 8) := rfl
theorem T_392_8 : hTab 392 8 = some ((18, 3, Int.ofNat 14, []), 11) := rfl
theorem T_392_11 : hTab 392 11 = some ((0, 0, 18, []), 13) := rfl
theorem T_392_13 : hTab 392 13 = some ((33, 1, 0, []), 14) := rfl
theorem T_392_14 : hTab 392 14 = some ((3, 0, 2, []), 15) := rfl
theorem T_392_15 : hTab 392 15 = some ((3, 1, 0, []), 16) := rfl
theorem T_392_16 : hTab 392 16 = some ((31, 393, 0, []), 19) := rfl
theorem T_392_19 : hTab 392 19 = some ((18, 3, Int.ofNat 25, []), 22) := rfl
theorem T_392_22 : hTab 392 22 = some ((0, 0, 20, []), 24) := rfl
theorem T_392_24 : hTab 392 24 = some ((33, 1, 0, []), 25) := rfl
theorem T_392_25 : hTab 392 25 = some ((3, 0, 2, []), 26) := rfl
theorem T_392_26 : hTab 392 26 = some ((3, 1, 0, []), 27) := rfl
theorem T_392_27 : hTab 392 27 = some ((0, 0, 1, []), 28) := rfl
theorem T_392_28 : hTab 392 28 = some ((0, 0, 1, []), 29) := rfl
theorem T_392_29 : hTab 392 29 = some ((31, 327, 0, []), 32) := rfl
theorem T_392_32 : hTab 392 32 = some ((4, 3, 0, []), 33) := rfl
theorem T_392_33 : hTab 392 33 = some ((3, 3, 0, []), 34) := rfl
theorem T_392_34 : hTab 392 34 = some ((18, 5, Int.ofNat 41, []), 37) := rfl
theorem T_392_37 : hTab 392 37 = some ((3, 3, 0, []), 38) := rfl
theorem T_392_38 : hTab 392 38 = some ((22, 0, Int.ofNat 68, []), 41) := rfl
theorem T_392_41 : hTab 392 41 = some ((3, 0, 2, []), 42) := rfl
theorem T_392_42 : hTab 392 42 = some ((3, 0, 2, []), 43) := rfl
theorem T_392_43 : hTab 392 43 = some ((24, 17, Int.ofNat 86, []), 46) := rfl
theorem T_392_46 : hTab 392 46 = some ((3, 0, 2, []), 47) := rfl
theorem T_392_47 : hTab 392 47 = some ((24, 17, Int.ofNat 91, []), 50) := rfl
theorem T_392_50 : hTab 392 50 = some ((0, 0, 1, []), 51) := rfl
theorem T_392_51 : hTab 392 51 = some ((10, 1, 0, []), 52) := rfl
theorem T_392_52 : hTab 392 52 = some ((26, 0, 0, []), 53) := rfl
theorem T_392_53 : hTab 392 53 = some ((3, 0, 2, []), 54) := rfl
theorem T_392_54 : hTab 392 54 = some ((24, 17, Int.ofNat 87, []), 57) := rfl
theorem T_392_57 : hTab 392 57 = some ((3, 0, 2, []), 58) := rfl
theorem T_392_58 : hTab 392 58 = some ((24, 17, Int.ofNat 91, []), 61) := rfl
theorem T_392_61 : hTab 392 61 = some ((0, 0, 1, []), 62) := rfl
theorem T_392_62 : hTab 392 62 = some ((10, 1, 0, []), 63) := rfl
theorem T_392_63 : hTab 392 63 = some ((26, 0, 0, []), 64) := rfl
theorem T_392_64 : hTab 392 64 = some ((3, 2, 0, []), 65) := rfl
theorem T_392_65 : hTab 392 65 = some ((31, 349, 0, []), 68) := rfl
theorem T_392_68 : hTab 392 68 = some ((4, 3, 0, []), 69) := rfl
theorem T_392_69 : hTab 392 69 = some ((3, 3, 0, []), 70) := rfl
theorem T_392_70 : hTab 392 70 = some ((18, 1, Int.ofNat 78, []), 73) := rfl
theorem T_392_73 : hTab 392 73 = some ((3, 0, 2, []), 74) := rfl
theorem T_392_74 : hTab 392 74 = some ((3, 1, 0, []), 75) := rfl
theorem T_392_75 : hTab 392 75 = some ((31, 394, 0, []), 78) := rfl
theorem T_392_78 : hTab 392 78 = some ((3, 3, 0, []), 79) := rfl
theorem T_392_79 : hTab 392 79 = some ((33, 1, 0, []), 80) := rfl
theorem T_397_0 : hTab 397 0 = some ((3, 0, 2, []), 1) := rfl
theorem T_397_1 : hTab 397 1 = some ((0, 0, 1, []), 2) := rfl
theorem T_397_2 : hTab 397 2 = some ((0, 0, 8, []), 4) := rfl
theorem T_397_4 : hTab 397 4 = some ((0, 0, 3, []), 5) := rfl
theorem T_397_5 : hTab 397 5 = some ((31, 390, 0, []), 8) := rfl
theorem T_397_8 : hTab 397 8 = some ((4, 2, 0, []), 9) := rfl
theorem T_397_9 : hTab 397 9 = some ((3, 0, 2, []), 10) := rfl
theorem T_397_10 : hTab 397 10 = some ((0, 0, 3, []), 11) := rfl
theorem T_397_11 : hTab 397 11 = some ((0, 0, 2, []), 12) := rfl
theorem T_397_12 : hTab 397 12 = some ((31, 359, 0, []), 15) := rfl
theorem T_397_15 : hTab 397 15 = some ((4, 3, 0, []), 16) := rfl
theorem T_397_16 : hTab 397 16 = some ((3, 2, 0, []), 17) := rfl
theorem T_397_17 : hTab 397 17 = some ((18, 2, Int.ofNat 24, []), 20) := rfl
theorem T_397_20 : hTab 397 20 = some ((3, 3, 0, []), 21) := rfl
theorem T_397_21 : hTab 397 21 = some ((18, 3, Int.ofNat 27, []), 24) := rfl
theorem T_397_24 : hTab 397 24 = some ((0, 0, 18, []), 26) := rfl
theorem T_397_26 : hTab 397 26 = some ((33, 1, 0, []), 27) := rfl
theorem T_397_27 : hTab 397 27 = some ((3, 0, 2, []), 28) := rfl
theorem T_397_28 : hTab 397 28 = some ((3, 1, 0, []), 29) := rfl
theorem T_397_29 : hTab 397 29 = some ((31, 393, 0, []), 32) := rfl
theorem T_397_32 : hTab 397 32 = some ((18, 3, Int.ofNat 38, []), 35) := rfl
theorem T_397_35 : hTab 397 35 = some ((0, 0, 20, []), 37) := rfl
theorem T_397_37 : hTab 397 37 = some ((33, 1, 0, []), 38) := rfl
theorem T_397_38 : hTab 397 38 = some ((3, 0, 2, []), 39) := rfl
theorem T_397_39 : hTab 397 39 = some ((3, 1, 0, []), 40) := rfl
theorem T_397_40 : hTab 397 40 = some ((0, 0, 2, []), 41) := rfl
theorem T_397_41 : hTab 397 41 = some ((3, 2, 0, []), 42) := rfl
theorem T_397_42 : hTab 397 42 = some ((14, 0, 0, []), 43) := rfl
theorem T_397_43 : hTab 397 43 = some ((3, 3, 0, []), 44) := rfl
theorem T_397_44 : hTab 397 44 = some ((31, 355, 0, []), 47) := rfl
theorem T_397_47 : hTab 397 47 = some ((4, 4, 0, []), 49) := rfl
theorem T_397_49 : hTab 397 49 = some ((3, 4, 0, []), 51) := rfl
theorem T_397_51 : hTab 397 51 = some ((18, 1, Int.ofNat 59, []), 54) := rfl
theorem T_397_54 : hTab 397 54 = some ((3, 0, 2, []), 55) := rfl
theorem T_397_55 : hTab 397 55 = some ((3, 1, 0, []), 56) := rfl
theorem T_397_56 : hTab 397 56 = some ((31, 394, 0, []), 59) := rfl
theorem T_397_59 : hTab 397 59 = some ((3, 4, 0, []), 61) := rfl
theorem T_397_61 : hTab 397 61 = some ((33, 1, 0, []), 62) := rfl
theorem mN_392 : hmN 392 = 2 := by decide +kernel
theorem mL_392 : hmL 392 = 4 := by decide +kernel
theorem mK_392 : hmK 392 = 1 := by decide +kernel
theorem mO_392 : hmO 392 = 17 := by decide +kernel
theorem mN_397 : hmN 397 = 2 := by decide +kernel
theorem mL_397 : hmL 397 = 5 := by decide +kernel
theorem mK_397 : hmK 397 = 1 := by decide +kernel
theorem mO_397 : hmO 397 = 17 := by decide +kernel
def cOpen (P : qR) (p md : Int) (wd : List Int) : Int × qR × List Ch := if md < 0 then (18, P, []) else if qFd P p < 0 then (20, P, []) else if 0 < (kWW P p 1 wd).1 then ((kWW P p 1 wd).1, (kWW P p 1 wd).2.1, []) else if 0 < tE (kWW P p 1 wd).2.1 (kWW P p 1 wd).2.2.1 (mOpen (kWW P p 1 wd).2.2.2.1 md) then (tE (kWW P p 1 wd).2.1 (kWW P p 1 wd).2.2.1 (mOpen (kWW P p 1 wd).2.2.2.1 md), tP (kWW P p 1 wd).2.1 (kWW P p 1 wd).2.2.1 (mOpen (kWW P p 1 wd).2.2.2.1 md), [(kWW P p 1 wd).2.2]) else (0, gKeep (tP (kWW P p 1 wd).2.1 (kWW P p 1 wd).2.2.1 (mOpen (kWW P p 1 wd).2.2.2.1 md)) p (kWW P p 1 wd).2.2, [])
def cMk2 (r : Int × qR × List Ch) (p : Int) : Int × qR × List Ch := if r.1 = 0 then (0, gKeep r.2.1 p (r.2.2.headD c0), []) else r
def cCrt (P : qR) (p nine md : Int) (wd : List Int) : Int × qR × List Ch := if nine < 0 ∨ md < 0 then (18, P, []) else if qFd P p < 0 then (20, P, []) else cMk2 (kCreate P p wd nine md) p
section MOPEN
variable {fb : Bool} {d : Nat} {σ0 σ : hM} {P Q R S S1 S2 : qR} {T U s w g u p k e t z o thr pt : Int} {l nm wd A : List Int} {h : List Ch} {a f : Int → Int} {x : Int × Int} {c : Ch}
theorem GO.of (h : GO P) (h1 : ∀ k, Q 2320 k = P 2320 k) (h2 : ∀ k, Q 2327 k = P 2327 k) (h3 : ∀ k, Q 2330 k = P 2330 k) : GO Q := ⟨fun i a b c e => by
    rw [h1] at c
    rw [h2] at e
    rw [h2, h3]
    exact h.1 i a b c e, fun o a b c => by
    rw [h3] at c
    obtain ⟨i, g1, g2, g3⟩ := h.2 o a b c
    exact ⟨i, g1, by rw [h1]; exact g2, by rw [h2]; exact g3⟩⟩
theorem GO.kf (h : GO P) (hk : KF Q P) : GO Q := h.of (fun _ => hk _ _ rfl (by decide) (by decide) (by decide)) (fun _ => hk _ _ rfl (by decide) (by decide) (by decide)) (fun _ => hk _ _ rfl (by decide) (by decide) (by decide))
theorem qFd_kf (hk : KF Q P) : qFd Q p = qFd P p := by
  have e : ∀ (m : Nat) (k : Int), fdR Q p m k = fdR P p m k := by
    intro m
    induction m with
    | zero => intro k; rfl
    | succ m ih =>
      intro k
      unfold fdR
      rw [ih, hk 2327 _ rfl (by decide) (by decide) (by decide)]
  exact e 8 0
theorem kPlc_no {P1 : qR} (h : kPlc P c = (e, P1, [])) : 0 < e ∧ KF P1 P := by
  unfold kPlc at h
  by_cases q1 : c.2.2.2.2 < 0
  · rw [if_pos q1] at h
    injection h with h1 h2
    injection h2 with h3 h4
    cases h4
  · rw [if_neg q1] at h
    by_cases q2 : qMk (kDrop P c) c.2.2.2.2 < 0
    · rw [if_pos q2] at h
      injection h with h1 h2
      injection h2 with h3 h4
      rw [← h1, ← h3]
      exact ⟨by decide, KF_tP⟩
    · rw [if_neg q2] at h
      injection h with h1 h2
      injection h2 with h3 h4
      have hr := kCpE_rng (P := kDrop P c) (s := P 2338 (qMk (kDrop P c) c.2.2.2.2)) (f := P 2339 (qMk (kDrop P c) c.2.2.2.2))
      rw [h1] at hr h4
      by_cases q3 : e = 0
      · rw [q3, kHold0] at h4
        cases h4
      · rw [← h3]
        exact ⟨by omega, KF_tr KF_cp KF_tP⟩
theorem kPlc_kf : KF (kPlc P c).2.1 P := by
  unfold kPlc
  split
  · exact KF_rfl
  · split
    · exact KF_tP
    · exact KF_tr KF_cp KF_tP
theorem kMk_ok {r : Int × qR × List Ch} {perm mode : Int} (hr : r.2.2 = [] → 0 < r.1) : KF (kMk r nm perm mode).2.1 r.2.1 ∧ 0 ≤ (kMk r nm perm mode).1 ∧ ((kMk r nm perm mode).1 = 0 → ∃ c, (kMk r nm perm mode).2.2 = [c]) := by
  obtain ⟨e, P1, hs⟩ := r
  cases hs with
  | nil =>
    have h0 : 0 < e := hr rfl
    exact ⟨KF_rfl, Int.le_of_lt h0, fun q => by have q : e = 0 := q; omega⟩
  | cons c r => exact ⟨KF_tP, tE_rng.1, fun _ => ⟨c, rfl⟩⟩
theorem kCreate_ok {perm mode : Int} (hI : IV false T U P) (hPT : PTS P) (hp : 0 ≤ p ∧ p < 8) : KF (kCreate P p wd perm mode).2.1 P ∧ 0 ≤ (kCreate P p wd perm mode).1 ∧ ((kCreate P p wd perm mode).1 = 0 → ∃ c, (kCreate P p wd perm mode).2.2 = [c]) := by
  unfold kCreate
  split
  · rename_i q
    exact ⟨KF_rfl, Int.le_of_lt q, fun q2 => by have q2 : paE (paRaw P p wd) = 0 := q2; omega⟩
  · split
    · exact ⟨KF_rfl, by show (0 : Int) ≤ 5; decide, fun q2 => by have q2 : (5 : Int) = 0 := q2; omega⟩
    · have hw := kWalk_ok (thr := 1) (o := paO (paRaw P p wd)) (nms := (paM (paRaw P p wd)).dropLast) hI hPT hp
      split
      · rename_i q
        exact ⟨hw.2, Int.le_of_lt q, fun q2 => by have q2 : (kWalk P p (paO (paRaw P p wd)) 1 (paM (paRaw P p wd)).dropLast).1 = 0 := q2; omega⟩
      · obtain ⟨W, hW⟩ : ∃ W, kWalk P p (paO (paRaw P p wd)) 1 (paM (paRaw P p wd)).dropLast = W := ⟨_, rfl⟩
        rw [hW] at hw ⊢
        have hk := kMk_ok (r := kPlc W.2.1 W.2.2) (nm := (paM (paRaw P p wd)).getD ((paM (paRaw P p wd)).length - 1) []) (perm := perm) (mode := mode) (fun q => by
          exact (kPlc_no (P := W.2.1) (c := W.2.2) (P1 := (kPlc W.2.1 W.2.2).2.1) (e := (kPlc W.2.1 W.2.2).1) (by rw [← q])).1)
        exact ⟨KF_tr hk.1 (KF_tr kPlc_kf hw.2), hk.2⟩
theorem dgV_rng {most : Int} : dgV wd most = -1 ∨ (0 ≤ dgV wd most ∧ dgV wd most ≤ most) := by
  unfold dgV
  split <;> omega
theorem m_openWords (hP : PM σ0 P S σ) (hK : KS T U P S l []) (hGO : GO P) (hp : 0 ≤ p ∧ p < 8) (hT : T + 800 ≤ 2147483000) (hU : 0 ≤ U) (hw : 2 < ((lnW l).length : Int)) : CL fb (d + 16) 392 [vR (some 2281), vI p] σ (KC (T + 304) U σ0 S l (cOpen P p (dgV (lnB l 2) 2) (lnB l 1)).1 (cOpen P p (dgV (lnB l 2) 2) (lnB l 1)).2.1 (cOpen P p (dgV (lnB l 2) 2) (lnB l 1)).2.2) := by
  have hdg := m_digit (fb := fb) (d := d + 14) (most := 2) hP hK.2.2.2.2 (w := 2) ⟨by decide, hw⟩ (by decide)
  have hdr := dgV_rng (wd := lnB l 2) (most := 2)
  have hfr := m_freeDescriptor (fb := fb) (d := d + 15) (p := p) hP hp
  have hww := k_ww (fb := fb) (d := d) (thr := 1) hP hK hp (Or.inr rfl) hT (by decide) (w := 1) ⟨by decide, by omega⟩
  have hkf := KF_kWW (thr := 1) (wd := lnB l 1) hK.1.iv hK.2.1 hp
  have hm42 : 0 ≤ P 2281 42 ∧ P 2281 42 ≤ T := IV.n hK.1.iv 42 42 rfl rfl (by decide)
  obtain ⟨md, hmd⟩ : ∃ md, dgV (lnB l 2) 2 = md := ⟨_, rfl⟩
  rw [hmd] at hdg hdr ⊢
  unfold cOpen
  by_cases q0 : md < 0
  · rw [if_pos q0]
    dsimp only
    refine CL_in mL_392 rfl ?_
    show WP fb _ 392 0 [some (vR (some 2281)), some (vI p), none, none] [] σ _
    refine x_lr (z := some 2281) T_392_0 rfl ?_
    refine x_ic T_392_1 ?_
    refine x_ic T_392_2 ?_
    refine x_cv3 T_392_3 mN_359 mL_359 (Nat.le_of_ble_eq_true rfl) mO_359 (PM.t hP) (Nat.le_of_ble_eq_true rfl) (hdg) ?_
    rintro _ σ ⟨rfl, rfl⟩
    refine cI ?_
    refine x_si (ls1 := [some (vR (some 2281)), some (vI p), some (vI md), none]) T_392_6 rfl ?_
    refine x_li (z := md) T_392_7 rfl ?_
    refine x_if T_392_8 (fun h => absurd (show 0 ≤ md from h) (by omega)) (fun _ => ?_)
    refine x_ic T_392_11 ?_
    refine x_ri T_392_13 ?_
    exact ⟨S, rfl, hP, hK.mono (by omega), SX_rfl⟩
  rw [if_neg q0]
  obtain ⟨fd, hfd⟩ : ∃ fd, qFd P p = fd := ⟨_, rfl⟩
  rw [hfd] at hfr ⊢
  by_cases q1 : fd < 0
  · rw [if_pos q1]
    dsimp only
    refine CL_in mL_392 rfl ?_
    show WP fb _ 392 0 [some (vR (some 2281)), some (vI p), none, none] [] σ _
    refine x_lr (z := some 2281) T_392_0 rfl ?_
    refine x_ic T_392_1 ?_
    refine x_ic T_392_2 ?_
    refine x_cv3 T_392_3 mN_359 mL_359 (Nat.le_of_ble_eq_true rfl) mO_359 (PM.t hP) (Nat.le_of_ble_eq_true rfl) (hdg) ?_
    rintro _ σ ⟨rfl, rfl⟩
    refine cI ?_
    refine x_si (ls1 := [some (vR (some 2281)), some (vI p), some (vI md), none]) T_392_6 rfl ?_
    refine x_li (z := md) T_392_7 rfl ?_
    refine x_if T_392_8 (fun _ => ?_) (fun h => absurd (show 0 ≤ md by omega) h)
    refine x_lr (z := some 2281) T_392_14 rfl ?_
    refine x_li (z := p) T_392_15 rfl ?_
    refine x_cv2 T_392_16 mN_393 mL_393 (Nat.le_of_ble_eq_true rfl) mO_393 (PM.t hP) (Nat.le_of_ble_eq_true rfl) (hfr) ?_
    rintro _ σ ⟨rfl, rfl⟩
    refine cI ?_
    refine x_if T_392_19 (fun h => absurd (show 0 ≤ fd from h) (by omega)) (fun _ => ?_)
    refine x_ic T_392_22 ?_
    refine x_ri T_392_24 ?_
    exact ⟨S, rfl, hP, hK.mono (by omega), SX_rfl⟩
  rw [if_neg q1]
  obtain ⟨e, he⟩ : ∃ e, (kWW P p 1 (lnB l 1)).1 = e := ⟨_, rfl⟩
  obtain ⟨P1, hP1⟩ : ∃ P1, (kWW P p 1 (lnB l 1)).2.1 = P1 := ⟨_, rfl⟩
  obtain ⟨c, hc⟩ : ∃ c, (kWW P p 1 (lnB l 1)).2.2 = c := ⟨_, rfl⟩
  rw [he, hP1] at hkf
  rw [he, hP1, hc] at hww
  rw [he, hP1, hc]
  by_cases q2 : 0 < e
  · rw [if_pos q2]
    dsimp only
    rw [kHoldn (by omega)] at hww
    refine CL_in mL_392 rfl ?_
    show WP fb _ 392 0 [some (vR (some 2281)), some (vI p), none, none] [] σ _
    refine x_lr (z := some 2281) T_392_0 rfl ?_
    refine x_ic T_392_1 ?_
    refine x_ic T_392_2 ?_
    refine x_cv3 T_392_3 mN_359 mL_359 (Nat.le_of_ble_eq_true rfl) mO_359 (PM.t hP) (Nat.le_of_ble_eq_true rfl) (hdg) ?_
    rintro _ σ ⟨rfl, rfl⟩
    refine cI ?_
    refine x_si (ls1 := [some (vR (some 2281)), some (vI p), some (vI md), none]) T_392_6 rfl ?_
    refine x_li (z := md) T_392_7 rfl ?_
    refine x_if T_392_8 (fun _ => ?_) (fun h => absurd (show 0 ≤ md by omega) h)
    refine x_lr (z := some 2281) T_392_14 rfl ?_
    refine x_li (z := p) T_392_15 rfl ?_
    refine x_cv2 T_392_16 mN_393 mL_393 (Nat.le_of_ble_eq_true rfl) mO_393 (PM.t hP) (Nat.le_of_ble_eq_true rfl) (hfr) ?_
    rintro _ σ ⟨rfl, rfl⟩
    refine cI ?_
    refine x_if T_392_19 (fun _ => ?_) (fun h => absurd (show 0 ≤ fd by omega) h)
    refine x_lr (z := some 2281) T_392_25 rfl ?_
    refine x_li (z := p) T_392_26 rfl ?_
    refine x_ic T_392_27 ?_
    refine x_ic T_392_28 ?_
    refine x_cv4 T_392_29 mN_327 mL_327 (Nat.le_of_ble_eq_true rfl) mO_327 (PM.t hP) (Nat.le_of_ble_eq_true rfl) (hww) ?_
    clear hP hww hdg hfr
    rintro _ σ ⟨S2, rfl, hP, hK2, hX2, -⟩
    refine cI ?_
    refine x_si (ls1 := [some (vR (some 2281)), some (vI p), some (vI md), some (vI e)]) T_392_32 rfl ?_
    refine x_li (z := e) T_392_33 rfl ?_
    refine x_if T_392_34 (fun h => absurd (show e ≤ 0 from h) (by omega)) (fun _ => ?_)
    refine x_li (z := e) T_392_37 rfl ?_
    refine x_goto T_392_38 ?_
    refine x_si (ls1 := [some (vR (some 2281)), some (vI p), some (vI md), some (vI e)]) T_392_68 rfl ?_
    refine x_li (z := e) T_392_69 rfl ?_
    refine x_if T_392_70 (fun _ => ?_) (fun h => absurd (show ¬ e = 0 by omega) h)
    refine x_li (z := e) T_392_78 rfl ?_
    refine x_ri T_392_79 ?_
    exact ⟨S2, rfl, hP, hK2.mono (by omega), hX2⟩
  rw [if_neg q2]
  have q3 : e = 0 := by omega
  subst q3
  rw [kHold0] at hww
  have her := tE_rng (P := P1) (s := c.1) (l := mOpen c.2.1 md)
  obtain ⟨e2, he2⟩ : ∃ e2, tE P1 c.1 (mOpen c.2.1 md) = e2 := ⟨_, rfl⟩
  obtain ⟨P2, hP2⟩ : ∃ P2, tP P1 c.1 (mOpen c.2.1 md) = P2 := ⟨_, rfl⟩
  have hkf2 : KF P2 P := by
    rw [← hP2]
    exact KF_tr KF_tP hkf.1
  rw [he2] at her
  rw [he2, hP2]
  by_cases q4 : 0 < e2
  · rw [if_pos q4]
    dsimp only
    refine CL_in mL_392 rfl ?_
    show WP fb _ 392 0 [some (vR (some 2281)), some (vI p), none, none] [] σ _
    refine x_lr (z := some 2281) T_392_0 rfl ?_
    refine x_ic T_392_1 ?_
    refine x_ic T_392_2 ?_
    refine x_cv3 T_392_3 mN_359 mL_359 (Nat.le_of_ble_eq_true rfl) mO_359 (PM.t hP) (Nat.le_of_ble_eq_true rfl) (hdg) ?_
    rintro _ σ ⟨rfl, rfl⟩
    refine cI ?_
    refine x_si (ls1 := [some (vR (some 2281)), some (vI p), some (vI md), none]) T_392_6 rfl ?_
    refine x_li (z := md) T_392_7 rfl ?_
    refine x_if T_392_8 (fun _ => ?_) (fun h => absurd (show 0 ≤ md by omega) h)
    refine x_lr (z := some 2281) T_392_14 rfl ?_
    refine x_li (z := p) T_392_15 rfl ?_
    refine x_cv2 T_392_16 mN_393 mL_393 (Nat.le_of_ble_eq_true rfl) mO_393 (PM.t hP) (Nat.le_of_ble_eq_true rfl) (hfr) ?_
    rintro _ σ ⟨rfl, rfl⟩
    refine cI ?_
    refine x_if T_392_19 (fun _ => ?_) (fun h => absurd (show 0 ≤ fd by omega) h)
    refine x_lr (z := some 2281) T_392_25 rfl ?_
    refine x_li (z := p) T_392_26 rfl ?_
    refine x_ic T_392_27 ?_
    refine x_ic T_392_28 ?_
    refine x_cv4 T_392_29 mN_327 mL_327 (Nat.le_of_ble_eq_true rfl) mO_327 (PM.t hP) (Nat.le_of_ble_eq_true rfl) (hww) ?_
    clear hP hww hdg hfr
    rintro _ σ ⟨S2, rfl, hP, hK2, hX2, -⟩
    obtain ⟨g1, g2, g3, g4, g5, g6, g7⟩ := hK2.2.2.2.1.last
    obtain ⟨c1, c2, -⟩ := hK2.2.2.2.1.ch hK2.2.2.1
    refine cI ?_
    refine x_si (ls1 := [some (vR (some 2281)), some (vI p), some (vI md), some (vI 0)]) T_392_32 rfl ?_
    refine x_li (z := 0) T_392_33 rfl ?_
    refine x_if T_392_34 (fun _ => ?_) (fun h => absurd (show (0 : Int) ≤ 0 by decide) h)
    refine x_lr (z := some 2281) T_392_41 rfl ?_
    refine x_lr (z := some 2281) T_392_42 rfl ?_
    refine x_gR (z := some 2350) T_392_43 F_17_86 (PM.t hP) (PM.r hP 86 2350 rfl) ?_
    refine x_lr (z := some 2281) T_392_46 rfl ?_
    refine x_gI (z := 1) T_392_47 (Or.inl F_17_91) (PM.t hP) (Eq.trans (PM.nS hP 2281 91 91 rfl rfl rfl) g1) ?_
    refine x_ic T_392_50 ?_
    refine x_ib (w := 0) T_392_51 (fun h => absurd h.1 (by decide)) (by decide) ?_
    refine x_alI (z := c.1) T_392_52 (by decide) (PM.ta hP 2350 0 64 rfl rfl) (by omega) (by omega) (Eq.trans (PM.aS hP 2350 rfl rfl (by omega)) g3) ?_
    refine x_lr (z := some 2281) T_392_53 rfl ?_
    refine x_gR (z := some 2351) T_392_54 F_17_87 (PM.t hP) (PM.r hP 87 2351 rfl) ?_
    refine x_lr (z := some 2281) T_392_57 rfl ?_
    refine x_gI (z := 1) T_392_58 (Or.inl F_17_91) (PM.t hP) (Eq.trans (PM.nS hP 2281 91 91 rfl rfl rfl) g1) ?_
    refine x_ic T_392_61 ?_
    refine x_ib (w := 0) T_392_62 (fun h => absurd h.1 (by decide)) (by decide) ?_
    refine x_alI (z := c.2.1) T_392_63 (by decide) (PM.ta hP 2351 0 64 rfl rfl) (by omega) (by omega) (Eq.trans (PM.aS hP 2351 rfl rfl (by omega)) g4) ?_
    refine x_li (z := md) T_392_64 rfl ?_
    refine x_cv4 T_392_65 mN_349 mL_349 (Nat.le_of_ble_eq_true rfl) mO_349 (PM.t hP) (Nat.le_of_ble_eq_true rfl) (g_askOpen hP hK2.2.2.1 hK2.1 (by omega) (by omega)) ?_
    clear hP
    intro r σ hr
    obtain ⟨S3, hr0, hP, hK3, hX3, -⟩ := hK2.ask (T1 := T + 304) (by omega) hr
    rw [he2] at hr0
    subst hr0
    rw [hP2] at hP hK3
    refine cI ?_
    refine x_si (ls1 := [some (vR (some 2281)), some (vI p), some (vI md), some (vI e2)]) T_392_68 rfl ?_
    refine x_li (z := e2) T_392_69 rfl ?_
    refine x_if T_392_70 (fun _ => ?_) (fun h => absurd (show ¬ e2 = 0 by omega) h)
    refine x_li (z := e2) T_392_78 rfl ?_
    refine x_ri T_392_79 ?_
    exact ⟨S3, rfl, hP, hK3, SX_tr hX2 hX3⟩
  · rw [if_neg q4]
    dsimp only
    have q5 : e2 = 0 := by omega
    subst q5
    have hkp := fun (σ : hM) (S3 : qR) (a1 : PM σ0 P2 S3 σ) (a2 : KS (T + 304) U P2 S3 l [c]) => m_keep (fb := fb) (d := d + 14) a1 a2 (hGO.kf hkf2) hp (by rw [qFd_kf hkf2, hfd]; omega) hU
    refine CL_in mL_392 rfl ?_
    show WP fb _ 392 0 [some (vR (some 2281)), some (vI p), none, none] [] σ _
    refine x_lr (z := some 2281) T_392_0 rfl ?_
    refine x_ic T_392_1 ?_
    refine x_ic T_392_2 ?_
    refine x_cv3 T_392_3 mN_359 mL_359 (Nat.le_of_ble_eq_true rfl) mO_359 (PM.t hP) (Nat.le_of_ble_eq_true rfl) (hdg) ?_
    rintro _ σ ⟨rfl, rfl⟩
    refine cI ?_
    refine x_si (ls1 := [some (vR (some 2281)), some (vI p), some (vI md), none]) T_392_6 rfl ?_
    refine x_li (z := md) T_392_7 rfl ?_
    refine x_if T_392_8 (fun _ => ?_) (fun h => absurd (show 0 ≤ md by omega) h)
    refine x_lr (z := some 2281) T_392_14 rfl ?_
    refine x_li (z := p) T_392_15 rfl ?_
    refine x_cv2 T_392_16 mN_393 mL_393 (Nat.le_of_ble_eq_true rfl) mO_393 (PM.t hP) (Nat.le_of_ble_eq_true rfl) (hfr) ?_
    rintro _ σ ⟨rfl, rfl⟩
    refine cI ?_
    refine x_if T_392_19 (fun _ => ?_) (fun h => absurd (show 0 ≤ fd by omega) h)
    refine x_lr (z := some 2281) T_392_25 rfl ?_
    refine x_li (z := p) T_392_26 rfl ?_
    refine x_ic T_392_27 ?_
    refine x_ic T_392_28 ?_
    refine x_cv4 T_392_29 mN_327 mL_327 (Nat.le_of_ble_eq_true rfl) mO_327 (PM.t hP) (Nat.le_of_ble_eq_true rfl) (hww) ?_
    clear hP hww hdg hfr
    rintro _ σ ⟨S2, rfl, hP, hK2, hX2, -⟩
    obtain ⟨g1, g2, g3, g4, g5, g6, g7⟩ := hK2.2.2.2.1.last
    obtain ⟨c1, c2, -⟩ := hK2.2.2.2.1.ch hK2.2.2.1
    refine cI ?_
    refine x_si (ls1 := [some (vR (some 2281)), some (vI p), some (vI md), some (vI 0)]) T_392_32 rfl ?_
    refine x_li (z := 0) T_392_33 rfl ?_
    refine x_if T_392_34 (fun _ => ?_) (fun h => absurd (show (0 : Int) ≤ 0 by decide) h)
    refine x_lr (z := some 2281) T_392_41 rfl ?_
    refine x_lr (z := some 2281) T_392_42 rfl ?_
    refine x_gR (z := some 2350) T_392_43 F_17_86 (PM.t hP) (PM.r hP 86 2350 rfl) ?_
    refine x_lr (z := some 2281) T_392_46 rfl ?_
    refine x_gI (z := 1) T_392_47 (Or.inl F_17_91) (PM.t hP) (Eq.trans (PM.nS hP 2281 91 91 rfl rfl rfl) g1) ?_
    refine x_ic T_392_50 ?_
    refine x_ib (w := 0) T_392_51 (fun h => absurd h.1 (by decide)) (by decide) ?_
    refine x_alI (z := c.1) T_392_52 (by decide) (PM.ta hP 2350 0 64 rfl rfl) (by omega) (by omega) (Eq.trans (PM.aS hP 2350 rfl rfl (by omega)) g3) ?_
    refine x_lr (z := some 2281) T_392_53 rfl ?_
    refine x_gR (z := some 2351) T_392_54 F_17_87 (PM.t hP) (PM.r hP 87 2351 rfl) ?_
    refine x_lr (z := some 2281) T_392_57 rfl ?_
    refine x_gI (z := 1) T_392_58 (Or.inl F_17_91) (PM.t hP) (Eq.trans (PM.nS hP 2281 91 91 rfl rfl rfl) g1) ?_
    refine x_ic T_392_61 ?_
    refine x_ib (w := 0) T_392_62 (fun h => absurd h.1 (by decide)) (by decide) ?_
    refine x_alI (z := c.2.1) T_392_63 (by decide) (PM.ta hP 2351 0 64 rfl rfl) (by omega) (by omega) (Eq.trans (PM.aS hP 2351 rfl rfl (by omega)) g4) ?_
    refine x_li (z := md) T_392_64 rfl ?_
    refine x_cv4 T_392_65 mN_349 mL_349 (Nat.le_of_ble_eq_true rfl) mO_349 (PM.t hP) (Nat.le_of_ble_eq_true rfl) (g_askOpen hP hK2.2.2.1 hK2.1 (by omega) (by omega)) ?_
    clear hP
    intro r σ hr
    obtain ⟨S3, hr0, hP, hK3, hX3, -⟩ := hK2.ask (T1 := T + 304) (by omega) hr
    rw [he2] at hr0
    subst hr0
    rw [hP2] at hP hK3
    refine cI ?_
    refine x_si (ls1 := [some (vR (some 2281)), some (vI p), some (vI md), some (vI 0)]) T_392_68 rfl ?_
    refine x_li (z := 0) T_392_69 rfl ?_
    refine x_if T_392_70 (fun h => absurd (show ¬ (0 : Int) = 0 from h) (by decide)) (fun _ => ?_)
    refine x_lr (z := some 2281) T_392_73 rfl ?_
    refine x_li (z := p) T_392_74 rfl ?_
    refine x_cv2 T_392_75 mN_394 mL_394 (Nat.le_of_ble_eq_true rfl) mO_394 (PM.t hP) (Nat.le_of_ble_eq_true rfl) (hkp σ S3 hP hK3) ?_
    clear hP hkp
    rintro _ σ ⟨S4, rfl, hP, hK4, hX4⟩
    refine cV ?_
    refine x_li (z := 0) T_392_78 rfl ?_
    refine x_ri T_392_79 ?_
    exact ⟨S4, rfl, hP, hK4, SX_tr hX2 (SX_tr hX3 hX4)⟩
theorem m_createWords (hP : PM σ0 P S σ) (hK : KS T U P S l []) (hGO : GO P) (hp : 0 ≤ p ∧ p < 8) (hT : T + 800 ≤ 2147483000) (hU : 0 ≤ U) (hw : 3 < ((lnW l).length : Int)) : CL fb (d + 16) 397 [vR (some 2281), vI p] σ (KC (T + 320) U σ0 S l (cCrt P p (nmN (lnB l 1) 8 3) (dgV (lnB l 3) 2) (lnB l 2)).1 (cCrt P p (nmN (lnB l 1) 8 3) (dgV (lnB l 3) 2) (lnB l 2)).2.1 (cCrt P p (nmN (lnB l 1) 8 3) (dgV (lnB l 3) 2) (lnB l 2)).2.2) := by
  have hnb := m_numberOf (fb := fb) (d := d + 14) (base := 8) (most := 3) hP hK.2.2.2.2 (w := 1) ⟨by decide, by omega⟩ (by decide) (by decide)
  have hdg := m_digit (fb := fb) (d := d + 14) (most := 2) hP hK.2.2.2.2 (w := 3) ⟨by decide, hw⟩ (by decide)
  have hfr := m_freeDescriptor (fb := fb) (d := d + 15) (p := p) hP hp
  have hm42 : 0 ≤ P 2281 42 ∧ P 2281 42 ≤ T := IV.n hK.1.iv 42 42 rfl rfl (by decide)
  obtain ⟨n, hn⟩ : ∃ n, nmN (lnB l 1) 8 3 = n := ⟨_, rfl⟩
  obtain ⟨md, hmd⟩ : ∃ md, dgV (lnB l 3) 2 = md := ⟨_, rfl⟩
  rw [hn] at hnb ⊢
  rw [hmd] at hdg ⊢
  unfold cCrt
  by_cases q0 : n < 0 ∨ md < 0
  · rw [if_pos q0]
    dsimp only
    by_cases q1 : n < 0
    · skip
      refine CL_in mL_397 rfl ?_
      show WP fb _ 397 0 [some (vR (some 2281)), some (vI p), none, none, none] [] σ _
      refine x_lr (z := some 2281) T_397_0 rfl ?_
      refine x_ic T_397_1 ?_
      refine x_ic T_397_2 ?_
      refine x_ic T_397_4 ?_
      refine x_cv4 T_397_5 mN_390 mL_390 (Nat.le_of_ble_eq_true rfl) mO_390 (PM.t hP) (Nat.le_of_ble_eq_true rfl) (hnb) ?_
      rintro _ σ ⟨rfl, rfl⟩
      refine cI ?_
      refine x_si (ls1 := [some (vR (some 2281)), some (vI p), some (vI n), none, none]) T_397_8 rfl ?_
      refine x_lr (z := some 2281) T_397_9 rfl ?_
      refine x_ic T_397_10 ?_
      refine x_ic T_397_11 ?_
      refine x_cv3 T_397_12 mN_359 mL_359 (Nat.le_of_ble_eq_true rfl) mO_359 (PM.t hP) (Nat.le_of_ble_eq_true rfl) (hdg) ?_
      rintro _ σ ⟨rfl, rfl⟩
      refine cI ?_
      refine x_si (ls1 := [some (vR (some 2281)), some (vI p), some (vI n), some (vI md), none]) T_397_15 rfl ?_
      refine x_li (z := n) T_397_16 rfl ?_
      refine x_if T_397_17 (fun _ => ?_) (fun h => absurd (show n < 0 by omega) h)
      refine x_ic T_397_24 ?_
      refine x_ri T_397_26 ?_
      exact ⟨S, rfl, hP, hK.mono (by omega), SX_rfl⟩
    · skip
      refine CL_in mL_397 rfl ?_
      show WP fb _ 397 0 [some (vR (some 2281)), some (vI p), none, none, none] [] σ _
      refine x_lr (z := some 2281) T_397_0 rfl ?_
      refine x_ic T_397_1 ?_
      refine x_ic T_397_2 ?_
      refine x_ic T_397_4 ?_
      refine x_cv4 T_397_5 mN_390 mL_390 (Nat.le_of_ble_eq_true rfl) mO_390 (PM.t hP) (Nat.le_of_ble_eq_true rfl) (hnb) ?_
      rintro _ σ ⟨rfl, rfl⟩
      refine cI ?_
      refine x_si (ls1 := [some (vR (some 2281)), some (vI p), some (vI n), none, none]) T_397_8 rfl ?_
      refine x_lr (z := some 2281) T_397_9 rfl ?_
      refine x_ic T_397_10 ?_
      refine x_ic T_397_11 ?_
      refine x_cv3 T_397_12 mN_359 mL_359 (Nat.le_of_ble_eq_true rfl) mO_359 (PM.t hP) (Nat.le_of_ble_eq_true rfl) (hdg) ?_
      rintro _ σ ⟨rfl, rfl⟩
      refine cI ?_
      refine x_si (ls1 := [some (vR (some 2281)), some (vI p), some (vI n), some (vI md), none]) T_397_15 rfl ?_
      refine x_li (z := n) T_397_16 rfl ?_
      refine x_if T_397_17 (fun h => absurd (show n < 0 from h) (by omega)) (fun _ => ?_)
      refine x_li (z := md) T_397_20 rfl ?_
      refine x_if T_397_21 (fun h => absurd (show 0 ≤ md from h) (by omega)) (fun _ => ?_)
      refine x_ic T_397_24 ?_
      refine x_ri T_397_26 ?_
      exact ⟨S, rfl, hP, hK.mono (by omega), SX_rfl⟩
  rw [if_neg q0]
  obtain ⟨fd, hfd⟩ : ∃ fd, qFd P p = fd := ⟨_, rfl⟩
  rw [hfd] at hfr ⊢
  by_cases q1 : fd < 0
  · rw [if_pos q1]
    dsimp only
    refine CL_in mL_397 rfl ?_
    show WP fb _ 397 0 [some (vR (some 2281)), some (vI p), none, none, none] [] σ _
    refine x_lr (z := some 2281) T_397_0 rfl ?_
    refine x_ic T_397_1 ?_
    refine x_ic T_397_2 ?_
    refine x_ic T_397_4 ?_
    refine x_cv4 T_397_5 mN_390 mL_390 (Nat.le_of_ble_eq_true rfl) mO_390 (PM.t hP) (Nat.le_of_ble_eq_true rfl) (hnb) ?_
    rintro _ σ ⟨rfl, rfl⟩
    refine cI ?_
    refine x_si (ls1 := [some (vR (some 2281)), some (vI p), some (vI n), none, none]) T_397_8 rfl ?_
    refine x_lr (z := some 2281) T_397_9 rfl ?_
    refine x_ic T_397_10 ?_
    refine x_ic T_397_11 ?_
    refine x_cv3 T_397_12 mN_359 mL_359 (Nat.le_of_ble_eq_true rfl) mO_359 (PM.t hP) (Nat.le_of_ble_eq_true rfl) (hdg) ?_
    rintro _ σ ⟨rfl, rfl⟩
    refine cI ?_
    refine x_si (ls1 := [some (vR (some 2281)), some (vI p), some (vI n), some (vI md), none]) T_397_15 rfl ?_
    refine x_li (z := n) T_397_16 rfl ?_
    refine x_if T_397_17 (fun h => absurd (show n < 0 from h) (by omega)) (fun _ => ?_)
    refine x_li (z := md) T_397_20 rfl ?_
    refine x_if T_397_21 (fun _ => ?_) (fun h => absurd (show 0 ≤ md by omega) h)
    refine x_lr (z := some 2281) T_397_27 rfl ?_
    refine x_li (z := p) T_397_28 rfl ?_
    refine x_cv2 T_397_29 mN_393 mL_393 (Nat.le_of_ble_eq_true rfl) mO_393 (PM.t hP) (Nat.le_of_ble_eq_true rfl) (hfr) ?_
    rintro _ σ ⟨rfl, rfl⟩
    refine cI ?_
    refine x_if T_397_32 (fun h => absurd (show 0 ≤ fd from h) (by omega)) (fun _ => ?_)
    refine x_ic T_397_35 ?_
    refine x_ri T_397_37 ?_
    exact ⟨S, rfl, hP, hK.mono (by omega), SX_rfl⟩
  rw [if_neg q1]
  obtain ⟨hGI, hPT, hJ, hh, hL⟩ := hK
  obtain ⟨b, b2, w1, w2, w3, w4, w5, w6, w7, w8⟩ := hL.word (w := 2) ⟨by decide, by omega⟩
  have hcr := m_create (fb := fb) (d := d) (perm := n) (mode := md) (w := 2) hP hJ hGI hPT hp hT hh (by decide) (by decide) w1 w2 ⟨w3, w4, w6⟩ w8
  have hco := kCreate_ok (wd := lnB l 2) (perm := n) (mode := md) hGI.iv hPT hp
  unfold cMk2
  obtain ⟨e, he⟩ : ∃ e, (kCreate P p (lnB l 2) n md).1 = e := ⟨_, rfl⟩
  obtain ⟨P1, hP1⟩ : ∃ P1, (kCreate P p (lnB l 2) n md).2.1 = P1 := ⟨_, rfl⟩
  rw [he, hP1] at hco hcr
  rw [he]
  by_cases q2 : e = 0
  · rw [if_pos q2]
    obtain ⟨c, hc⟩ := hco.2.2 q2
    rw [hc, hP1]
    rw [hc] at hcr
    dsimp only
    subst q2
    have hkp := fun (σ : hM) (S3 : qR) (a1 : PM σ0 P1 S3 σ) (a2 : KS (T + 320) U P1 S3 l [c]) => m_keep (fb := fb) (d := d + 14) a1 a2 (hGO.kf hco.1) hp (by rw [qFd_kf hco.1, hfd]; omega) hU
    refine CL_in mL_397 rfl ?_
    show WP fb _ 397 0 [some (vR (some 2281)), some (vI p), none, none, none] [] σ _
    refine x_lr (z := some 2281) T_397_0 rfl ?_
    refine x_ic T_397_1 ?_
    refine x_ic T_397_2 ?_
    refine x_ic T_397_4 ?_
    refine x_cv4 T_397_5 mN_390 mL_390 (Nat.le_of_ble_eq_true rfl) mO_390 (PM.t hP) (Nat.le_of_ble_eq_true rfl) (hnb) ?_
    rintro _ σ ⟨rfl, rfl⟩
    refine cI ?_
    refine x_si (ls1 := [some (vR (some 2281)), some (vI p), some (vI n), none, none]) T_397_8 rfl ?_
    refine x_lr (z := some 2281) T_397_9 rfl ?_
    refine x_ic T_397_10 ?_
    refine x_ic T_397_11 ?_
    refine x_cv3 T_397_12 mN_359 mL_359 (Nat.le_of_ble_eq_true rfl) mO_359 (PM.t hP) (Nat.le_of_ble_eq_true rfl) (hdg) ?_
    rintro _ σ ⟨rfl, rfl⟩
    refine cI ?_
    refine x_si (ls1 := [some (vR (some 2281)), some (vI p), some (vI n), some (vI md), none]) T_397_15 rfl ?_
    refine x_li (z := n) T_397_16 rfl ?_
    refine x_if T_397_17 (fun h => absurd (show n < 0 from h) (by omega)) (fun _ => ?_)
    refine x_li (z := md) T_397_20 rfl ?_
    refine x_if T_397_21 (fun _ => ?_) (fun h => absurd (show 0 ≤ md by omega) h)
    refine x_lr (z := some 2281) T_397_27 rfl ?_
    refine x_li (z := p) T_397_28 rfl ?_
    refine x_cv2 T_397_29 mN_393 mL_393 (Nat.le_of_ble_eq_true rfl) mO_393 (PM.t hP) (Nat.le_of_ble_eq_true rfl) (hfr) ?_
    rintro _ σ ⟨rfl, rfl⟩
    refine cI ?_
    refine x_if T_397_32 (fun _ => ?_) (fun h => absurd (show 0 ≤ fd by omega) h)
    refine x_lr (z := some 2281) T_397_38 rfl ?_
    refine x_li (z := p) T_397_39 rfl ?_
    refine x_ic T_397_40 ?_
    refine x_li (z := n) T_397_41 rfl ?_
    refine x_i2l T_397_42 ?_
    refine x_li (z := md) T_397_43 rfl ?_
    refine x_cv5 T_397_44 mN_355 mL_355 (Nat.le_of_ble_eq_true rfl) mO_355 (PM.t hP) (Nat.le_of_ble_eq_true rfl) (hcr) ?_
    clear hP hcr
    intro r σ hr
    obtain ⟨S2, rfl, hP, hK2, hX2⟩ := KX_KC hL (hPT.of hco.1) hr
    refine cI ?_
    refine x_si (ls1 := [some (vR (some 2281)), some (vI p), some (vI n), some (vI md), some (vI 0)]) T_397_47 rfl ?_
    refine x_li (z := 0) T_397_49 rfl ?_
    refine x_if T_397_51 (fun h => absurd (show ¬ (0 : Int) = 0 from h) (by decide)) (fun _ => ?_)
    refine x_lr (z := some 2281) T_397_54 rfl ?_
    refine x_li (z := p) T_397_55 rfl ?_
    refine x_cv2 T_397_56 mN_394 mL_394 (Nat.le_of_ble_eq_true rfl) mO_394 (PM.t hP) (Nat.le_of_ble_eq_true rfl) (hkp σ S2 hP hK2) ?_
    clear hP hkp
    rintro _ σ ⟨S4, rfl, hP, hK4, hX4⟩
    refine cV ?_
    refine x_li (z := 0) T_397_59 rfl ?_
    refine x_ri T_397_61 ?_
    exact ⟨S4, rfl, hP, hK4, SX_tr hX2 hX4⟩
  · rw [if_neg q2, he, hP1]
    refine CL_in mL_397 rfl ?_
    show WP fb _ 397 0 [some (vR (some 2281)), some (vI p), none, none, none] [] σ _
    refine x_lr (z := some 2281) T_397_0 rfl ?_
    refine x_ic T_397_1 ?_
    refine x_ic T_397_2 ?_
    refine x_ic T_397_4 ?_
    refine x_cv4 T_397_5 mN_390 mL_390 (Nat.le_of_ble_eq_true rfl) mO_390 (PM.t hP) (Nat.le_of_ble_eq_true rfl) (hnb) ?_
    rintro _ σ ⟨rfl, rfl⟩
    refine cI ?_
    refine x_si (ls1 := [some (vR (some 2281)), some (vI p), some (vI n), none, none]) T_397_8 rfl ?_
    refine x_lr (z := some 2281) T_397_9 rfl ?_
    refine x_ic T_397_10 ?_
    refine x_ic T_397_11 ?_
    refine x_cv3 T_397_12 mN_359 mL_359 (Nat.le_of_ble_eq_true rfl) mO_359 (PM.t hP) (Nat.le_of_ble_eq_true rfl) (hdg) ?_
    rintro _ σ ⟨rfl, rfl⟩
    refine cI ?_
    refine x_si (ls1 := [some (vR (some 2281)), some (vI p), some (vI n), some (vI md), none]) T_397_15 rfl ?_
    refine x_li (z := n) T_397_16 rfl ?_
    refine x_if T_397_17 (fun h => absurd (show n < 0 from h) (by omega)) (fun _ => ?_)
    refine x_li (z := md) T_397_20 rfl ?_
    refine x_if T_397_21 (fun _ => ?_) (fun h => absurd (show 0 ≤ md by omega) h)
    refine x_lr (z := some 2281) T_397_27 rfl ?_
    refine x_li (z := p) T_397_28 rfl ?_
    refine x_cv2 T_397_29 mN_393 mL_393 (Nat.le_of_ble_eq_true rfl) mO_393 (PM.t hP) (Nat.le_of_ble_eq_true rfl) (hfr) ?_
    rintro _ σ ⟨rfl, rfl⟩
    refine cI ?_
    refine x_if T_397_32 (fun _ => ?_) (fun h => absurd (show 0 ≤ fd by omega) h)
    refine x_lr (z := some 2281) T_397_38 rfl ?_
    refine x_li (z := p) T_397_39 rfl ?_
    refine x_ic T_397_40 ?_
    refine x_li (z := n) T_397_41 rfl ?_
    refine x_i2l T_397_42 ?_
    refine x_li (z := md) T_397_43 rfl ?_
    refine x_cv5 T_397_44 mN_355 mL_355 (Nat.le_of_ble_eq_true rfl) mO_355 (PM.t hP) (Nat.le_of_ble_eq_true rfl) (hcr) ?_
    clear hP hcr
    intro r σ hr
    obtain ⟨S2, rfl, hP, hK2, hX2⟩ := KX_KC hL (hPT.of hco.1) hr
    refine cI ?_
    refine x_si (ls1 := [some (vR (some 2281)), some (vI p), some (vI n), some (vI md), some (vI e)]) T_397_47 rfl ?_
    refine x_li (z := e) T_397_49 rfl ?_
    refine x_if T_397_51 (fun _ => ?_) (fun h => absurd (show ¬ e = 0 by exact q2) h)
    refine x_li (z := e) T_397_59 rfl ?_
    refine x_ri T_397_61 ?_
    exact ⟨S2, rfl, hP, hK2, hX2⟩
end MOPEN
