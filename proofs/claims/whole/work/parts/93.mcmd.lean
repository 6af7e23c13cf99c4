/-! Commands: cd, rm, what a wstat is asked with. -/
theorem T_348_0 : hTab 348 0 = some ((3, 0, 2, []), 1) := rfl
theorem T_348_1 : hTab 348 1 = some ((24, 17, Int.ofNat 89, []), 4) := rfl
theorem T_348_4 : hTab 348 4 = some ((3, 1, 0, []), 5) := rfl
theorem T_348_5 : hTab 348 5 = some ((26, 0, 0, []), 6) := rfl
theorem T_348_6 : hTab 348 6 = some ((0, 0, 128, []), 9) := rfl
theorem T_348_9 : hTab 348 9 = some ((10, 5, 0, []), 10) := rfl
theorem T_348_10 : hTab 348 10 = some ((18, 0, Int.ofNat 17, []), 13) := rfl
theorem T_348_13 : hTab 348 13 = some ((0, 0, 1, []), 14) := rfl
theorem T_348_14 : hTab 348 14 = some ((22, 0, Int.ofNat 18, []), 17) := rfl
theorem T_348_17 : hTab 348 17 = some ((0, 0, 0, []), 18) := rfl
theorem T_348_18 : hTab 348 18 = some ((33, 2, 0, []), 19) := rfl
theorem T_374_0 : hTab 374 0 = some ((3, 0, 2, []), 1) := rfl
theorem T_374_1 : hTab 374 1 = some ((3, 1, 0, []), 2) := rfl
theorem T_374_2 : hTab 374 2 = some ((0, 0, 1, []), 3) := rfl
theorem T_374_3 : hTab 374 3 = some ((0, 0, 1, []), 4) := rfl
theorem T_374_4 : hTab 374 4 = some ((31, 327, 0, []), 7) := rfl
theorem T_374_7 : hTab 374 7 = some ((4, 2, 0, []), 8) := rfl
theorem T_374_8 : hTab 374 8 = some ((3, 2, 0, []), 9) := rfl
theorem T_374_9 : hTab 374 9 = some ((18, 5, Int.ofNat 14, []), 12) := rfl
theorem T_374_12 : hTab 374 12 = some ((3, 2, 0, []), 13) := rfl
theorem T_374_13 : hTab 374 13 = some ((33, 1, 0, []), 14) := rfl
theorem T_374_14 : hTab 374 14 = some ((3, 0, 2, []), 15) := rfl
theorem T_374_15 : hTab 374 15 = some ((3, 0, 2, []), 16) := rfl
theorem T_374_16 : hTab 374 16 = some ((24, 17, Int.ofNat 91, []), 19) := rfl
theorem T_374_19 : hTab 374 19 = some ((0, 0, 1, []), 20) := rfl
theorem T_374_20 : hTab 374 20 = some ((10, 1, 0, []), 21) := rfl
theorem T_374_21 : hTab 374 21 = some ((31, 348, 0, []), 24) := rfl
theorem T_374_24 : hTab 374 24 = some ((18, 1, Int.ofNat 29, []), 27) := rfl
theorem T_374_27 : hTab 374 27 = some ((0, 0, 2, []), 28) := rfl
theorem T_374_28 : hTab 374 28 = some ((33, 1, 0, []), 29) := rfl
theorem T_374_29 : hTab 374 29 = some ((0, 0, 0, []), 30) := rfl
theorem T_374_30 : hTab 374 30 = some ((4, 3, 0, []), 31) := rfl
theorem T_374_31 : hTab 374 31 = some ((3, 3, 0, []), 32) := rfl
theorem T_374_32 : hTab 374 32 = some ((3, 0, 2, []), 33) := rfl
theorem T_374_33 : hTab 374 33 = some ((24, 17, Int.ofNat 85, []), 36) := rfl
theorem T_374_36 : hTab 374 36 = some ((19, 3, Int.ofNat 62, []), 39) := rfl
theorem T_374_39 : hTab 374 39 = some ((3, 0, 2, []), 40) := rfl
theorem T_374_40 : hTab 374 40 = some ((24, 17, Int.ofNat 55, []), 43) := rfl
theorem T_374_43 : hTab 374 43 = some ((0, 0, 60, []), 45) := rfl
theorem T_374_45 : hTab 374 45 = some ((3, 1, 0, []), 46) := rfl
theorem T_374_46 : hTab 374 46 = some ((10, 2, 0, []), 47) := rfl
theorem T_374_47 : hTab 374 47 = some ((3, 3, 0, []), 48) := rfl
theorem T_374_48 : hTab 374 48 = some ((10, 0, 0, []), 49) := rfl
theorem T_374_49 : hTab 374 49 = some ((3, 0, 2, []), 50) := rfl
theorem T_374_50 : hTab 374 50 = some ((24, 17, Int.ofNat 84, []), 53) := rfl
theorem T_374_53 : hTab 374 53 = some ((3, 3, 0, []), 54) := rfl
theorem T_374_54 : hTab 374 54 = some ((26, 0, 0, []), 55) := rfl
theorem T_374_55 : hTab 374 55 = some ((27, 0, 0, []), 56) := rfl
theorem T_374_56 : hTab 374 56 = some ((5, 3, 1, []), 59) := rfl
theorem T_374_59 : hTab 374 59 = some ((22, 0, Int.ofNat 31, []), 62) := rfl
theorem T_374_62 : hTab 374 62 = some ((3, 0, 2, []), 63) := rfl
theorem T_374_63 : hTab 374 63 = some ((24, 17, Int.ofNat 56, []), 66) := rfl
theorem T_374_66 : hTab 374 66 = some ((3, 1, 0, []), 67) := rfl
theorem T_374_67 : hTab 374 67 = some ((3, 0, 2, []), 68) := rfl
theorem T_374_68 : hTab 374 68 = some ((24, 17, Int.ofNat 85, []), 71) := rfl
theorem T_374_71 : hTab 374 71 = some ((27, 0, 0, []), 72) := rfl
theorem T_374_72 : hTab 374 72 = some ((0, 0, 0, []), 73) := rfl
theorem T_374_73 : hTab 374 73 = some ((33, 1, 0, []), 74) := rfl
theorem T_377_0 : hTab 377 0 = some ((3, 0, 2, []), 1) := rfl
theorem T_377_1 : hTab 377 1 = some ((3, 1, 0, []), 2) := rfl
theorem T_377_2 : hTab 377 2 = some ((0, 0, 1, []), 3) := rfl
theorem T_377_3 : hTab 377 3 = some ((0, 0, 0, []), 4) := rfl
theorem T_377_4 : hTab 377 4 = some ((31, 327, 0, []), 7) := rfl
theorem T_377_7 : hTab 377 7 = some ((4, 2, 0, []), 8) := rfl
theorem T_377_8 : hTab 377 8 = some ((3, 2, 0, []), 9) := rfl
theorem T_377_9 : hTab 377 9 = some ((18, 5, Int.ofNat 14, []), 12) := rfl
theorem T_377_12 : hTab 377 12 = some ((3, 2, 0, []), 13) := rfl
theorem T_377_13 : hTab 377 13 = some ((33, 1, 0, []), 14) := rfl
theorem T_377_14 : hTab 377 14 = some ((3, 0, 2, []), 15) := rfl
theorem T_377_15 : hTab 377 15 = some ((6, 0, 0, []), 16) := rfl
theorem T_377_16 : hTab 377 16 = some ((24, 17, Int.ofNat 91, []), 19) := rfl
theorem T_377_19 : hTab 377 19 = some ((0, 0, 1, []), 20) := rfl
theorem T_377_20 : hTab 377 20 = some ((10, 1, 0, []), 21) := rfl
theorem T_377_21 : hTab 377 21 = some ((25, 17, Int.ofNat 91, []), 24) := rfl
theorem T_377_24 : hTab 377 24 = some ((3, 0, 2, []), 25) := rfl
theorem T_377_25 : hTab 377 25 = some ((0, 0, 122, []), 27) := rfl
theorem T_377_27 : hTab 377 27 = some ((3, 0, 2, []), 28) := rfl
theorem T_377_28 : hTab 377 28 = some ((24, 17, Int.ofNat 86, []), 31) := rfl
theorem T_377_31 : hTab 377 31 = some ((3, 0, 2, []), 32) := rfl
theorem T_377_32 : hTab 377 32 = some ((24, 17, Int.ofNat 91, []), 35) := rfl
theorem T_377_35 : hTab 377 35 = some ((26, 0, 0, []), 36) := rfl
theorem T_377_36 : hTab 377 36 = some ((3, 0, 2, []), 37) := rfl
theorem T_377_37 : hTab 377 37 = some ((24, 17, Int.ofNat 87, []), 40) := rfl
theorem T_377_40 : hTab 377 40 = some ((3, 0, 2, []), 41) := rfl
theorem T_377_41 : hTab 377 41 = some ((24, 17, Int.ofNat 91, []), 44) := rfl
theorem T_377_44 : hTab 377 44 = some ((26, 0, 0, []), 45) := rfl
theorem T_377_45 : hTab 377 45 = some ((31, 345, 0, []), 48) := rfl
theorem T_377_48 : hTab 377 48 = some ((33, 1, 0, []), 49) := rfl
theorem T_389_125 : hTab 389 125 = some ((3, 10, 0, []), 127) := rfl
theorem T_389_127 : hTab 389 127 = some ((3, 4, 0, []), 129) := rfl
theorem T_389_129 : hTab 389 129 = some ((19, 3, Int.ofNat 151, []), 132) := rfl
theorem T_389_132 : hTab 389 132 = some ((3, 0, 2, []), 133) := rfl
theorem T_389_133 : hTab 389 133 = some ((0, 0, 1, []), 134) := rfl
theorem T_389_134 : hTab 389 134 = some ((3, 0, 2, []), 135) := rfl
theorem T_389_135 : hTab 389 135 = some ((24, 17, Int.ofNat 73, []), 138) := rfl
theorem T_389_138 : hTab 389 138 = some ((3, 10, 0, []), 140) := rfl
theorem T_389_140 : hTab 389 140 = some ((26, 0, 0, []), 141) := rfl
theorem T_389_141 : hTab 389 141 = some ((14, 0, 0, []), 142) := rfl
theorem T_389_142 : hTab 389 142 = some ((31, 229, 0, []), 145) := rfl
theorem T_389_145 : hTab 389 145 = some ((5, 10, 1, []), 148) := rfl
theorem T_389_148 : hTab 389 148 = some ((22, 0, Int.ofNat 125, []), 151) := rfl
theorem mN_348 : hmN 348 = 2 := by decide +kernel
theorem mL_348 : hmL 348 = 2 := by decide +kernel
theorem mK_348 : hmK 348 = 1 := by decide +kernel
theorem mO_348 : hmO 348 = 17 := by decide +kernel
theorem mN_374 : hmN 374 = 2 := by decide +kernel
theorem mL_374 : hmL 374 = 4 := by decide +kernel
theorem mK_374 : hmK 374 = 1 := by decide +kernel
theorem mO_374 : hmO 374 = 17 := by decide +kernel
theorem mN_377 : hmN 377 = 2 := by decide +kernel
theorem mL_377 : hmL 377 = 3 := by decide +kernel
theorem mK_377 : hmK 377 = 1 := by decide +kernel
theorem mO_377 : hmO 377 = 17 := by decide +kernel
theorem mN_389 : hmN 389 = 7 := by decide +kernel
theorem mL_389 : hmL 389 = 11 := by decide +kernel
theorem mK_389 : hmK 389 = 1 := by decide +kernel
theorem mO_389 : hmO 389 = 17 := by decide +kernel
def scR : List Nat := [2285, 2286, 2287, 2288, 2350, 2351, 2352, 2353, 2354, 2346, 2347, 2348, 2349, 2355, 2356, 2357, 2358, 2359, 2360]
def scN : List Int := [4, 6, 7, 8, 9, 12, 91, 92, 79, 80, 83, 85, 99]
/-- all that holds when a command is done -/
def KS (T U : Int) (P S : qR) (l : List Int) (h : List Ch) : Prop := GI T U P ∧ PTS P ∧ IV true T U S ∧ HS S h ∧ LN S l
abbrev KC (T U : Int) (σ0 : hM) (S : qR) (l : List Int) (e : Int) (P1 : qR) (h : List Ch) : Option AV → hM → Prop := fun r σ' => ∃ S2 : qR, r = some (vI e) ∧ PM σ0 P1 S2 σ' ∧ KS T U P1 S2 l h ∧ SX scR scN S S2
def gDot (P : qR) (p : Int) (l : List Int) : qR := rU (rW P 2325 (60 * p) l) 2326 p (l.length : Int)
def cCd (P : qR) (p : Int) (wd : List Int) : Int × qR × List Ch := if 0 < (kWW P p 1 wd).1 then ((kWW P p 1 wd).1, (kWW P p 1 wd).2.1, []) else if and32 (kWW P p 1 wd).2.2.2.2.2.1 128 = 0 then (2, (kWW P p 1 wd).2.1, [(kWW P p 1 wd).2.2]) else (0, gDot (kWW P p 1 wd).2.1 p (paL (paRaw P p wd)), [(kWW P p 1 wd).2.2])
def cRm (P : qR) (p : Int) (wd : List Int) : Int × qR × List Ch := if 0 < (kWW P p 0 wd).1 then ((kWW P p 0 wd).1, (kWW P p 0 wd).2.1, []) else (tE (kWW P p 0 wd).2.1 (kWW P p 0 wd).2.2.1 (mOne 122 (kWW P p 0 wd).2.2.2.1), tP (kWW P p 0 wd).2.1 (kWW P p 0 wd).2.2.1 (mOne 122 (kWW P p 0 wd).2.2.2.1), [])
def mWst (f : Int) (nm : List Int) (mode len : Int) : List Int := leb 1 126 ++ leb 2 1 ++ leb 4 f ++ leb 2 (49 + (nm.length : Int)) ++ leb 2 (47 + (nm.length : Int)) ++ leb 2 65535 ++ leb 4 4294967295 ++ leb 1 255 ++ leb 4 4294967295 ++ leb 8 (-1) ++ leb 4 mode ++ leb 4 4294967295 ++ leb 4 4294967295 ++ leb 8 len ++ leb 2 (nm.length : Int) ++ nm ++ leb 2 0 ++ leb 2 0 ++ leb 2 0
section MCMD
variable {fb : Bool} {d : Nat} {σ0 σ : hM} {P Q R S S1 S2 : qR} {T U s w g u p k e t z o thr pt : Int} {l nm wd : List Int} {h : List Ch} {a f : Int → Int} {x : Int × Int} {c : Ch}
theorem SX_sc (h : SX swR swN S S1) : SX scR scN S S1 := h.mono (fun _ => elem_sub (by decide)) (fun _ => elem_sub (by decide))
theorem LN.sc (hL : LN S l) (hX : SX scR scN S S1) : LN S1 l := hL.of (hX.1 _ rfl) (hX.1 _ rfl) (fun _ => hX.2 _ _ rfl rfl) (fun _ => hX.2 _ _ rfl rfl) (fun _ => hX.2 _ _ rfl rfl)
theorem KF_kWW (hI : IV false T U P) (hPT : PTS P) (hp : 0 ≤ p ∧ p < 8) : KF (kWW P p thr wd).2.1 P ∧ 0 ≤ (kWW P p thr wd).1 := by
  unfold kWW
  split
  · exact ⟨KF_rfl, by omega⟩
  · exact ⟨(kWalk_ok hI hPT hp).2, (kWalk_ok hI hPT hp).1⟩
theorem KX_KC {P1 : qR} {h1 : List Ch} {r : Option AV} {σ1 : hM} (hL : LN S l) (hPT : PTS P1) (hr : KX T U σ0 S e P1 h1 r σ1) : KC T U σ0 S l e P1 h1 r σ1 := by
  obtain ⟨S2, a1, a2, a3, a4, a5, a6⟩ := hr
  exact ⟨S2, a1, a2, ⟨a3, hPT, a4, a5, hL.sw a6⟩, SX_sc a6⟩
theorem k_ww (hP : PM σ0 P S σ) (hK : KS T U P S l h) (hp : 0 ≤ p ∧ p < 8) (ht : thr = 0 ∨ thr = 1) (hT : T + 800 ≤ 2147483000) (hl : h.length + 2 < 60) (hw : 0 ≤ w ∧ w < ((lnW l).length : Int)) : CL fb (d + 15) 327 [vR (some 2281), vI p, vI w, vI thr] σ (fun r σ' => ∃ S2 : qR, r = some (vI (kWW P p thr (lnB l w)).1) ∧ PM σ0 (kWW P p thr (lnB l w)).2.1 S2 σ' ∧ KS (T + 300) U (kWW P p thr (lnB l w)).2.1 S2 l (kHold (kWW P p thr (lnB l w)).1 h (kWW P p thr (lnB l w)).2.2) ∧ SX scR scN S S2 ∧ ((kWW P p thr (lnB l w)).1 = 0 → PLS S2 (paL (paRaw P p (lnB l w))))) := by
  obtain ⟨hG, hPT, hJ, hh, hL⟩ := hK
  obtain ⟨b, q, e1, e2, h1, h2, h3, h4, h5, h6⟩ := hL.word hw
  have hn := (lnW_ok hL.2.1).2
  refine CL.mono (m_walkWord (w := w) hP hJ hG hPT hp ht hT hh hl (by omega) e1 e2 ⟨h1, h2, h4⟩ h6) ?_
  rintro r σ1 ⟨S2, a1, a2, a3, a4, a5, a6, a7⟩
  exact ⟨S2, a1, a2, ⟨a3, hPT.of (KF_kWW hG.iv hPT hp).1, a4, a5, hL.sw a6⟩, SX_sc a6, a7⟩
theorem m_isDirH {i y : Int} (hP : PM σ0 P S σ) (hi : 0 ≤ i ∧ i < 64) (hy : S 2353 i = y) : CL fb d 348 [vR (some 2281), vI i] σ (rP (if and32 y 128 = 0 then 0 else 1) σ) := by
  by_cases q : and32 y 128 = 0
  · rw [if_pos q]
    refine CL_in mL_348 rfl ?_
    show WP fb _ 348 0 [some (vR (some 2281)), some (vI i)] [] σ _
    refine x_lr (z := some 2281) T_348_0 rfl ?_
    refine x_gR (z := some 2353) T_348_1 F_17_89 (PM.t hP) (PM.r hP 89 2353 rfl) ?_
    refine x_li (z := i) T_348_4 rfl ?_
    refine x_alI (z := y) T_348_5 (by decide) (PM.ta hP 2353 0 64 rfl rfl) (by omega) (by omega) (Eq.trans (PM.aS hP 2353 rfl rfl (by omega)) hy) ?_
    refine x_ic T_348_6 ?_
    refine x_ib (w := (and32 y 128)) T_348_9 (fun h => absurd h.1 (by decide)) rfl ?_
    refine x_if T_348_10 (fun _ => ?_) (fun h => absurd (show (and32 y 128) = 0 by exact q) h)
    refine x_ic T_348_17 ?_
    refine x_rz T_348_18 rfl ?_
    exact ⟨rfl, rfl⟩
  · rw [if_neg q]
    refine CL_in mL_348 rfl ?_
    show WP fb _ 348 0 [some (vR (some 2281)), some (vI i)] [] σ _
    refine x_lr (z := some 2281) T_348_0 rfl ?_
    refine x_gR (z := some 2353) T_348_1 F_17_89 (PM.t hP) (PM.r hP 89 2353 rfl) ?_
    refine x_li (z := i) T_348_4 rfl ?_
    refine x_alI (z := y) T_348_5 (by decide) (PM.ta hP 2353 0 64 rfl rfl) (by omega) (by omega) (Eq.trans (PM.aS hP 2353 rfl rfl (by omega)) hy) ?_
    refine x_ic T_348_6 ?_
    refine x_ib (w := (and32 y 128)) T_348_9 (fun h => absurd h.1 (by decide)) rfl ?_
    refine x_if T_348_10 (fun h => absurd (show (and32 y 128) = 0 from h) (by exact q)) (fun _ => ?_)
    refine x_ic T_348_13 ?_
    refine x_goto T_348_14 ?_
    refine x_rz T_348_18 rfl ?_
    exact ⟨rfl, rfl⟩
theorem GI_gDot (h : GI T U P) (hp : 0 ≤ p ∧ p < 8) (hb : byt l) (hl : l.length ≤ 60) : GI T U (gDot P p l) := by
  refine h.of (l := [2325, 2326]) ⟨(h.iv.wA 2325 rfl (fun k h1 h2 => hb _ (by omega))).uA 2326 rfl (by show 0 ≤ (l.length : Int) ∧ (l.length : Int) ≤ 60; omega), ?_⟩ (RF_up (RF_wr RF_rfl rfl) rfl) rfl rfl rfl rfl rfl rfl rfl rfl rfl
  exact h.1.1.2.of (fun _ => (rU_f (by decide)).trans (rW_f (by decide))) (fun _ => (rU_f (by decide)).trans (rW_f (by decide))) (fun _ => (rU_f (by decide)).trans (rW_f (by decide))) (fun _ => (rU_f (by decide)).trans (rW_f (by decide)))
theorem PTS.row (h : PTS P) (h1 : ∀ k, Q 2334 k = P 2334 k) (h2 : ∀ k, Q 2337 k = P 2337 k) : PTS Q := fun g k a b c d => by
  rw [h1] at d
  rw [h2]
  exact h g k a b c d
theorem PTS_gDot (h : PTS P) : PTS (gDot P p l) := h.row (fun k => (show rU (rW P 2325 (60 * p) l) 2326 p (l.length : Int) 2334 k = P 2334 k from (rU_f (by decide)).trans (rW_f (by decide)))) (fun k => (show rU (rW P 2325 (60 * p) l) 2326 p (l.length : Int) 2337 k = P 2337 k from (rU_f (by decide)).trans (rW_f (by decide))))
theorem PLS.byt (hJ : IV true T U S) (h : PLS S l) : byt l := fun k hk => by
  by_cases q : k < (l.length : Int)
  · rw [← h.2.2 k hk q]
    exact IV.a hJ 2349 0 60 rfl rfl rfl hk (by have := h.2.1; omega)
  · rw [lg_out (by omega)]
    decide
theorem m_cd_loop {e0 : Int} {pl : List Int} (hp : 0 ≤ p ∧ p < 8) (hpl : PLS S pl) (hn : (pl.length : Int) = z) : ∀ (m : Nat) (i : Int) (σ : hM), i + m = z → 0 ≤ i → PM σ0 (rW P 2325 (60 * p) (seg (S 2349) 0 i.toNat)) S σ → WP fb d 374 31 [some (vR (some 2281)), some (vI p), some (vI e0), some (vI i)] [] σ (fun r σ' => r = some (vI 0) ∧ PM σ0 (gDot P p pl) S σ') := by
  have h85 := hpl.1.trans hn
  have hz := hpl.2.1
  have hseg : seg (S 2349) 0 z.toNat = pl := seg_eq.mpr ⟨by omega, fun i a b => by rw [Int.zero_add]; exact hpl.2.2 i a (by omega)⟩
  intro m
  induction m with
  | zero =>
    intro i σ h1 h2 hP
    have hi : i = z := by omega
    rw [hi, hseg] at hP
    refine x_li (z := i) T_374_31 rfl ?_
    refine x_lr (z := some 2281) T_374_32 rfl ?_
    refine x_gI (z := z) T_374_33 (Or.inl F_17_85) (PM.t hP) (Eq.trans (PM.nS hP 2281 85 85 rfl rfl rfl) h85) ?_
    refine x_ic2 T_374_36 (fun _ => ?_) (fun h => absurd (show z ≤ i by omega) h)
    refine x_lr (z := some 2281) T_374_62 rfl ?_
    refine x_gR (z := some 2326) T_374_63 F_17_56 (PM.t hP) (PM.r hP 56 2326 rfl) ?_
    refine x_li (z := p) T_374_66 rfl ?_
    refine x_lr (z := some 2281) T_374_67 rfl ?_
    refine x_gI (z := z) T_374_68 (Or.inl F_17_85) (PM.t hP) (Eq.trans (PM.nS hP 2281 85 85 rfl rfl rfl) h85) ?_
    refine y_aIP hP T_374_71 2326 8 rfl rfl rfl (by omega) (by omega) (fun σ hP => ?_)
    refine x_ic T_374_72 ?_
    refine x_ri T_374_73 ?_
    exact ⟨rfl, by unfold gDot; rw [hn]; exact hP⟩
  | succ m ih =>
    intro i σ h1 h2 hP
    have hlen : ((seg (S 2349) 0 i.toNat).length : Int) = i := by rw [seg_len]; omega
    have e1 : rU (rW P 2325 (60 * p) (seg (S 2349) 0 i.toNat)) 2325 (60 * p + i) (S 2349 i) = rW P 2325 (60 * p) (seg (S 2349) 0 (i + 1).toNat) := by
      rw [← rW_one, show 60 * p + i = 60 * p + ((seg (S 2349) 0 i.toNat).length : Int) by omega, rW_app, show (i + 1).toNat = i.toNat + 1 by omega, seg_snoc, show (0 : Int) + (i.toNat : Int) = i by omega]
    have hgo := fun (σ : hM) (hP : PM σ0 (rU (rW P 2325 (60 * p) (seg (S 2349) 0 i.toNat)) 2325 (60 * p + i) (S 2349 i)) S σ) => ih (i + 1) σ (by omega) (by omega) (by rw [← e1]; exact hP)
    refine x_li (z := i) T_374_31 rfl ?_
    refine x_lr (z := some 2281) T_374_32 rfl ?_
    refine x_gI (z := z) T_374_33 (Or.inl F_17_85) (PM.t hP) (Eq.trans (PM.nS hP 2281 85 85 rfl rfl rfl) h85) ?_
    refine x_ic2 T_374_36 (fun h => absurd (show z ≤ i from h) (by omega)) (fun _ => ?_)
    refine x_lr (z := some 2281) T_374_39 rfl ?_
    refine x_gR (z := some 2325) T_374_40 F_17_55 (PM.t hP) (PM.r hP 55 2325 rfl) ?_
    refine x_ic T_374_43 ?_
    refine x_li (z := p) T_374_45 rfl ?_
    refine x_ib (w := (60 * p)) T_374_46 (fun h => absurd h.1 (by decide)) (w32_id (by omega) (by omega)) ?_
    refine x_li (z := i) T_374_47 rfl ?_
    refine x_ib (w := ((60 * p) + i)) T_374_48 (fun h => absurd h.1 (by decide)) (w32_id (by omega) (by omega)) ?_
    refine x_lr (z := some 2281) T_374_49 rfl ?_
    refine x_gR (z := some 2349) T_374_50 F_17_84 (PM.t hP) (PM.r hP 84 2349 rfl) ?_
    refine x_li (z := i) T_374_53 rfl ?_
    refine x_alI (z := S 2349 i) T_374_54 (by decide) (PM.ta hP 2349 0 60 rfl rfl) (by omega) (by omega) (PM.aS hP 2349 rfl rfl (by omega)) ?_
    refine y_aIP hP T_374_55 2325 480 rfl rfl rfl (by omega) (by omega) (fun σ hP => ?_)
    refine x_inc (w := (i + 1)) (ls1 := [some (vR (some 2281)), some (vI p), some (vI e0), some (vI (i + 1))]) T_374_56 rfl (w32_id (by omega) (by omega)) rfl ?_
    refine x_goto T_374_59 ?_
    exact hgo σ hP
theorem m_cd (hP : PM σ0 P S σ) (hK : KS T U P S l []) (hp : 0 ≤ p ∧ p < 8) (hT : T + 800 ≤ 2147483000) (hw : 1 < ((lnW l).length : Int)) : CL fb (d + 16) 374 [vR (some 2281), vI p] σ (KC (T + 300) U σ0 S l (cCd P p (lnB l 1)).1 (cCd P p (lnB l 1)).2.1 (cCd P p (lnB l 1)).2.2) := by
  have hww := k_ww (fb := fb) (d := d) (thr := 1) hP hK hp (Or.inr rfl) hT (by decide) ⟨by decide, hw⟩
  have hkf := KF_kWW (thr := 1) (wd := lnB l 1) hK.1.iv hK.2.1 hp
  unfold cCd
  obtain ⟨e, he⟩ : ∃ e, (kWW P p 1 (lnB l 1)).1 = e := ⟨_, rfl⟩
  obtain ⟨P1, hP1⟩ : ∃ P1, (kWW P p 1 (lnB l 1)).2.1 = P1 := ⟨_, rfl⟩
  obtain ⟨c, hc⟩ : ∃ c, (kWW P p 1 (lnB l 1)).2.2 = c := ⟨_, rfl⟩
  rw [he, hP1] at hkf
  rw [he, hP1, hc] at hww
  rw [he, hP1, hc]
  by_cases q1 : 0 < e
  · rw [if_pos q1]
    rw [kHoldn (by omega)] at hww
    refine CL_in mL_374 rfl ?_
    show WP fb _ 374 0 [some (vR (some 2281)), some (vI p), none, none] [] σ _
    refine x_lr (z := some 2281) T_374_0 rfl ?_
    refine x_li (z := p) T_374_1 rfl ?_
    refine x_ic T_374_2 ?_
    refine x_ic T_374_3 ?_
    refine x_cv4 T_374_4 mN_327 mL_327 (Nat.le_of_ble_eq_true rfl) mO_327 (PM.t hP) (Nat.le_of_ble_eq_true rfl) (hww) ?_
    clear hP hww
    rintro _ σ ⟨S2, rfl, hP, hK2, hX2, -⟩
    refine cI ?_
    refine x_si (ls1 := [some (vR (some 2281)), some (vI p), some (vI e), none]) T_374_7 rfl ?_
    refine x_li (z := e) T_374_8 rfl ?_
    refine x_if T_374_9 (fun h => absurd (show e ≤ 0 from h) (by omega)) (fun _ => ?_)
    refine x_li (z := e) T_374_12 rfl ?_
    refine x_ri T_374_13 ?_
    exact ⟨S2, rfl, hP, hK2, hX2⟩
  · have q2 : e = 0 := by omega
    subst q2
    rw [kHold0] at hww
    rw [if_neg q1]
    by_cases q3 : and32 c.2.2.2.1 128 = 0
    · rw [if_pos q3]
      refine CL_in mL_374 rfl ?_
      show WP fb _ 374 0 [some (vR (some 2281)), some (vI p), none, none] [] σ _
      refine x_lr (z := some 2281) T_374_0 rfl ?_
      refine x_li (z := p) T_374_1 rfl ?_
      refine x_ic T_374_2 ?_
      refine x_ic T_374_3 ?_
      refine x_cv4 T_374_4 mN_327 mL_327 (Nat.le_of_ble_eq_true rfl) mO_327 (PM.t hP) (Nat.le_of_ble_eq_true rfl) (hww) ?_
      clear hP hww
      rintro _ σ ⟨S2, rfl, hP, hK2, hX2, -⟩
      obtain ⟨g1, g2, g3, g4, g5, g6, g7⟩ := hK2.2.2.2.1.last
      refine cI ?_
      refine x_si (ls1 := [some (vR (some 2281)), some (vI p), some (vI 0), none]) T_374_7 rfl ?_
      refine x_li (z := 0) T_374_8 rfl ?_
      refine x_if T_374_9 (fun _ => ?_) (fun h => absurd (show (0 : Int) ≤ 0 by decide) h)
      refine x_lr (z := some 2281) T_374_14 rfl ?_
      refine x_lr (z := some 2281) T_374_15 rfl ?_
      refine x_gI (z := 1) T_374_16 (Or.inl F_17_91) (PM.t hP) (Eq.trans (PM.nS hP 2281 91 91 rfl rfl rfl) g1) ?_
      refine x_ic T_374_19 ?_
      refine x_ib (w := 0) T_374_20 (fun h => absurd h.1 (by decide)) (by decide) ?_
      refine x_cv2 T_374_21 mN_348 mL_348 (Nat.le_of_ble_eq_true rfl) mO_348 (PM.t hP) (Nat.le_of_ble_eq_true rfl) ((CL.mono (m_isDirH hP (by decide) g6) (fun r σ1 hr => by rw [if_pos q3] at hr; exact hr) : CL fb _ 348 [vR (some 2281), vI 0] σ (rP 0 σ))) ?_
      rintro _ σ ⟨rfl, rfl⟩
      refine cI ?_
      refine x_if T_374_24 (fun h => absurd (show ¬ (0 : Int) = 0 from h) (by decide)) (fun _ => ?_)
      refine x_ic T_374_27 ?_
      refine x_ri T_374_28 ?_
      exact ⟨S2, rfl, hP, hK2, hX2⟩
    · rw [if_neg q3]
      refine CL_in mL_374 rfl ?_
      show WP fb _ 374 0 [some (vR (some 2281)), some (vI p), none, none] [] σ _
      refine x_lr (z := some 2281) T_374_0 rfl ?_
      refine x_li (z := p) T_374_1 rfl ?_
      refine x_ic T_374_2 ?_
      refine x_ic T_374_3 ?_
      refine x_cv4 T_374_4 mN_327 mL_327 (Nat.le_of_ble_eq_true rfl) mO_327 (PM.t hP) (Nat.le_of_ble_eq_true rfl) (hww) ?_
      clear hP hww
      rintro _ σ ⟨S2, rfl, hP, hK2, hX2, hpl⟩
      have hpl := hpl rfl
      obtain ⟨g1, g2, g3, g4, g5, g6, g7⟩ := hK2.2.2.2.1.last
      refine cI ?_
      refine x_si (ls1 := [some (vR (some 2281)), some (vI p), some (vI 0), none]) T_374_7 rfl ?_
      refine x_li (z := 0) T_374_8 rfl ?_
      refine x_if T_374_9 (fun _ => ?_) (fun h => absurd (show (0 : Int) ≤ 0 by decide) h)
      refine x_lr (z := some 2281) T_374_14 rfl ?_
      refine x_lr (z := some 2281) T_374_15 rfl ?_
      refine x_gI (z := 1) T_374_16 (Or.inl F_17_91) (PM.t hP) (Eq.trans (PM.nS hP 2281 91 91 rfl rfl rfl) g1) ?_
      refine x_ic T_374_19 ?_
      refine x_ib (w := 0) T_374_20 (fun h => absurd h.1 (by decide)) (by decide) ?_
      refine x_cv2 T_374_21 mN_348 mL_348 (Nat.le_of_ble_eq_true rfl) mO_348 (PM.t hP) (Nat.le_of_ble_eq_true rfl) ((CL.mono (m_isDirH hP (by decide) g6) (fun r σ1 hr => by rw [if_neg q3] at hr; exact hr) : CL fb _ 348 [vR (some 2281), vI 0] σ (rP 1 σ))) ?_
      rintro _ σ ⟨rfl, rfl⟩
      refine cI ?_
      refine x_if T_374_24 (fun _ => ?_) (fun h => absurd (show ¬ (1 : Int) = 0 by decide) h)
      refine x_ic T_374_29 ?_
      refine x_si (ls1 := [some (vR (some 2281)), some (vI p), some (vI 0), some (vI 0)]) T_374_30 rfl ?_
      have hpz := hpl.2.1
      refine WP.mono (m_cd_loop (d := d + 16) hp hpl rfl (paL (paRaw P p (lnB l 1))).length 0 σ (by omega) (by decide) (by show PM σ0 (rW P1 _ _ []) S2 σ; rw [rW_nil]; exact hP)) ?_
      rintro r σ1 ⟨rfl, b1⟩
      exact ⟨S2, rfl, b1, ⟨GI_gDot hK2.1 hp (hpl.byt hK2.2.2.1) hpz, PTS_gDot hK2.2.1, hK2.2.2⟩, hX2⟩
theorem m_rm (hP : PM σ0 P S σ) (hK : KS T U P S l []) (hp : 0 ≤ p ∧ p < 8) (hT : T + 800 ≤ 2147483000) (hw : 1 < ((lnW l).length : Int)) : CL fb (d + 16) 377 [vR (some 2281), vI p] σ (KC (T + 304) U σ0 S l (cRm P p (lnB l 1)).1 (cRm P p (lnB l 1)).2.1 (cRm P p (lnB l 1)).2.2) := by
  have hww := k_ww (fb := fb) (d := d) (thr := 0) hP hK hp (Or.inl rfl) hT (by decide) ⟨by decide, hw⟩
  have hkf := KF_kWW (thr := 0) (wd := lnB l 1) hK.1.iv hK.2.1 hp
  unfold cRm
  obtain ⟨e, he⟩ : ∃ e, (kWW P p 0 (lnB l 1)).1 = e := ⟨_, rfl⟩
  obtain ⟨P1, hP1⟩ : ∃ P1, (kWW P p 0 (lnB l 1)).2.1 = P1 := ⟨_, rfl⟩
  obtain ⟨c, hc⟩ : ∃ c, (kWW P p 0 (lnB l 1)).2.2 = c := ⟨_, rfl⟩
  rw [he, hP1] at hkf
  rw [he, hP1, hc] at hww
  rw [he, hP1, hc]
  by_cases q1 : 0 < e
  · rw [if_pos q1]
    rw [kHoldn (by omega)] at hww
    refine CL_in mL_377 rfl ?_
    show WP fb _ 377 0 [some (vR (some 2281)), some (vI p), none] [] σ _
    refine x_lr (z := some 2281) T_377_0 rfl ?_
    refine x_li (z := p) T_377_1 rfl ?_
    refine x_ic T_377_2 ?_
    refine x_ic T_377_3 ?_
    refine x_cv4 T_377_4 mN_327 mL_327 (Nat.le_of_ble_eq_true rfl) mO_327 (PM.t hP) (Nat.le_of_ble_eq_true rfl) (hww) ?_
    clear hP hww
    rintro _ σ ⟨S2, rfl, hP, hK2, hX2, -⟩
    refine cI ?_
    refine x_si (ls1 := [some (vR (some 2281)), some (vI p), some (vI e)]) T_377_7 rfl ?_
    refine x_li (z := e) T_377_8 rfl ?_
    refine x_if T_377_9 (fun h => absurd (show e ≤ 0 from h) (by omega)) (fun _ => ?_)
    refine x_li (z := e) T_377_12 rfl ?_
    refine x_ri T_377_13 ?_
    exact ⟨S2, rfl, hP, ⟨hK2.1.mono (by omega), hK2.2.1, hK2.2.2.1.mono (by omega) (Int.le_refl U), hK2.2.2.2⟩, hX2⟩
  · have q2 : e = 0 := by omega
    subst q2
    rw [kHold0] at hww
    rw [if_neg q1]
    refine CL_in mL_377 rfl ?_
    show WP fb _ 377 0 [some (vR (some 2281)), some (vI p), none] [] σ _
    refine x_lr (z := some 2281) T_377_0 rfl ?_
    refine x_li (z := p) T_377_1 rfl ?_
    refine x_ic T_377_2 ?_
    refine x_ic T_377_3 ?_
    refine x_cv4 T_377_4 mN_327 mL_327 (Nat.le_of_ble_eq_true rfl) mO_327 (PM.t hP) (Nat.le_of_ble_eq_true rfl) (hww) ?_
    clear hP hww
    rintro _ σ ⟨S2, rfl, hP, hK2, hX2, -⟩
    obtain ⟨g1, g2, g3, g4, g5, g6, g7⟩ := hK2.2.2.2.1.last
    obtain ⟨c1, c2, -⟩ := hK2.2.2.2.1.ch hK2.2.2.1
    have hh3 := hK2.2.2.2.1.less (j := 0) (Nat.zero_le _)
    refine cI ?_
    refine x_si (ls1 := [some (vR (some 2281)), some (vI p), some (vI 0)]) T_377_7 rfl ?_
    refine x_li (z := 0) T_377_8 rfl ?_
    refine x_if T_377_9 (fun _ => ?_) (fun h => absurd (show (0 : Int) ≤ 0 by decide) h)
    refine x_lr (z := some 2281) T_377_14 rfl ?_
    refine x_dupR T_377_15 ?_
    refine x_gI (z := 1) T_377_16 (Or.inl F_17_91) (PM.t hP) (Eq.trans (PM.nS hP 2281 91 91 rfl rfl rfl) g1) ?_
    refine x_ic T_377_19 ?_
    refine x_ib (w := 0) T_377_20 (fun h => absurd h.1 (by decide)) (by decide) ?_
    refine y_pIS hP T_377_21 F_17_91 91 rfl rfl (fun σ hP => ?_)
    refine x_lr (z := some 2281) T_377_24 rfl ?_
    refine x_ic T_377_25 ?_
    refine x_lr (z := some 2281) T_377_27 rfl ?_
    refine x_gR (z := some 2350) T_377_28 F_17_86 (PM.t hP) (PM.r hP 86 2350 rfl) ?_
    refine x_lr (z := some 2281) T_377_31 rfl ?_
    refine x_gI (z := 0) T_377_32 (Or.inl F_17_91) (PM.t hP) (Eq.trans (PM.nS hP 2281 91 91 rfl rfl rfl) rU_s) ?_
    refine x_alI (z := c.1) T_377_35 (by decide) (PM.ta hP 2350 0 64 rfl rfl) (by omega) (by omega) (Eq.trans (Eq.trans (PM.aS hP 2350 rfl rfl (by omega)) (rU_f (Nat.ne_of_beq_eq_false rfl))) g3) ?_
    refine x_lr (z := some 2281) T_377_36 rfl ?_
    refine x_gR (z := some 2351) T_377_37 F_17_87 (PM.t hP) (PM.r hP 87 2351 rfl) ?_
    refine x_lr (z := some 2281) T_377_40 rfl ?_
    refine x_gI (z := 0) T_377_41 (Or.inl F_17_91) (PM.t hP) (Eq.trans (PM.nS hP 2281 91 91 rfl rfl rfl) rU_s) ?_
    refine x_alI (z := c.2.1) T_377_44 (by decide) (PM.ta hP 2351 0 64 rfl rfl) (by omega) (by omega) (Eq.trans (Eq.trans (PM.aS hP 2351 rfl rfl (by omega)) (rU_f (Nat.ne_of_beq_eq_false rfl))) g4) ?_
    have hJ3 : IV true (T + 300) U (rU S2 2281 91 0) := hK2.2.2.1.uN 91 91 rfl (by show (0 : Int) ≤ 0 ∧ (0 : Int) ≤ 64; decide)
    have hL3 : LN (rU S2 2281 91 0) l := hK2.2.2.2.2.of (rU_k (by decide)) (rU_k (by decide)) (fun _ => rU_f (by decide)) (fun _ => rU_f (by decide)) (fun _ => rU_f (by decide))
    refine x_cv4 T_377_45 mN_345 mL_345 (Nat.le_of_ble_eq_true rfl) mO_345 (PM.t hP) (Nat.le_of_ble_eq_true rfl) (g_askOne hP hJ3 hK2.1 (by omega) (by omega) (Or.inr (Or.inl rfl))) ?_
    rintro _ σ ⟨S3, rfl, hP, hG3, hJ4, hA3, hK3⟩
    refine cI ?_
    refine x_ri T_377_48 ?_
    exact ⟨S3, rfl, hP, ⟨hG3.mono (by omega), hK2.2.1.of KF_tP, hJ4.mono (by omega) (Int.le_refl U), hK3.hs hh3, hL3.sw hK3.sk.sw⟩, SX_tr (SX_un hX2 rfl) (SX_sc hK3.sk.sw)⟩
theorem r_wst_name {a0 b0 : Int} (ha : 0 ≤ a0) (hb : b0 ≤ 100) {f0 mode len : Int} {lq : List Int} (hJ : IV true T U S) {n w0 : Int} (hw0 : w0 + (b0 - a0) ≤ 400) {Q : Option AV → hM → Prop} (hQ : ∀ (σ : hM) (S1 : qR), PM σ0 P S1 σ → RQ T U S S1 (w0 + (b0 - a0)) (lq ++ seg (S 2343) a0 (b0 - a0).toNat) → WP fb (d + 1) 389 151 [some (vR (some 2281)), some (vI s), some (vI f0), some (vI a0), some (vI b0), some (vL mode), none, some (vL len), none, some (vI n), some (vI b0)] [] σ Q) : ∀ (m : Nat) (k : Int) (σ : hM) (S1 : qR), k + m = b0 → a0 ≤ k → PM σ0 P S1 σ → RQ T U S S1 (w0 + (k - a0)) (lq ++ seg (S 2343) a0 (k - a0).toNat) → WP fb (d + 1) 389 125 [some (vR (some 2281)), some (vI s), some (vI f0), some (vI a0), some (vI b0), some (vL mode), none, some (vL len), none, some (vI n), some (vI k)] [] σ Q := by
  intro m
  induction m with
  | zero =>
    intro k σ S1 h1 h2 hP hR
    have e : k = b0 := by omega
    subst e
    have hgo := hQ σ S1 hP hR
    refine x_li (z := k) T_389_125 rfl ?_
    refine x_li (z := k) T_389_127 rfl ?_
    refine x_ic2 T_389_129 (fun _ => ?_) (fun h => absurd (show k ≤ k by omega) h)
    exact hgo
  | succ m ih =>
    intro k σ S1 h1 h2 hP hR
    have hQ := hR
    have er : S1 2343 k = S 2343 k := hQ.2.2.2.2.2.1 _ _ (by decide) (by decide)
    have br : 0 ≤ S 2343 k ∧ S 2343 k ≤ 255 := IV.a hJ 2343 0 100 rfl rfl rfl (by omega) (by omega)
    refine x_li (z := k) T_389_125 rfl ?_
    refine x_li (z := b0) T_389_127 rfl ?_
    refine x_ic2 T_389_129 (fun h => absurd (show b0 ≤ k from h) (by omega)) (fun _ => ?_)
    refine x_lr (z := some 2281) T_389_132 rfl ?_
    refine x_ic T_389_133 ?_
    refine x_lr (z := some 2281) T_389_134 rfl ?_
    refine x_gR (z := some 2343) T_389_135 F_17_73 (PM.t hP) (PM.r hP 73 2343 rfl) ?_
    refine x_li (z := k) T_389_138 rfl ?_
    refine x_alI (z := S 2343 k) T_389_140 (by decide) (PM.ta hP 2343 0 100 rfl rfl) (by omega) (by omega) (Eq.trans (PM.aS hP 2343 rfl rfl (by omega)) er) ?_
    refine x_i2l T_389_141 ?_
    refine x_cv3 T_389_142 mN_229 mL_229 (Nat.le_of_ble_eq_true rfl) mO_229 (PM.t hP) (Nat.le_of_ble_eq_true rfl) (r_askPut 1 rfl hP hQ (by decide) (by omega)) ?_
    rintro _ σ ⟨rfl, S1, hP, hQ⟩
    refine cV ?_
    refine x_inc (w := (k + 1)) (ls1 := [some (vR (some 2281)), some (vI s), some (vI f0), some (vI a0), some (vI b0), some (vL mode), none, some (vL len), none, some (vI n), some (vI (k + 1))]) T_389_145 rfl (w32_id (by omega) (by omega)) rfl ?_
    refine x_goto T_389_148 ?_
    refine ih (k + 1) σ _ (by omega) (by omega) hP ?_
    rw [leb_one br, List.append_assoc] at hQ
    rw [show w0 + (k + 1 - a0) = w0 + (k - a0) + 1 by omega, show (k + 1 - a0).toNat = (k - a0).toNat + 1 by omega, seg_snoc, show a0 + ((k - a0).toNat : Int) = k by omega]
    exact hQ
end MCMD
