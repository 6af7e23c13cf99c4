/-! A word walked as a path; a file made at one. -/
theorem T_327_0 : hTab 327 0 = some ((3, 0, 2, []), 1) := rfl
theorem T_327_1 : hTab 327 1 = some ((3, 1, 0, []), 2) := rfl
theorem T_327_2 : hTab 327 2 = some ((3, 2, 0, []), 3) := rfl
theorem T_327_3 : hTab 327 3 = some ((31, 328, 0, []), 6) := rfl
theorem T_327_6 : hTab 327 6 = some ((4, 4, 0, []), 8) := rfl
theorem T_327_8 : hTab 327 8 = some ((3, 4, 0, []), 10) := rfl
theorem T_327_10 : hTab 327 10 = some ((18, 5, Int.ofNat 18, []), 13) := rfl
theorem T_327_13 : hTab 327 13 = some ((3, 4, 0, []), 15) := rfl
theorem T_327_15 : hTab 327 15 = some ((22, 0, Int.ofNat 28, []), 18) := rfl
theorem T_327_18 : hTab 327 18 = some ((3, 0, 2, []), 19) := rfl
theorem T_327_19 : hTab 327 19 = some ((3, 1, 0, []), 20) := rfl
theorem T_327_20 : hTab 327 20 = some ((3, 0, 2, []), 21) := rfl
theorem T_327_21 : hTab 327 21 = some ((24, 17, Int.ofNat 83, []), 24) := rfl
theorem T_327_24 : hTab 327 24 = some ((3, 3, 0, []), 25) := rfl
theorem T_327_25 : hTab 327 25 = some ((31, 332, 0, []), 28) := rfl
theorem T_327_28 : hTab 327 28 = some ((33, 1, 0, []), 29) := rfl
theorem mN_327 : hmN 327 = 4 := by decide +kernel
theorem mL_327 : hmL 327 = 5 := by decide +kernel
theorem mK_327 : hmK 327 = 1 := by decide +kernel
theorem mO_327 : hmO 327 = 17 := by decide +kernel
def kWW (P : qR) (p thr : Int) (wd : List Int) : Int × qR × Ch := if 0 < paE (paRaw P p wd) then (paE (paRaw P p wd), P, c0) else kWalk P p (paO (paRaw P p wd)) thr (paM (paRaw P p wd))
def mCre (f : Int) (nm : List Int) (perm mode : Int) : List Int := leb 1 114 ++ leb 2 1 ++ leb 4 f ++ leb 2 (nm.length : Int) ++ nm ++ leb 4 perm ++ leb 1 mode
def mkM (P : qR) (pt : Int) : Nat → Int → Int
  | 0, _ => -1
  | m + 1, j => if ¬ P 2342 (6 * pt + j) = 0 then 6 * pt + j else mkM P pt m (j + 1)
/-- the member of a point to make files in, or -1 -/
def qMk (P : qR) (pt : Int) : Int := mkM P pt (P 2337 pt).toNat 0
/-- from the channel that was walked to, the one to make a file in -/
def kPlc (P : qR) (c : Ch) : Int × qR × List Ch := if c.2.2.2.2 < 0 then (0, P, [c]) else if qMk (kDrop P c) c.2.2.2.2 < 0 then (17, kDrop P c, []) else (kCpE (kDrop P c) (P 2338 (qMk (kDrop P c) c.2.2.2.2)) (P 2339 (qMk (kDrop P c) c.2.2.2.2)), kCpP (kDrop P c) (P 2338 (qMk (kDrop P c) c.2.2.2.2)) (P 2339 (qMk (kDrop P c) c.2.2.2.2)), kHold (kCpE (kDrop P c) (P 2338 (qMk (kDrop P c) c.2.2.2.2)) (P 2339 (qMk (kDrop P c) c.2.2.2.2))) [] (P 2338 (qMk (kDrop P c) c.2.2.2.2), qNewF (kDrop P c) (P 2338 (qMk (kDrop P c) c.2.2.2.2)), P 2340 (qMk (kDrop P c) c.2.2.2.2), P 2341 (qMk (kDrop P c) c.2.2.2.2), -1))
section MMAKE
variable {fb : Bool} {d : Nat} {σ0 σ : hM} {P Q R S S1 S2 : qR} {T U s w g u p k e t z o thr : Int} {l nm wd : List Int} {h : List Ch} {a f : Int → Int} {rows : List Nat} {sc : List Int} {ns : List (Int × Int)} {x : Int × Int} {c : Ch}
theorem paM_len : (paM l).length = (paN l).length := List.length_map _
theorem NMS.nl (hN : NMS S (paN l)) (hR : RAWS S l) (hl : 1 ≤ l.length) : NL S 0 (paM l) := fun i hi => by
  have hi2 : i < (paN l).length := by rw [paM_len] at hi; exact hi
  have hv := (paN_ok hl).1 i hi2
  obtain ⟨e1, e2⟩ := hN.2 i hi2
  have hlz := hR.2.1
  rw [show (0 : Int) + (i : Int) = (i : Int) by omega, e1, e2]
  refine ⟨hv.1, hv.2.1, by omega, ?_⟩
  rw [show (paM l).getD i [] = seg (lg l) ((paN l).getD i (0, 0)).1 (((paN l).getD i (0, 0)).2 - ((paN l).getD i (0, 0)).1).toNat by
    unfold paM
    rw [List.getD_eq_getElem?_getD, List.getElem?_map, List.getD_eq_getElem?_getD, List.getElem?_eq_getElem hi2]
    rfl]
  exact seg_eqz (z := (l.length : Int)) (fun j h0 h1 => hR.2.2.2 j h0 h1) hv.1 (by omega)
theorem paRaw_len (hwd : 1 ≤ wd.length) : 1 ≤ (paRaw P p wd).length := by
  unfold paRaw
  rw [List.length_append]
  omega
/-- what the kernel's walk of a word leaves -/
abbrev KX (T U : Int) (σ0 : hM) (S : qR) (e : Int) (P1 : qR) (h : List Ch) : Option AV → hM → Prop := fun r σ' => ∃ S2 : qR, r = some (vI e) ∧ PM σ0 P1 S2 σ' ∧ GI T U P1 ∧ IV true T U S2 ∧ HS S2 h ∧ SX swR swN S S2
theorem HS.sx (hh : HS S h) (hX : SX spR spN S S1) : HS S1 h := by
  refine ⟨(hX.1 91 rfl).trans hh.1, hh.2.1, fun i hi => ?_⟩
  rw [hX.2 _ _ rfl rfl, hX.2 _ _ rfl rfl, hX.2 _ _ rfl rfl, hX.2 _ _ rfl rfl, hX.2 _ _ rfl rfl]
  exact hh.2.2 i hi
theorem PLS.sk (hp : PLS S l) (hk : SK S S1) : PLS S1 l := ⟨(hk.1 85 (by decide) (by decide) (by decide) (by decide) (by decide) (by decide) (by decide) (by decide)).trans hp.1, hp.2.1, fun i h0 h1 => (hk.2 _ _ rfl (by decide) (by decide) (by decide) (by decide) (by decide) (by decide) (by decide) (by decide) (by decide)).trans (hp.2.2 i h0 h1)⟩
theorem m_walkWord {b q : Int} (hP : PM σ0 P S σ) (hJ : IV true T U S) (hG : GI T U P) (hPT : PTS P) (hp : 0 ≤ p ∧ p < 8) (ht : thr = 0 ∨ thr = 1) (hT : T + 800 ≤ 2147483000) (hh : HS S h) (hl : h.length + 2 < 60) (hw : 0 ≤ w ∧ w < 60) (ef : S 2344 w = b) (et : S 2345 w = q) (hbc : 0 ≤ b ∧ b < q ∧ q ≤ 100) (hwd : seg (S 2343) b (q - b).toNat = wd) : CL fb (d + 15) 327 [vR (some 2281), vI p, vI w, vI thr] σ (fun r σ' => ∃ S2 : qR, r = some (vI (kWW P p thr wd).1) ∧ PM σ0 (kWW P p thr wd).2.1 S2 σ' ∧ GI (T + 300) U (kWW P p thr wd).2.1 ∧ IV true (T + 300) U S2 ∧ HS S2 (kHold (kWW P p thr wd).1 h (kWW P p thr wd).2.2) ∧ SX swR swN S S2 ∧ ((kWW P p thr wd).1 = 0 → PLS S2 (paL (paRaw P p wd)))) := by
  have hwl : 1 ≤ wd.length := by rw [← hwd, seg_len]; omega
  have hm42 : 0 ≤ P 2281 42 ∧ P 2281 42 ≤ T := IV.n hG.iv 42 42 rfl rfl (by decide)
  have hll := paRaw_len (P := P) (p := p) hwl
  have hpa := m_parse (fb := fb) (d := d + 12) hP hJ hG.iv hp hw ef et hbc hwd rfl
  unfold kWW
  obtain ⟨l, hl0⟩ : ∃ l, paRaw P p wd = l := ⟨_, rfl⟩
  rw [hl0] at hll hpa ⊢
  by_cases q1 : 0 < paE l
  · rw [if_pos q1]
    show CL fb (d + 15) _ _ _ (fun r σ' => ∃ S2 : qR, r = some (vI (paE l)) ∧ PM σ0 P S2 σ' ∧ GI (T + 300) U P ∧ IV true (T + 300) U S2 ∧ HS S2 (kHold (paE l) h c0) ∧ SX swR swN S S2 ∧ (paE l = 0 → PLS S2 (paL l)))
    rw [kHoldn (by omega)]
    refine CL_in mL_327 rfl ?_
    show WP fb _ 327 0 [some (vR (some 2281)), some (vI p), some (vI w), some (vI thr), none] [] σ _
    refine x_lr (z := some 2281) T_327_0 rfl ?_
    refine x_li (z := p) T_327_1 rfl ?_
    refine x_li (z := w) T_327_2 rfl ?_
    refine x_cv3 T_327_3 mN_328 mL_328 (Nat.le_of_ble_eq_true rfl) mO_328 (PM.t hP) (Nat.le_of_ble_eq_true rfl) (hpa) ?_
    clear hP hpa
    rintro _ σ ⟨S2, rfl, hP, hJ2, hX2, hz⟩
    refine cI ?_
    refine x_si (ls1 := [some (vR (some 2281)), some (vI p), some (vI w), some (vI thr), some (vI (paE l))]) T_327_6 rfl ?_
    refine x_li (z := (paE l)) T_327_8 rfl ?_
    refine x_if T_327_10 (fun h => absurd (show (paE l) ≤ 0 from h) (by omega)) (fun _ => ?_)
    refine x_li (z := (paE l)) T_327_13 rfl ?_
    refine x_goto T_327_15 ?_
    refine x_ri T_327_28 ?_
    exact ⟨S2, rfl, hP, hG.mono (by omega), hJ2.mono (by omega) (Int.le_refl U), hh.sx hX2, SX_sp hX2, fun z => by omega⟩
  · have hE : paE l = 0 := by
      have : 0 ≤ paE l := by unfold paE; (repeat' split) <;> decide
      omega
    have h10 : (paN l).length ≤ 10 := by
      unfold paE at hE
      (repeat' split at hE) <;> omega
    rw [if_neg q1]
    have hw2 := fun (σ : hM) (S2 : qR) (hP : PM σ0 P S2 σ) (hJ2 : IV true T U S2) (hh2 : HS S2 h) (hN2 : NL S2 0 (paM l)) (ho : S2 2281 80 = paO l) => m_walk (fb := fb) (d := d) (many := ((paN l).length : Int)) hP hJ2 hG hPT hp ht hl (by rw [paM_len]) (by omega) (by rw [paM_len]; omega) hh2 hN2 ho
    obtain ⟨e, he⟩ : ∃ e, (kWalk P p (paO l) thr (paM l)).1 = e := ⟨_, rfl⟩
    obtain ⟨Pn, hPn⟩ : ∃ Pn, (kWalk P p (paO l) thr (paM l)).2.1 = Pn := ⟨_, rfl⟩
    obtain ⟨cn, hcn⟩ : ∃ cn, (kWalk P p (paO l) thr (paM l)).2.2 = cn := ⟨_, rfl⟩
    rw [he, hPn, hcn, paM_len] at hw2
    rw [he, hPn, hcn]
    refine CL_in mL_327 rfl ?_
    show WP fb _ 327 0 [some (vR (some 2281)), some (vI p), some (vI w), some (vI thr), none] [] σ _
    refine x_lr (z := some 2281) T_327_0 rfl ?_
    refine x_li (z := p) T_327_1 rfl ?_
    refine x_li (z := w) T_327_2 rfl ?_
    refine x_cv3 T_327_3 mN_328 mL_328 (Nat.le_of_ble_eq_true rfl) mO_328 (PM.t hP) (Nat.le_of_ble_eq_true rfl) (hpa) ?_
    clear hP hpa
    rintro _ σ ⟨S2, rfl, hP, hJ2, hX2, hz⟩
    obtain ⟨z1, z2, z3, z4⟩ := hz hE
    have h83 := z2.1
    refine cI ?_
    refine x_si (ls1 := [some (vR (some 2281)), some (vI p), some (vI w), some (vI thr), some (vI (paE l))]) T_327_6 rfl ?_
    refine x_li (z := (paE l)) T_327_8 rfl ?_
    refine x_if T_327_10 (fun _ => ?_) (fun h => absurd (show (paE l) ≤ 0 by omega) h)
    refine x_lr (z := some 2281) T_327_18 rfl ?_
    refine x_li (z := p) T_327_19 rfl ?_
    refine x_lr (z := some 2281) T_327_20 rfl ?_
    refine x_gI (z := ((paN l).length : Int)) T_327_21 (Or.inl F_17_83) (PM.t hP) (Eq.trans (PM.nS hP 2281 83 83 rfl rfl rfl) h83) ?_
    refine x_li (z := thr) T_327_24 rfl ?_
    refine x_cv4 T_327_25 mN_332 mL_332 (Nat.le_of_ble_eq_true rfl) mO_332 (PM.t hP) (Nat.le_of_ble_eq_true rfl) (hw2 σ S2 hP hJ2 (hh.sx hX2) (z2.nl z3 hll) z1) ?_
    clear hP
    rintro _ σ ⟨S3, rfl, hP, hG3, hJ3, hh3, hK3⟩
    refine cI ?_
    refine x_ri T_327_28 ?_
    exact ⟨S3, rfl, hP, hG3.mono (by omega), hJ3.mono (by omega) (Int.le_refl U), hh3, SX_tr (SX_sp hX2) hK3.sw, fun _ => z4.sk hK3⟩
end MMAKE
