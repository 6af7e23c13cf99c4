/-! The class's servers: a read's answer. -/
theorem T_68_16 : hTab 68 16 = some ((0, 0, 9, []), 18) := rfl
theorem T_68_18 : hTab 68 18 = some ((33, 1, 0, []), 19) := rfl
theorem T_68_28 : hTab 68 28 = some ((0, 0, 1, []), 29) := rfl
theorem T_68_29 : hTab 68 29 = some ((33, 1, 0, []), 30) := rfl
theorem T_68_58 : hTab 68 58 = some ((0, 0, 14, []), 60) := rfl
theorem T_68_60 : hTab 68 60 = some ((33, 1, 0, []), 61) := rfl
section XRDE
variable {fb : Bool} {d S a b c0 rp mb m0 N M fa pr : Nat} {σ0 σ σ' : hM} {W W1 W2 W3 P Q : qR} {R R1 R2 : rR} {i j k x z v s e w f u p g ln K T U C c y off cnt n md : Int} {ord l l2 nm lo D L li : List Int} {t : Nat → Nat} {r : Option AV} {F : Int → Int}
/-- a fid open at a process's ctl is open to write only -/
def CTW (P : qR) : Prop := ∀ k : Int, 192 ≤ k → k < 288 → ¬ P 2304 k = 0 → 0 ≤ P 2309 k → 16 ≤ P 2306 k → P 2306 k % 16 = 2 → and32 (P 2309 k) 3 = 1
set_option maxHeartbeats 4000000 in
theorem x_doRead (hP : PX σ0 W R σ) (hS : VS S s) (hX : XV W R P S s ord t) (hK : CT K W R) (hG : GI T U P) (hD : TI P) (hIO : SCR W P) (hst : s = 2 → ∀ p, 0 ≤ p → p < 8 → ¬ P 2320 p = 0 → PST W R P p (295 + 125 * p.toNat)) (hct : CTW P) (hr : R S 2233 = some mb) (hrp : R S 2234 = some rp) (hB : BY W mb M l) (hz : (l.length : Int) = z) (hw : z = 23) (hBr : BY W rp 300 l2) (hro : rp + 1 < S ∨ S + 294 ≤ rp) (hroom : l2.length = 7) (n1 : rp ≠ 130) (n2 : rp ≠ 132) (hc : c = 0 ∨ c = 1) (hcn : W S 2235 = c) (hi : 0 ≤ i ∧ i < 96) (hk : qFid P s c (nu (lg l) 7 4) = 96 * s + i) (hu : ¬ P 2304 (96 * s + i) = 0) : CL fb (d + 3) 68 [vR (some S), vR (some (S + 198 + i.toNat))] σ (XT σ0 K W R S rp s (rdErr P s c (lg l) z) (if rdErr P s c (lg l) z = 0 then rdP P s (96 * s + i) (w64 (nu (lg l) 11 8)) (nu (lg l) 19 4) else P) (l2 ++ (leb 4 ((rdD P s (96 * s + i) (w64 (nu (lg l) 11 8)) (nu (lg l) 19 4)).length : Int) ++ rdD P s (96 * s + i) (w64 (nu (lg l) 11 8)) (nu (lg l) 19 4)))) := by
  have hO := hS.o
  have hsr := hS.1
  have hrg := hS.rng
  have hm := hB.1
  have hbr := hBr.1
  have hrlt := hBr.lt
  have hr0 := (tX_o hbr).1
  have hb8 := hB.2.2.2.2.2.1
  have hfo := hS.fd hi
  have h6 := XV.len6 hG.iv hsr.1
  obtain ⟨f1, f2, f3, f4, f5, f6, f7, f8⟩ := (hX.2.1 i hi.1 hi.2).2.1 hu
  obtain ⟨w, hw0⟩ : ∃ y, nu (lg l) 19 4 = y := ⟨_, rfl⟩
  have hwr := nu_rng (f := lg l) (i := 19) 4 (fun j _ => hb8 _ (by omega))
  rw [hw0] at hwr
  obtain ⟨off, ho0⟩ : ∃ y, w64 (nu (lg l) 11 8) = y := ⟨_, rfl⟩
  obtain ⟨md, hmd⟩ : ∃ y, P 2309 (96 * s + i) = y := ⟨_, rfl⟩
  obtain ⟨gn, hgn⟩ : ∃ y, P 2310 (96 * s + i) = y := ⟨_, rfl⟩
  obtain ⟨nd, hnd⟩ : ∃ nd, P 2306 (96 * s + i) = nd := ⟨_, rfl⟩
  obtain ⟨rt, hrt⟩ : ∃ nd, P 2311 (96 * s + i) = nd := ⟨_, rfl⟩
  obtain ⟨lim, hlm0⟩ : ∃ y, P 2313 (2 * s + c) = y := ⟨_, rfl⟩
  have hlm : W (S + 3) c = lim := by
    rw [← hlm0]
    rcases hc with rfl | rfl
    · rw [Int.add_zero]
      exact hX.2.2.1.1
    · exact hX.2.2.1.2.1
  have hlr : 0 ≤ lim ∧ lim ≤ 300 := by
    have ba : 64 ≤ P 2313 (2 * s + c) ∧ P 2313 (2 * s + c) ≤ 300 := IV.a hG.iv 2313 0 6 rfl rfl rfl (by omega) (by omega)
    omega
  have eE : rdErr P s c (lg l) z = if md < 0 ∨ and32 md 3 = 1 then 9 else if ¬ gn = 0 then 1 else if lim - 11 < w then 14 else if qMode P s nd < 0 ∧ ¬ off = 0 ∧ ¬ off = rt then 13 else 0 := by
    unfold rdErr rdX
    rw [hk, hmd, hgn, hnd, hrt, hw0, ho0, hlm0, if_neg (fun q => q hw), if_neg (by omega)]
  rw [ho0, hw0]
  obtain ⟨LL, hLL⟩ : ∃ L, l2 ++ (leb 4 ((rdD P s (96 * s + i) off w).length : Int) ++ rdD P s (96 * s + i) off w) = L := ⟨_, rfl⟩
  have hno : ∀ e0 : Int, ¬ e0 = 0 → rdErr P s c (lg l) z = e0 → XT σ0 K W R S rp s (rdErr P s c (lg l) z) (if rdErr P s c (lg l) z = 0 then rdP P s (96 * s + i) off w else P) LL (some (vI e0)) σ := fun e0 q1 q2 => by
    rw [q2, if_neg q1]
    exact ⟨rfl, W, R, ord, t, l2, hP, hBr, fun c => absurd c q1, hX, hK, FVX_of FV_rfl, hIO⟩
  rw [hLL]
  have hmo2 : W (S + 198 + i.toNat) 2293 = if md < 0 then -1 else and32 md 3 := by rw [f4, hmd]; rfl
  rw [hgn, hnd] at f8
  have hlv := fun q => hD.live hG hsr hi hu (hgn.trans q)
  rw [hnd] at hlv
  have hsz := x_sizeOf (fb := fb) (d := d + 2) hP hS hc hlm
  have hnw := x_num (fb := fb) (d := d + 2) (s := 19) (k := 4) 4 hP hB hz rfl (by decide) (by decide) (by omega) hw0
  obtain ⟨fa, hfa⟩ : ∃ fa, S + 198 + i.toNat = fa := ⟨_, rfl⟩
  rw [hfa] at f8 hfo hmo2 ⊢
  obtain ⟨mv, hmv⟩ : ∃ y, (if md < 0 then -1 else and32 md 3) = y := ⟨_, rfl⟩
  rw [hmv] at hmo2
  have hmv9 : (md < 0 ∨ and32 md 3 = 1) ↔ (mv = -1 ∨ mv = 1) := by
    have := and3_rng (x := md)
    rw [← hmv]
    split <;> omega
  rw [ifc hmv9] at eE
  by_cases q9 : mv = -1
  · rw [if_pos (Or.inl q9)] at eE
    have hno := hno 9 (by decide) eE
    refine CL_in mL_68 rfl ?_
    show WP fb _ 68 0 [some (vR (some S)), some (vR (some fa)), none, none, none, none, none, none, none, none] [] σ _
    refine x_lr (z := some fa) T_68_0 rfl ?_
    refine x_gI (z := mv) T_68_1 (Or.inl F_9_5) (hP.o hfo) (Eq.trans (hP.gi hfo (key := 2293) rfl) hmo2) ?_
    refine x_ic T_68_4 ?_
    refine x_ic2 T_68_5 (fun _ => ?_) (fun h => absurd (show mv = (-1) by omega) h)
    refine x_ic T_68_16 ?_
    refine x_ri T_68_18 ?_
    exact hno
  by_cases q91 : mv = 1
  · rw [if_pos (Or.inr q91)] at eE
    have hno := hno 9 (by decide) eE
    refine CL_in mL_68 rfl ?_
    show WP fb _ 68 0 [some (vR (some S)), some (vR (some fa)), none, none, none, none, none, none, none, none] [] σ _
    refine x_lr (z := some fa) T_68_0 rfl ?_
    refine x_gI (z := mv) T_68_1 (Or.inl F_9_5) (hP.o hfo) (Eq.trans (hP.gi hfo (key := 2293) rfl) hmo2) ?_
    refine x_ic T_68_4 ?_
    refine x_ic2 T_68_5 (fun h => absurd (show mv = (-1) from h) (by omega)) (fun _ => ?_)
    refine x_lr (z := some fa) T_68_8 rfl ?_
    refine x_gI (z := mv) T_68_9 (Or.inl F_9_5) (hP.o hfo) (Eq.trans (hP.gi hfo (key := 2293) rfl) hmo2) ?_
    refine x_ic T_68_12 ?_
    refine x_ic2 T_68_13 (fun h => absurd (show ¬ mv = 1 from h) (by omega)) (fun _ => ?_)
    refine x_ic T_68_16 ?_
    refine x_ri T_68_18 ?_
    exact hno
  rw [if_neg (by omega)] at eE
  by_cases q1 : gn = 0
  rotate_left
  · rw [if_pos q1] at eE
    rw [if_neg q1] at f8
    have hno := hno 1 (by decide) eE
    refine CL_in mL_68 rfl ?_
    show WP fb _ 68 0 [some (vR (some S)), some (vR (some fa)), none, none, none, none, none, none, none, none] [] σ _
    refine x_lr (z := some fa) T_68_0 rfl ?_
    refine x_gI (z := mv) T_68_1 (Or.inl F_9_5) (hP.o hfo) (Eq.trans (hP.gi hfo (key := 2293) rfl) hmo2) ?_
    refine x_ic T_68_4 ?_
    refine x_ic2 T_68_5 (fun h => absurd (show mv = (-1) from h) (by omega)) (fun _ => ?_)
    refine x_lr (z := some fa) T_68_8 rfl ?_
    refine x_gI (z := mv) T_68_9 (Or.inl F_9_5) (hP.o hfo) (Eq.trans (hP.gi hfo (key := 2293) rfl) hmo2) ?_
    refine x_ic T_68_12 ?_
    refine x_ic2 T_68_13 (fun _ => ?_) (fun h => absurd (show ¬ mv = 1 by omega) h)
    refine x_lr (z := some fa) T_68_19 rfl ?_
    refine x_gR (z := none) T_68_20 F_9_3 (hP.o hfo) (Eq.trans (hP.rm hfo rfl (key := 2291) rfl) f8) ?_
    refine x_sr (ls1 := [some (vR (some S)), some (vR (some fa)), some (vR none), none, none, none, none, none, none, none]) T_68_23 rfl ?_
    refine x_lr (z := none) T_68_24 rfl ?_
    refine x_nnul T_68_25 (fun a0 h0 => absurd h0 (by simp)) (fun _ => ?_)
    refine x_ic T_68_28 ?_
    refine x_ri T_68_29 ?_
    exact hno
  rw [if_neg (fun c => c q1)] at eE
  rw [if_pos q1] at f8
  have hlv := hlv q1
  obtain ⟨b, ix, hb2, hix, hbix, hlx, htx, hN⟩ := hX.fnode hlv
  rw [hb2] at f8
  have hbno : tX b = some (Sum.inl 8) := hN.1
  by_cases q14 : lim - 11 < w
  · rw [if_pos q14] at eE
    have hno := hno 14 (by decide) eE
    refine CL_in mL_68 rfl ?_
    show WP fb _ 68 0 [some (vR (some S)), some (vR (some fa)), none, none, none, none, none, none, none, none] [] σ _
    refine x_lr (z := some fa) T_68_0 rfl ?_
    refine x_gI (z := mv) T_68_1 (Or.inl F_9_5) (hP.o hfo) (Eq.trans (hP.gi hfo (key := 2293) rfl) hmo2) ?_
    refine x_ic T_68_4 ?_
    refine x_ic2 T_68_5 (fun h => absurd (show mv = (-1) from h) (by omega)) (fun _ => ?_)
    refine x_lr (z := some fa) T_68_8 rfl ?_
    refine x_gI (z := mv) T_68_9 (Or.inl F_9_5) (hP.o hfo) (Eq.trans (hP.gi hfo (key := 2293) rfl) hmo2) ?_
    refine x_ic T_68_12 ?_
    refine x_ic2 T_68_13 (fun _ => ?_) (fun h => absurd (show ¬ mv = 1 by omega) h)
    refine x_lr (z := some fa) T_68_19 rfl ?_
    refine x_gR (z := some b) T_68_20 F_9_3 (hP.o hfo) (Eq.trans (hP.rm hfo rfl (key := 2291) rfl) f8) ?_
    refine x_sr (ls1 := [some (vR (some S)), some (vR (some fa)), some (vR (some b)), none, none, none, none, none, none, none]) T_68_23 rfl ?_
    refine x_lr (z := some b) T_68_24 rfl ?_
    refine x_nnul T_68_25 (fun _ _ => ?_) (fun h0 => absurd h0 (by simp))
    refine x_lr (z := some S) T_68_30 rfl ?_
    refine x_gR (z := some mb) T_68_31 F_7_9 (hP.o hO) (Eq.trans (hP.rm hO rfl (key := 2233) rfl) hr) ?_
    refine x_ic T_68_34 ?_
    refine x_ic T_68_36 ?_
    refine x_cv3 T_68_37 mN_29 mL_29 (Nat.le_of_ble_eq_true rfl) mO_29 (hP.o hm) (Nat.le_of_ble_eq_true rfl) (hnw) ?_
    rintro _ σ ⟨rfl, rfl⟩
    refine cL ?_
    refine x_sl (ls1 := [some (vR (some S)), some (vR (some fa)), some (vR (some b)), some (vL w), none, none, none, none, none, none]) T_68_40 rfl ?_
    refine x_ll (z := w) T_68_41 rfl ?_
    refine x_lr (z := some S) T_68_42 rfl ?_
    refine x_lr (z := some S) T_68_43 rfl ?_
    refine x_gI (z := c) T_68_44 (Or.inl F_7_11) (hP.o hO) (Eq.trans (hP.gi hO (key := 2235) rfl) hcn) ?_
    refine x_cv2 T_68_47 mN_34 mL_34 (Nat.le_of_ble_eq_true rfl) mO_34 (hP.o hO) (Nat.le_of_ble_eq_true rfl) (hsz) ?_
    rintro _ σ ⟨rfl, rfl⟩
    refine cI ?_
    refine x_ic T_68_50 ?_
    refine x_ib (w := (lim - 11)) T_68_52 (fun h => absurd h.1 (by decide)) (w32_id (by omega) (by omega)) ?_
    refine x_i2l T_68_53 ?_
    refine x_lif T_68_54 T_68_55 (fun h => absurd (show w ≤ (lim - 11) from h) (by omega)) (fun _ => ?_)
    refine x_ic T_68_58 ?_
    refine x_ri T_68_60 ?_
    exact hno
  rw [if_neg q14] at eE
  clear hno hsz hnw
  refine rd_pre hP hS hr hrp hB (hz.trans hw) hBr hroom hfo hmo2 ⟨q9, q91⟩ f8 hbno hc hcn hlm hlr hw0 (by omega) ho0 (fun σ W1 hP1 hB1 hF1 => ?_)
  have hX1 := hX.fbb hF1 (by omega) hro h6
  have hK1 := hK.fbb hF1 (by omega)
  have hFV : FV S rp W W1 R R := FV_fb hF1 (by omega) (by omega)
  have hI1 := hIO.fv hS hFV n1 n2
  have hw9 : 0 ≤ w ∧ w ≤ 289 := ⟨hwr.1, by omega⟩
  by_cases qd : qMode P s nd < 0
  · have e1 : rdD P s (96 * s + i) off w = (rdR P s (96 * s + i) off w).2.2 := by
      unfold rdD
      rw [hnd, if_pos qd]
    have e2 : rdP P s (96 * s + i) off w = gEnt P (96 * s + i) off w (rdR P s (96 * s + i) off w) := by
      unfold rdP
      rw [hnd, if_pos qd]
    rw [e1] at hLL
    rw [e2]
    by_cases qo : off = 0 ∨ off = rt
    · rw [if_neg (by omega)] at eE
      rw [eE, if_pos rfl, ← hLL]
      exact WP.mono (rd_83d hP1 hS hX1 hK1 hG hi hfa hu hnd hb2 hlv qd hw9 hrp hB1 hro hroom (by rw [hrt]; exact qo)) (fun _ _ h => XT.tr hFV (XT_of h hS (hI1.rows (fun _ => gEt_f (by decide) (by decide)) (fun _ => gEt_f (by decide) (by decide)) (fun _ => gEt_f (by decide) (by decide)) (gEt_f (by decide) (by decide)) (gEt_f (by decide) (by decide))) n1 n2))
    · rw [if_pos ⟨qd, by omega, by omega⟩] at eE
      rw [eE, if_neg (by decide)]
      exact WP.mono (rd_83n hP1 hS hX1 hK1 hi hfa hu hb2 hlv qd hB1 (by rw [hrt]; omega)) (fun _ _ h => XT.tr hFV (XT_of h hS hI1 n1 n2))
  rw [if_neg (fun c => qd c.1)] at eE
  rw [eE, if_pos rfl, ← hLL]
  clear hLL
  by_cases qs : s < 2
  · have e1 : rdD P s (96 * s + i) off w = part (fun x => P 2300 (600 * (64 * s + nd) + x)) (P 2297 (64 * s + nd)) off w := by
      unfold rdD
      rw [hnd, if_neg qd, if_pos qs]
    have e2 : rdP P s (96 * s + i) off w = P := by
      unfold rdP
      rw [hnd, if_neg qd, if_pos qs]
    rw [e1, e2]
    exact WP.mono (rd_file hP1 hS hX1 hK1 hG qs hb2 hlv qd hw9 hrp hB1 hro hroom) (fun _ _ h => XT.tr hFV (XT_of h hS hI1 n1 n2))
  have s2 : s = 2 := by omega
  subst s2
  by_cases qn : nd = 1
  · have e1 : rdD P 2 (96 * 2 + i) off w = seg (P 2314) 0 (if w < P 2281 39 then w else P 2281 39).toNat := by
      unfold rdD
      rw [hnd, if_neg qd, if_neg (by decide), if_pos qn]
    have e2 : rdP P 2 (96 * 2 + i) off w = gIn P (if w < P 2281 39 then w else P 2281 39) := by
      unfold rdP
      rw [hnd, if_neg qd, if_neg (by decide), if_pos qn]
    rw [e1, e2]
    subst qn
    exact WP.mono (rd_cons hP1 hS hX1 hK1 hG.iv hI1 hb2 hlv hw9 hrp hB1 hro hroom n1 n2 rfl) (fun _ _ h => XT.tr hFV h)
  · have e1 : rdD P 2 (96 * 2 + i) off w = part (lg (stL P (nd / 16 - 1))) 8 off w := by
      unfold rdD
      rw [hnd, if_neg qd, if_neg (by decide), if_neg qn]
    have e2 : rdP P 2 (96 * 2 + i) off w = P := by
      unfold rdP
      rw [hnd, if_neg qd, if_neg (by decide), if_neg qn]
    rw [e1, e2]
    have hmd0 : 0 ≤ md := by
      apply Decidable.byContradiction
      intro q
      rw [if_pos (by omega)] at hmv
      omega
    have hmv1 : ¬ and32 md 3 = 1 := by
      rw [if_neg (by omega)] at hmv
      omega
    have hcw := hct (96 * 2 + i) (by omega) (by omega) hu (by omega)
    rw [hnd, hmd] at hcw
    have hd2 : ¬ (nd = 0 ∨ nd % 16 = 0) := fun q => qd (by
      unfold qMode
      rw [if_neg (by decide), if_neg qn, if_pos q]
      decide)
    have hl2 : 16 ≤ nd ∧ nd < 144 ∧ nd % 16 ≤ 2 ∧ ¬ P 2320 (nd / 16 - 1) = 0 := by
      rcases hlv with q | q
      · omega
      · rcases q.2 with q | q | q
        · omega
        · omega
        · exact q
    have hn1 : nd % 16 = 1 := by
      apply Decidable.byContradiction
      intro q
      exact hmv1 (hcw hl2.1 (by omega))
    exact WP.mono (rd_stat hP1 hS hX1 hK1 ⟨hl2.1, hn1⟩ hb2 hlv ((hst rfl (nd / 16 - 1) (by omega) (by omega) hl2.2.2.2).text hF1) hw9 hrp hB1 hro hroom) (fun _ _ h => XT.tr hFV (XT_of h hS hI1 n1 n2))
end XRDE
