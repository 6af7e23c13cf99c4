/-! The class's servers: a write, whichever it is. -/
theorem T_78_16 : hTab 78 16 = some ((0, 0, 9, []), 18) := rfl
theorem T_78_18 : hTab 78 18 = some ((33, 1, 0, []), 19) := rfl
theorem T_78_28 : hTab 78 28 = some ((0, 0, 1, []), 29) := rfl
theorem T_78_29 : hTab 78 29 = some ((33, 1, 0, []), 30) := rfl
section XWRD
variable {fb : Bool} {d S a c0 rp mb m0 N M fa pr bb : Nat} {σ0 σ σ' : hM} {W W1 W2 W3 P Q : qR} {R R1 R2 : rR} {b i k x z v s e w f u p g ln K T U C c y off cnt n md tb : Int} {ord l l2 nm lo D L li : List Int} {t : Nat → Nat} {r : Option AV} {F : Int → Int}
theorem x_doWrite (hP : PX σ0 W R σ) (hS : VS S s) (hX : XV W R P S s ord t) (hK : CT K W R) (hG : GI T U P) (hD : TI P) (hT : T + 49 ≤ 2147483000) (hIO : SCR W P) (hwd : WDW P) (hr : R S 2233 = some mb) (hrp : R S 2234 = some rp) (hB : BY W mb M l) (hz : (l.length : Int) = z) (hw : 23 ≤ z ∧ nu (lg l) 19 4 = z - 23) (hmo : mb + 1 < S ∨ S + 294 ≤ mb) (hBr : BY W rp 300 l2) (hro : rp + 1 < S ∨ S + 294 ≤ rp) (hmr : mb ≠ rp) (hroom : l2.length = 7) (n1 : rp ≠ 130) (n2 : rp ≠ 132) (m2 : mb ≠ 132) (hi : 0 ≤ i ∧ i < 96) (hk : qFid P s c (nu (lg l) 7 4) = 96 * s + i) (hu : ¬ P 2304 (96 * s + i) = 0) : CL fb (d + 6) 78 [vR (some S), vR (some (S + 198 + i.toNat))] σ (XT σ0 K W R S rp s (wrErr P s c (lg l) z) (if wrErr P s c (lg l) z = 0 then wrP P s (96 * s + i) (w64 (nu (lg l) 11 8)) (z - 23) (lg l) else P) (l2 ++ leb 4 (z - 23))) := by
  have hO := hS.o
  have hsr := hS.1
  have hfo := hS.fd hi
  obtain ⟨f1, f2, f3, f4, f5, f6, f7, f8⟩ := (hX.2.1 i hi.1 hi.2).2.1 hu
  obtain ⟨off, ho0⟩ : ∃ y, w64 (nu (lg l) 11 8) = y := ⟨_, rfl⟩
  obtain ⟨md, hmd⟩ : ∃ y, P 2309 (96 * s + i) = y := ⟨_, rfl⟩
  obtain ⟨gn, hgn⟩ : ∃ y, P 2310 (96 * s + i) = y := ⟨_, rfl⟩
  obtain ⟨nd, hnd⟩ : ∃ nd, P 2306 (96 * s + i) = nd := ⟨_, rfl⟩
  obtain ⟨u, hu0⟩ : ∃ y, P 2308 (96 * s + i) = y := ⟨_, rfl⟩
  have hu3 := (fid_node hG hsr (k := 96 * s + i) (by omega)).2
  have eE : wrErr P s c (lg l) z = if ¬ (0 ≤ md ∧ 1 ≤ and32 md 3 ∧ and32 md 3 ≤ 2) then 9 else if ¬ gn = 0 then 1 else if s < 2 then qWr P s nd off (z - 23) else if nd = 1 then 0 else wrN P s (96 * s + i) (z - 23) (lg l) := by
    unfold wrErr wrX
    rw [hk, hmd, hgn, hnd, ho0, if_neg (fun q => q hw), if_neg (by omega)]
  have hno : ∀ e0 : Int, ¬ e0 = 0 → wrErr P s c (lg l) z = e0 → XT σ0 K W R S rp s (wrErr P s c (lg l) z) (if wrErr P s c (lg l) z = 0 then wrP P s (96 * s + i) off (z - 23) (lg l) else P) (l2 ++ leb 4 (z - 23)) (some (vI e0)) σ := fun e0 q1 q2 => by
    rw [q2, if_neg q1]
    exact ⟨rfl, W, R, ord, t, l2, hP, hBr, fun c => absurd c q1, hX, hK, FVX_of FV_rfl, hIO⟩
  rw [ho0]
  have hmo2 : W (S + 198 + i.toNat) 2293 = if md < 0 then -1 else and32 md 3 := by rw [f4, hmd]; rfl
  rw [hgn, hnd] at f8
  rw [hu0] at f2 hu3
  have hlv := fun q => hD.live hG hsr hi hu (hgn.trans q)
  rw [hnd] at hlv
  obtain ⟨fa, hfa⟩ : ∃ fa, S + 198 + i.toNat = fa := ⟨_, rfl⟩
  rw [hfa] at f2 f8 hfo hmo2 ⊢
  obtain ⟨mv, hmv⟩ : ∃ y, (if md < 0 then -1 else and32 md 3) = y := ⟨_, rfl⟩
  rw [hmv] at hmo2
  have hmv9 : (¬ (0 ≤ md ∧ 1 ≤ and32 md 3 ∧ and32 md 3 ≤ 2)) ↔ ¬ (mv = 1 ∨ mv = 2) := by
    rw [← hmv]
    split <;> omega
  rw [ifc hmv9] at eE
  by_cases q9 : mv = 1 ∨ mv = 2
  rotate_left
  · rw [if_pos q9] at eE
    have hno := hno 9 (by decide) eE
    refine CL_in mL_78 rfl ?_
    show WP fb _ 78 0 [some (vR (some S)), some (vR (some fa)), none, none] [] σ _
    refine x_lr (z := some fa) T_78_0 rfl ?_
    refine x_gI (z := mv) T_78_1 (Or.inl F_9_5) (hP.o hfo) (Eq.trans (hP.gi hfo (key := 2293) rfl) hmo2) ?_
    refine x_ic T_78_4 ?_
    refine x_ic2 T_78_5 (fun h => absurd (show mv = 1 from h) (by omega)) (fun _ => ?_)
    refine x_lr (z := some fa) T_78_8 rfl ?_
    refine x_gI (z := mv) T_78_9 (Or.inl F_9_5) (hP.o hfo) (Eq.trans (hP.gi hfo (key := 2293) rfl) hmo2) ?_
    refine x_ic T_78_12 ?_
    refine x_ic2 T_78_13 (fun h => absurd (show mv = 2 from h) (by omega)) (fun _ => ?_)
    refine x_ic T_78_16 ?_
    refine x_ri T_78_18 ?_
    exact hno
  rw [if_neg (fun c => c q9)] at eE
  by_cases q1 : gn = 0
  rotate_left
  · rw [if_pos q1] at eE
    rw [if_neg q1] at f8
    have hno := hno 1 (by decide) eE
    by_cases q : mv = 1
    · skip
      refine CL_in mL_78 rfl ?_
      show WP fb _ 78 0 [some (vR (some S)), some (vR (some fa)), none, none] [] σ _
      refine x_lr (z := some fa) T_78_0 rfl ?_
      refine x_gI (z := mv) T_78_1 (Or.inl F_9_5) (hP.o hfo) (Eq.trans (hP.gi hfo (key := 2293) rfl) hmo2) ?_
      refine x_ic T_78_4 ?_
      refine x_ic2 T_78_5 (fun _ => ?_) (fun h => absurd (show mv = 1 by omega) h)
      refine x_lr (z := some fa) T_78_19 rfl ?_
      refine x_gR (z := none) T_78_20 F_9_3 (hP.o hfo) (Eq.trans (hP.rm hfo rfl (key := 2291) rfl) f8) ?_
      refine x_sr (ls1 := [some (vR (some S)), some (vR (some fa)), some (vR none), none]) T_78_23 rfl ?_
      refine x_lr (z := none) T_78_24 rfl ?_
      refine x_nnul T_78_25 (fun a0 h0 => absurd h0 (by simp)) (fun _ => ?_)
      refine x_ic T_78_28 ?_
      refine x_ri T_78_29 ?_
      exact hno
    · skip
      refine CL_in mL_78 rfl ?_
      show WP fb _ 78 0 [some (vR (some S)), some (vR (some fa)), none, none] [] σ _
      refine x_lr (z := some fa) T_78_0 rfl ?_
      refine x_gI (z := mv) T_78_1 (Or.inl F_9_5) (hP.o hfo) (Eq.trans (hP.gi hfo (key := 2293) rfl) hmo2) ?_
      refine x_ic T_78_4 ?_
      refine x_ic2 T_78_5 (fun h => absurd (show mv = 1 from h) (by omega)) (fun _ => ?_)
      refine x_lr (z := some fa) T_78_8 rfl ?_
      refine x_gI (z := mv) T_78_9 (Or.inl F_9_5) (hP.o hfo) (Eq.trans (hP.gi hfo (key := 2293) rfl) hmo2) ?_
      refine x_ic T_78_12 ?_
      refine x_ic2 T_78_13 (fun _ => ?_) (fun h => absurd (show mv = 2 by omega) h)
      refine x_lr (z := some fa) T_78_19 rfl ?_
      refine x_gR (z := none) T_78_20 F_9_3 (hP.o hfo) (Eq.trans (hP.rm hfo rfl (key := 2291) rfl) f8) ?_
      refine x_sr (ls1 := [some (vR (some S)), some (vR (some fa)), some (vR none), none]) T_78_23 rfl ?_
      refine x_lr (z := none) T_78_24 rfl ?_
      refine x_nnul T_78_25 (fun a0 h0 => absurd h0 (by simp)) (fun _ => ?_)
      refine x_ic T_78_28 ?_
      refine x_ri T_78_29 ?_
      exact hno
  rw [if_neg (fun c => c q1)] at eE
  rw [if_pos q1] at f8
  have hlv := hlv q1
  obtain ⟨bb, ix, hb2, hix, hbix, hlx, htx, hN⟩ := hX.fnode hlv
  rw [hb2] at f8
  have hmd3 : 0 ≤ md ∧ 1 ≤ and32 md 3 ∧ and32 md 3 ≤ 2 := by
    apply Decidable.byContradiction
    intro q
    exact hmv9.mp q q9
  clear hno
  by_cases qs : s < 2
  · rw [if_pos qs] at eE
    have hdm := hD.2.2.2.1 (96 * s + i) (by omega) (by omega) hu (hgn.trans q1) (by omega) (by rw [hmd]; exact hmd3.2.1) (by rw [hmd]; exact hmd3.2.2)
    rw [hnd, show (96 * s + i) / 96 = s by omega] at hdm
    have hd : 0 ≤ qMode P s nd := by
      rw [show qMode P s nd = P 2293 (64 * s + nd) from if_pos qs]
      exact hdm
    have eP : wrP P s (96 * s + i) off (z - 23) (lg l) = gWr P s nd u (if and32 (P 2293 (64 * s + nd)) 1073741824 = 0 then off else P 2297 (64 * s + nd)) (seg (lg l) 23 (z - 23).toNat) := by
      unfold wrP
      rw [hnd, hu0, if_pos qs]
    rw [eE, eP]
    exact wr_tree hP hS hX hK hG hD hIO hT qs hi hfa hb2 hlv hd f2 hu3 hmo2 q9 f8 hr hB hz hw.1 hmo hmr hrp hBr hro hroom n1 n2 ho0
  have s2 : s = 2 := by omega
  subst s2
  rw [if_neg (by decide)] at eE
  by_cases qn : nd = 1
  · rw [if_pos qn] at eE
    have eP : wrP P 2 (96 * 2 + i) off (z - 23) (lg l) = gCon P (lg l) 23 (z - 23).toNat := by
      unfold wrP
      rw [hnd, if_neg (by decide), if_pos qn]
    rw [eE, if_pos rfl, eP]
    subst qn
    exact wr_cons hP hS hX hK hG.iv hIO hi hfa hb2 hlv hmo2 q9 f8 hr hB hz hw.1 hmr hrp hBr hro hroom n1 n2 m2
  · rw [if_neg qn] at eE
    have eP : wrP P 2 (96 * 2 + i) off (z - 23) (lg l) = rU P 2321 (nd / 16 - 1) 1 := by
      unfold wrP
      rw [hnd, if_neg (by decide), if_neg qn]
    have hdm := hwd (96 * 2 + i) (by omega) (by omega) hu (hgn.trans q1) (by omega) (by rw [hmd]; exact hmd3.2.1) (by rw [hmd]; exact hmd3.2.2)
    rw [hnd] at hdm
    have hl2 : 16 ≤ nd ∧ nd < 144 := by
      rcases hlv with q | q
      · omega
      · rcases q.2 with q | q | q
        · omega
        · omega
        · exact ⟨q.1, q.2.1⟩
    rw [eE, eP, show wrN P 2 (96 * 2 + i) (z - 23) (lg l) = wrN P 2 0 (z - 23) (lg l) from rfl]
    exact wr_ctl hP hS hX hK hIO hi hfa hb2 hlv ⟨hl2.1, hl2.2, hdm.2⟩ hmo2 q9 f8 hr hB hz hw.1 hmr hrp hBr hro hroom n1 n2
end XWRD
