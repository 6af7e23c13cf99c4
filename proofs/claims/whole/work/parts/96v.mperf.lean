/-! A source is done as a command, with all that it begins. -/
theorem T_309_0 : hTab 309 0 = some ((3, 0, 2, []), 1) := rfl
theorem T_309_1 : hTab 309 1 = some ((0, 0, 0, []), 2) := rfl
theorem T_309_2 : hTab 309 2 = some ((25, 17, Int.ofNat 113, []), 5) := rfl
theorem T_309_5 : hTab 309 5 = some ((3, 0, 2, []), 6) := rfl
theorem T_309_6 : hTab 309 6 = some ((0, 0, 0, []), 7) := rfl
theorem T_309_7 : hTab 309 7 = some ((25, 17, Int.ofNat 114, []), 10) := rfl
theorem T_309_10 : hTab 309 10 = some ((3, 0, 2, []), 11) := rfl
theorem T_309_11 : hTab 309 11 = some ((3, 1, 0, []), 12) := rfl
theorem T_309_12 : hTab 309 12 = some ((0, 0, 1, []), 13) := rfl
theorem T_309_13 : hTab 309 13 = some ((31, 310, 0, []), 16) := rfl
theorem T_309_16 : hTab 309 16 = some ((4, 2, 0, []), 17) := rfl
theorem T_309_17 : hTab 309 17 = some ((3, 2, 0, []), 18) := rfl
theorem T_309_18 : hTab 309 18 = some ((18, 5, Int.ofNat 25, []), 21) := rfl
theorem T_309_21 : hTab 309 21 = some ((3, 2, 0, []), 22) := rfl
theorem T_309_22 : hTab 309 22 = some ((22, 0, Int.ofNat 26, []), 25) := rfl
theorem T_309_25 : hTab 309 25 = some ((0, 0, (-1), []), 26) := rfl
theorem T_309_26 : hTab 309 26 = some ((4, 2, 0, []), 27) := rfl
theorem T_309_27 : hTab 309 27 = some ((3, 0, 2, []), 28) := rfl
theorem T_309_28 : hTab 309 28 = some ((24, 17, Int.ofNat 113, []), 31) := rfl
theorem T_309_31 : hTab 309 31 = some ((18, 5, Int.ofNat 91, []), 34) := rfl
theorem T_309_34 : hTab 309 34 = some ((3, 2, 0, []), 35) := rfl
theorem T_309_35 : hTab 309 35 = some ((0, 0, (-1), []), 36) := rfl
theorem T_309_36 : hTab 309 36 = some ((19, 1, Int.ofNat 52, []), 39) := rfl
theorem T_309_39 : hTab 309 39 = some ((3, 0, 2, []), 40) := rfl
theorem T_309_40 : hTab 309 40 = some ((31, 314, 0, []), 43) := rfl
theorem T_309_43 : hTab 309 43 = some ((3, 0, 2, []), 44) := rfl
theorem T_309_44 : hTab 309 44 = some ((3, 1, 0, []), 45) := rfl
theorem T_309_45 : hTab 309 45 = some ((31, 316, 0, []), 48) := rfl
theorem T_309_48 : hTab 309 48 = some ((4, 2, 0, []), 49) := rfl
theorem T_309_49 : hTab 309 49 = some ((22, 0, Int.ofNat 74, []), 52) := rfl
theorem T_309_52 : hTab 309 52 = some ((3, 2, 0, []), 53) := rfl
theorem T_309_53 : hTab 309 53 = some ((0, 0, (-2), []), 55) := rfl
theorem T_309_55 : hTab 309 55 = some ((19, 1, Int.ofNat 67, []), 58) := rfl
theorem T_309_58 : hTab 309 58 = some ((3, 0, 2, []), 59) := rfl
theorem T_309_59 : hTab 309 59 = some ((3, 1, 0, []), 60) := rfl
theorem T_309_60 : hTab 309 60 = some ((31, 398, 0, []), 63) := rfl
theorem T_309_63 : hTab 309 63 = some ((4, 2, 0, []), 64) := rfl
theorem T_309_64 : hTab 309 64 = some ((22, 0, Int.ofNat 74, []), 67) := rfl
theorem T_309_67 : hTab 309 67 = some ((3, 0, 2, []), 68) := rfl
theorem T_309_68 : hTab 309 68 = some ((3, 1, 0, []), 69) := rfl
theorem T_309_69 : hTab 309 69 = some ((3, 2, 0, []), 70) := rfl
theorem T_309_70 : hTab 309 70 = some ((31, 399, 0, []), 73) := rfl
theorem T_309_73 : hTab 309 73 = some ((4, 2, 0, []), 74) := rfl
theorem T_309_74 : hTab 309 74 = some ((3, 2, 0, []), 75) := rfl
theorem T_309_75 : hTab 309 75 = some ((18, 2, Int.ofNat 27, []), 78) := rfl
theorem T_309_78 : hTab 309 78 = some ((3, 0, 2, []), 79) := rfl
theorem T_309_79 : hTab 309 79 = some ((6, 0, 0, []), 80) := rfl
theorem T_309_80 : hTab 309 80 = some ((24, 17, Int.ofNat 113, []), 83) := rfl
theorem T_309_83 : hTab 309 83 = some ((0, 0, 1, []), 84) := rfl
theorem T_309_84 : hTab 309 84 = some ((10, 1, 0, []), 85) := rfl
theorem T_309_85 : hTab 309 85 = some ((25, 17, Int.ofNat 113, []), 88) := rfl
theorem T_309_88 : hTab 309 88 = some ((22, 0, Int.ofNat 27, []), 91) := rfl
theorem T_309_91 : hTab 309 91 = some ((3, 2, 0, []), 92) := rfl
theorem T_309_92 : hTab 309 92 = some ((33, 1, 0, []), 93) := rfl
theorem mN_309 : hmN 309 = 2 := by decide +kernel
theorem mL_309 : hmL 309 = 3 := by decide +kernel
theorem mK_309 : hmK 309 = 1 := by decide +kernel
theorem mO_309 : hmO 309 = 17 := by decide +kernel
/-- how much there is still to do at most -/
def evM (code : Int) (fr : Fr) (c : Int) : Int := if code = -1 then 2000 * (200 - c) + 1500 else 2000 * (200 - c) + 701 - fr.2.2.1
def evK (code : Int) : Int := if code = -1 then 1 else 0
/-- more than all of it -/
def EVN : Nat := 402000
def cPerf (P : qR) (p : Int) (src : List Int) : R4 := evC (EV p EVN) 0 none (exL P p none 1 src) P 0
section MPERF
variable {fb : Bool} {d : Nat} {σ0 σ : hM} {P P1 Q0 R S S0 S1 S2 : qR} {T U s w g u p k e t z o n N v b c c2 i mu dn : Int} {l L tx tt sc src : List Int} {h : List Ch} {fs : List Fr} {f fr fr2 : Fr} {J : qR → Prop}
theorem frOk_pl (h : frOk fr) (hl : fr.2.1.length ≤ 100) : 0 ≤ fr.2.2.1 ∧ fr.2.2.1 ≤ 601 ∧ 2 ≤ fr.1 ∧ fr.1 ≤ 3 := by
  rcases h with q | q
  · obtain ⟨q1, q2, q3, q4⟩ := q
    have h50 := (lnW_ok hl).2
    have hp : pdO fr.2.1 ≤ 601 := by
      rcases pdR_rng (l := fr.2.1) (((lnW fr.2.1).length : Int) - 3).toNat 3 with c | c
      · have c : pdO fr.2.1 = -1 := c
        omega
      · have c1 : pdO fr.2.1 < 3 + (((((lnW fr.2.1).length : Int) - 3).toNat : Nat) : Int) := c.2.1
        omega
    exact ⟨by omega, by omega, by omega, by omega⟩
  · exact ⟨q.2.1, q.2.2.1, by omega, by omega⟩
theorem evK_1 : evK (-1) = 1 := rfl
theorem evK_2 : evK (-2) = 0 := rfl
theorem KS.dep (hK : KS T U P S l h) (hn : 0 ≤ n ∧ n ≤ 12) : KS T U P (rU S 2281 113 n) l h := hK.fm (SX_un SX_rfl rfl) (hK.2.2.1.uN 113 113 rfl (by show 0 ≤ n ∧ n ≤ 12; exact hn))
theorem m_ev (hp : 0 ≤ p ∧ p < 8) (hJH : JH p J) {Q : Option AV → hM → Prop} : ∀ (m : Nat) (code : Int) (fr : Fr) (fs : List Fr) (P S : qR) (σ : hM) (c T U : Int) (l : List Int), evM code fr c < m → ((code = -1 ∧ fr.1 = 0) ∨ (code = -2 ∧ frOk fr)) → PM σ0 P S σ → KS T U P S l [] → FST S (fr :: fs) → S 2281 113 = (fs.length : Int) + 1 → (fs.length : Int) + 1 ≤ 12 → S 2281 114 = c → 0 ≤ c ∧ c ≤ 200 → J P → T + 3000 * (202 - c) + 3000 * evK code + 1000 ≤ 2147483000 → 10000 ≤ U → U + 400 * (202 - c) + 400 * evK code ≤ 2147480000 → (∀ (R : R4) (σ : hM) (S2 : qR) (l2 : List Int), EV p m code ((fs.length : Int) + 1) (arOf fs) fr P c = R → PM σ0 R.2.1 S2 σ → KS (T + 3000 * (R.2.2 - c) + 3000 * evK code) (U + 400 * (R.2.2 - c) + 400 * evK code) R.2.1 S2 l2 [] → FST S2 fs → S2 2281 113 = (fs.length : Int) → S2 2281 114 = R.2.2 → c ≤ R.2.2 ∧ R.2.2 ≤ 200 → 0 ≤ R.1 → J R.2.1 → WP fb (d + 20) 309 27 [some (vR (some 2281)), some (vI p), some (vI R.1)] [] σ Q) → WP fb (d + 20) 309 27 [some (vR (some 2281)), some (vI p), some (vI code)] [] σ Q := by
  intro m
  induction m with
  | zero =>
    intro code fr fs P S σ c T U l hm hcd hP hK hF hd hd12 hc hc0 hJp hT hU hU2 hQ
    exfalso
    have hm : evM code fr c < ((0 : Nat) : Int) := hm
    rcases hcd with ⟨rfl, q⟩ | ⟨rfl, q⟩
    · unfold evM at hm
      rw [if_pos rfl] at hm
      omega
    · have := frOk_pl q hF.1.txt.1
      unfold evM at hm
      rw [if_neg (by decide)] at hm
      omega
  | succ m ih =>
    intro code fr fs P S σ c T U l hm hcd hP hK hF hd hd12 hc hc0 hJp hT hU hU2 hQ
    obtain ⟨dn, hdn⟩ : ∃ dn : Int, (fs.length : Int) + 1 = dn := ⟨_, rfl⟩
    have hdm : dn - 1 = (fs.length : Int) := by omega
    -- what a turn's end comes to
    have h74 : ∀ (code2 : Int) (P2 S2 : qR) (l2 : List Int) (σ : hM) (T2 U2 : Int), T2 = T + 3000 * evK code → U2 = U + 400 * evK code → PM σ0 P2 S2 σ → KS T2 U2 P2 S2 l2 [] → J P2 → STP p code fr fs P c code2 P2 S2 → WP fb (d + 20) 309 74 [some (vR (some 2281)), some (vI p), some (vI code2)] [] σ Q := fun code2 P2 S2 l2 σ T2 U2 eT eU hP hK hJp hst => by
      rcases hst with ⟨c2, h0, h1, h2, h3, h4, h5, h6⟩ | ⟨h0, h1, h2, tx, fr2, h3, h4, h5, h6⟩ | ⟨h0, fr2, c2, h1, h2, h3, h4, h5, h6, h7, h8⟩
      · -- it has answered
        have hgo := fun (σ : hM) (hP : PM σ0 P2 (rU S2 2281 113 (fs.length : Int)) σ) => hQ (code2, P2, c2) σ _ l2 (h6 m) hP (((hK.dep ⟨by omega, by omega⟩).mono (show T2 ≤ T + 3000 * (c2 - c) + 3000 * evK code by omega)).monoU (show U2 ≤ U + 400 * (c2 - c) + 400 * evK code by omega)) (FST_n h5) rU_s ((rU_k (by decide)).trans h4) ⟨h1, h2⟩ h0 hJp
        dsimp only at hgo
        obtain ⟨n, hn⟩ : ∃ n : Int, (fs.length : Int) = n := ⟨_, rfl⟩
        rw [hn] at hgo h3
        refine x_li (z := code2) T_309_74 rfl ?_
        refine x_if T_309_75 (fun h => absurd (show code2 < 0 from h) (by omega)) (fun _ => ?_)
        refine x_lr (z := some 2281) T_309_78 rfl ?_
        refine x_dupR T_309_79 ?_
        refine x_gI (z := (n + 1)) T_309_80 (Or.inl F_17_113) (PM.t hP) (Eq.trans (PM.nS hP 2281 113 113 rfl rfl rfl) h3) ?_
        refine x_ic T_309_83 ?_
        refine x_ib (w := n) T_309_84 (fun h => absurd h.1 (by decide)) (w32_e (by omega) (by omega) (by omega)) ?_
        refine y_pIS hP T_309_85 F_17_113 113 rfl rfl (fun σ hP => ?_)
        refine x_goto T_309_88 ?_
        exact hgo σ hP
      · -- a child has begun
        subst h0
        have hfx := h5.2.1
        have hl2 : ((fr2 :: fs).length : Int) = dn := by show ((fs.length + 1 : Nat) : Int) = dn; omega
        have hk0 : 0 ≤ evK code := by unfold evK; split <;> decide
        have hch := ih (-1) (0, tx, 0, 0, []) (fr2 :: fs) P2 S2 σ (c + 1) T2 U2 l2 (by
            rcases hcd with ⟨e1, q⟩ | ⟨e1, q⟩
            · subst e1
              unfold evM at hm ⊢
              rw [if_pos rfl] at hm ⊢
              omega
            · subst e1
              have := frOk_pl q hF.1.txt.1
              unfold evM at hm ⊢
              rw [if_neg (by decide)] at hm
              rw [if_pos rfl]
              omega) (Or.inl ⟨rfl, rfl⟩) hP hK h5 (by rw [hl2]; omega) (by rw [hl2]; omega) h4 (by omega) hJp (by rw [evK_1]; omega) (by omega) (by rw [evK_1]; omega)
        rw [hl2] at hch
        have hgo : WP fb (d + 20) 309 27 [some (vR (some 2281)), some (vI p), some (vI (-1))] [] σ Q := by
          refine hch (fun R1 σ S3 l3 e1 a1 a2 a3 a4 a5 a6 a7 a8 => ?_)
          rw [evK_1] at a2
          have hd3 : S3 2281 113 = dn := a4
          have hP := a1
          obtain ⟨r1, PR, cR⟩ := R1
          dsimp only at a1 a2 a5 a6 a7 a8 hP ⊢
          have hkd := a3.1.1
          rw [hdn] at hkd
          rcases h6 with ⟨g1, g2, g3⟩ | ⟨g1, g2, g3, g4, g5, g6, g7⟩
          · -- an if
            subst g2
            have hrt := m_returned1 (fb := fb) (d := d + 19) (p := p) (r0 := r1) hP hd3 ⟨by omega, by omega⟩ (hkd.trans g1)
            have e2 : EV p (m + 1) (-1) ((fs.length : Int) + 1) (arOf fs) fr P c = (r1, PR, cR) := by
              rw [g3 m, show (fs.length : Int) + 2 = dn + 1 by omega]
              exact e1
            rw [evK_1] at eT eU
            have hfin := fun (σ : hM) (hP : PM σ0 PR (rU S3 2281 113 (fs.length : Int)) σ) => hQ (r1, PR, cR) σ _ l3 e2 hP (((a2.dep ⟨by omega, by omega⟩).mono (show T2 + 3000 * (cR - (c + 1)) + 3000 * 1 ≤ T + 3000 * (cR - c) + 3000 * evK (-1) by rw [evK_1]; omega)).monoU (show U2 + 400 * (cR - (c + 1)) + 400 * 1 ≤ U + 400 * (cR - c) + 400 * evK (-1) by rw [evK_1]; omega)) (FST_n a3.2) rU_s ((rU_k (by decide)).trans a5) (show c ≤ cR ∧ cR ≤ 200 from ⟨by omega, a6.2⟩) a7 a8
            dsimp only at hfin
            obtain ⟨n, hn⟩ : ∃ n : Int, (fs.length : Int) = n := ⟨_, rfl⟩
            rw [hn] at hfin
            have hd4 : S3 2281 113 = n + 1 := by omega
            refine x_lr (z := some 2281) T_309_27 rfl ?_
            refine x_gI (z := (n + 1)) T_309_28 (Or.inl F_17_113) (PM.t hP) (Eq.trans (PM.nS hP 2281 113 113 rfl rfl rfl) hd4) ?_
            refine x_if T_309_31 (fun h => absurd (show (n + 1) ≤ 0 from h) (by omega)) (fun _ => ?_)
            refine x_li (z := r1) T_309_34 rfl ?_
            refine x_ic T_309_35 ?_
            refine x_ic2 T_309_36 (fun _ => ?_) (fun h => absurd (show ¬ r1 = (-1) by omega) h)
            refine x_li (z := r1) T_309_52 rfl ?_
            refine x_ic T_309_53 ?_
            refine x_ic2 T_309_55 (fun _ => ?_) (fun h => absurd (show ¬ r1 = (-2) by omega) h)
            refine x_lr (z := some 2281) T_309_67 rfl ?_
            refine x_li (z := p) T_309_68 rfl ?_
            refine x_li (z := r1) T_309_69 rfl ?_
            refine x_cv3 T_309_70 mN_399 mL_399 (Nat.le_of_ble_eq_true rfl) mO_399 (PM.t hP) (Nat.le_of_ble_eq_true rfl) (hrt) ?_
            rintro _ σ ⟨rfl, rfl⟩
            refine cI ?_
            refine x_si (ls1 := [some (vR (some 2281)), some (vI p), some (vI r1)]) T_309_73 rfl ?_
            refine x_li (z := r1) T_309_74 rfl ?_
            refine x_if T_309_75 (fun h => absurd (show r1 < 0 from h) (by omega)) (fun _ => ?_)
            refine x_lr (z := some 2281) T_309_78 rfl ?_
            refine x_dupR T_309_79 ?_
            refine x_gI (z := (n + 1)) T_309_80 (Or.inl F_17_113) (PM.t hP) (Eq.trans (PM.nS hP 2281 113 113 rfl rfl rfl) hd4) ?_
            refine x_ic T_309_83 ?_
            refine x_ib (w := n) T_309_84 (fun h => absurd h.1 (by decide)) (w32_e (by omega) (by omega) (by omega)) ?_
            refine y_pIS hP T_309_85 F_17_113 113 rfl rfl (fun σ hP => ?_)
            refine x_goto T_309_88 ?_
            exact hfin σ hP
          · -- a for or a run
            subst g3
            have hpl := frOk_pl g1 hfx.txt.1
            have hmu : S3 2369 dn = fr2.2.2.2.1 := by
              rw [← hdn]
              exact a3.1.2.2.2.1 g2
            have hrt := m_returned (fb := fb) (d := d + 19) (mu := fr2.2.2.2.1) (k := fr2.1) (r0 := r1) hP a2.1.iv hp hd3 ⟨by omega, by omega⟩ hkd ⟨hpl.2.2.1, hpl.2.2.2⟩ hmu
            have e2 : EV p (m + 1) (-2) ((fs.length : Int) + 1) (arOf fs) fr P c = evR p fr2.2.2.2.1 (r1, PR, cR) (fun P1 c1 => EV p m (-2) ((fs.length : Int) + 1) (arOf fs) fr2 P1 c1) := by
              rw [g7 m, show (fs.length : Int) + 2 = dn + 1 by omega, e1]
            rw [evK_2] at eT eU
            have hK3 : KS (T + 3000 * (cR - c)) (U + 400 * (cR - c)) PR S3 l3 [] := (a2.mono (by omega)).monoU (by omega)
            -- the frame ends here
            have hend : ∀ rc : Int, 0 ≤ rc → EV p (m + 1) (-2) ((fs.length : Int) + 1) (arOf fs) fr P c = (rc, PR, cR) → CL fb (d + 19) 399 [vR (some 2281), vI p, vI r1] σ (rP rc σ) → WP fb (d + 20) 309 27 [some (vR (some 2281)), some (vI p), some (vI r1)] [] σ Q := fun rc b1 b2 b3 => by
              have hfin := fun (σ : hM) (hP : PM σ0 PR (rU S3 2281 113 (fs.length : Int)) σ) => hQ (rc, PR, cR) σ _ l3 b2 hP (((hK3.dep ⟨by omega, by omega⟩).mono (show T + 3000 * (cR - c) ≤ T + 3000 * (cR - c) + 3000 * evK (-2) by rw [evK_2]; omega)).monoU (show U + 400 * (cR - c) ≤ U + 400 * (cR - c) + 400 * evK (-2) by rw [evK_2]; omega)) (FST_n a3.2) rU_s ((rU_k (by decide)).trans a5) (show c ≤ cR ∧ cR ≤ 200 from ⟨by omega, a6.2⟩) b1 a8
              dsimp only at hfin
              obtain ⟨n, hn⟩ : ∃ n : Int, (fs.length : Int) = n := ⟨_, rfl⟩
              rw [hn] at hfin
              have hd4 : S3 2281 113 = n + 1 := by omega
              refine x_lr (z := some 2281) T_309_27 rfl ?_
              refine x_gI (z := (n + 1)) T_309_28 (Or.inl F_17_113) (PM.t hP) (Eq.trans (PM.nS hP 2281 113 113 rfl rfl rfl) hd4) ?_
              refine x_if T_309_31 (fun h => absurd (show (n + 1) ≤ 0 from h) (by omega)) (fun _ => ?_)
              refine x_li (z := r1) T_309_34 rfl ?_
              refine x_ic T_309_35 ?_
              refine x_ic2 T_309_36 (fun _ => ?_) (fun h => absurd (show ¬ r1 = (-1) by omega) h)
              refine x_li (z := r1) T_309_52 rfl ?_
              refine x_ic T_309_53 ?_
              refine x_ic2 T_309_55 (fun _ => ?_) (fun h => absurd (show ¬ r1 = (-2) by omega) h)
              refine x_lr (z := some 2281) T_309_67 rfl ?_
              refine x_li (z := p) T_309_68 rfl ?_
              refine x_li (z := r1) T_309_69 rfl ?_
              refine x_cv3 T_309_70 mN_399 mL_399 (Nat.le_of_ble_eq_true rfl) mO_399 (PM.t hP) (Nat.le_of_ble_eq_true rfl) (b3) ?_
              rintro _ σ ⟨rfl, rfl⟩
              refine cI ?_
              refine x_si (ls1 := [some (vR (some 2281)), some (vI p), some (vI rc)]) T_309_73 rfl ?_
              refine x_li (z := rc) T_309_74 rfl ?_
              refine x_if T_309_75 (fun h => absurd (show rc < 0 from h) (by omega)) (fun _ => ?_)
              refine x_lr (z := some 2281) T_309_78 rfl ?_
              refine x_dupR T_309_79 ?_
              refine x_gI (z := (n + 1)) T_309_80 (Or.inl F_17_113) (PM.t hP) (Eq.trans (PM.nS hP 2281 113 113 rfl rfl rfl) hd4) ?_
              refine x_ic T_309_83 ?_
              refine x_ib (w := n) T_309_84 (fun h => absurd h.1 (by decide)) (w32_e (by omega) (by omega) (by omega)) ?_
              refine y_pIS hP T_309_85 F_17_113 113 rfl rfl (fun σ hP => ?_)
              refine x_goto T_309_88 ?_
              exact hfin σ hP
            unfold evR at e2
            dsimp only at e2
            by_cases k1 : 0 < r1 ∧ fr2.2.2.2.1 = 0
            · rw [if_pos k1] at e2 hrt
              exact hend r1 a7 e2 hrt
            · rw [if_neg k1] at e2 hrt
              by_cases k2 : PR 2321 p = 0
              · rw [if_neg (fun q => q k2)] at e2 hrt
                have hnx := ih (-2) fr2 fs PR S3 σ cR (T + 3000 * (cR - c)) (U + 400 * (cR - c)) l3 (by
                  rcases hcd with ⟨e3, -⟩ | ⟨-, q⟩
                  · exact absurd e3 (by decide)
                  · have := frOk_pl q hF.1.txt.1
                    unfold evM at hm ⊢
                    rw [if_neg (by decide)] at hm ⊢
                    omega) (Or.inr ⟨rfl, g1⟩) hP hK3 a3 (by omega) hd12 a5 ⟨by omega, a6.2⟩ a8 (by rw [evK_2] at hT ⊢; omega) (by omega) (by rw [evK_2] at hU2 ⊢; omega) (fun R σ S4 l4 x1 x2 x3 x4 x5 x6 x7 x8 x9 => hQ R σ S4 l4 (e2.trans x1) x2 (x3.mono (by rw [evK_2]; omega) |>.monoU (by rw [evK_2]; omega)) x4 x5 x6 ⟨by omega, x7.2⟩ x8 x9)
                refine x_lr (z := some 2281) T_309_27 rfl ?_
                refine x_gI (z := dn) T_309_28 (Or.inl F_17_113) (PM.t hP) (Eq.trans (PM.nS hP 2281 113 113 rfl rfl rfl) hd3) ?_
                refine x_if T_309_31 (fun h => absurd (show dn ≤ 0 from h) (by omega)) (fun _ => ?_)
                refine x_li (z := r1) T_309_34 rfl ?_
                refine x_ic T_309_35 ?_
                refine x_ic2 T_309_36 (fun _ => ?_) (fun h => absurd (show ¬ r1 = (-1) by omega) h)
                refine x_li (z := r1) T_309_52 rfl ?_
                refine x_ic T_309_53 ?_
                refine x_ic2 T_309_55 (fun _ => ?_) (fun h => absurd (show ¬ r1 = (-2) by omega) h)
                refine x_lr (z := some 2281) T_309_67 rfl ?_
                refine x_li (z := p) T_309_68 rfl ?_
                refine x_li (z := r1) T_309_69 rfl ?_
                refine x_cv3 T_309_70 mN_399 mL_399 (Nat.le_of_ble_eq_true rfl) mO_399 (PM.t hP) (Nat.le_of_ble_eq_true rfl) (hrt) ?_
                rintro _ σ ⟨rfl, rfl⟩
                refine cI ?_
                refine x_si (ls1 := [some (vR (some 2281)), some (vI p), some (vI (-2))]) T_309_73 rfl ?_
                refine x_li (z := (-2)) T_309_74 rfl ?_
                refine x_if T_309_75 (fun _ => ?_) (fun h => absurd (show ((-2) : Int) < 0 by decide) h)
                exact hnx
              · rw [if_pos k2] at e2 hrt
                exact hend 0 (Int.le_refl 0) e2 hrt
        refine x_li (z := (-1)) T_309_74 rfl ?_
        refine x_if T_309_75 (fun _ => ?_) (fun h => absurd (show ((-1) : Int) < 0 by decide) h)
        exact hgo
      · -- it goes on
        subst h0
        have hpl2 := frOk_pl h6 h5.1.txt.1
        have hk0 : 0 ≤ evK code := by unfold evK; split <;> decide
        have hnx := ih (-2) fr2 fs P2 S2 σ c2 T2 U2 l2 (by
          rcases hcd with ⟨e3, q⟩ | ⟨e3, q⟩
          · subst e3
            unfold evM at hm ⊢
            rw [if_pos rfl] at hm
            rw [if_neg (by decide)]
            omega
          · subst e3
            have := frOk_pl q hF.1.txt.1
            rcases h7 with h7 | h7
            · exact absurd h7 (by decide)
            unfold evM at hm ⊢
            rw [if_neg (by decide)] at hm ⊢
            omega) (Or.inr ⟨rfl, h6⟩) hP hK h5 h3 hd12 h4 ⟨by omega, h2⟩ hJp (by rw [evK_2]; omega) (by omega) (by rw [evK_2]; omega) (fun R σ S4 l4 x1 x2 x3 x4 x5 x6 x7 x8 x9 => hQ R σ S4 l4 ((h8 m).trans x1) x2 (x3.mono (by rw [evK_2]; omega) |>.monoU (by rw [evK_2]; omega)) x4 x5 x6 ⟨by omega, x7.2⟩ x8 x9)
        refine x_li (z := (-2)) T_309_74 rfl ?_
        refine x_if T_309_75 (fun _ => ?_) (fun h => absurd (show ((-2) : Int) < 0 by decide) h)
        exact hnx
    rcases hcd with ⟨rfl, hk⟩ | ⟨rfl, hk⟩
    · -- begun
      rw [evK_1] at hT hU2 h74
      have htx := hF.1.txt
      have hseg : seg (S 2365) (100 * dn) (S 2366 dn).toNat = fr.2.1 := by
        rw [hdn] at htx
        rw [htx.2.2.1, if_pos htx.1]
        exact seg_eq.mpr ⟨by omega, fun i a b => htx.2.2.2 i a (by omega) (by omega)⟩
      have hld := fun (σ : hM) (hP : PM σ0 P S σ) => m_load (fb := fb) (d := d + 18) hP hK.2.2.1 (hd.trans hdn) ⟨by omega, by omega⟩
      rw [hseg] at hld
      have hfi := fun (σ : hM) (S1 : qR) (hP : PM σ0 P S1 σ) (a2 : IV true T U S1) (a3 : SX ldR ldN S S1) (a4 : LN S1 fr.2.1) => m_first (fb := fb) (d := d) (fr := fr) (fs := fs) (c := c) hP (hK.ld a3 a2 a4) hp (hF.ld a3) rfl hk ((a3.1 _ rfl).trans hd) hd12 ((a3.1 _ rfl).trans hc) hc0 (by omega) ⟨hU, by omega⟩ hJH hJp
      have hd' := hd.trans hdn
      refine x_lr (z := some 2281) T_309_27 rfl ?_
      refine x_gI (z := dn) T_309_28 (Or.inl F_17_113) (PM.t hP) (Eq.trans (PM.nS hP 2281 113 113 rfl rfl rfl) hd') ?_
      refine x_if T_309_31 (fun h => absurd (show dn ≤ 0 from h) (by omega)) (fun _ => ?_)
      refine x_li (z := (-1)) T_309_34 rfl ?_
      refine x_ic T_309_35 ?_
      refine x_ic2 T_309_36 (fun h => absurd (show ¬ ((-1) : Int) = (-1) from h) (by decide)) (fun _ => ?_)
      refine x_lr (z := some 2281) T_309_39 rfl ?_
      refine x_cv1 T_309_40 mN_314 mL_314 (Nat.le_of_ble_eq_true rfl) mO_314 (PM.t hP) (Nat.le_of_ble_eq_true rfl) (hld σ hP) ?_
      clear hP hld
      rintro _ σ ⟨S1, rfl, hP, hJ1, hX1, hL1⟩
      refine cV ?_
      refine x_lr (z := some 2281) T_309_43 rfl ?_
      refine x_li (z := p) T_309_44 rfl ?_
      refine x_cv2 T_309_45 mN_316 mL_316 (Nat.le_of_ble_eq_true rfl) mO_316 (PM.t hP) (Nat.le_of_ble_eq_true rfl) (hfi σ S1 hP hJ1 hX1 hL1) ?_
      clear hfi
      intro r σ hr
      obtain ⟨code2, P2, S2, rfl, r1, r2, r3, r4⟩ := hr
      refine cI ?_
      refine x_si (ls1 := [some (vR (some 2281)), some (vI p), some (vI _)]) T_309_48 rfl ?_
      refine x_goto T_309_49 ?_
      exact h74 code2 P2 S2 _ σ _ _ (by omega) (by omega) r1 r2 r3 r4
    · -- to go on
      rw [evK_2] at hT hU2 h74
      have hnx := m_next (fb := fb) (d := d + 15) hP hK hp hF hk hd hd12 hc hc0 hJH hJp
      have hd' := hd.trans hdn
      refine x_lr (z := some 2281) T_309_27 rfl ?_
      refine x_gI (z := dn) T_309_28 (Or.inl F_17_113) (PM.t hP) (Eq.trans (PM.nS hP 2281 113 113 rfl rfl rfl) hd') ?_
      refine x_if T_309_31 (fun h => absurd (show dn ≤ 0 from h) (by omega)) (fun _ => ?_)
      refine x_li (z := (-2)) T_309_34 rfl ?_
      refine x_ic T_309_35 ?_
      refine x_ic2 T_309_36 (fun _ => ?_) (fun h => absurd (show ¬ ((-2) : Int) = (-1) by decide) h)
      refine x_li (z := (-2)) T_309_52 rfl ?_
      refine x_ic T_309_53 ?_
      refine x_ic2 T_309_55 (fun h => absurd (show ¬ ((-2) : Int) = (-2) from h) (by decide)) (fun _ => ?_)
      refine x_lr (z := some 2281) T_309_58 rfl ?_
      refine x_li (z := p) T_309_59 rfl ?_
      refine x_cv2 T_309_60 mN_398 mL_398 (Nat.le_of_ble_eq_true rfl) mO_398 (PM.t hP) (Nat.le_of_ble_eq_true rfl) (hnx) ?_
      clear hnx
      intro r σ hr
      obtain ⟨code2, P2, S2, l2, rfl, r1, r2, r3, r4⟩ := hr
      refine cI ?_
      refine x_si (ls1 := [some (vR (some 2281)), some (vI p), some (vI _)]) T_309_63 rfl ?_
      refine x_goto T_309_64 ?_
      exact h74 code2 P2 S2 l2 σ _ _ (by omega) (by omega) r1 r2 r3 r4
theorem m_perform (hP : PM σ0 P S σ) (hK : KS T U P S l []) (hp : 0 ≤ p ∧ p < 8) (hS : SRC S src) (hJH : JH p J) (hJp : J P) (hT : T + 700000 ≤ 2147483000) (hU : 10000 ≤ U ∧ U + 100000 ≤ 2147480000) : CL fb (d + 20) 309 [vR (some 2281), vI p] σ (fun r σ' => ∃ (S2 : qR) (l2 : List Int), r = some (vI (cPerf P p src).1) ∧ PM σ0 (cPerf P p src).2.1 S2 σ' ∧ KS (T + 610000) (U + 82000) (cPerf P p src).2.1 S2 l2 [] ∧ J (cPerf P p src).2.1 ∧ 0 ≤ (cPerf P p src).1) := by
  have hJ0 : IV true T U (rU (rU S 2281 113 0) 2281 114 0) := (hK.2.2.1.uN 113 113 rfl (by show (0 : Int) ≤ 0 ∧ (0 : Int) ≤ 12; decide)).uN 114 114 rfl (by show (0 : Int) ≤ 0 ∧ (0 : Int) ≤ 200; decide)
  have hK0 := hK.fm (SX_un (SX_un (sc := fmN) (rows := fmR) SX_rfl rfl) rfl) hJ0
  have hS0 : SRC (rU (rU S 2281 113 0) 2281 114 0) src := hS.of ((rU_k (by decide)).trans (rU_k (by decide))) (fun j => (rU_f (by decide)).trans (rU_f (by decide)))
  have hbg := fun (σ : hM) (hP : PM σ0 P (rU (rU S 2281 113 0) 2281 114 0) σ) => m_begin2 (fb := fb) (d := d + 17) (ex := 1) (n := 0) (c := 0) (fs := []) hP hK.1.iv hJ0 hp (Or.inr rfl) hS0 trivial rfl (by decide) ((rU_k (by decide)).trans rU_s) rU_s ⟨Int.le_refl 0, by decide⟩
  rw [show arOf [] = none from rfl] at hbg
  unfold cPerf evC
  obtain ⟨tx, htx⟩ : ∃ tx, exL P p none 1 src = tx := ⟨_, rfl⟩
  rw [htx] at hbg ⊢
  have hrg := bgE_rng (n := 0) (c := 0) (tx := tx)
  by_cases q : bgE 0 0 tx = 0
  · rw [if_pos q]
    have hgo : ∀ (σ : hM) (S2 : qR), PM σ0 P S2 σ → IV true T U S2 → SX fmR fmN (rU (rU S 2281 113 0) 2281 114 0) S2 → S2 2281 114 = 1 → S2 2281 113 = 1 → FST S2 [(0, tx, 0, 0, [])] → WP fb (d + 20) 309 27 [some (vR (some 2281)), some (vI p), some (vI (-1))] [] σ (fun r σ' => ∃ (S2 : qR) (l2 : List Int), r = some (vI (EV p EVN (-1) (0 + 1) none (0, tx, 0, 0, []) P (0 + 1)).1) ∧ PM σ0 (EV p EVN (-1) (0 + 1) none (0, tx, 0, 0, []) P (0 + 1)).2.1 S2 σ' ∧ KS (T + 610000) (U + 82000) (EV p EVN (-1) (0 + 1) none (0, tx, 0, 0, []) P (0 + 1)).2.1 S2 l2 [] ∧ J (EV p EVN (-1) (0 + 1) none (0, tx, 0, 0, []) P (0 + 1)).2.1 ∧ 0 ≤ (EV p EVN (-1) (0 + 1) none (0, tx, 0, 0, []) P (0 + 1)).1) := fun σ S2 a1 a2 a3 a4 a5 a6 => by
      refine m_ev (d := d) hp hJH EVN (-1) (0, tx, 0, 0, []) [] P S2 σ 1 T U l (by show 2000 * (200 - (1 : Int)) + 1500 < ((402000 : Nat) : Int); decide) (Or.inl ⟨rfl, rfl⟩) a1 (hK0.fm a3 a2) a6 a5 (by decide) a4 (by decide) hJp (by rw [evK_1]; omega) hU.1 (by rw [evK_1]; omega) (fun R σ S3 l3 e1 b1 b2 b3 b4 b5 b6 b7 b8 => ?_)
      rw [evK_1] at b2
      have e2 : EV p EVN (-1) (0 + 1) none (0, tx, 0, 0, []) P (0 + 1) = R := e1
      rw [e2]
      obtain ⟨r1, PR, cR⟩ := R
      dsimp only at b1 b2 b5 b6 b7 b8 ⊢
      have hP := b1
      have b4 : S3 2281 113 = 0 := b4
      refine x_lr (z := some 2281) T_309_27 rfl ?_
      refine x_gI (z := 0) T_309_28 (Or.inl F_17_113) (PM.t hP) (Eq.trans (PM.nS hP 2281 113 113 rfl rfl rfl) b4) ?_
      refine x_if T_309_31 (fun _ => ?_) (fun h => absurd (show (0 : Int) ≤ 0 by decide) h)
      refine x_li (z := r1) T_309_91 rfl ?_
      refine x_ri T_309_92 ?_
      exact ⟨S3, l3, rfl, hP, (b2.mono (by omega)).monoU (by omega), b8, b7⟩
    refine CL_in mL_309 rfl ?_
    show WP fb _ 309 0 [some (vR (some 2281)), some (vI p), none] [] σ _
    refine x_lr (z := some 2281) T_309_0 rfl ?_
    refine x_ic T_309_1 ?_
    refine y_pIS hP T_309_2 F_17_113 113 rfl rfl (fun σ hP => ?_)
    refine x_lr (z := some 2281) T_309_5 rfl ?_
    refine x_ic T_309_6 ?_
    refine y_pIS hP T_309_7 F_17_114 114 rfl rfl (fun σ hP => ?_)
    refine x_lr (z := some 2281) T_309_10 rfl ?_
    refine x_li (z := p) T_309_11 rfl ?_
    refine x_ic T_309_12 ?_
    refine x_cv3 T_309_13 mN_310 mL_310 (Nat.le_of_ble_eq_true rfl) mO_310 (PM.t hP) (Nat.le_of_ble_eq_true rfl) (hbg σ hP) ?_
    clear hbg
    intro r σ hr
    obtain ⟨S2, hr0, hP, hJ2, hX2, hc2, hg, -⟩ := hr
    rw [q] at hr0
    subst hr0
    obtain ⟨g1, g2⟩ := hg q
    refine cI ?_
    refine x_si (ls1 := [some (vR (some 2281)), some (vI p), some (vI 0)]) T_309_16 rfl ?_
    refine x_li (z := 0) T_309_17 rfl ?_
    refine x_if T_309_18 (fun _ => ?_) (fun h => absurd (show (0 : Int) ≤ 0 by decide) h)
    refine x_ic T_309_25 ?_
    refine x_si (ls1 := [some (vR (some 2281)), some (vI p), some (vI (-1))]) T_309_26 rfl ?_
    exact hgo σ S2 hP hJ2 hX2 hc2 g1 g2
  · rw [if_neg q]
    dsimp only
    obtain ⟨e0, he0⟩ : ∃ e, bgE 0 0 tx = e := ⟨_, rfl⟩
    rw [he0] at hrg q ⊢
    refine CL_in mL_309 rfl ?_
    show WP fb _ 309 0 [some (vR (some 2281)), some (vI p), none] [] σ _
    refine x_lr (z := some 2281) T_309_0 rfl ?_
    refine x_ic T_309_1 ?_
    refine y_pIS hP T_309_2 F_17_113 113 rfl rfl (fun σ hP => ?_)
    refine x_lr (z := some 2281) T_309_5 rfl ?_
    refine x_ic T_309_6 ?_
    refine y_pIS hP T_309_7 F_17_114 114 rfl rfl (fun σ hP => ?_)
    refine x_lr (z := some 2281) T_309_10 rfl ?_
    refine x_li (z := p) T_309_11 rfl ?_
    refine x_ic T_309_12 ?_
    refine x_cv3 T_309_13 mN_310 mL_310 (Nat.le_of_ble_eq_true rfl) mO_310 (PM.t hP) (Nat.le_of_ble_eq_true rfl) (hbg σ hP) ?_
    clear hbg
    intro r σ hr
    obtain ⟨S2, hr0, hP, hJ2, hX2, hc2, -, hg⟩ := hr
    rw [he0] at hr0 hg
    subst hr0
    obtain ⟨g1, g2⟩ := hg q
    refine cI ?_
    refine x_si (ls1 := [some (vR (some 2281)), some (vI p), some (vI e0)]) T_309_16 rfl ?_
    refine x_li (z := e0) T_309_17 rfl ?_
    refine x_if T_309_18 (fun h => absurd (show e0 ≤ 0 from h) (by omega)) (fun _ => ?_)
    refine x_li (z := e0) T_309_21 rfl ?_
    refine x_goto T_309_22 ?_
    refine x_si (ls1 := [some (vR (some 2281)), some (vI p), some (vI e0)]) T_309_26 rfl ?_
    refine x_lr (z := some 2281) T_309_27 rfl ?_
    refine x_gI (z := 0) T_309_28 (Or.inl F_17_113) (PM.t hP) (Eq.trans (PM.nS hP 2281 113 113 rfl rfl rfl) g1) ?_
    refine x_if T_309_31 (fun _ => ?_) (fun h => absurd (show (0 : Int) ≤ 0 by decide) h)
    refine x_li (z := e0) T_309_91 rfl ?_
    refine x_ri T_309_92 ?_
    exact ⟨_, l, rfl, hP, ((hK0.fm hX2 hJ2).mono (by omega)).monoU (by omega), hJp, hrg⟩
end MPERF
