/-! A message asked of a server, and kept. -/
theorem T_231_0 : hTab 231 0 = some ((0, 0, 0, []), 1) := rfl
theorem T_231_1 : hTab 231 1 = some ((4, 2, 0, []), 2) := rfl
theorem T_231_32 : hTab 231 32 = some ((0, 0, 0, []), 33) := rfl
theorem T_231_33 : hTab 231 33 = some ((4, 2, 0, []), 34) := rfl
theorem T_231_59 : hTab 231 59 = some ((3, 0, 2, []), 60) := rfl
theorem T_231_60 : hTab 231 60 = some ((24, 17, Int.ofNat 44, []), 63) := rfl
theorem T_231_63 : hTab 231 63 = some ((3, 0, 2, []), 64) := rfl
theorem T_231_64 : hTab 231 64 = some ((24, 17, Int.ofNat 42, []), 67) := rfl
theorem T_231_67 : hTab 231 67 = some ((0, 0, 40, []), 69) := rfl
theorem T_231_69 : hTab 231 69 = some ((10, 4, 0, []), 70) := rfl
theorem T_231_70 : hTab 231 70 = some ((3, 0, 2, []), 71) := rfl
theorem T_231_71 : hTab 231 71 = some ((24, 17, Int.ofNat 4, []), 74) := rfl
theorem T_231_74 : hTab 231 74 = some ((27, 0, 0, []), 75) := rfl
theorem T_231_75 : hTab 231 75 = some ((3, 0, 2, []), 76) := rfl
theorem T_231_76 : hTab 231 76 = some ((6, 0, 0, []), 77) := rfl
theorem T_231_77 : hTab 231 77 = some ((24, 17, Int.ofNat 42, []), 80) := rfl
theorem T_231_80 : hTab 231 80 = some ((0, 0, 1, []), 81) := rfl
theorem T_231_81 : hTab 231 81 = some ((10, 0, 0, []), 82) := rfl
theorem T_231_82 : hTab 231 82 = some ((25, 17, Int.ofNat 42, []), 85) := rfl
theorem T_231_85 : hTab 231 85 = some ((3, 0, 2, []), 86) := rfl
theorem T_231_86 : hTab 231 86 = some ((3, 1, 0, []), 87) := rfl
theorem T_231_87 : hTab 231 87 = some ((0, 0, 0, []), 88) := rfl
theorem T_231_88 : hTab 231 88 = some ((31, 233, 0, []), 91) := rfl
theorem T_231_91 : hTab 231 91 = some ((0, 0, 0, []), 92) := rfl
theorem T_231_92 : hTab 231 92 = some ((4, 2, 0, []), 93) := rfl
theorem T_231_118 : hTab 231 118 = some ((3, 0, 2, []), 119) := rfl
theorem T_231_119 : hTab 231 119 = some ((24, 17, Int.ofNat 44, []), 122) := rfl
theorem T_231_122 : hTab 231 122 = some ((3, 0, 2, []), 123) := rfl
theorem T_231_123 : hTab 231 123 = some ((24, 17, Int.ofNat 42, []), 126) := rfl
theorem T_231_126 : hTab 231 126 = some ((0, 0, 40, []), 128) := rfl
theorem T_231_128 : hTab 231 128 = some ((10, 4, 0, []), 129) := rfl
theorem T_231_129 : hTab 231 129 = some ((3, 0, 2, []), 130) := rfl
theorem T_231_130 : hTab 231 130 = some ((24, 17, Int.ofNat 6, []), 133) := rfl
theorem T_231_133 : hTab 231 133 = some ((27, 0, 0, []), 134) := rfl
theorem T_231_134 : hTab 231 134 = some ((3, 0, 2, []), 135) := rfl
theorem T_231_135 : hTab 231 135 = some ((6, 0, 0, []), 136) := rfl
theorem T_231_136 : hTab 231 136 = some ((24, 17, Int.ofNat 42, []), 139) := rfl
theorem T_231_139 : hTab 231 139 = some ((0, 0, 1, []), 140) := rfl
theorem T_231_140 : hTab 231 140 = some ((10, 0, 0, []), 141) := rfl
theorem T_231_141 : hTab 231 141 = some ((25, 17, Int.ofNat 42, []), 144) := rfl
theorem T_231_144 : hTab 231 144 = some ((3, 0, 2, []), 145) := rfl
theorem T_231_145 : hTab 231 145 = some ((24, 17, Int.ofNat 7, []), 148) := rfl
theorem T_231_148 : hTab 231 148 = some ((33, 1, 0, []), 149) := rfl
/-- a message kept in the ring, in the sum and in the count -/
def gM1 (P : qR) (R : List Int) : qR := rU (rU (gKp P R) 2317 (P 2281 42 % 40) (R.length : Int)) 2281 42 (P 2281 42 + 1)
theorem gM1_k {P : qR} {l : List Int} {k : Int} (h : k ≠ 45) (h2 : k ≠ 42) : gM1 P l 2281 k = P 2281 k := (rU_k h2).trans ((rU_f (by decide)).trans (gKp_k h))
theorem gM1_f {P : qR} {l : List Int} {f : Nat} {k : Int} (h : f ≠ 2281) (h2 : f ≠ 2316) (h3 : f ≠ 2317) : gM1 P l f k = P f k := (rU_f h).trans ((rU_f h3).trans (gKp_f h h2))
def trP (P : qR) (s : Int) (a : Int → Int) (z : Int) : qR := gM1 (srvP (gM1 P (seg a 0 z.toNat)) s 0 a z) (srvA (gM1 P (seg a 0 z.toNat)) s 0 a z)
def trE (P : qR) (s : Int) (a : Int → Int) (z : Int) : Int := srvE (gM1 P (seg a 0 z.toNat)) s 0 a z
def trA (P : qR) (s : Int) (a : Int → Int) (z : Int) : List Int := srvA (gM1 P (seg a 0 z.toNat)) s 0 a z
/-- an answer that came, and what stays of the rows at hand -/
def TA (T U : Int) (S S1 : qR) (l : List Int) : Prop := S1 2281 6 = (l.length : Int) ∧ (∀ i : Int, 0 ≤ i → i < l.length → S1 2286 i = lg l i) ∧ IV true T U S1 ∧ (∀ k : Int, k ≠ 4 → k ≠ 6 → k ≠ 7 → k ≠ 8 → k ≠ 9 → k ≠ 12 → k ≠ 92 → S1 2281 k = S 2281 k) ∧ (∀ (f : Nat) (k : Int), scrR f = true → f ≠ 2285 → f ≠ 2286 → f ≠ 2287 → f ≠ 2288 → S1 f k = S f k) ∧ (l.length : Int) ≤ 407 ∧ byt l
section MTRANS2
theorem lg_out {l : List Int} {i : Int} (h : (l.length : Int) ≤ i) : lg l i = 0 := by
  unfold lg
  rw [List.getD_eq_getElem?_getD, List.getElem?_eq_none (by omega)]
  rfl
variable {fb : Bool} {d : Nat} {σ0 σ : hM} {P Q S S1 : qR} {T U s w : Int} {l R : List Int}
theorem MI_gM1 (h : MI T U P) (hb : byt R) (hz : (R.length : Int) ≤ 420) : MI (T + 1) U (gM1 P R) := by
  have hm : 0 ≤ P 2281 42 ∧ P 2281 42 ≤ T := IV.n h.1 42 42 rfl rfl (by decide)
  have h1 := (MI_gKp h hb).mono (T1 := T + 1) (U1 := U) (by omega) (Int.le_refl _)
  exact ⟨(h1.1.uA 2317 rfl (by show 0 ≤ (R.length : Int) ∧ (R.length : Int) ≤ 420; omega)).uN 42 42 rfl (by show 0 ≤ P 2281 42 + 1 ∧ P 2281 42 + 1 ≤ T + 1; omega), h.2.of (fun _ => gM1_f (by decide) (by decide) (by decide)) (fun _ => gM1_f (by decide) (by decide) (by decide)) (fun _ => gM1_f (by decide) (by decide) (by decide)) (fun _ => gM1_f (by decide) (by decide) (by decide))⟩
theorem SI_gM1 (h : SI T U s P) (hT : T + 49 ≤ 2147483000) (hb : byt R) (hz : (R.length : Int) ≤ 420) : SI (T + 1) U s (gM1 P R) := by
  have e : ∀ (f : Nat) (k : Int), f ≠ 2281 → f ≠ 2316 → f ≠ 2317 → gM1 P R f k = P f k := fun f k h1 h2 h3 => gM1_f h1 h2 h3
  obtain ⟨h1, h2, h3, h4, h5⟩ := h
  refine ⟨⟨MI_gM1 h1.1 hb hz, fun k k0 k1 => ?_⟩, by omega, ?_, ?_, ?_⟩
  · rw [e 2304 _ (by decide) (by decide) (by decide), e 2310 _ (by decide) (by decide) (by decide), e 2289 _ (by decide) (by decide) (by decide), e 2306 _ (by decide) (by decide) (by decide)]
    exact h1.2 k k0 k1
  · intro q
    rw [e 2289 _ (by decide) (by decide) (by decide)]
    exact h3 q
  · intro q k k0 k1
    rw [e 2306 _ (by decide) (by decide) (by decide)]
    exact h4 q k k0 k1
  · intro q k k0 k1
    rw [e 2306 _ (by decide) (by decide) (by decide), e 2309 _ (by decide) (by decide) (by decide)]
    exact h5 q k k0 k1
theorem m_transact (hP : PM σ0 P S1 σ) (hQ : RQ T U S S1 w l) (hI : SI T U s P) (hT : T + 49 ≤ 2147483000) (hs : 0 ≤ s ∧ s < 3)
    (h2 : ∀ a : Int → Int, seg a 0 w.toNat = leb 4 w ++ l → 0 ≤ srvP (gM1 P (seg a 0 w.toNat)) s 0 a w 2281 42 ∧ srvP (gM1 P (seg a 0 w.toNat)) s 0 a w 2281 42 ≤ 2147483000) :
    CL fb (d + 10) 231 [vR (some 2281), vI s] σ (fun r σ' => ∃ (a : Int → Int) (S2 : qR), seg a 0 w.toNat = leb 4 w ++ l ∧ r = some (vI (trE P s a w)) ∧ PM σ0 (trP P s a w) S2 σ' ∧ TA (T + 1) U S S2 (trA P s a w)) := by
  have hw := hQ.rg
  have hK := hQ.whole
  have hz := hQ.1
  have hm : 0 ≤ P 2281 42 ∧ P 2281 42 ≤ T := IV.n hI.1.1.1 42 42 rfl rfl (by decide)
  refine CL_in mL_231 rfl ?_
  show WP fb _ 231 0 [some (vR (some 2281)), some (vI s), none] [] σ _
  refine x_ic T_231_0 ?_
  refine x_si (ls1 := [some (vR (some 2281)), some (vI s), some (vI 0)]) T_231_1 rfl ?_
  refine m_tr_size (d := d + 10) ⟨by omega, hw.2⟩ hz ?_ 4 0 σ (by decide) (by decide) (by rw [show leb (0 : Int).toNat w = [] from rfl, rW_nil]; exact hP)
  clear hP
  intro σ hP
  obtain ⟨S3, hS3⟩ : ∃ S3, rW S1 2285 0 (leb 4 w) = S3 := ⟨_, rfl⟩
  rw [hS3] at hP hK
  obtain ⟨k1, k2, k3, k4, k5, k6, k7, k8⟩ := hK
  refine x_ic T_231_32 ?_
  refine x_si (ls1 := [some (vR (some 2281)), some (vI s), some (vI 0)]) T_231_33 rfl ?_
  refine m_tr_kept (d := d + 9) ⟨hm.1, by omega⟩ ⟨by omega, hw.2⟩ k1 ?_ w.toNat 0 σ (by omega) (by decide) (by rw [show seg (S3 2285) 0 (0 : Int).toNat = [] from rfl, gKp_nil]; exact hP)
  clear hP
  intro σ hP
  obtain ⟨a, ha⟩ : ∃ a, S3 2285 = a := ⟨_, rfl⟩
  rw [ha] at hP k3
  have hlen : ((seg a 0 w.toNat).length : Int) = w := by rw [seg_len]; omega
  have e42 : gKp P (seg a 0 w.toNat) 2281 42 = P 2281 42 := gKp_k (by decide)
  refine x_lr (z := some 2281) T_231_59 rfl ?_
  refine x_gR (z := some 2317) T_231_60 F_17_44 (PM.t hP) (PM.r hP 44 2317 rfl) ?_
  refine x_lr (z := some 2281) T_231_63 rfl ?_
  refine x_gI (z := P 2281 42) T_231_64 (Or.inl F_17_42) (PM.t hP) (Eq.trans (PM.nP hP 2281 42 42 rfl rfl rfl) e42) ?_
  refine x_ic T_231_67 ?_
  refine x_ib (w := (P 2281 42 % 40)) T_231_69 (fun h => absurd h.2 (by decide)) (rem32_n (by omega) (by omega) (by decide)) ?_
  refine x_lr (z := some 2281) T_231_70 rfl ?_
  refine x_gI (z := w) T_231_71 (Or.inl F_17_4) (PM.t hP) (Eq.trans (PM.nS hP 2281 4 4 rfl rfl rfl) k1) ?_
  refine y_aIP hP T_231_74 2317 40 rfl rfl rfl (by omega) (by omega) (fun σ hP => ?_)
  refine x_lr (z := some 2281) T_231_75 rfl ?_
  refine x_dupR T_231_76 ?_
  refine x_gI (z := P 2281 42) T_231_77 (Or.inl F_17_42) (PM.t hP) (Eq.trans (Eq.trans (PM.nP hP 2281 42 42 rfl rfl rfl) (rU_f (Nat.ne_of_beq_eq_false rfl))) e42) ?_
  refine x_ic T_231_80 ?_
  refine x_ib (w := (P 2281 42 + 1)) T_231_81 (fun h => absurd h.1 (by decide)) (w32_id (by omega) (by omega)) ?_
  refine y_pIP hP T_231_82 F_17_42 42 rfl rfl (fun σ hP => ?_)
  rw [show rU (rU (gKp P (seg a 0 w.toNat)) 2317 (P 2281 42 % 40) w) 2281 42 (P 2281 42 + 1) = gM1 P (seg a 0 w.toNat) by unfold gM1; rw [hlen]] at hP
  have hI1 : SI (T + 1) U s (gM1 P (seg a 0 w.toNat)) := SI_gM1 hI hT (by rw [k3]; exact k4) (by omega)
  have g2 := h2 a k3
  have hsv := m_serve (fb := fb) (d := d) (σ := σ) (σ0 := σ0) (S := S3) (c := 0) hP (k5.mono (T1 := T + 1) (U1 := U) (by omega) (Int.le_refl _)) hI1 hs (by decide) (by rw [k1]; exact hw.2)
  unfold SRV at hsv
  rw [k1, ha] at hsv
  obtain ⟨P2, hP2⟩ : ∃ P2, srvP (gM1 P (seg a 0 w.toNat)) s 0 a w = P2 := ⟨_, rfl⟩
  obtain ⟨A2, hA2⟩ : ∃ A2, srvA (gM1 P (seg a 0 w.toNat)) s 0 a w = A2 := ⟨_, rfl⟩
  rw [hP2] at g2 hsv
  rw [hA2] at hsv
  refine x_lr (z := some 2281) T_231_85 rfl ?_
  refine x_li (z := s) T_231_86 rfl ?_
  refine x_ic T_231_87 ?_
  refine x_cv3 T_231_88 mN_233 mL_233 (Nat.le_of_ble_eq_true rfl) mO_233 (PM.t hP) (Nat.le_of_ble_eq_true rfl) (hsv) ?_
  clear hP hsv
  rintro _ σ ⟨rfl, S2, hP, hA⟩
  refine cV ?_
  refine x_ic T_231_91 ?_
  refine x_si (ls1 := [some (vR (some 2281)), some (vI s), some (vI 0)]) T_231_92 rfl ?_
  obtain ⟨a1, a2, a3, a4, a5, a6, a7, g3⟩ := hA
  have hseg : seg (S2 2286) 0 (A2.length : Int).toNat = A2 := seg_eq.mpr ⟨by omega, fun i i0 i1 => by rw [Int.zero_add]; exact a3 i i0 (by omega)⟩
  refine m_tr_kept2 (d := d + 9) (w := (A2.length : Int)) g2 ⟨by omega, by omega⟩ a2 ?_ (A2.length : Int).toNat 0 σ (by omega) (by decide) (by rw [show seg (S2 2286) 0 (0 : Int).toNat = [] from rfl, gKp_nil]; exact hP)
  clear hP
  intro σ hP
  rw [hseg] at hP
  have e43 : gKp P2 A2 2281 42 = P2 2281 42 := gKp_k (by decide)
  have hE : trE P s a w = S2 2281 7 := a1.symm
  refine x_lr (z := some 2281) T_231_118 rfl ?_
  refine x_gR (z := some 2317) T_231_119 F_17_44 (PM.t hP) (PM.r hP 44 2317 rfl) ?_
  refine x_lr (z := some 2281) T_231_122 rfl ?_
  refine x_gI (z := P2 2281 42) T_231_123 (Or.inl F_17_42) (PM.t hP) (Eq.trans (PM.nP hP 2281 42 42 rfl rfl rfl) e43) ?_
  refine x_ic T_231_126 ?_
  refine x_ib (w := (P2 2281 42 % 40)) T_231_128 (fun h => absurd h.2 (by decide)) (rem32_n (by omega) (by omega) (by decide)) ?_
  refine x_lr (z := some 2281) T_231_129 rfl ?_
  refine x_gI (z := (A2.length : Int)) T_231_130 (Or.inl F_17_6) (PM.t hP) (Eq.trans (PM.nS hP 2281 6 6 rfl rfl rfl) a2) ?_
  refine y_aIP hP T_231_133 2317 40 rfl rfl rfl (by omega) (by omega) (fun σ hP => ?_)
  refine x_lr (z := some 2281) T_231_134 rfl ?_
  refine x_dupR T_231_135 ?_
  refine x_gI (z := P2 2281 42) T_231_136 (Or.inl F_17_42) (PM.t hP) (Eq.trans (Eq.trans (PM.nP hP 2281 42 42 rfl rfl rfl) (rU_f (Nat.ne_of_beq_eq_false rfl))) e43) ?_
  refine x_ic T_231_139 ?_
  refine x_ib (w := (P2 2281 42 + 1)) T_231_140 (fun h => absurd h.1 (by decide)) (w32_id (by omega) (by omega)) ?_
  refine y_pIP hP T_231_141 F_17_42 42 rfl rfl (fun σ hP => ?_)
  refine x_lr (z := some 2281) T_231_144 rfl ?_
  refine x_gI (z := S2 2281 7) T_231_145 (Or.inl F_17_7) (PM.t hP) (PM.nS hP 2281 7 7 rfl rfl rfl) ?_
  refine x_ri T_231_148 ?_
  skip
  refine ⟨a, S2, k3, by rw [hE], ?_, ?_⟩
  · rw [show trP P s a w = gM1 P2 A2 by unfold trP; rw [hP2, hA2]]
    exact hP
  · rw [show trA P s a w = A2 from hA2]
    exact ⟨a2, a3, a4, fun k q4 q6 q7 q8 q9 q12 q92 => (a6 k q6 q7 q8 q9 q12 q92).trans (k7 k q4), fun f k q q1 q2 q3 q4 => (a7 f k q q2 q3 q4).trans (k6 f k (fun e => by rw [e] at q; exact absurd q (by decide)) q1), by omega, fun k q => by
      by_cases c : k < A2.length
      · rw [← a3 k q c]
        exact IV.a a4 2286 0 512 rfl rfl rfl q (by omega)
      · rw [lg_out (by omega)]
        decide⟩
end MTRANS2
