/-! The class's servers: a message read, done and answered; what stays of the others. -/
theorem T_26_64 : hTab 26 64 = some ((3, 2, 2, []), 65) := rfl
theorem T_26_65 : hTab 26 65 = some ((0, 0, 4, []), 66) := rfl
theorem T_26_66 : hTab 26 66 = some ((31, 33, 0, []), 69) := rfl
theorem T_26_69 : hTab 26 69 = some ((4, 4, 0, []), 71) := rfl
theorem T_26_71 : hTab 26 71 = some ((3, 2, 2, []), 72) := rfl
theorem T_26_72 : hTab 26 72 = some ((0, 0, 5, []), 73) := rfl
theorem T_26_73 : hTab 26 73 = some ((0, 0, 2, []), 74) := rfl
theorem T_26_74 : hTab 26 74 = some ((31, 29, 0, []), 77) := rfl
theorem T_26_77 : hTab 26 77 = some ((4, 5, 1, []), 79) := rfl
theorem T_26_79 : hTab 26 79 = some ((3, 0, 2, []), 80) := rfl
theorem T_26_80 : hTab 26 80 = some ((24, 7, Int.ofNat 10, []), 83) := rfl
theorem T_26_83 : hTab 26 83 = some ((3, 4, 0, []), 85) := rfl
theorem T_26_85 : hTab 26 85 = some ((0, 0, 1, []), 86) := rfl
theorem T_26_86 : hTab 26 86 = some ((10, 0, 0, []), 87) := rfl
theorem T_26_87 : hTab 26 87 = some ((3, 5, 1, []), 89) := rfl
theorem T_26_89 : hTab 26 89 = some ((31, 21, 0, []), 92) := rfl
section XSRVE
variable {fb : Bool} {d S S2 a0 rp mb M : Nat} {σ0 σ : hM} {W W1 W2 W3 P Q : qR} {R R2 R3 : rR} {k z s e w K T U c tg : Int} {ord l l0 l2 L : List Int} {t : Nat → Nat}
theorem NT.fk (h : NT W R P S s ord t) (hW : ∀ (x : Nat) (k : Int), S ≤ x → x < S + 294 → k ≠ 2198 → W2 x k = W x k) (hR : ∀ (x : Nat) (k : Int), S ≤ x → x < S + 294 → R2 x k = R x k) : NT W2 R2 P S s ord t := by
  obtain ⟨⟨a1, a2, a3, a4⟩, b1, c1, d1, e1⟩ := h
  have tl : ∀ i : Int, 0 ≤ i → i < ord.length → t i.toNat < 64 := fun i h0 h1 => b1.1 _ (by omega)
  refine ⟨⟨a1, a2, (hW _ _ (by omega) (by omega) (by decide)).trans a3, a4⟩, b1, fun i h0 h1 => (hR _ _ (by omega) (by omega)).trans (c1 i h0 h1), fun i h0 h1 => ?_, fun i h0 h1 => ?_⟩
  · have := tl i h0 h1
    exact (d1 i h0 h1).wr (fun k _ _ => hW _ _ (by omega) (by omega) (by omega)) (hW _ _ (by omega) (by omega) (by decide)) (fun k _ _ => hW _ _ (by omega) (by omega) (by omega))
  · have := tl i h0 h1
    rw [hR _ _ (by omega) (by omega)]
    exact e1 i h0 h1
theorem FD.fk (h : FD W R P S s ord t) (hW : ∀ (x : Nat) (k : Int), S ≤ x → x < S + 294 → k ≠ 2198 → W2 x k = W x k) (hR : ∀ (x : Nat) (k : Int), S ≤ x → x < S + 294 → R2 x k = R x k) : FD W2 R2 P S s ord t := fun i h0 h1 => by
  obtain ⟨a1, a2, a3⟩ := h i h0 h1
  have w : ∀ k : Int, k ≠ 2198 → W2 (S + 198 + i.toNat) k = W (S + 198 + i.toNat) k := fun k hk => hW _ _ (by omega) (by omega) hk
  have hr : ∀ k : Int, R2 (S + 198 + i.toNat) k = R (S + 198 + i.toNat) k := fun k => hR _ _ (by omega) (by omega)
  rw [w _ (by decide), hr]
  refine ⟨a1, fun q => ?_, a3⟩
  have := a2 q
  unfold FDu at this ⊢
  rw [w _ (by decide), w _ (by decide), w _ (by decide), w _ (by decide), w _ (by decide), w _ (by decide), w _ (by decide), hr]
  exact this
theorem XV.fk (h : XV W R P S s ord t) (hW : ∀ (x : Nat) (k : Int), S ≤ x → x < S + 294 → k ≠ 2198 → W2 x k = W x k) (hR : ∀ (x : Nat) (k : Int), S ≤ x → x < S + 294 → R2 x k = R x k) (hC : ∀ (b c : Nat) (k : Int), S ≤ b → b < S + 294 → R b 2267 = some c → 2372 ≤ c → k ≠ 2198 → W2 c k = W c k) (h6 : ∀ n, s < 2 → isN P s n → P 2297 (64 * s + n) ≤ 600) : XV W2 R2 P S s ord t := by
  refine ⟨h.1.fk hW hR, h.2.1.fk hW hR, ?_, fun i h0 h1 => ?_⟩
  · obtain ⟨z1, z2, z3, z4⟩ := h.2.2.1
    unfold SZ
    rw [hW _ _ (by omega) (by omega) (by decide), hW _ _ (by omega) (by omega) (by decide), hW _ _ (by omega) (by omega) (by decide), hW _ _ (by omega) (by omega) (by decide), hW _ _ (by omega) (by omega) (by decide)]
    exact ⟨z1, z2, z3, z4⟩
  · have hl := h.1.1.2.1
    have := h.1.2.1.1 i.toNat (by omega)
    exact (h.2.2.2 i h0 h1).fr (hW _ _ (by omega) (by omega) (by decide)) (hR _ _ (by omega) (by omega)) (hR _ _ (by omega) (by omega)) (fun c q1 q2 i _ _ => hC _ c i (by omega) (by omega) q1 q2 (by omega)) (fun q => h6 _ q ((h.1.1.1 _).mp (lg_mem h0 h1)))
/-- another server, behind a message -/
theorem XV.oth (h : XV W R P S2 k ord t) (hS : VS S s) (hS2 : VS S2 k) (hne : s ≠ k) (hK : CT K W R) (hF : FVX S rp W W2 R R2) (hro : rp + 1 < S2 ∨ S2 + 294 ≤ rp) (h6 : ∀ n, k < 2 → isN P k n → P 2297 (64 * k + n) ≤ 600) : XV W2 R2 P S2 k ord t := by
  have g1 := hS.2
  have g2 := hS2.2
  have g3 := hS.1
  have g4 := hS2.1
  refine h.fk (fun x j x0 x1 hj => ?_) (fun x j x0 x1 => hF.2.1 x j (by omega)) (fun b c j b0 b1 hb hc hj => ?_) h6
  · refine hF.1 x j (by omega) (by omega) (by omega) (by omega) (by omega) (fun q => ?_)
    unfold ioP at q
    omega
  · obtain ⟨q1, q2, q3⟩ := hK.1 b c hb
    exact hF.2.2.2.1 c j hc q3 (fun b2 y0 y1 q => by
      have := hK.2.1 b b2 c hb q
      omega)
theorem gM1_fe : FE (gM1 P l) P := fun f k hf => gM1_f (fun q => by rw [q] at hf; exact absurd hf (by decide)) (fun q => by rw [q] at hf; exact absurd hf (by decide)) (fun q => by rw [q] at hf; exact absurd hf (by decide))
theorem XV.m1 (h : XV W R P S s ord t) : XV W R (gM1 P l) S s ord t := by
  have hq : ∀ (f : Nat) (k : Int), f ≠ 2316 → f ≠ 2317 → f ≠ 2281 → gM1 P l f k = P f k := fun f k q1 q2 q3 => gM1_f q3 q1 q2
  refine ⟨h.1.fe gM1_fe, h.2.1.pp (fun f k hf => hq f k (fun c => by rw [c] at hf; exact absurd hf (by decide)) (fun c => by rw [c] at hf; exact absurd hf (by decide)) (fun c => by rw [c] at hf; exact absurd hf (by decide))), ?_, fun i i0 i1 => (h.2.2.2 i i0 i1).pp (fun _ => hq _ _ (by decide) (by decide) (by decide)) (fun _ _ _ _ => hq _ _ (by decide) (by decide) (by decide))⟩
  obtain ⟨z1, z2, z3, z4⟩ := h.2.2.1
  unfold SZ
  rw [hq _ _ (by decide) (by decide) (by decide), hq _ _ (by decide) (by decide) (by decide), hq _ _ (by decide) (by decide) (by decide), hq _ _ (by decide) (by decide) (by decide)]
  exact ⟨z1, z2, z3, z4⟩
theorem SCR.m1 (h : SCR W P) : SCR W (gM1 P l) := h.rows (fun _ => gM1_f (by decide) (by decide) (by decide)) (fun _ => gM1_f (by decide) (by decide) (by decide)) (fun _ => gM1_f (by decide) (by decide) (by decide)) (gM1_k (by decide) (by decide)) (gM1_k (by decide) (by decide))
theorem SCR.fb2 (h : SCR W P) (hF : FB rp W W2) (h1 : rp ≠ 130) (h2 : rp ≠ 132) : SCR W2 P := by
  obtain ⟨a1, a2, a3⟩ := h
  exact ⟨hF.by a1 (Ne.symm h1), hF.by a2 (Ne.symm h2), fun p p0 p1 => (hF _ _ (fun c => absurd c.2 (by decide)) (fun c => absurd c.2 (by decide))).trans (a3 p p0 p1)⟩
theorem SCR.fn (h : SCR W P) (hF : FN W W2) : SCR W2 P := by
  obtain ⟨a1, a2, a3⟩ := h
  exact ⟨hF.by a1 (Or.inl (by decide)), hF.by a2 (Or.inl (by decide)), fun p p0 p1 => (hF _ _ (by omega) (by omega)).trans (a3 p p0 p1)⟩
theorem PST.fr {p : Int} (h : PST W R P p a0) (hW : ∀ (x : Nat) (k : Int), k = 2199 ∨ k = 2097 → x ≠ 129 → ¬ (149 ≤ x ∧ x < 229) → W2 x k = W x k) (hQ : ∀ (f : Nat) (k : Int), f = 2322 ∨ f = 2334 ∨ f = 2323 ∨ f = 2327 → Q f k = P f k) (hp : 0 ≤ p ∧ p < 8) (ha : a0 = 295 + 125 * p.toNat) : PST W2 R Q p a0 := by
  obtain ⟨a1, a2, ⟨a3, a4⟩, ⟨g, b1, b2, b3, b4⟩, a5⟩ := h
  have hg : g ≠ 129 ∧ ¬ (149 ≤ g ∧ g < 229) := by
    refine ⟨fun c => ?_, fun c => ?_⟩
    · rw [c] at b2
      exact absurd b2 (by decide)
    · have e : ∀ g, 149 ≤ g → g < 229 → tX g ≠ some (Sum.inl 3) := by
        intro g h0 h1 h2
        have := (by decide +kernel : ∀ i < 80, tX (149 + i) ≠ some (Sum.inl 3)) (g - 149) (by omega)
        rw [show 149 + (g - 149) = g by omega] at this
        exact this h2
      exact e g c.1 c.2 b2
  refine ⟨a1, a2, ?_, ⟨g, b1, b2, ?_, ?_⟩, fun k k0 k1 => ?_⟩
  · rw [hW _ _ (Or.inl rfl) (by omega) (by omega), hQ _ _ (Or.inl rfl)]
    exact ⟨a3, a4⟩
  · rw [hW _ _ (Or.inr rfl) hg.1 hg.2, hQ 2334 _ (Or.inr (Or.inl rfl)), hQ 2323 _ (Or.inr (Or.inr (Or.inl rfl)))]
    exact b3
  · rw [hQ 2334 _ (Or.inr (Or.inl rfl)), hQ 2323 _ (Or.inr (Or.inr (Or.inl rfl)))]
    exact b4
  · rw [hQ 2327 _ (Or.inr (Or.inr (Or.inr rfl)))]
    exact a5 k k0 k1
theorem srv_64 {Post : Option AV → hM → Prop} (hP : PX σ0 W R σ) (hS : VS S s) (hX : XV W R P S s ord t) (hK : CT K W R) (hG : GI T U P) (hD : PKK P) (hT : T + 98 ≤ 2147483000) (hIO : SCR W P) (hst : s = 2 → ∀ p, 0 ≤ p → p < 8 → ¬ P 2320 p = 0 → PST W R P p (295 + 125 * p.toNat)) (hr : R S 2233 = some mb) (hrp : R S 2234 = some rp) (hcn : W S 2235 = c) (hc : c = 0 ∨ c = 1) (hB : BY W mb M l) (hz : (l.length : Int) = z) (hz7 : 7 ≤ z) (hmo : mb + 1 < S ∨ S + 294 ≤ mb) (hBr : BY W rp 300 l0) (hro : rp + 1 < S ∨ S + 294 ≤ rp) (hmr : mb ≠ rp) (n1 : rp ≠ 130) (n2 : rp ≠ 132) (m2 : mb ≠ 132) (hnz : nu (lg l) 0 4 = z) (hgo : ∀ (σ : hM) (W2 : qR) (R2 : rR) (ord2 : List Int) (t2 : Nat → Nat) (x8 : Option AV) (k tg : Int), PX σ0 W2 R2 σ → BY W2 rp 300 (srvA P s c (lg l) z) → XV W2 R2 (srvP P s c (lg l) z) S s ord2 t2 → CT K W2 R2 → SCR W2 (srvP P s c (lg l) z) → FVX S rp W W2 R R2 → WP fb (d + 7) 26 403 [some (vR (some S)), some (vI c), some (vR (some mb)), some (vR (some rp)), some (vI k), some (vL tg), none, some (vI (srvE P s c (lg l) z)), x8] [] σ Post) : WP fb (d + 7) 26 64 [some (vR (some S)), some (vI c), some (vR (some mb)), some (vR (some rp)), none, none, none, none, none] [] σ Post := by
  have hO := hS.o
  have hbm := hB.1
  have hbr := hBr.1
  have hrlt := hBr.lt
  have hsr := hS.1
  have hrg := hS.rng
  have hb8 := hB.2.2.2.2.2.1
  have hr0 := (tX_o hbr).1
  have h6 := XV.len6 hG.iv hsr.1
  obtain ⟨k, hk⟩ : ∃ q, lg l 4 = q := ⟨_, rfl⟩
  obtain ⟨tg, htg⟩ : ∃ q, nu (lg l) 5 2 = q := ⟨_, rfl⟩
  have hkr := hb8 4 (by decide)
  rw [hk] at hkr
  have htr := nu_rng (f := lg l) (i := 5) 2 (fun j _ => hb8 _ (by omega))
  rw [htg] at htr
  have h256 : (256 : Int) ^ 2 = 65536 := by decide
  have hk1 : nu (lg l) 4 1 = k := (lg_one (by omega) hb8).trans hk
  have hat := x_at (fb := fb) (d := d + 6) (i := 4) hP hB
  rw [if_pos (by omega), hk] at hat
  have hnum := x_num (fb := fb) (d := d + 6) (s := 5) (k := 2) 2 hP hB hz rfl (by decide) (by decide) (by omega) htg
  have hst2 := x_start (fb := fb) (d := d + 5) (x := k + 1) (v := tg) hP hBr (by decide) ⟨by omega, by omega⟩ ⟨by omega, by omega⟩
  have hgd : ¬ ¬ (7 ≤ z ∧ nu (lg l) 0 4 = z) := fun q => q ⟨hz7, hnz⟩
  obtain ⟨e, he⟩ : ∃ q, srvE P s c (lg l) z = q := ⟨_, rfl⟩
  obtain ⟨Q, hQ⟩ : ∃ q, srvP P s c (lg l) z = q := ⟨_, rfl⟩
  have hA : srvA P s c (lg l) z = ansL (lg l) (if e = 0 then k + 1 else 107) (if e = 0 then srL P s c k (lg l) z else errL e) := by
    unfold srvA
    rw [if_neg hgd, he, hk1]
  obtain ⟨L, hL⟩ : ∃ q, srL P s c k (lg l) z = q := ⟨_, rfl⟩
  rw [hL] at hA
  have her : 0 ≤ e ∧ e ≤ 16 := by
    rw [← he]
    unfold srvE
    rw [if_neg hgd]
    split
    · decide
    · exact srE_rng
  have hpk : PKK Q := by
    rw [← hQ]
    exact PKK_srvP hD hG hsr (by omega) (fun j j0 _ => hb8 j j0) hX.1
  rw [he, hQ, hA] at hgo
  -- the rest, behind the answer's head
  have hrest : ∀ (σ : hM) (W1 : qR), PX σ0 W1 R σ → BY W1 rp 300 (leb 4 0 ++ (leb 1 (k + 1) ++ leb 2 tg)) → FB rp W W1 → WP fb (d + 7) 26 92 [some (vR (some S)), some (vI c), some (vR (some mb)), some (vR (some rp)), some (vI k), some (vL tg), none, none, none] [] σ Post := fun σ W1 hP hB1 hF1 => by
    have hX1 := hX.fbb hF1 (by omega) hro h6
    have hK1 := hK.fbb hF1 hr0
    have hIO1 := hIO.fb2 hF1 n1 n2
    have hBm := hF1.by hB hmr
    have hcn1 : W1 S 2235 = c := (hF1.o (by decide) (by decide)).trans hcn
    have hFV : FVX S rp W W1 R R := FVX_of (FV_fb hF1 (by omega) (by omega))
    have hend : ∀ (σ : hM) (x8 : Option AV), XT σ0 K W1 R S rp s e Q ((leb 4 0 ++ (leb 1 (k + 1) ++ leb 2 tg)) ++ L) (some (vI e)) σ → WP fb (d + 7) 26 368 [some (vR (some S)), some (vI c), some (vR (some mb)), some (vR (some rp)), some (vI k), some (vL tg), none, some (vI e), x8] [] σ Post := fun σ x8 h => by
      obtain ⟨-, W2, R2, o2, t2, l3, g1, g2, g3, g4, g5, g6, g7⟩ := h
      refine srv_368 (l := l) g1 hO (g6.2.2.1.2.1.trans hrp) g2 g3 her htg.symm (hb8 5 (by decide)) (hb8 6 (by decide)) (fun σ W3 hP hB3 hF3 => ?_)
      have hG2 : ∀ n, s < 2 → isN Q s n → Q 2297 (64 * s + n) ≤ 600 := fun n q hn => by
        obtain ⟨j, j0, j1, hj⟩ := mem_lg ((g4.1.1.1 n).mpr hn)
        have hN := g4.1.2.2.2.1 j j0 j1
        rw [hj] at hN
        have hl := hN.2.2.2.2.2.2.2.1
        by_cases qm : 0 ≤ qMode Q s n
        · rw [show qLen Q s n = Q 2297 (64 * s + n) from if_pos ⟨q, qm⟩] at hl
          exact hl.2.2
        · have hlt := isN_lt q hn
          have e1 : qMode Q s n = Q 2293 (64 * s + n) := if_pos q
          rw [hpk.1.2.2.1 (64 * s + n) (by omega) (by omega) (by omega)]
          decide
      exact hgo σ W3 R2 o2 t2 x8 k tg hP hB3 (g4.fbb hF3 (by omega) hro hG2) (g5.fbb hF3 hr0) (g7.fb2 hF3 n1 n2) (FVX_tr hFV (FVX_tr g6 (FVX_of (FV_fb hF3 (by omega) (by omega)))))
    by_cases hbig : P 2313 (2 * s + c) < z
    · have e14 : e = 14 := by
        rw [← he]
        exact (if_neg hgd).trans (if_pos hbig)
      have eQ : Q = P := by
        rw [← hQ]
        exact (if_neg hgd).trans (if_pos hbig)
      have hgo2 := hend σ none (by
        rw [eQ]
        exact ⟨rfl, W1, R, ord, t, _, hP, hB1, fun c => by omega, hX1, hK1, FVX_of FV_rfl, hIO1⟩)
      rw [e14] at hgo2
      have hsz0 := x_size (fb := fb) (d := d + 6) hP hBm hz
      have hso := x_sizeOf (fb := fb) (d := d + 6) (z := P 2313 (2 * s + c)) hP hS hc (by rcases hc with rfl | rfl; (rw [Int.add_zero]; exact hX1.2.2.1.1); exact hX1.2.2.1.2.1)
      obtain ⟨mz, hmz⟩ : ∃ q, P 2313 (2 * s + c) = q := ⟨_, rfl⟩
      rw [hmz] at hso hbig
      refine x_ic T_26_92 ?_
      refine x_si (ls1 := [some (vR (some S)), some (vI c), some (vR (some mb)), some (vR (some rp)), some (vI k), some (vL tg), none, some (vI 14), none]) T_26_94 rfl ?_
      refine x_lr (z := some mb) T_26_96 rfl ?_
      refine x_cv1 T_26_97 mN_28 mL_28 (Nat.le_of_ble_eq_true rfl) mO_28 (hP.o hbm) (Nat.le_of_ble_eq_true rfl) (hsz0) ?_
      rintro _ σ ⟨rfl, rfl⟩
      refine cI ?_
      refine x_lr (z := some S) T_26_100 rfl ?_
      refine x_li (z := c) T_26_101 rfl ?_
      refine x_cv2 T_26_102 mN_34 mL_34 (Nat.le_of_ble_eq_true rfl) mO_34 (hP.o hO) (Nat.le_of_ble_eq_true rfl) (hso) ?_
      rintro _ σ ⟨rfl, rfl⟩
      refine cI ?_
      refine x_ic2 T_26_105 (fun _ => ?_) (fun h => absurd (show mz < z by omega) h)
      exact hgo2
    · refine srv_92 hP hS hX1 hK1 hG hD hT hIO1 (fun q p p0 p1 hp => (hst q p p0 p1 hp).fr (fun x k hk _ _ => hF1.o (by omega) (by omega)) (fun _ _ _ => rfl) ⟨p0, p1⟩ rfl) hr hrp hcn1 hc hBm hz hz7 hmo hB1 hro hmr (by rw [List.length_append, List.length_append, leb_len, leb_len, leb_len]) n1 n2 m2 (by omega) ?_ ?_ hL hend
      · rw [← he, ← hk1]
        exact ((if_neg hgd).trans (if_neg hbig)).symm
      · rw [← hQ, ← hk1]
        exact ((if_neg hgd).trans (if_neg hbig)).symm
  clear hX hK hG hD hIO hst
  refine x_lr (z := some mb) T_26_64 rfl ?_
  refine x_ic T_26_65 ?_
  refine x_cv2 T_26_66 mN_33 mL_33 (Nat.le_of_ble_eq_true rfl) mO_33 (hP.o hbm) (Nat.le_of_ble_eq_true rfl) (hat) ?_
  rintro _ σ ⟨rfl, rfl⟩
  refine cI ?_
  refine x_si (ls1 := [some (vR (some S)), some (vI c), some (vR (some mb)), some (vR (some rp)), some (vI k), none, none, none, none]) T_26_69 rfl ?_
  refine x_lr (z := some mb) T_26_71 rfl ?_
  refine x_ic T_26_72 ?_
  refine x_ic T_26_73 ?_
  refine x_cv3 T_26_74 mN_29 mL_29 (Nat.le_of_ble_eq_true rfl) mO_29 (hP.o hbm) (Nat.le_of_ble_eq_true rfl) (hnum) ?_
  rintro _ σ ⟨rfl, rfl⟩
  refine cL ?_
  refine x_sl (ls1 := [some (vR (some S)), some (vI c), some (vR (some mb)), some (vR (some rp)), some (vI k), some (vL tg), none, none, none]) T_26_77 rfl ?_
  refine x_lr (z := some S) T_26_79 rfl ?_
  refine x_gR (z := some rp) T_26_80 F_7_10 (hP.o hO) (Eq.trans (hP.rm hO rfl (key := 2234) rfl) hrp) ?_
  refine x_li (z := k) T_26_83 rfl ?_
  refine x_ic T_26_85 ?_
  refine x_ib (w := (k + 1)) T_26_86 (fun h => absurd h.1 (by decide)) (w32_id (by omega) (by omega)) ?_
  refine x_ll (z := tg) T_26_87 rfl ?_
  refine x_cv3 T_26_89 mN_21 mL_21 (Nat.le_of_ble_eq_true rfl) mO_21 (hP.o hbr) (Nat.le_of_ble_eq_true rfl) (hst2) ?_
  clear hP hst2
  rintro _ σ ⟨rfl, W2, hP, hB2, hF2⟩
  refine cV ?_
  exact hrest σ W2 hP hB2 hF2
end XSRVE
