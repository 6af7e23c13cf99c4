/-! The class's kernel: a group is copied: a point's members. -/
theorem T_188_53 : hTab 188 53 = some ((3, 7, 0, []), 55) := rfl
theorem T_188_55 : hTab 188 55 = some ((3, 5, 2, []), 57) := rfl
theorem T_188_57 : hTab 188 57 = some ((24, 4, Int.ofNat 3, []), 60) := rfl
theorem T_188_60 : hTab 188 60 = some ((19, 3, Int.ofNat 142, []), 63) := rfl
theorem T_188_63 : hTab 188 63 = some ((3, 3, 0, []), 64) := rfl
theorem T_188_64 : hTab 188 64 = some ((18, 1, Int.ofNat 142, []), 67) := rfl
theorem T_188_67 : hTab 188 67 = some ((3, 5, 2, []), 69) := rfl
theorem T_188_69 : hTab 188 69 = some ((3, 7, 0, []), 71) := rfl
theorem T_188_71 : hTab 188 71 = some ((31, 130, 0, []), 74) := rfl
theorem T_188_74 : hTab 188 74 = some ((4, 8, 2, []), 76) := rfl
theorem T_188_76 : hTab 188 76 = some ((3, 8, 2, []), 78) := rfl
theorem T_188_78 : hTab 188 78 = some ((20, 0, Int.ofNat 136, []), 81) := rfl
theorem T_188_81 : hTab 188 81 = some ((3, 0, 2, []), 82) := rfl
theorem T_188_82 : hTab 188 82 = some ((3, 8, 2, []), 84) := rfl
theorem T_188_84 : hTab 188 84 = some ((24, 5, Int.ofNat 0, []), 87) := rfl
theorem T_188_87 : hTab 188 87 = some ((31, 122, 0, []), 90) := rfl
theorem T_188_90 : hTab 188 90 = some ((0, 0, 0, []), 91) := rfl
theorem T_188_91 : hTab 188 91 = some ((3, 0, 2, []), 92) := rfl
theorem T_188_92 : hTab 188 92 = some ((3, 8, 2, []), 94) := rfl
theorem T_188_94 : hTab 188 94 = some ((24, 5, Int.ofNat 0, []), 97) := rfl
theorem T_188_97 : hTab 188 97 = some ((3, 8, 2, []), 99) := rfl
theorem T_188_99 : hTab 188 99 = some ((24, 5, Int.ofNat 1, []), 102) := rfl
theorem T_188_102 : hTab 188 102 = some ((0, 0, (-1), []), 103) := rfl
theorem T_188_103 : hTab 188 103 = some ((31, 123, 0, []), 106) := rfl
theorem T_188_106 : hTab 188 106 = some ((3, 0, 2, []), 107) := rfl
theorem T_188_107 : hTab 188 107 = some ((24, 1, Int.ofNat 2, []), 110) := rfl
theorem T_188_110 : hTab 188 110 = some ((31, 26, 0, []), 113) := rfl
theorem T_188_113 : hTab 188 113 = some ((4, 3, 0, []), 114) := rfl
theorem T_188_114 : hTab 188 114 = some ((3, 3, 0, []), 115) := rfl
theorem T_188_115 : hTab 188 115 = some ((18, 1, Int.ofNat 136, []), 118) := rfl
theorem T_188_118 : hTab 188 118 = some ((3, 6, 2, []), 120) := rfl
theorem T_188_120 : hTab 188 120 = some ((3, 7, 0, []), 122) := rfl
theorem T_188_122 : hTab 188 122 = some ((3, 8, 2, []), 124) := rfl
theorem T_188_124 : hTab 188 124 = some ((3, 0, 2, []), 125) := rfl
theorem T_188_125 : hTab 188 125 = some ((24, 1, Int.ofNat 5, []), 128) := rfl
theorem T_188_128 : hTab 188 128 = some ((3, 8, 2, []), 130) := rfl
theorem T_188_130 : hTab 188 130 = some ((24, 5, Int.ofNat 5, []), 133) := rfl
theorem T_188_133 : hTab 188 133 = some ((31, 179, 0, []), 136) := rfl
theorem T_188_136 : hTab 188 136 = some ((5, 7, 1, []), 139) := rfl
theorem T_188_139 : hTab 188 139 = some ((22, 0, Int.ofNat 53, []), 142) := rfl
theorem mN_188 : hmN 188 = 3 := by decide +kernel
theorem mL_188 : hmL 188 = 9 := by decide +kernel
theorem mK_188 : hmK 188 = 1 := by decide +kernel
theorem mO_188 : hmO 188 = 1 := by decide +kernel
/-- all stays but n objects from one on, and what messages change -/
def FCY (a n : Nat) (W W2 : qR) (R R2 : rR) : Prop := (∀ (x : Nat) (k : Int), 229 ≤ x → (x < 1293 ∨ 2175 ≤ x) → x < 2372 → k ≠ 2198 → ¬ (a ≤ x ∧ x < a + n) → W2 x k = W x k) ∧ ∀ (x : Nat) (k : Int), (x < 1293 ∨ 2175 ≤ x) → ¬ (a ≤ x ∧ x < a + n) → R2 x k = R x k
section XFK1
variable {fb : Bool} {d b c n a0 a1 y y5 y6 i6 ga ga2 m2 : Nat} {σ0 σ : hM} {W W1 W2 V P P0 Q : qR} {R R1 R2 V3 : rR} {i j k x z v s e w f g u p pt pa dr sv K T U t N C fr mk n6 to : Int} {l l0 lo nm M wd : List Int} {c1 c2 ch : Ch} {h h0 : List Ch} {x8 : Option AV} {T0 : Int}
theorem FCY_rfl : FCY a0 n W W R R := ⟨fun _ _ _ _ _ _ _ => rfl, fun _ _ _ _ => rfl⟩
theorem FCY_tr (h1 : FCY a0 n W W1 R R1) (h2 : FCY a0 n W1 W2 R1 R2) : FCY a0 n W W2 R R2 := ⟨fun x k a b c e f => (h2.1 x k a b c e f).trans (h1.1 x k a b c e f), fun x k a b => (h2.2 x k a b).trans (h1.2 x k a b)⟩
theorem FCY_in (h : FCY a0 n W W2 R R2) (h1 : a1 ≤ a0) (h2 : a0 + n ≤ a1 + m2) : FCY a1 m2 W W2 R R2 := ⟨fun x k a b c e f => h.1 x k a b c e (by omega), fun x k a b => h.2 x k a (by omega)⟩
theorem FCY_fa (h : FA W W2 R R2) : FCY a0 n W W2 R R2 := ⟨fun x k a b c e _ => (FCL_fa (y0 := 0) h).1 x k a b c e (by omega), fun x k a _ => h.2 x k a⟩
theorem FCY_ptf (h : PTF y W W2 R R2) : FCY y 8 W W2 R R2 := ⟨fun x k _ _ _ _ f => h.1 x k f, fun x k _ f => h.2.2.2.1 x k (by omega)⟩
theorem FCY_fcm (h : FCY a0 n W W2 R R2) (h1 : a0 + n ≤ 2187) : FCM W W2 R R2 := ⟨fun x k a b c => h.1 x k (by omega) (Or.inr (by omega)) b c (by omega), fun x k a => h.2 x k (Or.inr (by omega)) (by omega)⟩
/-- .. a point's object: only its members and how many they are -/
def FCZ (y : Nat) (W W2 : qR) (R R2 : rR) : Prop := FCY y 8 W W2 R R2 ∧ ∀ k : Int, k ≠ 2131 → k ≠ 2198 → W2 y k = W y k
theorem FCZ_rfl : FCZ y W W R R := ⟨FCY_rfl, fun _ _ _ => rfl⟩
theorem FCZ_tr (h1 : FCZ y W W1 R R1) (h2 : FCZ y W1 W2 R1 R2) : FCZ y W W2 R R2 := ⟨FCY_tr h1.1 h2.1, fun k a b => (h2.2 k a b).trans (h1.2 k a b)⟩
theorem FCZ_fa (h : FA W W2 R R2) (hy : 229 ≤ y ∧ y < 1293) : FCZ y W W2 R R2 := ⟨FCY_fa h, fun k _ b => h.ns.1 _ _ hy.1 hy.2 b⟩
theorem FCZ_ptf (h : PTF y W W2 R R2) : FCZ y W W2 R R2 := ⟨FCY_ptf h, fun k a _ => h.2.1 k a⟩
/-- a message, or none, in the middle of a change -/
theorem x_askNX (hP : PX σ0 W R σ) (hX : XM K T U W R P) (hT : T + 110 ≤ 2147483000) (hs : 0 ≤ s ∧ s < 3) (hB : BY W 138 300 (mFr M)) (hM1 : 3 ≤ M.length ∧ M.length ≤ 296) (hM2 : lg M 0 ≠ 100) (hg : ¬ g < 0 → (lg M 0 = 104 → nu (msgA M) 7 4 ≤ 47) ∧ (lg M 0 = 110 → nu (msgA M) 11 4 ≤ 47)) : CL fb (d + 7) 26 [vR (some (1293 + 294 * s.toNat)), vI 0, vR (if g < 0 then none else some 138), vR (some 134)] σ (fun r σ' => r = some (vI (if g < 0 then 12 else tE P s M)) ∧ ∃ W2 R2, PX σ0 W2 R2 σ' ∧ XM K (T + 4) U W2 R2 (if g < 0 then P else tP P s M) ∧ FVS 134 W W2 R R2) := by
  by_cases q : g < 0
  · rw [if_pos q]
    have hO : tX (1293 + 294 * s.toNat) = some (Sum.inl 7) := VS.o (S := 1293 + 294 * s.toNat) (s := s) ⟨hs, rfl⟩
    refine (x_serve_null (fb := fb) (d := d + 7) (c := 0) (rp := 134) (x := none) hP hO).mono ?_
    rintro r σ' ⟨rfl, rfl⟩
    exact ⟨by rw [if_pos q], W, R, hP, by rw [if_pos q]; exact hX.mono (by omega), FVS_rfl⟩
  · rw [if_neg q]
    refine (x_askX (fb := fb) (d := d) hP hX hT hs hB hM1 hM2 (hg q).1 (hg q).2).mono ?_
    rintro r σ' ⟨rfl, W2, R2, g1, g2, g3, g4⟩
    exact ⟨by rw [if_neg q], W2, R2, g1, by rw [if_neg q]; exact g2, g4⟩
theorem pr_gr (hy1 : grO to ≤ y) (hy2 : y < grO to + 66) : y < 295 + 125 * p.toNat ∨ 295 + 125 * p.toNat + 59 ≤ y := by
  unfold grO at hy1 hy2
  rcases Nat.lt_or_ge p.toNat to.toNat with q | q
  · exact Or.inr (by omega)
  · exact Or.inl (by omega)
/-- a point's members are written -/
theorem XM.ptf (h : XM K T U W R P) (hto : 0 ≤ to ∧ to < 8) (hi : i6 < 8) (hy : y = grO to + 2 + 8 * i6) (hF : PTF y W W2 R R2) : XM K T U W2 R2 P := by
  have hY : PYO y := by rw [hy]; exact PYO_of hto hi
  have hrg := grO_rng hto
  have egg : grO to = 229 + 125 * to.toNat := rfl
  obtain ⟨f1, f2, f3, f4, f5⟩ := hF
  have hne : ∀ x, tX x = some (Sum.inl 3) → ¬ (y ≤ x ∧ x < y + 8) := fun x hx c => by
    by_cases q1 : x = y
    · rw [q1, hY.1] at hx; cases hx
    · by_cases q2 : x = y + 1
      · rw [q2, hY.2.1.1] at hx; cases hx
      · have := hY.2.2.2 (x - (y + 2)) (by omega)
        rw [show y + 2 + (x - (y + 2)) = x by omega, hx] at this
        cases this
  refine h.rowG RF_rfl h.2.2.1 (fun x k hx => ?_) (fun x k hx => ?_) (fun p p0 p1 hl => ?_)
  · rcases hx with hx | hx | hx
    · exact f1 x k (by omega)
    · exact f1 x k (by omega)
    · rw [hx]; exact f3 x
  · rcases hx with hx | hx | hx
    · exact f4 x k (by omega)
    · exact f4 x k (by omega)
    · rw [hx]; exact f5 x
  · obtain ⟨b1, b2, ⟨b3, b4⟩, ⟨ga, c1, c2, c3, c4⟩, b5⟩ := h.2.2.2.2.1 p p0 p1 hl
    have w1 := pr_gr (y := y) (to := to) (p := p) (by omega) (by omega)
    have w2 := pr_gr (y := y + 7) (to := to) (p := p) (by omega) (by omega)
    have w3 : ¬ (y ≤ 295 + 125 * p.toNat ∧ 295 + 125 * p.toNat < y + 8) := by
      rcases Nat.lt_or_ge p.toNat to.toNat with q | q <;> omega
    have w4 : ¬ (y + 1 ≤ 295 + 125 * p.toNat ∧ 295 + 125 * p.toNat < y + 8) := by omega
    have w5 : ¬ (y + 1 ≤ 295 + 125 * p.toNat + 6 ∧ 295 + 125 * p.toNat + 6 < y + 8) := by
      rcases Nat.lt_or_ge p.toNat to.toNat with q | q <;> omega
    refine ⟨b1, b2, ⟨(f1 _ _ w3).trans b3, b4⟩, ⟨ga, (f4 _ _ w4).trans c1, c2, (f1 _ _ (hne ga c2)).trans c3, c4⟩, fun k k0 k1 => ?_⟩
    rw [f4 _ _ w5]
    exact b5 k k0 k1
theorem PTL.fcy {ns : List Nw} (h : PTL W R y ns) (hn : ns.length ≤ 6) (hY : PYO y) (hF : FCY a0 n W W2 R R2) (hd : y + 8 ≤ a0 ∨ a0 + n ≤ y) : PTL W2 R2 y ns := by
  obtain ⟨p1, p2, p3⟩ := h
  obtain ⟨h1, h2, h3, h4⟩ := hY
  refine ⟨(hF.1 _ _ (by omega) (Or.inl (by omega)) (by omega) (by decide) (by omega)).trans p1, p2.eqv (fun k _ _ => hF.2 _ _ (Or.inl (by omega)) (by omega)), fun j j0 j1 => ?_⟩
  obtain ⟨c, c1, m1⟩ := p3 j j0 j1
  obtain ⟨t, ht, hc⟩ := p2.1 j j0 (by omega)
  rw [Nat.one_mul] at hc
  have ec : c = y + 2 + t := Option.some.inj (c1.symm.trans hc)
  exact ⟨c, (hF.2 _ _ (Or.inl (by omega)) (by omega)).trans c1, m1.eqv (fun k hk => hF.1 _ _ (by omega) (Or.inl (by omega)) (by omega) hk (by omega))⟩
theorem cg_in (hI0 : IV false T0 U P0) (hto : 0 ≤ to ∧ to < 8) (hi6 : i6 < 8) (hy6 : y6 = grO to + 2 + 8 * i6) (hfr : 0 ≤ fr ∧ fr < 64) (hn : n6 ≤ 6) (hga : tX ga = some (Sum.inl 3)) (hga2 : tX ga2 = some (Sum.inl 3)) (hyd : (229 ≤ y5 ∧ y5 + 8 ≤ 1293) ∧ (y5 + 8 ≤ grO to ∨ grO to + 66 ≤ y5)) {Qf : Option AV → hM → Prop} : ∀ (m : Nat) (j T : Int) (σ : hM) (V : qR) (V3 : rR) (Q : qR) (h : List Ch) (x8 : Option AV), j + m = n6 → 0 ≤ j → Q 2337 fr = n6 → KF Q P0 → T + 4 * m + 150 ≤ 2147483000 → PX σ0 V V3 σ → XM K T U V V3 Q → PTM V V3 y5 Q fr → (∀ (j : Int) (cc : Nat), 0 ≤ j → j < 6 → V3 (y5 + 1) j = some cc → y5 ≤ cc ∧ cc < y5 + 8) → PTL V V3 y6 (nwL P0 fr 0 h 0) → (h.length : Int) = j → (∀ c ∈ h, chR c) → (∀ (σ : hM) (V2 : qR) (V4 : rR) (h2 : List Ch) (j2 : Int) (x8 : Option AV), PX σ0 V2 V4 σ → XM K (T + 4 * m) U V2 V4 (kCps fr m j Q (h0 ++ h)).2.1 → (kCps fr m j Q (h0 ++ h)).2.2 = h0 ++ h2 → PTL V2 V4 y6 (nwL P0 fr 0 h2 0) → (∀ c ∈ h2, chR c) → h2.length ≤ 6 → FCZ y6 V V2 V3 V4 → WP fb (d + 9) 188 142 [some (vR (some 129)), some (vR (some ga)), some (vR (some ga2)), some (vI (kCps fr m j Q (h0 ++ h)).1), some (vI k), some (vR (some y5)), some (vR (some y6)), some (vI j2), x8] [] σ Qf) → WP fb (d + 9) 188 53 [some (vR (some 129)), some (vR (some ga)), some (vR (some ga2)), some (vI 0), some (vI k), some (vR (some y5)), some (vR (some y6)), some (vI j), x8] [] σ Qf := by
  have hY6 : PYO y6 := by rw [hy6]; exact PYO_of hto hi6
  have hyo6 := hY6.1
  have hyr6 := hY6.2.2.1
  obtain ⟨⟨hd1, hd2⟩, hd3⟩ := hyd
  have hd4 : y5 + 8 ≤ y6 ∨ y6 + 8 ≤ y5 := by omega
  intro m
  induction m with
  | zero =>
    intro j T σ V V3 Q h x8 g1 g2 g3 g4 g5 hP hX hPM hcr hL hh hr hc
    have g1 : j + ((0 : Nat) : Int) = n6 := g1
    have hj : j = n6 := by omega
    subst hj
    have hyc := hPM.2.2.2.1.trans g3
    have hyo := hPM.1
    have hgo : WP fb (d + 9) 188 142 [some (vR (some 129)), some (vR (some ga)), some (vR (some ga2)), some (vI 0), some (vI k), some (vR (some y5)), some (vR (some y6)), some (vI j), x8] [] σ Qf := hc σ V V3 h j x8 hP (hX.mono (by omega)) rfl hL hr (by omega) FCZ_rfl
    refine x_li (z := j) T_188_53 rfl ?_
    refine x_lr (z := some y5) T_188_55 rfl ?_
    refine x_gI (z := j) T_188_57 (Or.inl F_4_3) (hP.o hyo) (Eq.trans (hP.gi hyo (key := 2131) rfl) hyc) ?_
    refine x_ic2 T_188_60 (fun _ => ?_) (fun h => absurd (show j ≤ j by omega) h)
    exact hgo
  | succ m ih =>
    intro j T σ V V3 Q h x8 g1 g2 g3 g4 g5 hP hX hPM hcr hL hh hr hc
    have hyc := hPM.2.2.2.1.trans g3
    have hyo := hPM.1
    have hya := hPM.2.1
    have hyr := hPM.2.2.1
    have hI := hX.2.2.1.iv
    have hPM0 := hPM
    obtain ⟨cc, k1, k2, k3, m1, m2, m3, m4, m5⟩ := hPM.2.2.2.2 j g2 (by omega)
    have hccr := hcr j cc g2 (by omega) k1
    have hmo := x_memberOf (fb := fb) (d := d + 8) (k := j) hP hyo hya (by omega) hyc ⟨by omega, hn⟩ (fun _ _ => k1)
    rw [if_pos ⟨g2, by omega⟩] at hmo
    have hb1 : 0 ≤ Q 2338 (6 * fr + j) ∧ Q 2338 (6 * fr + j) ≤ 2 := IV.a hI 2338 0 384 rfl rfl rfl (by omega) (by omega)
    have hb2 : 0 ≤ Q 2339 (6 * fr + j) ∧ Q 2339 (6 * fr + j) ≤ 47 := IV.a hI 2339 0 384 rfl rfl rfl (by omega) (by omega)
    have hb5 : 0 ≤ P0 2342 (6 * fr + j) ∧ P0 2342 (6 * fr + j) ≤ 1 := IV.a hI0 2342 2 384 rfl rfl rfl (by omega) (by omega)
    have eK : kCps fr (m + 1) j Q (h0 ++ h) = if 0 < kCpE Q (Q 2338 (6 * fr + j)) (Q 2339 (6 * fr + j)) then (kCpE Q (Q 2338 (6 * fr + j)) (Q 2339 (6 * fr + j)), kCpP Q (Q 2338 (6 * fr + j)) (Q 2339 (6 * fr + j)), h0 ++ h) else kCps fr m (j + 1) (kCpP Q (Q 2338 (6 * fr + j)) (Q 2339 (6 * fr + j))) ((h0 ++ h) ++ [(Q 2338 (6 * fr + j), qNewF Q (Q 2338 (6 * fr + j)), Q 2340 (6 * fr + j), Q 2341 (6 * fr + j), -1)]) := rfl
    have emm : Q 2342 (6 * fr + j) = P0 2342 (6 * fr + j) := nsR_kf g4 2342 _ rfl
    rw [emm] at m5
    obtain ⟨s, hsv⟩ : ∃ q, Q 2338 (6 * fr + j) = q := ⟨_, rfl⟩
    obtain ⟨f, hfd⟩ : ∃ q, Q 2339 (6 * fr + j) = q := ⟨_, rfl⟩
    obtain ⟨pa, hpa⟩ : ∃ q, Q 2340 (6 * fr + j) = q := ⟨_, rfl⟩
    obtain ⟨kd, hkd⟩ : ∃ q, Q 2341 (6 * fr + j) = q := ⟨_, rfl⟩
    obtain ⟨mm, hmm⟩ : ∃ q, P0 2342 (6 * fr + j) = q := ⟨_, rfl⟩
    rw [hsv] at m1 hb1
    rw [hfd] at m2 hb2
    rw [hpa] at m3
    rw [hkd] at m4
    rw [hmm] at m5 hb5
    rw [hsv, hfd, hpa, hkd] at eK
    have hs : 0 ≤ s ∧ s < 3 := ⟨hb1.1, by omega⟩
    have hf : 0 ≤ f ∧ f ≤ 47 := hb2
    obtain ⟨ord, tt, hXs⟩ := hX.1.1 s hs.1 hs.2
    have hho := x_host (fb := fb) (d := d + 8) (s := s) hP hs
    have hwk := x_walking0 (fb := fb) (d := d + 5) hP ⟨hs, rfl⟩ hXs hI hf
    obtain ⟨g, hg⟩ : ∃ q, qNewF Q s = q := ⟨_, rfl⟩
    have hgr2 : g = -1 ∨ (0 ≤ g ∧ g ≤ 47) := by rw [← hg]; exact qNewF_rng
    have eE : kCpE Q s f = if g < 0 then 12 else tE Q s (mCopy f g) := by unfold kCpE; rw [hg]
    have eP : kCpP Q s f = if g < 0 then Q else tP Q s (mCopy f g) := by unfold kCpP; rw [hg]
    rw [hg] at hwk eK
    have hak := fun (σ : hM) (W2 : qR) (hP : PX σ0 W2 V3 σ) (hF : FR1 V W2) (hB : BY W2 138 300 (mFr (mCopy f g))) => x_askNX (fb := fb) (d := d + 1) (g := g) hP (hX.fr1 hF) (by omega) hs hB (by rw [mCopy_len]; decide) (by rw [mCopy_0]; decide) (fun q => ⟨fun c => by rw [mCopy_0] at c; exact absurd c (by decide), fun _ => by rw [mCopy_g ⟨by omega, by omega⟩]; omega⟩)
    rw [← eE, ← eP] at hak
    have hE0 : kCpE Q s f = 0 → ¬ g < 0 := fun q c => by rw [eE, if_pos c] at q; omega
    have hEr := (kCpE_rng (P := Q) (s := s) (f := f)).1
    have hkf : KF (kCpP Q s f) Q := KF_cp
    obtain ⟨e, he⟩ : ∃ q, kCpE Q s f = q := ⟨_, rfl⟩
    obtain ⟨Q2, hQ2⟩ : ∃ q, kCpP Q s f = q := ⟨_, rfl⟩
    rw [he] at hak hE0 hEr eK
    rw [hQ2] at hak hkf eK
    have hO := srv_o hs
    obtain ⟨sv, hsw⟩ : ∃ q, 1293 + 294 * s.toNat = q := ⟨_, rfl⟩
    rw [hsw] at hho hO
    simp only [hsw] at hak
    have hgp : ∀ V5 : qR, FR1 V V5 → V5 129 2037 = g → ∀ (V2 : qR) (V4 : rR), FVS 134 V5 V2 V3 V4 → V2 129 2037 = g := fun V5 _ hg V2 V4 h => (h.1 _ _ (by decide) (Or.inl (by decide)) (by decide) (by decide) (by decide) (fun c => by unfold ioP at c; omega) (by decide) (by decide)).trans hg
    have hkp : ∀ (V5 : qR) (V6 : rR), FA V V5 V3 V6 → V5 cc 2160 = s ∧ V5 cc 2162 = pa ∧ V5 cc 2163 = (if kd = 128 then 1 else 0) ∧ V5 cc 2165 = mm ∧ V5 y5 2131 = n6 := fun V5 V6 h => ⟨(h.ns.1 _ _ k3.1 k3.2 (by decide)).trans m1, (h.ns.1 _ _ k3.1 k3.2 (by decide)).trans m3, (h.ns.1 _ _ k3.1 k3.2 (by decide)).trans m4, (h.ns.1 _ _ k3.1 k3.2 (by decide)).trans m5, (h.ns.1 _ _ hyr.1 (by omega) (by decide)).trans hyc⟩
    have hLf : ∀ (V5 : qR) (V6 : rR), FA V V5 V3 V6 → PTL V5 V6 y6 (nwL P0 fr 0 h 0) := fun V5 V6 hA => hL.fcy (a0 := 0) (n := 0) (by rw [nwL_len]; omega) hY6 (FCY_fa hA) (Or.inr (by omega))
    have hln : (nwL P0 fr 0 h 0).length = h.length := nwL_len _ _
    by_cases q : e = 0
    · subst q
      rw [if_neg (show ¬ (0 : Int) < 0 by decide), List.append_assoc] at eK
      rw [eK] at hc
      have hg0 := hE0 rfl
      have hcr2 : chR (s, g, pa, kd, -1) := ⟨hs, ⟨by show 0 ≤ g; omega, by show g ≤ 47; omega⟩, by show (-1 : Int) < 64; decide⟩
      have hz : (if (0 : Int) = 1 ∨ ¬ P0 2342 (6 * fr + (0 + (h.length : Int))) = 0 then (1 : Int) else 0) = mm := by
        rw [Int.zero_add, hh, hmm]
        by_cases q : mm = 0
        · rw [q, if_neg (fun c => by rcases c with c | c; exact absurd c (by decide); exact c rfl)]
        · rw [if_pos (Or.inr q)]
          omega
      have eN : nwL P0 fr 0 (h ++ [(s, g, pa, kd, -1)]) 0 = nwL P0 fr 0 h 0 ++ [(s, g, pa, kd, mm)] := by
        rw [nwL_snoc, hz]
        rfl
      have hin := fun (σ : hM) (V5 : qR) (V6 : rR) (hP : PX σ0 V5 V6 σ) (hA : FA V V5 V3 V6) => x_insertP (fb := fb) (d := d + 7) (a := cc) (x := (s, g, pa, kd, mm)) (f := g) (mk := mm) (j := j) hP hY6 (hLf V5 V6 hA) (by omega) ⟨g2, by omega⟩ k2 (by omega) (hkp V5 V6 hA).1 rfl (hkp V5 V6 hA).2.1 (hkp V5 V6 hA).2.2.1 rfl (by omega)
      have eI : insL (nwL P0 fr 0 h 0) j (s, g, pa, kd, mm) = nwL P0 fr 0 (h ++ [(s, g, pa, kd, -1)]) 0 := by
        have := insL_app (A := nwL P0 fr 0 h 0) (B := []) (x := (s, g, pa, kd, mm)) (j := j) (by rw [hln]; exact hh.symm)
        rw [List.append_nil] at this
        rw [this, eN]
      rw [eI] at hin
      have hgo := fun (σ : hM) (V5 : qR) (V6 : rR) (V7 : qR) (V8 : rR) (x8 : Option AV) (hX5 : XM K (T + 4) U V5 V6 Q2) (hA : FA V V5 V3 V6) (hP : PX σ0 V7 V8 σ) (hL7 : PTL V7 V8 y6 (nwL P0 fr 0 (h ++ [(s, g, pa, kd, -1)]) 0)) (hF7 : PTF y6 V5 V7 V6 V8) => by
        have hF2 : FCZ y6 V V7 V3 V8 := FCZ_tr (FCZ_fa hA ⟨by omega, by omega⟩) (FCZ_ptf hF7)
        have egt := grO_rng hto
        have hw : ∀ (x : Nat) (k : Int), y5 ≤ x → x < y5 + 8 → k ≠ 2198 → V7 x k = V x k := fun x k a b c => hF2.1.1 x k (by omega) (Or.inl (by omega)) (by omega) c (by omega)
        have hr3 : ∀ (x : Nat) (k : Int), y5 ≤ x → x < y5 + 8 → V8 x k = V3 x k := fun x k a b => hF2.1.2 x k (Or.inl (by omega)) (by omega)
        have hPM7 : PTM V7 V8 y5 Q2 fr := by
          obtain ⟨u1, u2, u3, u4, u5⟩ := hPM0
          refine ⟨u1, u2, u3, (hw _ _ (Nat.le_refl _) (by omega) (by decide)).trans (u4.trans (nsR_kf hkf 2337 _ rfl).symm), fun j j0 j1 => ?_⟩
          rw [nsR_kf hkf 2337 _ rfl] at j1
          obtain ⟨c9, v1, v2, v3, v4⟩ := u5 j j0 j1
          have hc9 := hcr j c9 j0 (by omega) v1
          refine ⟨c9, (hr3 _ _ (by omega) (by omega)).trans v1, v2, v3, v4.at2 (fun k hk => hw _ _ hc9.1 hc9.2 hk) ⟨nsR_kf hkf _ _ rfl, nsR_kf hkf _ _ rfl, nsR_kf hkf _ _ rfl, nsR_kf hkf _ _ rfl, nsR_kf hkf _ _ rfl⟩⟩
        exact ih (j + 1) (T + 4) σ V7 V8 Q2 (h ++ [(s, g, pa, kd, -1)]) x8 (by omega) (by omega) ((nsR_kf hkf 2337 _ rfl).trans g3) (KF_tr hkf g4) (by omega) hP (hX5.ptf hto hi6 hy6 hF7) hPM7 (fun j cc j0 j1 hcc => hcr j cc j0 j1 (by rw [← hr3 _ _ (by omega) (by omega)]; exact hcc)) hL7 (by rw [List.length_append]; show ((h.length + 1 : Nat) : Int) = j + 1; omega) (fun c hc => by
          rcases List.mem_append.mp hc with q | q
          · exact hr c q
          · rw [List.mem_singleton.mp q]; exact hcr2) (fun σ V2 V4 h2 j2 x8 a1 a2 a3 a4 a5 a6 a7 => hc σ V2 V4 h2 j2 x8 a1 (a2.mono (by omega)) a3 a4 a5 a6 (FCZ_tr hF2 a7))
      refine x_li (z := j) T_188_53 rfl ?_
      refine x_lr (z := some y5) T_188_55 rfl ?_
      refine x_gI (z := n6) T_188_57 (Or.inl F_4_3) (hP.o hyo) (Eq.trans (hP.gi hyo (key := 2131) rfl) hyc) ?_
      refine x_ic2 T_188_60 (fun h => absurd (show n6 ≤ j from h) (by omega)) (fun _ => ?_)
      refine x_li (z := 0) T_188_63 rfl ?_
      refine x_if T_188_64 (fun h => absurd (show ¬ (0 : Int) = 0 from h) (by decide)) (fun _ => ?_)
      refine x_lr (z := some y5) T_188_67 rfl ?_
      refine x_li (z := j) T_188_69 rfl ?_
      refine x_cv2 T_188_71 mN_130 mL_130 (Nat.le_of_ble_eq_true rfl) mO_130 (hP.o hyo) (Nat.le_of_ble_eq_true rfl) (hmo) ?_
      rintro _ σ ⟨rfl, rfl⟩
      refine cR ?_
      refine x_sr (ls1 := [some (vR (some 129)), some (vR (some ga)), some (vR (some ga2)), some (vI 0), some (vI k), some (vR (some y5)), some (vR (some y6)), some (vI j), some (vR (some cc))]) T_188_74 rfl ?_
      refine x_lr (z := some cc) T_188_76 rfl ?_
      refine x_nul T_188_78 (fun h0 => absurd h0 (by simp)) (fun _ _ => ?_)
      refine x_lr (z := some 129) T_188_81 rfl ?_
      refine x_lr (z := some cc) T_188_82 rfl ?_
      refine x_gI (z := s) T_188_84 (Or.inl F_5_0) (hP.o k2) (Eq.trans (hP.gi k2 (key := 2160) rfl) m1) ?_
      refine x_cv2 T_188_87 mN_122 mL_122 (Nat.le_of_ble_eq_true rfl) mO_122 (hP.o xo_129) (Nat.le_of_ble_eq_true rfl) (hho) ?_
      rintro _ σ ⟨rfl, rfl⟩
      refine cR ?_
      refine x_ic T_188_90 ?_
      refine x_lr (z := some 129) T_188_91 rfl ?_
      refine x_lr (z := some cc) T_188_92 rfl ?_
      refine x_gI (z := s) T_188_94 (Or.inl F_5_0) (hP.o k2) (Eq.trans (hP.gi k2 (key := 2160) rfl) m1) ?_
      refine x_lr (z := some cc) T_188_97 rfl ?_
      refine x_gI (z := f) T_188_99 (Or.inl F_5_1) (hP.o k2) (Eq.trans (hP.gi k2 (key := 2161) rfl) m2) ?_
      refine x_ic T_188_102 ?_
      refine x_cv4 T_188_103 mN_123 mL_123 (Nat.le_of_ble_eq_true rfl) mO_123 (hP.o xo_129) (Nat.le_of_ble_eq_true rfl) (hwk) ?_
      clear hP hwk
      rintro _ σ ⟨rfl, W2, hP, hB2, hF2, hg2⟩
      refine cR ?_
      refine x_lr (z := some 129) T_188_106 rfl ?_
      refine x_gR (z := some 134) T_188_107 F_1_2 (hP.o xo_129) (hP.rc xo_129 rfl rfl) ?_
      refine x_cv4 T_188_110 mN_26 mL_26 (Nat.le_of_ble_eq_true rfl) mO_26 (hP.o hO) (Nat.le_of_ble_eq_true rfl) (hak σ W2 hP hF2 hB2) ?_
      clear hP hak
      rintro _ σ ⟨rfl, W3, R3, hP, hX3, hF3⟩
      have hg3 := hgp W2 hF2 hg2 W3 R3 hF3
      have hA3 := FA_tr (FA_fr hF2) (FA_fs hF3)
      obtain ⟨z1, z2, z3, z4, z5⟩ := hkp W3 R3 hA3
      have hin := hin σ W3 R3 hP hA3
      refine cI ?_
      refine x_si (ls1 := [some (vR (some 129)), some (vR (some ga)), some (vR (some ga2)), some (vI 0), some (vI k), some (vR (some y5)), some (vR (some y6)), some (vI j), some (vR (some cc))]) T_188_113 rfl ?_
      refine x_li (z := 0) T_188_114 rfl ?_
      refine x_if T_188_115 (fun h => absurd (show ¬ (0 : Int) = 0 from h) (by decide)) (fun _ => ?_)
      refine x_lr (z := some y6) T_188_118 rfl ?_
      refine x_li (z := j) T_188_120 rfl ?_
      refine x_lr (z := some cc) T_188_122 rfl ?_
      refine x_lr (z := some 129) T_188_124 rfl ?_
      refine x_gI (z := g) T_188_125 (Or.inl F_1_5) (hP.o xo_129) (Eq.trans (hP.gi xo_129 (key := 2037) rfl) hg3) ?_
      refine x_lr (z := some cc) T_188_128 rfl ?_
      refine x_gI (z := mm) T_188_130 (Or.inr (Or.inl F_5_5)) (hP.o k2) (Eq.trans (hP.gi k2 (key := 2165) rfl) z4) ?_
      refine x_cv5 T_188_133 mN_179 mL_179 (Nat.le_of_ble_eq_true rfl) mO_179 (hP.o hyo6) (Nat.le_of_ble_eq_true rfl) (hin) ?_
      clear hP hin
      rintro _ σ ⟨rfl, W7, R7, hP, hL7, hF7⟩
      refine cV ?_
      refine x_inc (w := (j + 1)) (ls1 := [some (vR (some 129)), some (vR (some ga)), some (vR (some ga2)), some (vI 0), some (vI k), some (vR (some y5)), some (vR (some y6)), some (vI (j + 1)), some (vR (some cc))]) T_188_136 rfl (w32_id (by omega) (by omega)) rfl ?_
      refine x_goto T_188_139 ?_
      exact hgo σ W3 R3 W7 R7 _ hX3 hA3 hP hL7 hF7
    · rw [if_pos (show 0 < e by omega)] at eK
      rw [eK] at hc
      have hgo := fun (σ : hM) (V5 : qR) (V6 : rR) (x8 : Option AV) (hP : PX σ0 V5 V6 σ) (hX5 : XM K (T + 4) U V5 V6 Q2) (hA : FA V V5 V3 V6) (hy : V5 y5 2131 = n6) => (show WP fb (d + 9) 188 53 [some (vR (some 129)), some (vR (some ga)), some (vR (some ga2)), some (vI e), some (vI k), some (vR (some y5)), some (vR (some y6)), some (vI (j + 1)), x8] [] σ Qf from by
        have h142 := hc σ V5 V6 h (j + 1) x8 hP (hX5.mono (by omega)) rfl (hLf V5 V6 hA) hr (by omega) (FCZ_fa hA ⟨by omega, by omega⟩)
        obtain ⟨j9, hj9⟩ : ∃ q, j + 1 = q := ⟨_, rfl⟩
        rw [hj9] at h142 ⊢
        by_cases q1 : n6 ≤ j9
        · skip
          refine x_li (z := j9) T_188_53 rfl ?_
          refine x_lr (z := some y5) T_188_55 rfl ?_
          refine x_gI (z := n6) T_188_57 (Or.inl F_4_3) (hP.o hyo) (Eq.trans (hP.gi hyo (key := 2131) rfl) hy) ?_
          refine x_ic2 T_188_60 (fun _ => ?_) (fun h => absurd (show n6 ≤ j9 by omega) h)
          exact h142
        · skip
          refine x_li (z := j9) T_188_53 rfl ?_
          refine x_lr (z := some y5) T_188_55 rfl ?_
          refine x_gI (z := n6) T_188_57 (Or.inl F_4_3) (hP.o hyo) (Eq.trans (hP.gi hyo (key := 2131) rfl) hy) ?_
          refine x_ic2 T_188_60 (fun h => absurd (show n6 ≤ j9 from h) (by omega)) (fun _ => ?_)
          refine x_li (z := e) T_188_63 rfl ?_
          refine x_if T_188_64 (fun _ => ?_) (fun h => absurd (show ¬ e = 0 by omega) h)
          exact h142
        )
      refine x_li (z := j) T_188_53 rfl ?_
      refine x_lr (z := some y5) T_188_55 rfl ?_
      refine x_gI (z := n6) T_188_57 (Or.inl F_4_3) (hP.o hyo) (Eq.trans (hP.gi hyo (key := 2131) rfl) hyc) ?_
      refine x_ic2 T_188_60 (fun h => absurd (show n6 ≤ j from h) (by omega)) (fun _ => ?_)
      refine x_li (z := 0) T_188_63 rfl ?_
      refine x_if T_188_64 (fun h => absurd (show ¬ (0 : Int) = 0 from h) (by decide)) (fun _ => ?_)
      refine x_lr (z := some y5) T_188_67 rfl ?_
      refine x_li (z := j) T_188_69 rfl ?_
      refine x_cv2 T_188_71 mN_130 mL_130 (Nat.le_of_ble_eq_true rfl) mO_130 (hP.o hyo) (Nat.le_of_ble_eq_true rfl) (hmo) ?_
      rintro _ σ ⟨rfl, rfl⟩
      refine cR ?_
      refine x_sr (ls1 := [some (vR (some 129)), some (vR (some ga)), some (vR (some ga2)), some (vI 0), some (vI k), some (vR (some y5)), some (vR (some y6)), some (vI j), some (vR (some cc))]) T_188_74 rfl ?_
      refine x_lr (z := some cc) T_188_76 rfl ?_
      refine x_nul T_188_78 (fun h0 => absurd h0 (by simp)) (fun _ _ => ?_)
      refine x_lr (z := some 129) T_188_81 rfl ?_
      refine x_lr (z := some cc) T_188_82 rfl ?_
      refine x_gI (z := s) T_188_84 (Or.inl F_5_0) (hP.o k2) (Eq.trans (hP.gi k2 (key := 2160) rfl) m1) ?_
      refine x_cv2 T_188_87 mN_122 mL_122 (Nat.le_of_ble_eq_true rfl) mO_122 (hP.o xo_129) (Nat.le_of_ble_eq_true rfl) (hho) ?_
      rintro _ σ ⟨rfl, rfl⟩
      refine cR ?_
      refine x_ic T_188_90 ?_
      refine x_lr (z := some 129) T_188_91 rfl ?_
      refine x_lr (z := some cc) T_188_92 rfl ?_
      refine x_gI (z := s) T_188_94 (Or.inl F_5_0) (hP.o k2) (Eq.trans (hP.gi k2 (key := 2160) rfl) m1) ?_
      refine x_lr (z := some cc) T_188_97 rfl ?_
      refine x_gI (z := f) T_188_99 (Or.inl F_5_1) (hP.o k2) (Eq.trans (hP.gi k2 (key := 2161) rfl) m2) ?_
      refine x_ic T_188_102 ?_
      refine x_cv4 T_188_103 mN_123 mL_123 (Nat.le_of_ble_eq_true rfl) mO_123 (hP.o xo_129) (Nat.le_of_ble_eq_true rfl) (hwk) ?_
      clear hP hwk
      rintro _ σ ⟨rfl, W2, hP, hB2, hF2, hg2⟩
      refine cR ?_
      refine x_lr (z := some 129) T_188_106 rfl ?_
      refine x_gR (z := some 134) T_188_107 F_1_2 (hP.o xo_129) (hP.rc xo_129 rfl rfl) ?_
      refine x_cv4 T_188_110 mN_26 mL_26 (Nat.le_of_ble_eq_true rfl) mO_26 (hP.o hO) (Nat.le_of_ble_eq_true rfl) (hak σ W2 hP hF2 hB2) ?_
      clear hP hak
      rintro _ σ ⟨rfl, W3, R3, hP, hX3, hF3⟩
      have hA3 := FA_tr (FA_fr hF2) (FA_fs hF3)
      obtain ⟨z1, z2, z3, z4, z5⟩ := hkp W3 R3 hA3
      refine cI ?_
      refine x_si (ls1 := [some (vR (some 129)), some (vR (some ga)), some (vR (some ga2)), some (vI e), some (vI k), some (vR (some y5)), some (vR (some y6)), some (vI j), some (vR (some cc))]) T_188_113 rfl ?_
      refine x_li (z := e) T_188_114 rfl ?_
      refine x_if T_188_115 (fun _ => ?_) (fun h => absurd (show ¬ e = 0 by omega) h)
      refine x_inc (w := (j + 1)) (ls1 := [some (vR (some 129)), some (vR (some ga)), some (vR (some ga2)), some (vI e), some (vI k), some (vR (some y5)), some (vR (some y6)), some (vI (j + 1)), some (vR (some cc))]) T_188_136 rfl (w32_id (by omega) (by omega)) rfl ?_
      refine x_goto T_188_139 ?_
      exact hgo σ W3 R3 _ hP hX3 hA3 z5
end XFK1
