/-! The class's servers: a version. -/
theorem T_40_0 : hTab 40 0 = some ((3, 0, 2, []), 1) := rfl
theorem T_40_1 : hTab 40 1 = some ((24, 7, Int.ofNat 9, []), 4) := rfl
theorem T_40_4 : hTab 40 4 = some ((0, 0, 7, []), 6) := rfl
theorem T_40_6 : hTab 40 6 = some ((0, 0, 4, []), 7) := rfl
theorem T_40_7 : hTab 40 7 = some ((31, 29, 0, []), 10) := rfl
theorem T_40_10 : hTab 40 10 = some ((4, 1, 1, []), 11) := rfl
theorem T_40_11 : hTab 40 11 = some ((3, 1, 1, []), 12) := rfl
theorem T_40_12 : hTab 40 12 = some ((1, 0, 64, []), 15) := rfl
theorem T_40_15 : hTab 40 15 = some ((17, 0, 0, []), 16) := rfl
theorem T_40_16 : hTab 40 16 = some ((18, 3, Int.ofNat 22, []), 19) := rfl
theorem T_40_19 : hTab 40 19 = some ((0, 0, 14, []), 21) := rfl
theorem T_40_21 : hTab 40 21 = some ((33, 1, 0, []), 22) := rfl
theorem T_40_22 : hTab 40 22 = some ((0, 0, 0, []), 23) := rfl
theorem T_40_23 : hTab 40 23 = some ((4, 3, 0, []), 24) := rfl
theorem T_40_24 : hTab 40 24 = some ((3, 3, 0, []), 25) := rfl
theorem T_40_25 : hTab 40 25 = some ((0, 0, 48, []), 27) := rfl
theorem T_40_27 : hTab 40 27 = some ((19, 3, Int.ofNat 79, []), 30) := rfl
theorem T_40_30 : hTab 40 30 = some ((3, 0, 2, []), 31) := rfl
theorem T_40_31 : hTab 40 31 = some ((31, 41, 0, []), 34) := rfl
theorem T_40_34 : hTab 40 34 = some ((4, 4, 2, []), 36) := rfl
theorem T_40_36 : hTab 40 36 = some ((3, 4, 2, []), 38) := rfl
theorem T_40_38 : hTab 40 38 = some ((20, 1, Int.ofNat 44, []), 41) := rfl
theorem T_40_41 : hTab 40 41 = some ((22, 0, Int.ofNat 79, []), 44) := rfl
theorem T_40_44 : hTab 40 44 = some ((3, 4, 2, []), 46) := rfl
theorem T_40_46 : hTab 40 46 = some ((0, 0, 0, []), 47) := rfl
theorem T_40_47 : hTab 40 47 = some ((25, 9, Int.ofNat 0, []), 50) := rfl
theorem T_40_50 : hTab 40 50 = some ((3, 4, 2, []), 52) := rfl
theorem T_40_52 : hTab 40 52 = some ((24, 9, Int.ofNat 6, []), 55) := rfl
theorem T_40_55 : hTab 40 55 = some ((18, 0, Int.ofNat 73, []), 58) := rfl
theorem T_40_58 : hTab 40 58 = some ((3, 0, 2, []), 59) := rfl
theorem T_40_59 : hTab 40 59 = some ((3, 4, 2, []), 61) := rfl
theorem T_40_61 : hTab 40 61 = some ((31, 42, 0, []), 64) := rfl
theorem T_40_64 : hTab 40 64 = some ((18, 1, Int.ofNat 73, []), 67) := rfl
theorem T_40_67 : hTab 40 67 = some ((3, 0, 2, []), 68) := rfl
theorem T_40_68 : hTab 40 68 = some ((3, 4, 2, []), 70) := rfl
theorem T_40_70 : hTab 40 70 = some ((31, 44, 0, []), 73) := rfl
theorem T_40_73 : hTab 40 73 = some ((5, 3, 1, []), 76) := rfl
theorem T_40_76 : hTab 40 76 = some ((22, 0, Int.ofNat 24, []), 79) := rfl
theorem T_40_79 : hTab 40 79 = some ((3, 1, 1, []), 80) := rfl
theorem T_40_80 : hTab 40 80 = some ((1, 0, 300, []), 83) := rfl
theorem T_40_83 : hTab 40 83 = some ((17, 0, 0, []), 84) := rfl
theorem T_40_84 : hTab 40 84 = some ((18, 5, Int.ofNat 93, []), 87) := rfl
theorem T_40_87 : hTab 40 87 = some ((0, 0, 300, []), 90) := rfl
theorem T_40_90 : hTab 40 90 = some ((22, 0, Int.ofNat 95, []), 93) := rfl
theorem T_40_93 : hTab 40 93 = some ((3, 1, 1, []), 94) := rfl
theorem T_40_94 : hTab 40 94 = some ((15, 0, 0, []), 95) := rfl
theorem T_40_95 : hTab 40 95 = some ((4, 3, 0, []), 96) := rfl
theorem T_40_96 : hTab 40 96 = some ((3, 0, 2, []), 97) := rfl
theorem T_40_97 : hTab 40 97 = some ((24, 7, Int.ofNat 4, []), 100) := rfl
theorem T_40_100 : hTab 40 100 = some ((3, 0, 2, []), 101) := rfl
theorem T_40_101 : hTab 40 101 = some ((24, 7, Int.ofNat 11, []), 104) := rfl
theorem T_40_104 : hTab 40 104 = some ((18, 1, Int.ofNat 111, []), 107) := rfl
theorem T_40_107 : hTab 40 107 = some ((0, 0, 0, []), 108) := rfl
theorem T_40_108 : hTab 40 108 = some ((22, 0, Int.ofNat 112, []), 111) := rfl
theorem T_40_111 : hTab 40 111 = some ((0, 0, 1, []), 112) := rfl
theorem T_40_112 : hTab 40 112 = some ((3, 3, 0, []), 113) := rfl
theorem T_40_113 : hTab 40 113 = some ((27, 0, 0, []), 114) := rfl
theorem T_40_114 : hTab 40 114 = some ((3, 0, 2, []), 115) := rfl
theorem T_40_115 : hTab 40 115 = some ((24, 7, Int.ofNat 10, []), 118) := rfl
theorem T_40_118 : hTab 40 118 = some ((3, 3, 0, []), 119) := rfl
theorem T_40_119 : hTab 40 119 = some ((14, 0, 0, []), 120) := rfl
theorem T_40_120 : hTab 40 120 = some ((0, 0, 4, []), 121) := rfl
theorem T_40_121 : hTab 40 121 = some ((31, 22, 0, []), 124) := rfl
theorem T_40_124 : hTab 40 124 = some ((3, 0, 2, []), 125) := rfl
theorem T_40_125 : hTab 40 125 = some ((24, 7, Int.ofNat 10, []), 128) := rfl
theorem T_40_128 : hTab 40 128 = some ((3, 0, 2, []), 129) := rfl
theorem T_40_129 : hTab 40 129 = some ((24, 7, Int.ofNat 9, []), 132) := rfl
theorem T_40_132 : hTab 40 132 = some ((0, 0, 13, []), 134) := rfl
theorem T_40_134 : hTab 40 134 = some ((0, 0, 19, []), 136) := rfl
theorem T_40_136 : hTab 40 136 = some ((34, 7, 0, []), 138) := rfl
theorem T_40_138 : hTab 40 138 = some ((31, 47, 0, []), 141) := rfl
theorem T_40_141 : hTab 40 141 = some ((18, 0, Int.ofNat 149, []), 144) := rfl
theorem T_40_144 : hTab 40 144 = some ((34, 7, 0, []), 146) := rfl
theorem T_40_146 : hTab 40 146 = some ((22, 0, Int.ofNat 151, []), 149) := rfl
theorem T_40_149 : hTab 40 149 = some ((34, 8, 0, []), 151) := rfl
theorem T_40_151 : hTab 40 151 = some ((31, 23, 0, []), 154) := rfl
theorem T_40_154 : hTab 40 154 = some ((0, 0, 0, []), 155) := rfl
theorem T_40_155 : hTab 40 155 = some ((33, 1, 0, []), 156) := rfl
theorem mN_40 : hmN 40 = 1 := by decide +kernel
theorem mL_40 : hmL 40 = 5 := by decide +kernel
theorem mK_40 : hmK 40 = 1 := by decide +kernel
theorem mO_40 : hmO 40 = 7 := by decide +kernel
/-- what a message's work answers, puts into the reply and leaves -/
abbrev XS (σ0 : hM) (K : Int) (W : qR) (R : rR) (S rp : Nat) (s e : Int) (Q : qR) (l2 : List Int) : Option AV → hM → Prop := fun r σ' => r = some (vI e) ∧ ∃ W2 R2 ord2 t2 l3, PX σ0 W2 R2 σ' ∧ BY W2 rp 300 l3 ∧ (e = 0 → l3 = l2) ∧ XV W2 R2 Q S s ord2 t2 ∧ CT K W2 R2 ∧ FV S rp W W2 R R2
section XVER
variable {fb : Bool} {d S a b c0 rp mb m N M : Nat} {σ0 σ : hM} {W W1 W2 P Q : qR} {R R1 R2 : rR} {i j k x z v s e w f u n p g ln K T U C c : Int} {ord l l2 nm : List Int} {t : Nat → Nat} {r : Option Nat}
/-- a server's objects stand as they did -/
theorem NT.fr (h : NT W R P S s ord t) (hW : ∀ (x : Nat) (k : Int), S ≤ x → x < S + 294 → (x = S ∨ S + 6 ≤ x) → W2 x k = W x k) (hR : ∀ (x : Nat) (k : Int), S ≤ x → x < S + 294 → R2 x k = R x k) : NT W2 R2 P S s ord t := by
  obtain ⟨⟨a1, a2, a3, a4⟩, b1, c1, d1, e1⟩ := h
  have tl : ∀ i : Int, 0 ≤ i → i < ord.length → t i.toNat < 64 := fun i h0 h1 => b1.1 _ (by omega)
  refine ⟨⟨a1, a2, (hW _ _ (by omega) (by omega) (by omega)).trans a3, a4⟩, b1, fun i h0 h1 => (hR _ _ (by omega) (by omega)).trans (c1 i h0 h1), fun i h0 h1 => ?_, fun i h0 h1 => ?_⟩
  · have := tl i h0 h1
    exact (d1 i h0 h1).wr (fun k _ _ => hW _ _ (by omega) (by omega) (by omega)) (hW _ _ (by omega) (by omega) (by omega)) (fun k _ _ => hW _ _ (by omega) (by omega) (by omega))
  · have := tl i h0 h1
    rw [hR _ _ (by omega) (by omega)]
    exact e1 i h0 h1
theorem FD.fr (h : FD W R P S s ord t) (hW : ∀ (x : Nat) (k : Int), S ≤ x → x < S + 294 → (x = S ∨ S + 6 ≤ x) → W2 x k = W x k) (hR : ∀ (x : Nat) (k : Int), S ≤ x → x < S + 294 → R2 x k = R x k) : FD W2 R2 P S s ord t := fun i h0 h1 => by
  obtain ⟨a1, a2, a3⟩ := h i h0 h1
  have w : ∀ k : Int, W2 (S + 198 + i.toNat) k = W (S + 198 + i.toNat) k := fun k => hW _ _ (by omega) (by omega) (by omega)
  have hr : ∀ k : Int, R2 (S + 198 + i.toNat) k = R (S + 198 + i.toNat) k := fun k => hR _ _ (by omega) (by omega)
  rw [w, hr]
  refine ⟨a1, fun q => ?_, a3⟩
  have := a2 q
  unfold FDu at this ⊢
  rw [w, w, w, w, w, w, w, hr]
  exact this
theorem DV.fr (h : DV W R P S s ord t) (hT : NT W R P S s ord t) (hW : ∀ (x : Nat) (k : Int), S ≤ x → x < S + 294 → (x = S ∨ S + 6 ≤ x) → W2 x k = W x k) (hR : ∀ (x : Nat) (k : Int), S ≤ x → x < S + 294 → R2 x k = R x k) (hC : ∀ (b c : Nat) (k : Int), S ≤ b → b < S + 294 → R b 2267 = some c → 2372 ≤ c → W2 c k = W c k) (h6 : ∀ n, s < 2 → isN P s n → P 2297 (64 * s + n) ≤ 600) : DV W2 R2 P S s ord t := fun i h0 h1 => by
  have hl := hT.1.2.1
  have := hT.2.1.1 i.toNat (by omega)
  exact (h i h0 h1).fr (hW _ _ (by omega) (by omega) (by omega)) (hR _ _ (by omega) (by omega)) (hR _ _ (by omega) (by omega)) (fun c q1 q2 i _ _ => hC _ c i (by omega) (by omega) q1 q2) (fun q => h6 _ q ((hT.1.1 _).mp (lg_mem h0 h1)))
theorem XV.fr (h : XV W R P S s ord t) (hW : ∀ (x : Nat) (k : Int), S ≤ x → x < S + 294 → W2 x k = W x k) (hR : ∀ (x : Nat) (k : Int), S ≤ x → x < S + 294 → R2 x k = R x k) (hC : ∀ (b c : Nat) (k : Int), S ≤ b → b < S + 294 → R b 2267 = some c → 2372 ≤ c → W2 c k = W c k) (h6 : ∀ n, s < 2 → isN P s n → P 2297 (64 * s + n) ≤ 600) : XV W2 R2 P S s ord t := by
  refine ⟨h.1.fr (fun x k a b _ => hW x k a b) hR, h.2.1.fr (fun x k a b _ => hW x k a b) hR, ?_, h.2.2.2.fr h.1 (fun x k a b _ => hW x k a b) hR hC h6⟩
  obtain ⟨z1, z2, z3, z4⟩ := h.2.2.1
  unfold SZ
  rw [hW _ _ (by omega) (by omega), hW _ _ (by omega) (by omega), hW _ _ (by omega) (by omega), hW _ _ (by omega) (by omega), hW _ _ (by omega) (by omega)]
  exact ⟨z1, z2, z3, z4⟩
/-- the most bytes that a connection's messages may have -/
theorem XV.most (h : XV W R P S s ord t) (hc : c = 0 ∨ c = 1) (hI : IV false T U P) (hs : VS S s) : XV (rU W (S + 3) c v) R (rU P 2313 (2 * s + c) v) S s ord t := by
  have hrg := hs.rng
  have hsr := hs.1
  have hfe : FE (rU P 2313 (2 * s + c) v) P := fun f _ hf => rU_f (fun q => by rw [q] at hf; exact absurd hf (by decide))
  have hW : ∀ (x : Nat) (k : Int), S ≤ x → x < S + 294 → (x = S ∨ S + 6 ≤ x) → rU W (S + 3) c v x k = W x k := fun x k _ _ q => rU_f (by omega)
  refine ⟨(h.1.fr hW (fun _ _ _ _ => rfl)).fe hfe, (h.2.1.fr hW (fun _ _ _ _ => rfl)).pp (fun f k hf => rU_f (fun q => by rw [q] at hf; exact absurd hf (by decide))), ?_, fun i i0 i1 => ((h.2.2.2.fr h.1 hW (fun _ _ _ _ => rfl) (fun b c2 k _ _ _ q => rU_f (by omega)) (XV.len6 hI hsr.1)) i i0 i1).pp (fun _ => rU_f (by decide)) (fun _ _ _ _ => rU_f (by decide))⟩
  obtain ⟨z1, z2, z3, z4⟩ := h.2.2.1
  have k1 : ∀ j : Int, rU W (S + 3) c v S j = W S j := fun j => rU_f (by omega)
  have pp : ∀ (f : Nat) (k : Int), f ≠ 2313 → rU P 2313 (2 * s + c) v f k = P f k := fun f k q => rU_f q
  unfold SZ
  rw [k1, k1, k1, pp 2301 _ (by decide), pp 2303 _ (by decide)]
  rcases hc with rfl | rfl
  · refine ⟨?_, ?_, z3, z4⟩
    · rw [rU_s, Int.add_zero, rU_s]
    · rw [rU_k (by omega), rU_k (by omega)]
      exact z2
  · refine ⟨?_, ?_, z3, z4⟩
    · rw [rU_k (by omega), rU_k (by omega)]
      exact z1
    · rw [rU_s, rU_s]
theorem XV.fbb (h : XV W R P S s ord t) (hF : FB b W W2) (hb : b + 1 < 2281) (ho : b + 1 < S ∨ S + 294 ≤ b) (h6 : ∀ n, s < 2 → isN P s n → P 2297 (64 * s + n) ≤ 600) : XV W2 R P S s ord t := h.fr (fun x k _ _ => hF x k (by omega) (by omega)) (fun _ _ _ _ => rfl) (fun _ c k _ _ _ q => hF c k (by omega) (by omega)) h6
theorem CT.fbb (h : CT K W R) (hF : FB b W W2) (hb : 128 ≤ b) : CT K W2 R := h.fv (hF 0 0 (by omega) (by omega)) (hF 0 1 (by omega) (by omega)) (fun _ => rfl)
theorem x_ver_loop (hS : VS S s) (hc : c = 0 ∨ c = 1) {Qp : Option AV → hM → Prop} {Q0 : qR} (hQ : ∀ (σ : hM) (W2 : qR) (R2 : rR) (ord2 : List Int) (t2 : Nat → Nat) (xx : Option AV) (i : Int), PX σ0 W2 R2 σ → XV W2 R2 Q0 S s ord2 t2 → CT K W2 R2 → FV S 0 W W2 R R2 → WP fb (d + 3) 40 79 [some (vR (some S)), some (vL v), none, some (vI i), xx] [] σ Qp) : ∀ (m : Nat) (T : Int) (P1 W1 : qR) (R1 : rR) (ord : List Int) (t : Nat → Nat) (xx : Option AV) (i : Int) (σ : hM), i + m = 48 → 0 ≤ i → PX σ0 W1 R1 σ → XV W1 R1 P1 S s ord t → CT K W1 R1 → FV S 0 W W1 R R1 → GI T U P1 → TI P1 → T + m + 49 ≤ 2147483000 → W1 S 2235 = c → clA P1 s c m = Q0 → WP fb (d + 3) 40 24 [some (vR (some S)), some (vL v), none, some (vI i), xx] [] σ Qp := by
  have hO := hS.o
  have hsr := hS.1
  have hrg := hS.rng
  intro m
  induction m with
  | zero =>
    intro T P1 W1 R1 ord t xx i σ h1 h2 hP hX hK hF hG hD hT hcn hq
    have h1 : i + ((0 : Nat) : Int) = 48 := h1
    have hgo := hQ σ W1 R1 ord t xx i hP (by rw [← hq]; exact hX) hK hF
    refine x_li (z := i) T_40_24 rfl ?_
    refine x_ic T_40_25 ?_
    refine x_ic2 T_40_27 (fun _ => ?_) (fun h => absurd (show 48 ≤ i by omega) h)
    exact hgo
  | succ m ih =>
    intro T P1 W1 R1 ord t xx i σ h1 h2 hP hX hK hF hG hD hT hcn hq
    have hlf := x_leastFid (fb := fb) (d := d + 2) hP hS hX.2.1.fu hc hcn
    have hlr : ¬ qLeast P1 s c < 0 → 48 * (2 * s + c) ≤ qLeast P1 s c ∧ qLeast P1 s c < 48 * (2 * s + c) + 48 ∧ ¬ P1 2304 (qLeast P1 s c) = 0 := fun q => by
      have hr := lsF_rng (P := P1) (lo := 48 * (2 * s + c)) 48 (48 * (2 * s + c)) (-1) (by omega) (by omega) (Or.inl rfl)
      have q : ¬ lsF P1 48 (48 * (2 * s + c)) (-1) < 0 := q
      rcases hr with hr | hr
      · omega
      · exact hr
    have eq0 : clA P1 s c (m + 1) = if qLeast P1 s c < 0 then P1 else clA (gClunk P1 s (qLeast P1 s c)) s c m := rfl
    rw [eq0] at hq
    by_cases q : qLeast P1 s c < 0
    · rw [if_pos q] at hq
      have en : fdA S s (qLeast P1 s c) = none := if_pos q
      rw [en] at hlf
      have hgo := fun xx i => hQ σ W1 R1 ord t xx i hP (by rw [← hq]; exact hX) hK hF
      refine x_li (z := i) T_40_24 rfl ?_
      refine x_ic T_40_25 ?_
      refine x_ic2 T_40_27 (fun h => absurd (show 48 ≤ i from h) (by omega)) (fun _ => ?_)
      refine x_lr (z := some S) T_40_30 rfl ?_
      refine x_cv1 T_40_31 mN_41 mL_41 (Nat.le_of_ble_eq_true rfl) mO_41 (hP.o hO) (Nat.le_of_ble_eq_true rfl) (hlf) ?_
      rintro _ σ ⟨rfl, rfl⟩
      refine cR ?_
      refine x_sr (ls1 := [some (vR (some S)), some (vL v), none, some (vI i), some (vR none)]) T_40_34 rfl ?_
      refine x_lr (z := none) T_40_36 rfl ?_
      refine x_nnul T_40_38 (fun a0 h0 => absurd h0 (by simp)) (fun _ => ?_)
      refine x_goto T_40_41 ?_
      exact hgo _ _
    · rw [if_neg q] at hq
      obtain ⟨g1, g2, g3⟩ := hlr q
      obtain ⟨ii, hii⟩ : ∃ ii, qLeast P1 s c = 96 * s + ii := ⟨qLeast P1 s c - 96 * s, by omega⟩
      rw [hii] at hlf g1 g2 g3 hq
      rw [fdA_p hS (by omega)] at hlf
      have hi : 0 ≤ ii ∧ ii < 96 := by omega
      have ha := hS.fd hi
      have hm := ((hX.2.1 ii hi.1 hi.2).2.1 g3).2.2.2.2.1
      have hst : ∀ (σ : hM) (xx : Option AV), PX σ0 (rU W1 (S + 198 + ii.toNat) 2288 0) R1 σ → ¬ qTake P1 s (96 * s + ii) → WP fb (d + 3) 40 24 [some (vR (some S)), some (vL v), none, some (vI (i + 1)), xx] [] σ Qp := fun σ xx hP q => by
        rw [gClunk_no q] at hq
        exact ih T _ _ _ ord t xx (i + 1) σ (by omega) (by omega) hP (hX.drop hi hS hG.iv) (hK.drop (by omega) (by decide)) (FV_tr hF (FV_own (by omega) (by omega) (by omega))) (GI_isFid hG rfl) hD.isFid (by omega) ((rU_j (by decide)).trans hcn) hq
      have h1d := fun (σ : hM) (hP : PX σ0 (rU W1 (S + 198 + ii.toNat) 2288 0) R1 σ) => x_drop1 (fb := fb) (d := d + 1) hP hS hX hK hG hD (by omega) hi g3
      have hfin : ∀ (σ : hM) (W2 : qR) (R2 : rR) (ord2 : List Int) (t2 : Nat → Nat) (xx : Option AV), qTake P1 s (96 * s + ii) → PX σ0 W2 R2 σ → XV W2 R2 (gRem (rU P1 2304 (96 * s + ii) 0) s (P1 2306 (96 * s + ii)) (P1 2308 (96 * s + ii))) S s ord2 t2 → CT K W2 R2 → FV S 0 W1 W2 R1 R2 → WP fb (d + 3) 40 24 [some (vR (some S)), some (vL v), none, some (vI (i + 1)), xx] [] σ Qp := fun σ W2 R2 ord2 t2 xx q a1 a2 a3 a4 => ih (T + 1) _ _ _ ord2 t2 xx (i + 1) σ (by omega) (by omega) a1 (a2.pe (gClunk_p q).1 (gClunk_p q).2) a3 (FV_tr hF a4) (GI_gClunk hG hsr (by omega) g3) hD.clunk (by omega) (a4.2.2.1.2.2.trans hcn) hq
      obtain ⟨fa, hfa⟩ : ∃ fa, S + 198 + ii.toNat = fa := ⟨_, rfl⟩
      rw [hfa] at ha hm hst h1d hlf
      obtain ⟨md, hmd⟩ : ∃ y, P1 2309 (96 * s + ii) = y := ⟨_, rfl⟩
      have hrm := fdRm_iff md
      rw [hmd] at hm
      obtain ⟨rm, hrm0⟩ : ∃ y, fdRm md = y := ⟨_, rfl⟩
      rw [hrm0] at hm hrm
      have hrm1 : rm = 0 ∨ rm = 1 := by rw [← hrm0]; unfold fdRm; split <;> simp
      rcases hrm1 with rfl | rfl
      · have hst := fun σ xx hP => hst σ xx hP (fun q => absurd (hrm.mpr (by rw [← hmd]; exact q.1.1)) (by decide))
        refine x_li (z := i) T_40_24 rfl ?_
        refine x_ic T_40_25 ?_
        refine x_ic2 T_40_27 (fun h => absurd (show 48 ≤ i from h) (by omega)) (fun _ => ?_)
        refine x_lr (z := some S) T_40_30 rfl ?_
        refine x_cv1 T_40_31 mN_41 mL_41 (Nat.le_of_ble_eq_true rfl) mO_41 (hP.o hO) (Nat.le_of_ble_eq_true rfl) (hlf) ?_
        rintro _ σ ⟨rfl, rfl⟩
        refine cR ?_
        refine x_sr (ls1 := [some (vR (some S)), some (vL v), none, some (vI i), some (vR (some fa))]) T_40_34 rfl ?_
        refine x_lr (z := some fa) T_40_36 rfl ?_
        refine x_nnul T_40_38 (fun _ _ => ?_) (fun h0 => absurd h0 (by simp))
        refine x_lr (z := some fa) T_40_44 rfl ?_
        refine x_ic T_40_46 ?_
        refine z_pZ hP T_40_47 F_9_0 rfl ha (key := 2288) rfl (fun σ hP => ?_)
        refine x_lr (z := some fa) T_40_50 rfl ?_
        refine x_gI (z := 0) T_40_52 (Or.inr (Or.inl F_9_6)) (hP.o ha) (Eq.trans (Eq.trans (hP.gi ha (key := 2294) rfl) (rU_j (by decide))) hm) ?_
        refine x_if T_40_55 (fun _ => ?_) (fun h => absurd (show (0 : Int) = 0 by decide) h)
        refine x_inc (w := (i + 1)) (ls1 := [some (vR (some S)), some (vL v), none, some (vI (i + 1)), some (vR (some fa))]) T_40_73 rfl (w32_id (by omega) (by omega)) rfl ?_
        refine x_goto T_40_76 ?_
        exact hst σ _ hP
      · have hq1 := hrm.mp rfl
        by_cases g4 : P1 2310 (96 * s + ii) = 0
        · simp only [if_pos g4] at h1d
          by_cases g5 : qRem P1 s (P1 2306 (96 * s + ii)) (P1 2308 (96 * s + ii)) = 0
          · have hr := fun (σ : hM) (hP : PX σ0 (rU W1 fa 2288 0) R1 σ) => (h1d σ hP).1
            have hd2 := fun (σ : hM) (hP : PX σ0 (rU W1 fa 2288 0) R1 σ) => (h1d σ hP).2 g4 g5 σ hP
            simp only [g5] at hr
            have hfin := fun σ W2 R2 ord2 t2 xx => hfin σ W2 R2 ord2 t2 xx ⟨⟨by rw [hmd]; exact hq1, g4⟩, g5⟩
            refine x_li (z := i) T_40_24 rfl ?_
            refine x_ic T_40_25 ?_
            refine x_ic2 T_40_27 (fun h => absurd (show 48 ≤ i from h) (by omega)) (fun _ => ?_)
            refine x_lr (z := some S) T_40_30 rfl ?_
            refine x_cv1 T_40_31 mN_41 mL_41 (Nat.le_of_ble_eq_true rfl) mO_41 (hP.o hO) (Nat.le_of_ble_eq_true rfl) (hlf) ?_
            rintro _ σ ⟨rfl, rfl⟩
            refine cR ?_
            refine x_sr (ls1 := [some (vR (some S)), some (vL v), none, some (vI i), some (vR (some fa))]) T_40_34 rfl ?_
            refine x_lr (z := some fa) T_40_36 rfl ?_
            refine x_nnul T_40_38 (fun _ _ => ?_) (fun h0 => absurd h0 (by simp))
            refine x_lr (z := some fa) T_40_44 rfl ?_
            refine x_ic T_40_46 ?_
            refine z_pZ hP T_40_47 F_9_0 rfl ha (key := 2288) rfl (fun σ hP => ?_)
            refine x_lr (z := some fa) T_40_50 rfl ?_
            refine x_gI (z := 1) T_40_52 (Or.inr (Or.inl F_9_6)) (hP.o ha) (Eq.trans (Eq.trans (hP.gi ha (key := 2294) rfl) (rU_j (by decide))) hm) ?_
            refine x_if T_40_55 (fun h => absurd (show (1 : Int) = 0 from h) (by decide)) (fun _ => ?_)
            refine x_lr (z := some S) T_40_58 rfl ?_
            refine x_lr (z := some fa) T_40_59 rfl ?_
            refine x_cv2 T_40_61 mN_42 mL_42 (Nat.le_of_ble_eq_true rfl) mO_42 (hP.o hO) (Nat.le_of_ble_eq_true rfl) (hr σ hP) ?_
            rintro _ σ ⟨rfl, rfl⟩
            refine cI ?_
            refine x_if T_40_64 (fun h => absurd (show ¬ (0 : Int) = 0 from h) (by decide)) (fun _ => ?_)
            refine x_lr (z := some S) T_40_67 rfl ?_
            refine x_lr (z := some fa) T_40_68 rfl ?_
            refine x_cv2 T_40_70 mN_44 mL_44 (Nat.le_of_ble_eq_true rfl) mO_44 (hP.o hO) (Nat.le_of_ble_eq_true rfl) (hd2 σ hP) ?_
            clear hP hr hd2
            rintro _ σ ⟨rfl, W2, R2, ord2, t2, hP, a2, a3, a4⟩
            refine cV ?_
            refine x_inc (w := (i + 1)) (ls1 := [some (vR (some S)), some (vL v), none, some (vI (i + 1)), some (vR (some fa))]) T_40_73 rfl (w32_id (by omega) (by omega)) rfl ?_
            refine x_goto T_40_76 ?_
            exact hfin σ W2 R2 ord2 t2 _ hP a2 a3 a4
          · have hr := fun (σ : hM) (hP : PX σ0 (rU W1 fa 2288 0) R1 σ) => (h1d σ hP).1
            have hst := fun σ xx hP => hst σ xx hP (fun q => g5 q.2)
            obtain ⟨e, he⟩ : ∃ e, qRem P1 s (P1 2306 (96 * s + ii)) (P1 2308 (96 * s + ii)) = e := ⟨_, rfl⟩
            rw [he] at g5
            simp only [he] at hr
            refine x_li (z := i) T_40_24 rfl ?_
            refine x_ic T_40_25 ?_
            refine x_ic2 T_40_27 (fun h => absurd (show 48 ≤ i from h) (by omega)) (fun _ => ?_)
            refine x_lr (z := some S) T_40_30 rfl ?_
            refine x_cv1 T_40_31 mN_41 mL_41 (Nat.le_of_ble_eq_true rfl) mO_41 (hP.o hO) (Nat.le_of_ble_eq_true rfl) (hlf) ?_
            rintro _ σ ⟨rfl, rfl⟩
            refine cR ?_
            refine x_sr (ls1 := [some (vR (some S)), some (vL v), none, some (vI i), some (vR (some fa))]) T_40_34 rfl ?_
            refine x_lr (z := some fa) T_40_36 rfl ?_
            refine x_nnul T_40_38 (fun _ _ => ?_) (fun h0 => absurd h0 (by simp))
            refine x_lr (z := some fa) T_40_44 rfl ?_
            refine x_ic T_40_46 ?_
            refine z_pZ hP T_40_47 F_9_0 rfl ha (key := 2288) rfl (fun σ hP => ?_)
            refine x_lr (z := some fa) T_40_50 rfl ?_
            refine x_gI (z := 1) T_40_52 (Or.inr (Or.inl F_9_6)) (hP.o ha) (Eq.trans (Eq.trans (hP.gi ha (key := 2294) rfl) (rU_j (by decide))) hm) ?_
            refine x_if T_40_55 (fun h => absurd (show (1 : Int) = 0 from h) (by decide)) (fun _ => ?_)
            refine x_lr (z := some S) T_40_58 rfl ?_
            refine x_lr (z := some fa) T_40_59 rfl ?_
            refine x_cv2 T_40_61 mN_42 mL_42 (Nat.le_of_ble_eq_true rfl) mO_42 (hP.o hO) (Nat.le_of_ble_eq_true rfl) (hr σ hP) ?_
            rintro _ σ ⟨rfl, rfl⟩
            refine cI ?_
            refine x_if T_40_64 (fun _ => ?_) (fun h => absurd (show ¬ e = 0 by omega) h)
            refine x_inc (w := (i + 1)) (ls1 := [some (vR (some S)), some (vL v), none, some (vI (i + 1)), some (vR (some fa))]) T_40_73 rfl (w32_id (by omega) (by omega)) rfl ?_
            refine x_goto T_40_76 ?_
            exact hst σ _ hP
        · have hr := fun (σ : hM) (hP : PX σ0 (rU W1 fa 2288 0) R1 σ) => (h1d σ hP).1
          simp only [if_neg g4] at hr
          have hst := fun σ xx hP => hst σ xx hP (fun q => g4 q.1.2)
          refine x_li (z := i) T_40_24 rfl ?_
          refine x_ic T_40_25 ?_
          refine x_ic2 T_40_27 (fun h => absurd (show 48 ≤ i from h) (by omega)) (fun _ => ?_)
          refine x_lr (z := some S) T_40_30 rfl ?_
          refine x_cv1 T_40_31 mN_41 mL_41 (Nat.le_of_ble_eq_true rfl) mO_41 (hP.o hO) (Nat.le_of_ble_eq_true rfl) (hlf) ?_
          rintro _ σ ⟨rfl, rfl⟩
          refine cR ?_
          refine x_sr (ls1 := [some (vR (some S)), some (vL v), none, some (vI i), some (vR (some fa))]) T_40_34 rfl ?_
          refine x_lr (z := some fa) T_40_36 rfl ?_
          refine x_nnul T_40_38 (fun _ _ => ?_) (fun h0 => absurd h0 (by simp))
          refine x_lr (z := some fa) T_40_44 rfl ?_
          refine x_ic T_40_46 ?_
          refine z_pZ hP T_40_47 F_9_0 rfl ha (key := 2288) rfl (fun σ hP => ?_)
          refine x_lr (z := some fa) T_40_50 rfl ?_
          refine x_gI (z := 1) T_40_52 (Or.inr (Or.inl F_9_6)) (hP.o ha) (Eq.trans (Eq.trans (hP.gi ha (key := 2294) rfl) (rU_j (by decide))) hm) ?_
          refine x_if T_40_55 (fun h => absurd (show (1 : Int) = 0 from h) (by decide)) (fun _ => ?_)
          refine x_lr (z := some S) T_40_58 rfl ?_
          refine x_lr (z := some fa) T_40_59 rfl ?_
          refine x_cv2 T_40_61 mN_42 mL_42 (Nat.le_of_ble_eq_true rfl) mO_42 (hP.o hO) (Nat.le_of_ble_eq_true rfl) (hr σ hP) ?_
          rintro _ σ ⟨rfl, rfl⟩
          refine cI ?_
          refine x_if T_40_64 (fun _ => ?_) (fun h => absurd (show ¬ (1 : Int) = 0 by decide) h)
          refine x_inc (w := (i + 1)) (ls1 := [some (vR (some S)), some (vL v), none, some (vI (i + 1)), some (vR (some fa))]) T_40_73 rfl (w32_id (by omega) (by omega)) rfl ?_
          refine x_goto T_40_76 ?_
          exact hst σ _ hP
theorem x_doVersion (hP : PX σ0 W R σ) (hS : VS S s) (hX : XV W R P S s ord t) (hK : CT K W R) (hG : GI T U P) (hD : TI P) (hT : T + 98 ≤ 2147483000) (hr : R S 2233 = some mb) (hrp : R S 2234 = some rp) (hcn : W S 2235 = c) (hc : c = 0 ∨ c = 1) (hB : BY W mb M l) (hz : (l.length : Int) = z) (hmo : mb + 1 < S ∨ S + 294 ≤ mb) (hBr : BY W rp 300 l2) (hro : rp + 1 < S ∨ S + 294 ≤ rp) (hmr : mb ≠ rp) (hroom : l2.length ≤ 200) (hw : sE (lg l) z 11 = z) : CL fb (d + 6) 40 [vR (some S)] σ (XS σ0 K W R S rp s (vsE (lg l) z) (if vsE (lg l) z = 0 then vsP P s c (lg l) else P) (l2 ++ vsL (lg l) (if nu (lg l) 7 4 < 300 then nu (lg l) 7 4 else 300))) := by
  have hO := hS.o
  have hsr := hS.1
  have hrg := hS.rng
  have hbo := hB.1
  have hro1 := hBr.1
  have hrlt := hBr.lt
  have hr0 := (tX_o hro1).1
  have hm0 := (tX_o hbo).1
  have hb := hB.2.2.2.2.2.1
  have hlz := hB.2.2.2.2.1
  have hn1 := hB.2.2.1
  have hg := sE_ge (a := lg l) (z := z) (p := 11) (by rw [hw]; omega)
  rw [hw] at hg
  obtain ⟨n, hn⟩ : ∃ n, nu (lg l) 11 2 = n := ⟨_, rfl⟩
  rw [hn] at hg
  have hnr := nu_rng (f := lg l) (i := 11) 2 (fun j _ => hb _ (by omega))
  rw [hn] at hnr
  obtain ⟨v, hv⟩ : ∃ v, nu (lg l) 7 4 = v := ⟨_, rfl⟩
  have hvr := nu_rng (f := lg l) (i := 7) 4 (fun j _ => hb _ (by omega))
  rw [hv] at hvr
  have hvr2 : v < 4294967296 := hvr.2
  have h1 := x_num (fb := fb) (d := d + 5) (s := 7) (k := 4) 4 hP hB hz rfl (by decide) (by decide) (by omega) hv
  have eE : vsE (lg l) z = if v < 64 then 14 else 0 := by
    unfold vsE
    rw [if_neg (fun c => c hw), hv]
  rw [eE, hv]
  by_cases q64 : v < 64
  · rw [if_pos q64, if_neg (by decide)]
    refine CL_in mL_40 rfl ?_
    show WP fb _ 40 0 [some (vR (some S)), none, none, none, none] [] σ _
    refine x_lr (z := some S) T_40_0 rfl ?_
    refine x_gR (z := some mb) T_40_1 F_7_9 (hP.o hO) (Eq.trans (hP.rm hO rfl (key := 2233) rfl) hr) ?_
    refine x_ic T_40_4 ?_
    refine x_ic T_40_6 ?_
    refine x_cv3 T_40_7 mN_29 mL_29 (Nat.le_of_ble_eq_true rfl) mO_29 (hP.o hbo) (Nat.le_of_ble_eq_true rfl) (h1) ?_
    rintro _ σ ⟨rfl, rfl⟩
    refine cL ?_
    refine x_sl (ls1 := [some (vR (some S)), some (vL v), none, none, none]) T_40_10 rfl ?_
    refine x_ll (z := v) T_40_11 rfl ?_
    refine x_lc T_40_12 ?_
    refine x_lif T_40_15 T_40_16 (fun h => absurd (show 64 ≤ v from h) (by omega)) (fun _ => ?_)
    refine x_ic T_40_19 ?_
    refine x_ri T_40_21 ?_
    exact ⟨rfl, W, R, ord, t, l2, hP, hBr, fun c => absurd c (by decide), hX, hK, FV_rfl⟩
  · rw [if_neg q64, if_pos rfl]
    obtain ⟨w, hwv⟩ : ∃ w, (if v < 300 then v else 300) = w := ⟨_, rfl⟩
    have hwr : 64 ≤ w ∧ w ≤ 300 := by rw [← hwv]; split <;> omega
    have hA := hS.am
    have eQ : vsP P s c (lg l) = rU (clA P s c 48) 2313 (2 * s + c) w := by
      unfold vsP
      rw [hv, hwv]
    have eL : vsL (lg l) w = leb 4 w ++ (if 19 ≤ z ∧ seg (lg l) 13 6 = txt 3 then leb 2 6 ++ txt 3 else leb 2 7 ++ txt 4) := by
      unfold vsL
      rw [show seg (pkB 63016602185776 6) 0 6 = txt 3 by decide +kernel, show pkP 63016602185776 6 6 = txt 3 by decide +kernel, show pkP 33053979968501614 7 7 = txt 4 by decide +kernel, hn, ifc (show 6 ≤ n ∧ seg (lg l) 13 6 = txt 3 ↔ 19 ≤ z ∧ seg (lg l) 13 6 = txt 3 from ⟨fun c => ⟨by omega, c.2⟩, fun c => ⟨by omega, c.2⟩⟩)]
    rw [hwv, eQ, eL]
    have hG48 := GI_clA hsr (show 0 ≤ c ∧ c < 2 by omega) 48 T P hG
    have hfin : ∀ (σ : hM) (W2 : qR) (R2 : rR) (ord2 : List Int) (t2 : Nat → Nat) (xx : Option AV) (i : Int), PX σ0 W2 R2 σ → XV W2 R2 (clA P s c 48) S s ord2 t2 → CT K W2 R2 → FV S 0 W W2 R R2 → WP fb (d + 6) 40 79 [some (vR (some S)), some (vL v), none, some (vI i), xx] [] σ (XS σ0 K W R S rp s 0 (rU (clA P s c 48) 2313 (2 * s + c) w) (l2 ++ (leb 4 w ++ (if 19 ≤ z ∧ seg (lg l) 13 6 = txt 3 then leb 2 6 ++ txt 3 else leb 2 7 ++ txt 4)))) := fun σ W2 R2 ord2 t2 xx i hP hX2 hK2 hF2 => by
      have r1 : R2 S 2233 = some mb := hF2.2.2.1.1.trans hr
      have r2 : R2 S 2234 = some rp := hF2.2.2.1.2.1.trans hrp
      have r3 : W2 S 2235 = c := hF2.2.2.1.2.2.trans hcn
      have hB2 := FV_by hF2 hB hmo (by omega)
      have hBr2 := FV_by hF2 hBr hro (by omega)
      have hXm := hX2.most (v := w) hc hG48.iv hS
      have hF3 : FV S 0 W (rU W2 (S + 3) c w) R R2 := FV_tr hF2 (FV_own (by omega) (by omega) (by omega))
      have hK3 : CT K (rU W2 (S + 3) c w) R2 := hK2.fv (rU_f (by omega)) (rU_f (by omega)) (fun _ => rfl)
      have hB3 : BY (rU W2 (S + 3) c w) mb M l := FV_by (FV_own (rp := 0) (R := R2) (by omega) (by omega) (by omega)) hB2 hmo (by omega)
      have hBr3 : BY (rU W2 (S + 3) c w) rp 300 l2 := FV_by (FV_own (rp := 0) (R := R2) (by omega) (by omega) (by omega)) hBr2 hro (by omega)
      have r3' : rU W2 (S + 3) c w S 2235 = c := (rU_f (by omega)).trans r3
      have h6 : ∀ n, s < 2 → isN (rU (clA P s c 48) 2313 (2 * s + c) w) s n → rU (clA P s c 48) 2313 (2 * s + c) w 2297 (64 * s + n) ≤ 600 := fun n q1 q2 => by
        rw [rU_f (by decide)]
        exact XV.len6 hG48.iv hsr.1 n q1 ((FE.live (fun f _ hf => rU_f (fun q => by rw [q] at hf; exact absurd hf (by decide)))).mp q2)
      have hend : ∀ (σ : hM) (W3 : qR) (L : List Int), PX σ0 W3 R2 σ → BY W3 rp 300 L → FB rp (rU W2 (S + 3) c w) W3 → L = l2 ++ (leb 4 w ++ (if 19 ≤ z ∧ seg (lg l) 13 6 = txt 3 then leb 2 6 ++ txt 3 else leb 2 7 ++ txt 4)) → XS σ0 K W R S rp s 0 (rU (clA P s c 48) 2313 (2 * s + c) w) (l2 ++ (leb 4 w ++ (if 19 ≤ z ∧ seg (lg l) 13 6 = txt 3 then leb 2 6 ++ txt 3 else leb 2 7 ++ txt 4))) (some (vI 0)) σ := fun σ W3 L hP hB3 hF q => ⟨rfl, W3, R2, ord2, t2, L, hP, hB3, fun _ => q, hXm.fbb hF (by omega) hro h6, hK3.fbb hF hr0, FV_tr (FV_w hF3) (FV_fb hF (by omega) (by omega))⟩
      have hsp := fun (σ : hM) (W3 : qR) (hP : PX σ0 W3 R2 σ) (hF : FB rp (rU W2 (S + 3) c w) W3) => x_spells (fb := fb) (d := d + 1) (j := 3) (s := 13) (e := 19) (by decide) hP (hF.by hB3 hmr) hz (by decide) (by decide)
      have ers : (if (0 ≤ (13 : Int) ∧ 19 ≤ z) ∧ (13 : Int) ≤ 19 ∧ seg (lg l) 13 (19 - 13 : Int).toNat = txt 3 then (1 : Int) else 0) = if 19 ≤ z ∧ seg (lg l) 13 6 = txt 3 then 1 else 0 := ifc ⟨fun q => ⟨q.1.2, q.2.2⟩, fun q => ⟨⟨by decide, q.1⟩, by decide, q.2⟩⟩
      simp only [ers] at hsp
      have hpu := fun (σ : hM) (hP : PX σ0 (rU W2 (S + 3) c w) R2 σ) => x_put (fb := fb) (d := d + 5) (k := 4) (v := w) 4 hP hBr3 rfl (by decide) ⟨by omega, by omega⟩ (by omega)
      have hps := fun (j : Nat) (hj : j < 58) (hl : (txt j).length ≤ 20) (σ : hM) (W3 : qR) (hP : PX σ0 W3 R2 σ) (hB : BY W3 rp 300 (l2 ++ leb 4 w)) => x_putString (fb := fb) (d := d) hj hP hB (by rw [List.length_append, leb_len]; omega)
      have go : ∀ v2 : Int, (v2 = v ∨ v2 = 300) → (v2 = w) → ∀ σ, PX σ0 W2 R2 σ → WP fb (d + 6) 40 95 [some (vR (some S)), some (vL v), none, some (vI i), xx] [vI v2] σ (XS σ0 K W R S rp s 0 (rU (clA P s c 48) 2313 (2 * s + c) w) (l2 ++ (leb 4 w ++ (if 19 ≤ z ∧ seg (lg l) 13 6 = txt 3 then leb 2 6 ++ txt 3 else leb 2 7 ++ txt 4)))) := fun v2 _ hv2 σ hP => by
        subst hv2
        by_cases qs : 19 ≤ z ∧ seg (lg l) 13 6 = txt 3
        · simp only [if_pos qs] at hsp hend ⊢
          have h3 := fun (σ : hM) (W3 : qR) (hP : PX σ0 W3 R2 σ) hB => hps 3 (by decide) (by decide) σ W3 hP hB
          have e3 : l2 ++ leb 4 v2 ++ (leb 2 ((txt 3).length : Int) ++ txt 3) = l2 ++ (leb 4 v2 ++ (leb 2 6 ++ txt 3)) := List.append_assoc _ _ _
          rw [e3] at h3
          rcases hc with rfl | rfl
          · skip
            refine x_si (ls1 := [some (vR (some S)), some (vL v), none, some (vI v2), xx]) T_40_95 rfl ?_
            refine x_lr (z := some S) T_40_96 rfl ?_
            refine x_gR (z := some (S + 3)) T_40_97 F_7_4 (hP.o hO) (hP.rc hO rfl rfl) ?_
            refine x_lr (z := some S) T_40_100 rfl ?_
            refine x_gI (z := 0) T_40_101 (Or.inl F_7_11) (hP.o hO) (Eq.trans (hP.gi hO (key := 2235) rfl) r3) ?_
            refine x_if T_40_104 (fun h => absurd (show ¬ (0 : Int) = 0 from h) (by decide)) (fun _ => ?_)
            refine x_ic T_40_107 ?_
            refine x_goto T_40_108 ?_
            refine x_li (z := v2) T_40_112 rfl ?_
            refine z_aI hP T_40_113 hA (by omega) (by omega) (fun σ hP => ?_)
            refine x_lr (z := some S) T_40_114 rfl ?_
            refine x_gR (z := some rp) T_40_115 F_7_10 (hP.o hO) (Eq.trans (hP.rm hO rfl (key := 2234) rfl) r2) ?_
            refine x_li (z := v2) T_40_118 rfl ?_
            refine x_i2l T_40_119 ?_
            refine x_ic T_40_120 ?_
            refine x_cv3 T_40_121 mN_22 mL_22 (Nat.le_of_ble_eq_true rfl) mO_22 (hP.o hro1) (Nat.le_of_ble_eq_true rfl) (hpu σ hP) ?_
            clear hP hpu
            rintro _ σ ⟨rfl, W3, hP, hB4, hF4⟩
            refine cV ?_
            refine x_lr (z := some S) T_40_124 rfl ?_
            refine x_gR (z := some rp) T_40_125 F_7_10 (hP.o hO) (Eq.trans (hP.rm hO rfl (key := 2234) rfl) r2) ?_
            refine x_lr (z := some S) T_40_128 rfl ?_
            refine x_gR (z := some mb) T_40_129 F_7_9 (hP.o hO) (Eq.trans (hP.rm hO rfl (key := 2233) rfl) r1) ?_
            refine x_ic T_40_132 ?_
            refine x_ic T_40_134 ?_
            refine x_sta T_40_136 rfl ?_
            refine x_cv4 T_40_138 mN_47 mL_47 (Nat.le_of_ble_eq_true rfl) mO_47 (hP.o hbo) (Nat.le_of_ble_eq_true rfl) (hsp σ W3 hP hF4) ?_
            rintro _ σ ⟨rfl, rfl⟩
            refine cI ?_
            refine x_if T_40_141 (fun h => absurd (show (1 : Int) = 0 from h) (by decide)) (fun _ => ?_)
            refine x_sta T_40_144 rfl ?_
            refine x_goto T_40_146 ?_
            refine x_cv2 T_40_151 mN_23 mL_23 (Nat.le_of_ble_eq_true rfl) mO_23 (hP.o hro1) (Nat.le_of_ble_eq_true rfl) (h3 σ W3 hP hB4) ?_
            clear hP hsp
            rintro _ σ ⟨rfl, W4, hP, hB5, hF5⟩
            refine cV ?_
            refine x_ic T_40_154 ?_
            refine x_ri T_40_155 ?_
            exact hend σ W4 _ hP hB5 (FB_tr hF4 hF5) rfl
          · skip
            refine x_si (ls1 := [some (vR (some S)), some (vL v), none, some (vI v2), xx]) T_40_95 rfl ?_
            refine x_lr (z := some S) T_40_96 rfl ?_
            refine x_gR (z := some (S + 3)) T_40_97 F_7_4 (hP.o hO) (hP.rc hO rfl rfl) ?_
            refine x_lr (z := some S) T_40_100 rfl ?_
            refine x_gI (z := 1) T_40_101 (Or.inl F_7_11) (hP.o hO) (Eq.trans (hP.gi hO (key := 2235) rfl) r3) ?_
            refine x_if T_40_104 (fun _ => ?_) (fun h => absurd (show ¬ (1 : Int) = 0 by decide) h)
            refine x_ic T_40_111 ?_
            refine x_li (z := v2) T_40_112 rfl ?_
            refine z_aI hP T_40_113 hA (by omega) (by omega) (fun σ hP => ?_)
            refine x_lr (z := some S) T_40_114 rfl ?_
            refine x_gR (z := some rp) T_40_115 F_7_10 (hP.o hO) (Eq.trans (hP.rm hO rfl (key := 2234) rfl) r2) ?_
            refine x_li (z := v2) T_40_118 rfl ?_
            refine x_i2l T_40_119 ?_
            refine x_ic T_40_120 ?_
            refine x_cv3 T_40_121 mN_22 mL_22 (Nat.le_of_ble_eq_true rfl) mO_22 (hP.o hro1) (Nat.le_of_ble_eq_true rfl) (hpu σ hP) ?_
            clear hP hpu
            rintro _ σ ⟨rfl, W3, hP, hB4, hF4⟩
            refine cV ?_
            refine x_lr (z := some S) T_40_124 rfl ?_
            refine x_gR (z := some rp) T_40_125 F_7_10 (hP.o hO) (Eq.trans (hP.rm hO rfl (key := 2234) rfl) r2) ?_
            refine x_lr (z := some S) T_40_128 rfl ?_
            refine x_gR (z := some mb) T_40_129 F_7_9 (hP.o hO) (Eq.trans (hP.rm hO rfl (key := 2233) rfl) r1) ?_
            refine x_ic T_40_132 ?_
            refine x_ic T_40_134 ?_
            refine x_sta T_40_136 rfl ?_
            refine x_cv4 T_40_138 mN_47 mL_47 (Nat.le_of_ble_eq_true rfl) mO_47 (hP.o hbo) (Nat.le_of_ble_eq_true rfl) (hsp σ W3 hP hF4) ?_
            rintro _ σ ⟨rfl, rfl⟩
            refine cI ?_
            refine x_if T_40_141 (fun h => absurd (show (1 : Int) = 0 from h) (by decide)) (fun _ => ?_)
            refine x_sta T_40_144 rfl ?_
            refine x_goto T_40_146 ?_
            refine x_cv2 T_40_151 mN_23 mL_23 (Nat.le_of_ble_eq_true rfl) mO_23 (hP.o hro1) (Nat.le_of_ble_eq_true rfl) (h3 σ W3 hP hB4) ?_
            clear hP hsp
            rintro _ σ ⟨rfl, W4, hP, hB5, hF5⟩
            refine cV ?_
            refine x_ic T_40_154 ?_
            refine x_ri T_40_155 ?_
            exact hend σ W4 _ hP hB5 (FB_tr hF4 hF5) rfl
        · simp only [if_neg qs] at hsp hend ⊢
          have h3 := fun (σ : hM) (W3 : qR) (hP : PX σ0 W3 R2 σ) hB => hps 4 (by decide) (by decide) σ W3 hP hB
          have e3 : l2 ++ leb 4 v2 ++ (leb 2 ((txt 4).length : Int) ++ txt 4) = l2 ++ (leb 4 v2 ++ (leb 2 7 ++ txt 4)) := List.append_assoc _ _ _
          rw [e3] at h3
          rcases hc with rfl | rfl
          · skip
            refine x_si (ls1 := [some (vR (some S)), some (vL v), none, some (vI v2), xx]) T_40_95 rfl ?_
            refine x_lr (z := some S) T_40_96 rfl ?_
            refine x_gR (z := some (S + 3)) T_40_97 F_7_4 (hP.o hO) (hP.rc hO rfl rfl) ?_
            refine x_lr (z := some S) T_40_100 rfl ?_
            refine x_gI (z := 0) T_40_101 (Or.inl F_7_11) (hP.o hO) (Eq.trans (hP.gi hO (key := 2235) rfl) r3) ?_
            refine x_if T_40_104 (fun h => absurd (show ¬ (0 : Int) = 0 from h) (by decide)) (fun _ => ?_)
            refine x_ic T_40_107 ?_
            refine x_goto T_40_108 ?_
            refine x_li (z := v2) T_40_112 rfl ?_
            refine z_aI hP T_40_113 hA (by omega) (by omega) (fun σ hP => ?_)
            refine x_lr (z := some S) T_40_114 rfl ?_
            refine x_gR (z := some rp) T_40_115 F_7_10 (hP.o hO) (Eq.trans (hP.rm hO rfl (key := 2234) rfl) r2) ?_
            refine x_li (z := v2) T_40_118 rfl ?_
            refine x_i2l T_40_119 ?_
            refine x_ic T_40_120 ?_
            refine x_cv3 T_40_121 mN_22 mL_22 (Nat.le_of_ble_eq_true rfl) mO_22 (hP.o hro1) (Nat.le_of_ble_eq_true rfl) (hpu σ hP) ?_
            clear hP hpu
            rintro _ σ ⟨rfl, W3, hP, hB4, hF4⟩
            refine cV ?_
            refine x_lr (z := some S) T_40_124 rfl ?_
            refine x_gR (z := some rp) T_40_125 F_7_10 (hP.o hO) (Eq.trans (hP.rm hO rfl (key := 2234) rfl) r2) ?_
            refine x_lr (z := some S) T_40_128 rfl ?_
            refine x_gR (z := some mb) T_40_129 F_7_9 (hP.o hO) (Eq.trans (hP.rm hO rfl (key := 2233) rfl) r1) ?_
            refine x_ic T_40_132 ?_
            refine x_ic T_40_134 ?_
            refine x_sta T_40_136 rfl ?_
            refine x_cv4 T_40_138 mN_47 mL_47 (Nat.le_of_ble_eq_true rfl) mO_47 (hP.o hbo) (Nat.le_of_ble_eq_true rfl) (hsp σ W3 hP hF4) ?_
            rintro _ σ ⟨rfl, rfl⟩
            refine cI ?_
            refine x_if T_40_141 (fun _ => ?_) (fun h => absurd (show (0 : Int) = 0 by decide) h)
            refine x_sta T_40_149 rfl ?_
            refine x_cv2 T_40_151 mN_23 mL_23 (Nat.le_of_ble_eq_true rfl) mO_23 (hP.o hro1) (Nat.le_of_ble_eq_true rfl) (h3 σ W3 hP hB4) ?_
            clear hP hsp
            rintro _ σ ⟨rfl, W4, hP, hB5, hF5⟩
            refine cV ?_
            refine x_ic T_40_154 ?_
            refine x_ri T_40_155 ?_
            exact hend σ W4 _ hP hB5 (FB_tr hF4 hF5) rfl
          · skip
            refine x_si (ls1 := [some (vR (some S)), some (vL v), none, some (vI v2), xx]) T_40_95 rfl ?_
            refine x_lr (z := some S) T_40_96 rfl ?_
            refine x_gR (z := some (S + 3)) T_40_97 F_7_4 (hP.o hO) (hP.rc hO rfl rfl) ?_
            refine x_lr (z := some S) T_40_100 rfl ?_
            refine x_gI (z := 1) T_40_101 (Or.inl F_7_11) (hP.o hO) (Eq.trans (hP.gi hO (key := 2235) rfl) r3) ?_
            refine x_if T_40_104 (fun _ => ?_) (fun h => absurd (show ¬ (1 : Int) = 0 by decide) h)
            refine x_ic T_40_111 ?_
            refine x_li (z := v2) T_40_112 rfl ?_
            refine z_aI hP T_40_113 hA (by omega) (by omega) (fun σ hP => ?_)
            refine x_lr (z := some S) T_40_114 rfl ?_
            refine x_gR (z := some rp) T_40_115 F_7_10 (hP.o hO) (Eq.trans (hP.rm hO rfl (key := 2234) rfl) r2) ?_
            refine x_li (z := v2) T_40_118 rfl ?_
            refine x_i2l T_40_119 ?_
            refine x_ic T_40_120 ?_
            refine x_cv3 T_40_121 mN_22 mL_22 (Nat.le_of_ble_eq_true rfl) mO_22 (hP.o hro1) (Nat.le_of_ble_eq_true rfl) (hpu σ hP) ?_
            clear hP hpu
            rintro _ σ ⟨rfl, W3, hP, hB4, hF4⟩
            refine cV ?_
            refine x_lr (z := some S) T_40_124 rfl ?_
            refine x_gR (z := some rp) T_40_125 F_7_10 (hP.o hO) (Eq.trans (hP.rm hO rfl (key := 2234) rfl) r2) ?_
            refine x_lr (z := some S) T_40_128 rfl ?_
            refine x_gR (z := some mb) T_40_129 F_7_9 (hP.o hO) (Eq.trans (hP.rm hO rfl (key := 2233) rfl) r1) ?_
            refine x_ic T_40_132 ?_
            refine x_ic T_40_134 ?_
            refine x_sta T_40_136 rfl ?_
            refine x_cv4 T_40_138 mN_47 mL_47 (Nat.le_of_ble_eq_true rfl) mO_47 (hP.o hbo) (Nat.le_of_ble_eq_true rfl) (hsp σ W3 hP hF4) ?_
            rintro _ σ ⟨rfl, rfl⟩
            refine cI ?_
            refine x_if T_40_141 (fun _ => ?_) (fun h => absurd (show (0 : Int) = 0 by decide) h)
            refine x_sta T_40_149 rfl ?_
            refine x_cv2 T_40_151 mN_23 mL_23 (Nat.le_of_ble_eq_true rfl) mO_23 (hP.o hro1) (Nat.le_of_ble_eq_true rfl) (h3 σ W3 hP hB4) ?_
            clear hP hsp
            rintro _ σ ⟨rfl, W4, hP, hB5, hF5⟩
            refine cV ?_
            refine x_ic T_40_154 ?_
            refine x_ri T_40_155 ?_
            exact hend σ W4 _ hP hB5 (FB_tr hF4 hF5) rfl
      by_cases q3 : v ≤ 300
      · have g := go v (Or.inl rfl) (by rw [← hwv]; split <;> omega) σ hP
        refine x_ll (z := v) T_40_79 rfl ?_
        refine x_lc T_40_80 ?_
        refine x_lif T_40_83 T_40_84 (fun _ => ?_) (fun h => absurd (show v ≤ 300 by omega) h)
        refine x_ll (z := v) T_40_93 rfl ?_
        refine x_l2i (w := v) T_40_94 (w32_id (by omega) (by omega)) ?_
        exact g
      · have g := go 300 (Or.inr rfl) (by rw [← hwv]; split <;> omega) σ hP
        refine x_ll (z := v) T_40_79 rfl ?_
        refine x_lc T_40_80 ?_
        refine x_lif T_40_83 T_40_84 (fun h => absurd (show v ≤ 300 from h) (by omega)) (fun _ => ?_)
        refine x_ic T_40_87 ?_
        refine x_goto T_40_90 ?_
        exact g
    have hlo := x_ver_loop (fb := fb) (d := d + 3) (v := v) hS hc hfin 48 T P W R ord t none 0 σ (by decide) (by decide) hP hX hK FV_rfl hG hD (by omega) hcn rfl
    refine CL_in mL_40 rfl ?_
    show WP fb _ 40 0 [some (vR (some S)), none, none, none, none] [] σ _
    refine x_lr (z := some S) T_40_0 rfl ?_
    refine x_gR (z := some mb) T_40_1 F_7_9 (hP.o hO) (Eq.trans (hP.rm hO rfl (key := 2233) rfl) hr) ?_
    refine x_ic T_40_4 ?_
    refine x_ic T_40_6 ?_
    refine x_cv3 T_40_7 mN_29 mL_29 (Nat.le_of_ble_eq_true rfl) mO_29 (hP.o hbo) (Nat.le_of_ble_eq_true rfl) (h1) ?_
    rintro _ σ ⟨rfl, rfl⟩
    refine cL ?_
    refine x_sl (ls1 := [some (vR (some S)), some (vL v), none, none, none]) T_40_10 rfl ?_
    refine x_ll (z := v) T_40_11 rfl ?_
    refine x_lc T_40_12 ?_
    refine x_lif T_40_15 T_40_16 (fun _ => ?_) (fun h => absurd (show 64 ≤ v by omega) h)
    refine x_ic T_40_22 ?_
    refine x_si (ls1 := [some (vR (some S)), some (vL v), none, some (vI 0), none]) T_40_23 rfl ?_
    exact hlo
end XVER
