/-! The class's kernel: what it asks, one message at a time; where a group's points are. -/
theorem T_129_0 : hTab 129 0 = some ((0, 0, 0, []), 1) := rfl
theorem T_129_1 : hTab 129 1 = some ((4, 3, 0, []), 2) := rfl
theorem T_129_2 : hTab 129 2 = some ((3, 3, 0, []), 3) := rfl
theorem T_129_3 : hTab 129 3 = some ((3, 0, 2, []), 4) := rfl
theorem T_129_4 : hTab 129 4 = some ((24, 3, Int.ofNat 1, []), 7) := rfl
theorem T_129_7 : hTab 129 7 = some ((19, 3, Int.ofNat 55, []), 10) := rfl
theorem T_129_10 : hTab 129 10 = some ((3, 3, 0, []), 11) := rfl
theorem T_129_11 : hTab 129 11 = some ((0, 0, 8, []), 13) := rfl
theorem T_129_13 : hTab 129 13 = some ((19, 3, Int.ofNat 55, []), 16) := rfl
theorem T_129_16 : hTab 129 16 = some ((3, 0, 2, []), 17) := rfl
theorem T_129_17 : hTab 129 17 = some ((24, 3, Int.ofNat 0, []), 20) := rfl
theorem T_129_20 : hTab 129 20 = some ((3, 3, 0, []), 21) := rfl
theorem T_129_21 : hTab 129 21 = some ((26, 10, 0, []), 22) := rfl
theorem T_129_22 : hTab 129 22 = some ((24, 4, Int.ofNat 1, []), 25) := rfl
theorem T_129_25 : hTab 129 25 = some ((3, 1, 0, []), 26) := rfl
theorem T_129_26 : hTab 129 26 = some ((19, 1, Int.ofNat 49, []), 29) := rfl
theorem T_129_29 : hTab 129 29 = some ((3, 0, 2, []), 30) := rfl
theorem T_129_30 : hTab 129 30 = some ((24, 3, Int.ofNat 0, []), 33) := rfl
theorem T_129_33 : hTab 129 33 = some ((3, 3, 0, []), 34) := rfl
theorem T_129_34 : hTab 129 34 = some ((26, 10, 0, []), 35) := rfl
theorem T_129_35 : hTab 129 35 = some ((24, 4, Int.ofNat 2, []), 38) := rfl
theorem T_129_38 : hTab 129 38 = some ((3, 2, 0, []), 39) := rfl
theorem T_129_39 : hTab 129 39 = some ((19, 1, Int.ofNat 49, []), 42) := rfl
theorem T_129_42 : hTab 129 42 = some ((3, 0, 2, []), 43) := rfl
theorem T_129_43 : hTab 129 43 = some ((24, 3, Int.ofNat 0, []), 46) := rfl
theorem T_129_46 : hTab 129 46 = some ((3, 3, 0, []), 47) := rfl
theorem T_129_47 : hTab 129 47 = some ((26, 10, 0, []), 48) := rfl
theorem T_129_48 : hTab 129 48 = some ((33, 4, 0, []), 49) := rfl
theorem T_129_49 : hTab 129 49 = some ((5, 3, 1, []), 52) := rfl
theorem T_129_52 : hTab 129 52 = some ((22, 0, Int.ofNat 2, []), 55) := rfl
theorem T_129_55 : hTab 129 55 = some ((2, 0, 0, []), 56) := rfl
theorem T_129_56 : hTab 129 56 = some ((33, 4, 0, []), 57) := rfl
theorem T_132_0 : hTab 132 0 = some ((3, 0, 2, []), 1) := rfl
theorem T_132_1 : hTab 132 1 = some ((3, 1, 2, []), 2) := rfl
theorem T_132_2 : hTab 132 2 = some ((24, 5, Int.ofNat 0, []), 5) := rfl
theorem T_132_5 : hTab 132 5 = some ((31, 122, 0, []), 8) := rfl
theorem T_132_8 : hTab 132 8 = some ((0, 0, 0, []), 9) := rfl
theorem T_132_9 : hTab 132 9 = some ((3, 0, 2, []), 10) := rfl
theorem T_132_10 : hTab 132 10 = some ((0, 0, 120, []), 12) := rfl
theorem T_132_12 : hTab 132 12 = some ((3, 1, 2, []), 13) := rfl
theorem T_132_13 : hTab 132 13 = some ((24, 5, Int.ofNat 1, []), 16) := rfl
theorem T_132_16 : hTab 132 16 = some ((31, 131, 0, []), 19) := rfl
theorem T_132_19 : hTab 132 19 = some ((3, 0, 2, []), 20) := rfl
theorem T_132_20 : hTab 132 20 = some ((24, 1, Int.ofNat 2, []), 23) := rfl
theorem T_132_23 : hTab 132 23 = some ((31, 26, 0, []), 26) := rfl
theorem T_132_26 : hTab 132 26 = some ((33, 1, 0, []), 27) := rfl
theorem F_1_2 : (hFd 1 2).2.2.1 = 4 := rfl
theorem F_4_1 : (hFd 4 1).2.2.1 = 0 := rfl
theorem F_4_2 : (hFd 4 2).2.2.1 = 0 := rfl
theorem mN_129 : hmN 129 = 3 := by decide +kernel
theorem mL_129 : hmL 129 = 4 := by decide +kernel
theorem mK_129 : hmK 129 = 1 := by decide +kernel
theorem mO_129 : hmO 129 = 3 := by decide +kernel
theorem mN_132 : hmN 132 = 2 := by decide +kernel
theorem mL_132 : hmL 132 = 2 := by decide +kernel
theorem mK_132 : hmK 132 = 1 := by decide +kernel
theorem mO_132 : hmO 132 = 1 := by decide +kernel
/-- all that holds, and the answer's row -/
def XW (K T U : Int) (W : qR) (R : rR) (P : qR) : Prop := XR K T U W R P ∧ ∃ l0, BY W 134 300 l0
/-- what messages leave: the groups, points, processes, openings, the commands and the shell -/
def FA (W W2 : qR) (R R2 : rR) : Prop := (∀ (x : Nat) (k : Int), 128 ≤ x → (x < 1293 ∨ 2175 ≤ x) → x < 2372 → ¬ (x = 134 ∧ k = 2065) → ¬ (x = 135 ∧ k < 2000) → ¬ (x = 138 ∧ k = 2065) → ¬ (x = 139 ∧ k < 2000) → ¬ (x = 129 ∧ (k = 2035 ∨ k = 2036 ∨ k = 2037)) → ¬ ioP x k → ¬ (149 ≤ x ∧ x < 229) → W2 x k = W x k) ∧ ∀ (x : Nat) (k : Int), (x < 1293 ∨ 2175 ≤ x) → R2 x k = R x k
/-- a channel's object -/
def CHX (W : qR) (R : rR) (c : Nat) (x : Ch) : Prop := W c 2160 = x.1 ∧ W c 2161 = x.2.1 ∧ W c 2162 = x.2.2.1 ∧ W c 2163 = (if x.2.2.2.1 = 128 then 1 else 0) ∧ R c 2164 = (if x.2.2.2.2 < 0 then none else R (grO (x.2.2.2.2 / 8) + 1) (x.2.2.2.2 % 8))
abbrev XE (σ0 : hM) (K T U : Int) (W : qR) (R : rR) (e : Int) (Q : qR) : Option AV → hM → Prop := fun r σ' => r = some (vI e) ∧ ∃ W2 R2, PX σ0 W2 R2 σ' ∧ XW K T U W2 R2 Q ∧ FA W W2 R R2
abbrev XF (σ0 : hM) (K T U : Int) (W : qR) (R : rR) (e : Int) (Q : qR) (A : List Int) : Option AV → hM → Prop := fun r σ' => r = some (vI e) ∧ ∃ W2 R2, PX σ0 W2 R2 σ' ∧ XW K T U W2 R2 Q ∧ BY W2 134 300 A ∧ FVS 134 W W2 R R2
section XASK
variable {fb : Bool} {d S b c q n m : Nat} {σ0 σ : hM} {W W1 W2 W3 P Q : qR} {R R1 R2 R3 : rR} {i j k x z v s e w f g u p K T U t many : Int} {l l0 lo nm M A : List Int} {r : Option Nat} {ch : Ch}
theorem FA_rfl : FA W W R R := ⟨fun _ _ _ _ _ _ _ _ _ _ _ _ => rfl, fun _ _ _ => rfl⟩
theorem FA_tr (h1 : FA W W1 R R1) (h2 : FA W1 W2 R1 R2) : FA W W2 R R2 := ⟨fun x k a b c d e f g h i j => (h2.1 x k a b c d e f g h i j).trans (h1.1 x k a b c d e f g h i j), fun x k a => (h2.2 x k a).trans (h1.2 x k a)⟩
theorem FA_fr (h : FR1 W W2) : FA W W2 R R := ⟨fun x k _ _ _ _ _ a b c _ _ => h x k a b (fun q => c ⟨q.1, Or.inr (Or.inr q.2)⟩), fun _ _ _ => rfl⟩
theorem FA_fs (h : FVS 134 W W2 R R2) : FA W W2 R R2 := ⟨fun x k a b c d e _ _ f g i => h.1 x k a b c d (fun q => e ⟨by omega, q.2⟩) g i (fun q => f ⟨q.1, by omega⟩), h.2⟩
theorem FA.by (h : FA W W2 R R2) (hB : BY W b n l) (hb : b + 1 < 1293 ∨ 2175 ≤ b) (h1 : b ≠ 134 ∧ b ≠ 138 ∧ b ≠ 130 ∧ b ≠ 132) (h2 : b < 148 ∨ 229 ≤ b) : BY W2 b n l := by
  obtain ⟨a1, a2, a3, a4, a5, a6, a7⟩ := hB
  have h0 := tX_o a1
  have h3 := a2.2
  refine ⟨a1, a2, a3, (h.1 _ _ h0.1 (by omega) (by omega) (by omega) (by omega) (by omega) (by omega) (by omega) (fun c => by unfold ioP at c; omega) (by omega)).trans a4, a5, a6, fun i i0 i1 => (h.1 _ _ (by omega) (by omega) (by omega) (by omega) (by omega) (by omega) (by omega) (by omega) (fun c => by unfold ioP at c; omega) (by omega)).trans (a7 i i0 i1)⟩
/-- groups, points, processes .. stay -/
theorem FA.ns (h : FA W W2 R R2) : (∀ (x : Nat) (k : Int), 229 ≤ x → x < 1293 → k ≠ 2198 → W2 x k = W x k) ∧ ∀ (x : Nat) (k : Int), 229 ≤ x → x < 1293 → R2 x k = R x k := ⟨fun x k x0 x1 hk => h.1 x k (by omega) (Or.inl x1) (by omega) (by omega) (by omega) (by omega) (by omega) (by omega) (fun c => by unfold ioP at c; omega) (by omega), fun x k _ x1 => h.2 x k (Or.inl x1)⟩
theorem FA.cm (h : FA W W2 R R2) : (∀ (x : Nat) (k : Int), 2175 ≤ x → x < 2372 → k ≠ 2198 → W2 x k = W x k) ∧ ∀ (x : Nat) (k : Int), 2175 ≤ x → R2 x k = R x k := ⟨fun x k x0 x1 hk => h.1 x k (by omega) (Or.inr x0) x1 (by omega) (by omega) (by omega) (by omega) (by omega) (fun c => by unfold ioP at c; omega) (by omega), fun x k x0 => h.2 x k (Or.inr x0)⟩
theorem XR.fr1 (h : XR K T U W R P) (hF : FR1 W W2) : XR K T U W2 R P := by
  obtain ⟨⟨a1, a2, a3⟩, x2, x3, x4, x5, x6, x7⟩ := h
  have h6 := XQ.len7 ⟨a1, a2, a3⟩ x5.1
  refine ⟨⟨fun s s0 s1 => ?_, a2.fv (hF 0 0 (by omega) (by omega) (by omega)) (hF 0 1 (by omega) (by omega) (by omega)) (fun _ => rfl), ?_⟩, ?_, x3.fr x4.iv (fun x k x0 _ _ => hF x k (by omega) (by omega) (by omega)) (fun _ _ _ _ => rfl) (fun _ _ _ => rfl), x4, x5, x6, x7⟩
  · obtain ⟨o, t, h⟩ := a1 s s0 s1
    exact ⟨o, t, h.fr (fun x k _ _ => hF x k (by omega) (by omega) (by omega)) (fun _ _ _ _ => rfl) (fun _ c k _ _ _ q => hF c k (by omega) (by omega) (by omega)) (fun n q => h6 s n s0 q)⟩
  · obtain ⟨b1, b2, b3⟩ := a3
    exact ⟨hF.by b1 (by decide), hF.by b2 (by decide), fun p p0 p1 => (hF _ _ (by omega) (by omega) (by omega)).trans (b3 p p0 p1)⟩
  · obtain ⟨b1, b2, b3⟩ := x2
    exact ⟨(hF _ _ (by decide) (by decide) (by decide)).trans b1, (hF _ _ (by decide) (by decide) (by decide)).trans b2, fun i i0 i1 => ⟨(b3 i i0 i1).1, hF.by (b3 i i0 i1).2 (by omega)⟩⟩
theorem XW.fr1 (h : XW K T U W R P) (hF : FR1 W W2) : XW K T U W2 R P := by
  obtain ⟨l0, h0⟩ := h.2
  exact ⟨h.1.fr1 hF, l0, hF.by h0 (by decide)⟩
theorem XW.mono {T2 : Int} (h : XW K T U W R P) (hT : T ≤ T2) : XW K T2 U W R P := by
  obtain ⟨⟨x1, x2, x3, x4, x5, x6, x7⟩, h2⟩ := h
  exact ⟨⟨x1, x2, x3, x4.mono hT, x5, x6, x7⟩, h2⟩
/-- a message that was made is asked -/
theorem x_askM (hP : PX σ0 W R σ) (hX : XW K T U W R P) (hT : T + 110 ≤ 2147483000) (hs : 0 ≤ s ∧ s < 3) (hB : BY W 138 300 (mFr M)) (hM1 : 3 ≤ M.length ∧ M.length ≤ 296) (hM2 : lg M 0 ≠ 100) (h1 : lg M 0 = 104 → nu (msgA M) 7 4 ≤ 47) (h2 : lg M 0 = 110 → nu (msgA M) 11 4 ≤ 47) : CL fb (d + 7) 26 [vR (some (1293 + 294 * s.toNat)), vI 0, vR (some 138), vR (some 134)] σ (XF σ0 K (T + 4) U W R (tE P s M) (tP P s M) (tA P s M)) := by
  obtain ⟨l0, h0⟩ := hX.2
  refine (x_ask (fb := fb) (d := d) hP hX.1 hT hs hB hM1 hM2 h1 h2 h0).mono ?_
  rintro r σ' ⟨rfl, W2, R2, g1, g2, g3, g4⟩
  exact ⟨rfl, W2, R2, g1, ⟨g2, _, g3⟩, g3, g4⟩
/-- .. where it wants a new fid -/
theorem x_askN (hP : PX σ0 W R σ) (hX : XW K T U W R P) (hT : T + 110 ≤ 2147483000) (hs : 0 ≤ s ∧ s < 3) (hB : BY W 138 300 (mFr M)) (hM1 : 3 ≤ M.length ∧ M.length ≤ 296) (hM2 : lg M 0 ≠ 100) (hg : ¬ g < 0 → (lg M 0 = 104 → nu (msgA M) 7 4 ≤ 47) ∧ (lg M 0 = 110 → nu (msgA M) 11 4 ≤ 47)) : CL fb (d + 7) 26 [vR (some (1293 + 294 * s.toNat)), vI 0, vR (if g < 0 then none else some 138), vR (some 134)] σ (fun r σ' => r = some (vI (if g < 0 then 12 else tE P s M)) ∧ ∃ W2 R2, PX σ0 W2 R2 σ' ∧ XW K (T + 4) U W2 R2 (if g < 0 then P else tP P s M) ∧ (¬ g < 0 → BY W2 134 300 (tA P s M)) ∧ FVS 134 W W2 R R2) := by
  by_cases q : g < 0
  · rw [if_pos q]
    have hO : tX (1293 + 294 * s.toNat) = some (Sum.inl 7) := VS.o (S := 1293 + 294 * s.toNat) (s := s) ⟨hs, rfl⟩
    refine (x_serve_null (fb := fb) (d := d + 7) (c := 0) (rp := 134) (x := none) hP hO).mono ?_
    rintro r σ' ⟨rfl, rfl⟩
    exact ⟨by rw [if_pos q], W, R, hP, by rw [if_pos q]; exact hX.mono (by omega), fun c => absurd q c, FVS_rfl⟩
  · rw [if_neg q]
    refine (x_askM (fb := fb) (d := d) hP hX hT hs hB hM1 hM2 (hg q).1 (hg q).2).mono ?_
    rintro r σ' ⟨rfl, W2, R2, g1, g2, g3, g4⟩
    exact ⟨by rw [if_neg q], W2, R2, g1, by rw [if_neg q]; exact g2, fun _ => g3, g4⟩
theorem mOne_ok (ht : t = 120 ∨ t = 122 ∨ t = 124) : (3 ≤ (mOne t f).length ∧ (mOne t f).length ≤ 296) ∧ lg (mOne t f) 0 ≠ 100 ∧ (lg (mOne t f) 0 = 104 → nu (msgA (mOne t f)) 7 4 ≤ 47) ∧ (lg (mOne t f) 0 = 110 → nu (msgA (mOne t f)) 11 4 ≤ 47) := by
  have e : lg (mOne t f) 0 = t % 256 := rfl
  have el : (mOne t f).length = 7 := by unfold mOne; rw [List.length_append, List.length_append, leb_len, leb_len, leb_len]
  rw [e]
  exact ⟨⟨by omega, by omega⟩, by omega, fun c => by omega, fun c => by omega⟩
/-- a channel is clunked -/
theorem x_clunkK (hP : PX σ0 W R σ) (hX : XW K T U W R P) (hT : T + 110 ≤ 2147483000) (hc : tX c = some (Sum.inl 5)) (hs0 : W c 2160 = s) (hf0 : W c 2161 = f) (hs : 0 ≤ s ∧ s < 3) (hf : 0 ≤ f ∧ f ≤ 47) : CL fb (d + 8) 132 [vR (some 129), vR (some c)] σ (XE σ0 K (T + 4) U W R (tE P s (mOne 120 f)) (tP P s (mOne 120 f))) := by
  have hho := x_host (fb := fb) (d := d + 7) (s := s) hP hs
  have hab := x_about (fb := fb) (d := d + 4) (t := 120) (f := f) hP (by decide) ⟨by omega, by omega⟩
  obtain ⟨m1, m2, m3, m4⟩ := mOne_ok (t := 120) (f := f) (Or.inl rfl)
  have hak := fun (σ : hM) (W2 : qR) (hP : PX σ0 W2 R σ) (hF : FR1 W W2) (hB : BY W2 138 300 (mFr (mOne 120 f))) => x_askM (fb := fb) (d := d) hP (hX.fr1 hF) hT hs hB m1 m2 m3 m4
  have hO : tX (1293 + 294 * s.toNat) = some (Sum.inl 7) := VS.o (S := 1293 + 294 * s.toNat) (s := s) ⟨hs, rfl⟩
  obtain ⟨e, he⟩ : ∃ q, tE P s (mOne 120 f) = q := ⟨_, rfl⟩
  obtain ⟨sv, hsv⟩ : ∃ q, 1293 + 294 * s.toNat = q := ⟨_, rfl⟩
  rw [hsv] at hho hO
  simp only [he, hsv] at hak
  rw [he]
  refine CL_in mL_132 rfl ?_
  show WP fb _ 132 0 [some (vR (some 129)), some (vR (some c))] [] σ _
  refine x_lr (z := some 129) T_132_0 rfl ?_
  refine x_lr (z := some c) T_132_1 rfl ?_
  refine x_gI (z := s) T_132_2 (Or.inl F_5_0) (hP.o hc) (Eq.trans (hP.gi hc (key := 2160) rfl) hs0) ?_
  refine x_cv2 T_132_5 mN_122 mL_122 (Nat.le_of_ble_eq_true rfl) mO_122 (hP.o xo_129) (Nat.le_of_ble_eq_true rfl) (hho) ?_
  rintro _ σ ⟨rfl, rfl⟩
  refine cR ?_
  refine x_ic T_132_8 ?_
  refine x_lr (z := some 129) T_132_9 rfl ?_
  refine x_ic T_132_10 ?_
  refine x_lr (z := some c) T_132_12 rfl ?_
  refine x_gI (z := f) T_132_13 (Or.inl F_5_1) (hP.o hc) (Eq.trans (hP.gi hc (key := 2161) rfl) hf0) ?_
  refine x_cv3 T_132_16 mN_131 mL_131 (Nat.le_of_ble_eq_true rfl) mO_131 (hP.o xo_129) (Nat.le_of_ble_eq_true rfl) (hab) ?_
  clear hP hab
  rintro _ σ ⟨rfl, W2, hP, hB2, hF2⟩
  refine cR ?_
  refine x_lr (z := some 129) T_132_19 rfl ?_
  refine x_gR (z := some 134) T_132_20 F_1_2 (hP.o xo_129) (hP.rc xo_129 rfl rfl) ?_
  refine x_cv4 T_132_23 mN_26 mL_26 (Nat.le_of_ble_eq_true rfl) mO_26 (hP.o hO) (Nat.le_of_ble_eq_true rfl) (hak σ W2 hP hF2 hB2) ?_
  clear hP hak
  rintro _ σ ⟨rfl, W3, R3, hP, hX3, hB3, hF3⟩
  refine cI ?_
  refine x_ri T_132_26 ?_
  exact ⟨rfl, W3, R3, hP, hX3, FA_tr (FA_fr hF2) (FA_fs hF3)⟩
/-- where a group has a point -/
theorem x_pointAt_loop {path : Int} (hP : PX σ0 W R σ) (hX : XGR W R P g) (hg : 0 ≤ g ∧ g < 8) (hpb : 0 ≤ P 2334 g ∧ P 2334 g ≤ 8) : ∀ (m : Nat) (k : Int), k + m = P 2334 g → 0 ≤ k → WP fb d 129 2 [some (vR (some (grO g))), some (vI s), some (vI path), some (vI k)] [] σ (rPR (if poF P s path m (8 * g + k) < 0 then none else R (grO g + 1) (poF P s path m (8 * g + k) - 8 * g)) σ) := by
  have ho := grO_o hg
  have hA := grO_a hg
  have hc := hX.1
  obtain ⟨a, ha⟩ : ∃ a, grO g = a := ⟨_, rfl⟩
  obtain ⟨v, hv⟩ : ∃ v, P 2334 g = v := ⟨_, rfl⟩
  rw [ha, hv] at hc
  rw [ha] at ho hA
  rw [hv] at hpb
  intro m
  induction m with
  | zero =>
    intro k h1 h2
    have h1 : k + ((0 : Nat) : Int) = v := by rw [← hv]; exact h1
    rw [show poF P s path 0 (8 * g + k) = -1 from rfl, if_pos (by decide), ha]
    refine x_li (z := k) T_129_2 rfl ?_
    refine x_lr (z := some a) T_129_3 rfl ?_
    refine x_gI (z := v) T_129_4 (Or.inl F_3_1) (hP.o ho) (Eq.trans (hP.gi ho (key := 2097) rfl) hc) ?_
    refine x_ic2 T_129_7 (fun _ => ?_) (fun h => absurd (show v ≤ k by omega) h)
    refine x_nu T_129_55 ?_
    refine x_rr T_129_56 ?_
    exact ⟨rfl, rfl⟩
  | succ m ih =>
    intro k h1 h2
    have h1 : k + ((m + 1 : Nat) : Int) = v := by rw [← hv]; exact h1
    obtain ⟨i, hi, hrow⟩ := hX.pt (k := k) ⟨h2, by omega⟩
    obtain ⟨y, hy0, hy1, hy2, hy3, -⟩ := hX.2.2.2.2 k h2 (by omega)
    have hpo := ptO_o hg hi
    have ey : y = grO g + 2 + 8 * i := Option.some.inj (hy0.symm.trans hrow)
    rw [← ey] at hpo
    have ef : poF P s path (m + 1) (8 * g + k) = if P 2335 (8 * g + k) = s ∧ P 2336 (8 * g + k) = path then 8 * g + k else poF P s path m (8 * g + k + 1) := rfl
    have hgo := ih (k + 1) (by omega) (by omega)
    rw [show 8 * g + (k + 1) = 8 * g + k + 1 by omega] at hgo
    rw [ha] at hy0 hgo ⊢
    obtain ⟨s2, hs2⟩ : ∃ q, P 2335 (8 * g + k) = q := ⟨_, rfl⟩
    obtain ⟨p2, hp2⟩ : ∃ q, P 2336 (8 * g + k) = q := ⟨_, rfl⟩
    rw [hs2] at hy1
    rw [hp2] at hy2
    rw [hs2, hp2] at ef
    by_cases q1 : s2 = s
    · by_cases q2 : p2 = path
      · rw [if_pos ⟨q1, q2⟩] at ef
        rw [ef, if_neg (show ¬ 8 * g + k < 0 by omega), show 8 * g + k - 8 * g = k by omega, hy0]
        refine x_li (z := k) T_129_2 rfl ?_
        refine x_lr (z := some a) T_129_3 rfl ?_
        refine x_gI (z := v) T_129_4 (Or.inl F_3_1) (hP.o ho) (Eq.trans (hP.gi ho (key := 2097) rfl) hc) ?_
        refine x_ic2 T_129_7 (fun h => absurd (show v ≤ k from h) (by omega)) (fun _ => ?_)
        refine x_li (z := k) T_129_10 rfl ?_
        refine x_ic T_129_11 ?_
        refine x_ic2 T_129_13 (fun h => absurd (show 8 ≤ k from h) (by omega)) (fun _ => ?_)
        refine x_lr (z := some a) T_129_16 rfl ?_
        refine x_gR (z := some (a + 1)) T_129_17 F_3_0 (hP.o ho) (hP.rc ho rfl rfl) ?_
        refine x_li (z := k) T_129_20 rfl ?_
        refine x_alR (z := some y) T_129_21 (hP.ta hA) (by decide) (by omega) (by omega) (Eq.trans (hP.arm hA rfl (by omega)) hy0) ?_
        refine x_gI (z := s2) T_129_22 (Or.inl F_4_1) (hP.o hpo) (Eq.trans (hP.gi hpo (key := 2129) rfl) hy1) ?_
        refine x_li (z := s) T_129_25 rfl ?_
        refine x_ic2 T_129_26 (fun h => absurd (show ¬ s2 = s from h) (by omega)) (fun _ => ?_)
        refine x_lr (z := some a) T_129_29 rfl ?_
        refine x_gR (z := some (a + 1)) T_129_30 F_3_0 (hP.o ho) (hP.rc ho rfl rfl) ?_
        refine x_li (z := k) T_129_33 rfl ?_
        refine x_alR (z := some y) T_129_34 (hP.ta hA) (by decide) (by omega) (by omega) (Eq.trans (hP.arm hA rfl (by omega)) hy0) ?_
        refine x_gI (z := p2) T_129_35 (Or.inl F_4_2) (hP.o hpo) (Eq.trans (hP.gi hpo (key := 2130) rfl) hy2) ?_
        refine x_li (z := path) T_129_38 rfl ?_
        refine x_ic2 T_129_39 (fun h => absurd (show ¬ p2 = path from h) (by omega)) (fun _ => ?_)
        refine x_lr (z := some a) T_129_42 rfl ?_
        refine x_gR (z := some (a + 1)) T_129_43 F_3_0 (hP.o ho) (hP.rc ho rfl rfl) ?_
        refine x_li (z := k) T_129_46 rfl ?_
        refine x_alR (z := some y) T_129_47 (hP.ta hA) (by decide) (by omega) (by omega) (Eq.trans (hP.arm hA rfl (by omega)) hy0) ?_
        refine x_rr T_129_48 ?_
        exact ⟨rfl, rfl⟩
      · rw [if_neg (fun c => q2 c.2)] at ef
        rw [ef]
        refine x_li (z := k) T_129_2 rfl ?_
        refine x_lr (z := some a) T_129_3 rfl ?_
        refine x_gI (z := v) T_129_4 (Or.inl F_3_1) (hP.o ho) (Eq.trans (hP.gi ho (key := 2097) rfl) hc) ?_
        refine x_ic2 T_129_7 (fun h => absurd (show v ≤ k from h) (by omega)) (fun _ => ?_)
        refine x_li (z := k) T_129_10 rfl ?_
        refine x_ic T_129_11 ?_
        refine x_ic2 T_129_13 (fun h => absurd (show 8 ≤ k from h) (by omega)) (fun _ => ?_)
        refine x_lr (z := some a) T_129_16 rfl ?_
        refine x_gR (z := some (a + 1)) T_129_17 F_3_0 (hP.o ho) (hP.rc ho rfl rfl) ?_
        refine x_li (z := k) T_129_20 rfl ?_
        refine x_alR (z := some y) T_129_21 (hP.ta hA) (by decide) (by omega) (by omega) (Eq.trans (hP.arm hA rfl (by omega)) hy0) ?_
        refine x_gI (z := s2) T_129_22 (Or.inl F_4_1) (hP.o hpo) (Eq.trans (hP.gi hpo (key := 2129) rfl) hy1) ?_
        refine x_li (z := s) T_129_25 rfl ?_
        refine x_ic2 T_129_26 (fun h => absurd (show ¬ s2 = s from h) (by omega)) (fun _ => ?_)
        refine x_lr (z := some a) T_129_29 rfl ?_
        refine x_gR (z := some (a + 1)) T_129_30 F_3_0 (hP.o ho) (hP.rc ho rfl rfl) ?_
        refine x_li (z := k) T_129_33 rfl ?_
        refine x_alR (z := some y) T_129_34 (hP.ta hA) (by decide) (by omega) (by omega) (Eq.trans (hP.arm hA rfl (by omega)) hy0) ?_
        refine x_gI (z := p2) T_129_35 (Or.inl F_4_2) (hP.o hpo) (Eq.trans (hP.gi hpo (key := 2130) rfl) hy2) ?_
        refine x_li (z := path) T_129_38 rfl ?_
        refine x_ic2 T_129_39 (fun _ => ?_) (fun h => absurd (show ¬ p2 = path by omega) h)
        refine x_inc (w := (k + 1)) (ls1 := [some (vR (some a)), some (vI s), some (vI path), some (vI (k + 1))]) T_129_49 rfl (w32_id (by omega) (by omega)) rfl ?_
        refine x_goto T_129_52 ?_
        exact hgo
    · rw [if_neg (fun c => q1 c.1)] at ef
      rw [ef]
      refine x_li (z := k) T_129_2 rfl ?_
      refine x_lr (z := some a) T_129_3 rfl ?_
      refine x_gI (z := v) T_129_4 (Or.inl F_3_1) (hP.o ho) (Eq.trans (hP.gi ho (key := 2097) rfl) hc) ?_
      refine x_ic2 T_129_7 (fun h => absurd (show v ≤ k from h) (by omega)) (fun _ => ?_)
      refine x_li (z := k) T_129_10 rfl ?_
      refine x_ic T_129_11 ?_
      refine x_ic2 T_129_13 (fun h => absurd (show 8 ≤ k from h) (by omega)) (fun _ => ?_)
      refine x_lr (z := some a) T_129_16 rfl ?_
      refine x_gR (z := some (a + 1)) T_129_17 F_3_0 (hP.o ho) (hP.rc ho rfl rfl) ?_
      refine x_li (z := k) T_129_20 rfl ?_
      refine x_alR (z := some y) T_129_21 (hP.ta hA) (by decide) (by omega) (by omega) (Eq.trans (hP.arm hA rfl (by omega)) hy0) ?_
      refine x_gI (z := s2) T_129_22 (Or.inl F_4_1) (hP.o hpo) (Eq.trans (hP.gi hpo (key := 2129) rfl) hy1) ?_
      refine x_li (z := s) T_129_25 rfl ?_
      refine x_ic2 T_129_26 (fun _ => ?_) (fun h => absurd (show ¬ s2 = s by omega) h)
      refine x_inc (w := (k + 1)) (ls1 := [some (vR (some a)), some (vI s), some (vI path), some (vI (k + 1))]) T_129_49 rfl (w32_id (by omega) (by omega)) rfl ?_
      refine x_goto T_129_52 ?_
      exact hgo
theorem x_pointAt {path : Int} (hP : PX σ0 W R σ) (hX : XN W R P) (hI : IV false T U P) (hp : 0 ≤ p ∧ p < 8) : CL fb d 129 [vR (some (grO (P 2323 p))), vI s, vI path] σ (rPR (if qPoint P p s path < 0 then none else R (grO (P 2323 p) + 1) (qPoint P p s path - 8 * P 2323 p)) σ) := by
  have hg : 0 ≤ P 2323 p ∧ P 2323 p ≤ 7 := IV.a hI 2323 0 8 rfl rfl rfl (by omega) (by omega)
  have hpb : 0 ≤ P 2334 (P 2323 p) ∧ P 2334 (P 2323 p) ≤ 8 := IV.a hI 2334 0 8 rfl rfl rfl (by omega) (by omega)
  have h := x_pointAt_loop (fb := fb) (d := d) (s := s) (path := path) hP (hX.2.1 _ hg.1 (by omega)) ⟨hg.1, by omega⟩ hpb (P 2334 (P 2323 p)).toNat 0 (by omega) (by decide)
  rw [Int.add_zero] at h
  have h : WP fb d 129 2 [some (vR (some (grO (P 2323 p)))), some (vI s), some (vI path), some (vI 0)] [] σ (rPR (if qPoint P p s path < 0 then none else R (grO (P 2323 p) + 1) (qPoint P p s path - 8 * P 2323 p)) σ) := h
  obtain ⟨a, ha⟩ : ∃ a, grO (P 2323 p) = a := ⟨_, rfl⟩
  rw [ha] at h ⊢
  refine CL_in mL_129 rfl ?_
  show WP fb _ 129 0 [some (vR (some a)), some (vI s), some (vI path), none] [] σ _
  refine x_ic T_129_0 ?_
  refine x_si (ls1 := [some (vR (some a)), some (vI s), some (vI path), some (vI 0)]) T_129_1 rfl ?_
  exact h
end XASK
