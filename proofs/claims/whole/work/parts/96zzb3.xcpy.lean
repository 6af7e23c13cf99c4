/-! The class's kernel: a channel is copied; where a point's new files go. -/
theorem T_141_0 : hTab 141 0 = some ((3, 0, 2, []), 1) := rfl
theorem T_141_1 : hTab 141 1 = some ((3, 1, 2, []), 2) := rfl
theorem T_141_2 : hTab 141 2 = some ((24, 5, Int.ofNat 0, []), 5) := rfl
theorem T_141_5 : hTab 141 5 = some ((31, 122, 0, []), 8) := rfl
theorem T_141_8 : hTab 141 8 = some ((0, 0, 0, []), 9) := rfl
theorem T_141_9 : hTab 141 9 = some ((3, 0, 2, []), 10) := rfl
theorem T_141_10 : hTab 141 10 = some ((3, 1, 2, []), 11) := rfl
theorem T_141_11 : hTab 141 11 = some ((24, 5, Int.ofNat 0, []), 14) := rfl
theorem T_141_14 : hTab 141 14 = some ((3, 1, 2, []), 15) := rfl
theorem T_141_15 : hTab 141 15 = some ((24, 5, Int.ofNat 1, []), 18) := rfl
theorem T_141_18 : hTab 141 18 = some ((0, 0, (-1), []), 19) := rfl
theorem T_141_19 : hTab 141 19 = some ((31, 123, 0, []), 22) := rfl
theorem T_141_22 : hTab 141 22 = some ((3, 0, 2, []), 23) := rfl
theorem T_141_23 : hTab 141 23 = some ((24, 1, Int.ofNat 2, []), 26) := rfl
theorem T_141_26 : hTab 141 26 = some ((31, 26, 0, []), 29) := rfl
theorem T_141_29 : hTab 141 29 = some ((4, 3, 0, []), 30) := rfl
theorem T_141_30 : hTab 141 30 = some ((3, 3, 0, []), 31) := rfl
theorem T_141_31 : hTab 141 31 = some ((18, 1, Int.ofNat 54, []), 34) := rfl
theorem T_141_34 : hTab 141 34 = some ((3, 2, 2, []), 35) := rfl
theorem T_141_35 : hTab 141 35 = some ((3, 1, 2, []), 36) := rfl
theorem T_141_36 : hTab 141 36 = some ((24, 5, Int.ofNat 0, []), 39) := rfl
theorem T_141_39 : hTab 141 39 = some ((3, 0, 2, []), 40) := rfl
theorem T_141_40 : hTab 141 40 = some ((24, 1, Int.ofNat 5, []), 43) := rfl
theorem T_141_43 : hTab 141 43 = some ((3, 1, 2, []), 44) := rfl
theorem T_141_44 : hTab 141 44 = some ((24, 5, Int.ofNat 2, []), 47) := rfl
theorem T_141_47 : hTab 141 47 = some ((3, 1, 2, []), 48) := rfl
theorem T_141_48 : hTab 141 48 = some ((24, 5, Int.ofNat 3, []), 51) := rfl
theorem T_141_51 : hTab 141 51 = some ((31, 128, 0, []), 54) := rfl
theorem T_141_54 : hTab 141 54 = some ((3, 3, 0, []), 55) := rfl
theorem T_141_55 : hTab 141 55 = some ((33, 1, 0, []), 56) := rfl
theorem T_144_0 : hTab 144 0 = some ((0, 0, 0, []), 1) := rfl
theorem T_144_1 : hTab 144 1 = some ((4, 1, 0, []), 2) := rfl
theorem T_144_2 : hTab 144 2 = some ((3, 1, 0, []), 3) := rfl
theorem T_144_3 : hTab 144 3 = some ((3, 0, 2, []), 4) := rfl
theorem T_144_4 : hTab 144 4 = some ((24, 4, Int.ofNat 3, []), 7) := rfl
theorem T_144_7 : hTab 144 7 = some ((19, 3, Int.ofNat 41, []), 10) := rfl
theorem T_144_10 : hTab 144 10 = some ((3, 1, 0, []), 11) := rfl
theorem T_144_11 : hTab 144 11 = some ((0, 0, 6, []), 13) := rfl
theorem T_144_13 : hTab 144 13 = some ((19, 3, Int.ofNat 41, []), 16) := rfl
theorem T_144_16 : hTab 144 16 = some ((3, 0, 2, []), 17) := rfl
theorem T_144_17 : hTab 144 17 = some ((24, 4, Int.ofNat 0, []), 20) := rfl
theorem T_144_20 : hTab 144 20 = some ((3, 1, 0, []), 21) := rfl
theorem T_144_21 : hTab 144 21 = some ((26, 10, 0, []), 22) := rfl
theorem T_144_22 : hTab 144 22 = some ((24, 5, Int.ofNat 5, []), 25) := rfl
theorem T_144_25 : hTab 144 25 = some ((18, 0, Int.ofNat 35, []), 28) := rfl
theorem T_144_28 : hTab 144 28 = some ((3, 0, 2, []), 29) := rfl
theorem T_144_29 : hTab 144 29 = some ((24, 4, Int.ofNat 0, []), 32) := rfl
theorem T_144_32 : hTab 144 32 = some ((3, 1, 0, []), 33) := rfl
theorem T_144_33 : hTab 144 33 = some ((26, 10, 0, []), 34) := rfl
theorem T_144_34 : hTab 144 34 = some ((33, 4, 0, []), 35) := rfl
theorem T_144_35 : hTab 144 35 = some ((5, 1, 1, []), 38) := rfl
theorem T_144_38 : hTab 144 38 = some ((22, 0, Int.ofNat 2, []), 41) := rfl
theorem T_144_41 : hTab 144 41 = some ((2, 0, 0, []), 42) := rfl
theorem T_144_42 : hTab 144 42 = some ((33, 4, 0, []), 43) := rfl
theorem mN_141 : hmN 141 = 3 := by decide +kernel
theorem mL_141 : hmL 141 = 4 := by decide +kernel
theorem mK_141 : hmK 141 = 1 := by decide +kernel
theorem mO_141 : hmO 141 = 1 := by decide +kernel
theorem mN_144 : hmN 144 = 1 := by decide +kernel
theorem mL_144 : hmL 144 = 2 := by decide +kernel
theorem mK_144 : hmK 144 = 1 := by decide +kernel
theorem mO_144 : hmO 144 = 4 := by decide +kernel
section XCPY
variable {fb : Bool} {d b q m k c a0 y0 : Nat} {σ0 σ : hM} {W W0 W1 W2 W3 P Q : qR} {R R1 R2 : rR} {i j x z v s e w p o n g K T U thr pa kd dr pt : Int} {l l0 lo nm M : List Int} {f : Int} {ch : Ch}
/-- a channel is copied -/
theorem x_copyK (hP : PX σ0 W R σ) (hX : XW K T U W R P) (hT : T + 110 ≤ 2147483000) (ha : tX a0 = some (Sum.inl 5)) (ha2 : 229 ≤ a0 ∧ a0 < 1293) (hs0 : W a0 2160 = s) (hf0 : W a0 2161 = f) (hp0 : W a0 2162 = pa) (hd0 : W a0 2163 = dr) (hdr : (if kd = 128 then 1 else 0) = dr) (hs : 0 ≤ s ∧ s < 3) (hf : 0 ≤ f ∧ f ≤ 47) (hc : tX c = some (Sum.inl 5)) (hc2 : 2175 ≤ c) : CL fb (d + 8) 141 [vR (some 129), vR (some a0), vR (some c)] σ (fun r σ' => r = some (vI (kCpE P s f)) ∧ ∃ W2 R2, PX σ0 W2 R2 σ' ∧ XW K (T + 4) U W2 R2 (kCpP P s f) ∧ (kCpE P s f = 0 → CHX W2 R2 c (s, qNewF P s, pa, kd, -1) ∧ chR (s, qNewF P s, pa, kd, -1)) ∧ FC c W W2 R R2) := by
  have hIV := hX.1.2.2.2.1.iv
  have hcl := (tX_o hc).2
  have hdr2 : dr = 0 ∨ dr = 1 := by rw [← hdr]; split <;> decide
  obtain ⟨ord, tt, hXs⟩ := hX.1.1.1 s hs.1 hs.2
  have hho := x_host (fb := fb) (d := d + 7) (s := s) hP hs
  have hwk := x_walking0 (fb := fb) (d := d + 4) hP ⟨hs, rfl⟩ hXs hIV hf
  obtain ⟨g, hg⟩ : ∃ q, qNewF P s = q := ⟨_, rfl⟩
  have hgr2 : g = -1 ∨ (0 ≤ g ∧ g ≤ 47) := by rw [← hg]; exact qNewF_rng
  have eE : kCpE P s f = if g < 0 then 12 else tE P s (mCopy f g) := by unfold kCpE; rw [hg]
  have eP : kCpP P s f = if g < 0 then P else tP P s (mCopy f g) := by unfold kCpP; rw [hg]
  rw [hg] at hwk ⊢
  have hak := fun (σ : hM) (W2 : qR) (hP : PX σ0 W2 R σ) (hF : FR1 W W2) (hB : BY W2 138 300 (mFr (mCopy f g))) => x_askN (fb := fb) (d := d) (g := g) hP (hX.fr1 hF) (by omega) hs hB (by rw [mCopy_len]; decide) (by rw [mCopy_0]; decide) (fun q => ⟨fun c => by rw [mCopy_0] at c; exact absurd c (by decide), fun _ => by rw [mCopy_g ⟨by omega, by omega⟩]; omega⟩)
  rw [← eE, ← eP] at hak
  have hE0 : kCpE P s f = 0 → ¬ g < 0 := fun q c => by rw [eE, if_pos c] at q; omega
  obtain ⟨e, he⟩ : ∃ q, kCpE P s f = q := ⟨_, rfl⟩
  obtain ⟨Q, hQ⟩ : ∃ q, kCpP P s f = q := ⟨_, rfl⟩
  rw [he] at hak hE0 ⊢
  rw [hQ] at hak ⊢
  have hO := srv_o hs
  obtain ⟨sv, hsv⟩ : ∃ q, 1293 + 294 * s.toNat = q := ⟨_, rfl⟩
  rw [hsv] at hho hO
  simp only [hsv] at hak
  have hgp : ∀ V : qR, FR1 W V → V 129 2037 = g → ∀ (V2 : qR) (V3 : rR), FVS 134 V V2 R V3 → V2 129 2037 = g := fun V _ hg V2 V3 h => (h.1 _ _ (by decide) (Or.inl (by decide)) (by decide) (by decide) (by decide) (fun c => by unfold ioP at c; omega) (by decide) (by decide)).trans hg
  have hkp : ∀ (V : qR) (V3 : rR), FA W V R V3 → V a0 2160 = s ∧ V a0 2162 = pa ∧ V a0 2163 = dr := fun V V3 h => ⟨(h.ns.1 _ _ ha2.1 ha2.2 (by decide)).trans hs0, (h.ns.1 _ _ ha2.1 ha2.2 (by decide)).trans hp0, (h.ns.1 _ _ ha2.1 ha2.2 (by decide)).trans hd0⟩
  by_cases q : e = 0
  · subst q
    have hg0 := hE0 rfl
    have hbc := fun (σ : hM) (V : qR) (V3 : rR) (hP : PX σ0 V V3 σ) => x_become (fb := fb) (d := d + 7) (s := s) (f2 := g) (p := pa) (e := dr) hP hc hdr2
    refine CL_in mL_141 rfl ?_
    show WP fb _ 141 0 [some (vR (some 129)), some (vR (some a0)), some (vR (some c)), none] [] σ _
    refine x_lr (z := some 129) T_141_0 rfl ?_
    refine x_lr (z := some a0) T_141_1 rfl ?_
    refine x_gI (z := s) T_141_2 (Or.inl F_5_0) (hP.o ha) (Eq.trans (hP.gi ha (key := 2160) rfl) hs0) ?_
    refine x_cv2 T_141_5 mN_122 mL_122 (Nat.le_of_ble_eq_true rfl) mO_122 (hP.o xo_129) (Nat.le_of_ble_eq_true rfl) (hho) ?_
    rintro _ σ ⟨rfl, rfl⟩
    refine cR ?_
    refine x_ic T_141_8 ?_
    refine x_lr (z := some 129) T_141_9 rfl ?_
    refine x_lr (z := some a0) T_141_10 rfl ?_
    refine x_gI (z := s) T_141_11 (Or.inl F_5_0) (hP.o ha) (Eq.trans (hP.gi ha (key := 2160) rfl) hs0) ?_
    refine x_lr (z := some a0) T_141_14 rfl ?_
    refine x_gI (z := f) T_141_15 (Or.inl F_5_1) (hP.o ha) (Eq.trans (hP.gi ha (key := 2161) rfl) hf0) ?_
    refine x_ic T_141_18 ?_
    refine x_cv4 T_141_19 mN_123 mL_123 (Nat.le_of_ble_eq_true rfl) mO_123 (hP.o xo_129) (Nat.le_of_ble_eq_true rfl) (hwk) ?_
    clear hP hwk
    rintro _ σ ⟨rfl, W2, hP, hB2, hF2, hg2⟩
    refine cR ?_
    refine x_lr (z := some 129) T_141_22 rfl ?_
    refine x_gR (z := some 134) T_141_23 F_1_2 (hP.o xo_129) (hP.rc xo_129 rfl rfl) ?_
    refine x_cv4 T_141_26 mN_26 mL_26 (Nat.le_of_ble_eq_true rfl) mO_26 (hP.o hO) (Nat.le_of_ble_eq_true rfl) (hak σ W2 hP hF2 hB2) ?_
    clear hP hak
    rintro _ σ ⟨rfl, W3, R3, hP, hX3, hB3, hF3⟩
    have hg3 := hgp W2 hF2 hg2 W3 R3 hF3
    have hA3 := FA_tr (FA_fr hF2) (FA_fs hF3)
    obtain ⟨z1, z2, z3⟩ := hkp W3 R3 hA3
    refine cI ?_
    refine x_si (ls1 := [some (vR (some 129)), some (vR (some a0)), some (vR (some c)), some (vI 0)]) T_141_29 rfl ?_
    refine x_li (z := 0) T_141_30 rfl ?_
    refine x_if T_141_31 (fun h => absurd (show ¬ (0 : Int) = 0 from h) (by decide)) (fun _ => ?_)
    refine x_lr (z := some c) T_141_34 rfl ?_
    refine x_lr (z := some a0) T_141_35 rfl ?_
    refine x_gI (z := s) T_141_36 (Or.inl F_5_0) (hP.o ha) (Eq.trans (hP.gi ha (key := 2160) rfl) z1) ?_
    refine x_lr (z := some 129) T_141_39 rfl ?_
    refine x_gI (z := g) T_141_40 (Or.inl F_1_5) (hP.o xo_129) (Eq.trans (hP.gi xo_129 (key := 2037) rfl) hg3) ?_
    refine x_lr (z := some a0) T_141_43 rfl ?_
    refine x_gI (z := pa) T_141_44 (Or.inl F_5_2) (hP.o ha) (Eq.trans (hP.gi ha (key := 2162) rfl) z2) ?_
    refine x_lr (z := some a0) T_141_47 rfl ?_
    refine x_gI (z := dr) T_141_48 (Or.inr (Or.inl F_5_3)) (hP.o ha) (Eq.trans (hP.gi ha (key := 2163) rfl) z3) ?_
    refine x_cv5 T_141_51 mN_128 mL_128 (Nat.le_of_ble_eq_true rfl) mO_128 (hP.o hc) (Nat.le_of_ble_eq_true rfl) (hbc σ W3 R3 hP) ?_
    clear hP hbc
    rintro _ σ ⟨rfl, hP⟩
    refine cV ?_
    refine x_li (z := 0) T_141_54 rfl ?_
    refine x_ri T_141_55 ?_
    exact ⟨rfl, _, _, hP, XW.chn hX3 hc2 hcl, fun _ => ⟨CHX_new hdr, hs, ⟨by show 0 ≤ g; omega, by show g ≤ 47; omega⟩, by show (-1 : Int) < 64; decide⟩, FC_tr (FC_fa hA3) (FC_own (fun x k hx => chW_o hx) (fun x k hx => oU_f hx))⟩
  · skip
    refine CL_in mL_141 rfl ?_
    show WP fb _ 141 0 [some (vR (some 129)), some (vR (some a0)), some (vR (some c)), none] [] σ _
    refine x_lr (z := some 129) T_141_0 rfl ?_
    refine x_lr (z := some a0) T_141_1 rfl ?_
    refine x_gI (z := s) T_141_2 (Or.inl F_5_0) (hP.o ha) (Eq.trans (hP.gi ha (key := 2160) rfl) hs0) ?_
    refine x_cv2 T_141_5 mN_122 mL_122 (Nat.le_of_ble_eq_true rfl) mO_122 (hP.o xo_129) (Nat.le_of_ble_eq_true rfl) (hho) ?_
    rintro _ σ ⟨rfl, rfl⟩
    refine cR ?_
    refine x_ic T_141_8 ?_
    refine x_lr (z := some 129) T_141_9 rfl ?_
    refine x_lr (z := some a0) T_141_10 rfl ?_
    refine x_gI (z := s) T_141_11 (Or.inl F_5_0) (hP.o ha) (Eq.trans (hP.gi ha (key := 2160) rfl) hs0) ?_
    refine x_lr (z := some a0) T_141_14 rfl ?_
    refine x_gI (z := f) T_141_15 (Or.inl F_5_1) (hP.o ha) (Eq.trans (hP.gi ha (key := 2161) rfl) hf0) ?_
    refine x_ic T_141_18 ?_
    refine x_cv4 T_141_19 mN_123 mL_123 (Nat.le_of_ble_eq_true rfl) mO_123 (hP.o xo_129) (Nat.le_of_ble_eq_true rfl) (hwk) ?_
    clear hP hwk
    rintro _ σ ⟨rfl, W2, hP, hB2, hF2, hg2⟩
    refine cR ?_
    refine x_lr (z := some 129) T_141_22 rfl ?_
    refine x_gR (z := some 134) T_141_23 F_1_2 (hP.o xo_129) (hP.rc xo_129 rfl rfl) ?_
    refine x_cv4 T_141_26 mN_26 mL_26 (Nat.le_of_ble_eq_true rfl) mO_26 (hP.o hO) (Nat.le_of_ble_eq_true rfl) (hak σ W2 hP hF2 hB2) ?_
    clear hP hak
    rintro _ σ ⟨rfl, W3, R3, hP, hX3, hB3, hF3⟩
    refine cI ?_
    refine x_si (ls1 := [some (vR (some 129)), some (vR (some a0)), some (vR (some c)), some (vI e)]) T_141_29 rfl ?_
    refine x_li (z := e) T_141_30 rfl ?_
    refine x_if T_141_31 (fun _ => ?_) (fun h => absurd (show ¬ e = 0 by omega) h)
    refine x_li (z := e) T_141_54 rfl ?_
    refine x_ri T_141_55 ?_
    exact ⟨rfl, W3, R3, hP, hX3, fun c => absurd c q, FC_fa (FA_tr (FA_fr hF2) (FA_fs hF3))⟩
/-- where a point's new files go -/
theorem mk_loop (hP : PX σ0 W R σ) (h : PTM W R y0 P pt) (hpt : 0 ≤ pt) (hv : P 2337 pt = v) (hv6 : v ≤ 6) : ∀ (m : Nat) (j : Int), j + m = v → 0 ≤ j → WP fb d 144 2 [some (vR (some y0)), some (vI j)] [] σ (rPR (if mkM P pt m j < 0 then none else R (y0 + 1) (mkM P pt m j - 6 * pt)) σ) := by
  obtain ⟨h1, h2, h3, h4, h5⟩ := h
  rw [hv] at h4 h5
  have hmu := mut_pt (a := y0 + 1) (by omega)
  intro m
  induction m with
  | zero =>
    intro j g1 g2
    have g1 : j + ((0 : Nat) : Int) = v := g1
    rw [show mkM P pt 0 j = -1 from rfl, if_pos (by decide)]
    refine x_li (z := j) T_144_2 rfl ?_
    refine x_lr (z := some y0) T_144_3 rfl ?_
    refine x_gI (z := v) T_144_4 (Or.inl F_4_3) (hP.o h1) (Eq.trans (hP.gi h1 (key := 2131) rfl) h4) ?_
    refine x_ic2 T_144_7 (fun _ => ?_) (fun h => absurd (show v ≤ j by omega) h)
    refine x_nu T_144_41 ?_
    refine x_rr T_144_42 ?_
    exact ⟨rfl, rfl⟩
  | succ m ih =>
    intro j g1 g2
    have g1 : j + ((m + 1 : Nat) : Int) = v := g1
    obtain ⟨f0, c0, c1, c2, c3⟩ := h5 j g2 (by omega)
    have hm := c3.2.2.2.2
    have ef : mkM P pt (m + 1) j = if ¬ P 2342 (6 * pt + j) = 0 then 6 * pt + j else mkM P pt m (j + 1) := rfl
    have hgo := ih (j + 1) (by omega) (by omega)
    obtain ⟨u, hu⟩ : ∃ q, P 2342 (6 * pt + j) = q := ⟨_, rfl⟩
    rw [hu] at hm ef
    by_cases q : u = 0
    · rw [if_neg (fun c => c q)] at ef
      rw [ef]
      refine x_li (z := j) T_144_2 rfl ?_
      refine x_lr (z := some y0) T_144_3 rfl ?_
      refine x_gI (z := v) T_144_4 (Or.inl F_4_3) (hP.o h1) (Eq.trans (hP.gi h1 (key := 2131) rfl) h4) ?_
      refine x_ic2 T_144_7 (fun h => absurd (show v ≤ j from h) (by omega)) (fun _ => ?_)
      refine x_li (z := j) T_144_10 rfl ?_
      refine x_ic T_144_11 ?_
      refine x_ic2 T_144_13 (fun h => absurd (show 6 ≤ j from h) (by omega)) (fun _ => ?_)
      refine x_lr (z := some y0) T_144_16 rfl ?_
      refine x_gR (z := some (y0 + 1)) T_144_17 F_4_0 (hP.o h1) (hP.rc h1 rfl rfl) ?_
      refine x_li (z := j) T_144_20 rfl ?_
      refine x_alR (z := some f0) T_144_21 (hP.ta h2) (by decide) (by omega) (by omega) (Eq.trans (hP.arm h2 hmu (by omega)) c0) ?_
      refine x_gI (z := u) T_144_22 (Or.inr (Or.inl F_5_5)) (hP.o c1) (Eq.trans (hP.gi c1 (key := 2165) rfl) hm) ?_
      refine x_if T_144_25 (fun _ => ?_) (fun h => absurd (show u = 0 by omega) h)
      refine x_inc (w := (j + 1)) (ls1 := [some (vR (some y0)), some (vI (j + 1))]) T_144_35 rfl (w32_id (by omega) (by omega)) rfl ?_
      refine x_goto T_144_38 ?_
      exact hgo
    · rw [if_pos q] at ef
      have hpt0 : 0 ≤ 6 * pt + j ∨ 6 * pt + j < 0 := by omega
      rw [ef]
      by_cases qp : 6 * pt + j < 0
      · exact absurd qp (by omega)
      · rw [if_neg qp, show 6 * pt + j - 6 * pt = j by omega, c0]
        refine x_li (z := j) T_144_2 rfl ?_
        refine x_lr (z := some y0) T_144_3 rfl ?_
        refine x_gI (z := v) T_144_4 (Or.inl F_4_3) (hP.o h1) (Eq.trans (hP.gi h1 (key := 2131) rfl) h4) ?_
        refine x_ic2 T_144_7 (fun h => absurd (show v ≤ j from h) (by omega)) (fun _ => ?_)
        refine x_li (z := j) T_144_10 rfl ?_
        refine x_ic T_144_11 ?_
        refine x_ic2 T_144_13 (fun h => absurd (show 6 ≤ j from h) (by omega)) (fun _ => ?_)
        refine x_lr (z := some y0) T_144_16 rfl ?_
        refine x_gR (z := some (y0 + 1)) T_144_17 F_4_0 (hP.o h1) (hP.rc h1 rfl rfl) ?_
        refine x_li (z := j) T_144_20 rfl ?_
        refine x_alR (z := some f0) T_144_21 (hP.ta h2) (by decide) (by omega) (by omega) (Eq.trans (hP.arm h2 hmu (by omega)) c0) ?_
        refine x_gI (z := u) T_144_22 (Or.inr (Or.inl F_5_5)) (hP.o c1) (Eq.trans (hP.gi c1 (key := 2165) rfl) hm) ?_
        refine x_if T_144_25 (fun h => absurd (show u = 0 from h) (by omega)) (fun _ => ?_)
        refine x_lr (z := some y0) T_144_28 rfl ?_
        refine x_gR (z := some (y0 + 1)) T_144_29 F_4_0 (hP.o h1) (hP.rc h1 rfl rfl) ?_
        refine x_li (z := j) T_144_32 rfl ?_
        refine x_alR (z := some f0) T_144_33 (hP.ta h2) (by decide) (by omega) (by omega) (Eq.trans (hP.arm h2 hmu (by omega)) c0) ?_
        refine x_rr T_144_34 ?_
        exact ⟨rfl, rfl⟩
theorem x_memberToCreate (hP : PX σ0 W R σ) (h : PTM W R y0 P pt) (hpt : 0 ≤ pt) (hv : 0 ≤ P 2337 pt ∧ P 2337 pt ≤ 6) : CL fb d 144 [vR (some y0)] σ (rPR (if qMk P pt < 0 then none else R (y0 + 1) (qMk P pt - 6 * pt)) σ) := by
  have hgo := mk_loop (fb := fb) (d := d) hP h hpt rfl hv.2 (P 2337 pt).toNat 0 (by omega) (by decide)
  refine CL_in mL_144 rfl ?_
  show WP fb _ 144 0 [some (vR (some y0)), none] [] σ _
  refine x_ic T_144_0 ?_
  refine x_si (ls1 := [some (vR (some y0)), some (vI 0)]) T_144_1 rfl ?_
  exact hgo
end XCPY
