/-! The class's enter: a round of its loop. -/
theorem T_96_36 : hTab 96 36 = some ((3, 3, 0, []), 37) := rfl
theorem T_96_37 : hTab 96 37 = some ((0, 0, 1000000, []), 39) := rfl
theorem T_96_39 : hTab 96 39 = some ((19, 3, Int.ofNat 590, []), 42) := rfl
theorem T_96_42 : hTab 96 42 = some ((3, 0, 2, []), 43) := rfl
theorem T_96_43 : hTab 96 43 = some ((24, 0, Int.ofNat 2, []), 46) := rfl
theorem T_96_46 : hTab 96 46 = some ((31, 99, 0, []), 49) := rfl
theorem T_96_49 : hTab 96 49 = some ((18, 0, Int.ofNat 590, []), 52) := rfl
theorem T_96_52 : hTab 96 52 = some ((3, 0, 2, []), 53) := rfl
theorem T_96_53 : hTab 96 53 = some ((24, 0, Int.ofNat 2, []), 56) := rfl
theorem T_96_56 : hTab 96 56 = some ((3, 2, 2, []), 57) := rfl
theorem T_96_57 : hTab 96 57 = some ((31, 100, 0, []), 60) := rfl
theorem T_96_60 : hTab 96 60 = some ((4, 4, 2, []), 62) := rfl
theorem T_96_62 : hTab 96 62 = some ((3, 4, 2, []), 64) := rfl
theorem T_96_64 : hTab 96 64 = some ((20, 1, Int.ofNat 70, []), 67) := rfl
theorem T_96_67 : hTab 96 67 = some ((22, 0, Int.ofNat 584, []), 70) := rfl
theorem T_96_584 : hTab 96 584 = some ((5, 3, 1, []), 587) := rfl
theorem T_96_587 : hTab 96 587 = some ((22, 0, Int.ofNat 36, []), 590) := rfl
theorem F_0_2 : (hFd 0 2).2.2.1 = 4 := rfl
section XLP1
variable {fb : Bool} {d b k n : Nat} {σ0 σ : hM} {W W1 W2 V V0 V2 V3 P : qR} {R : rR} {i j x z v s e p D w K T U a c ex : Int} {l sc lo wd src L L2 t ss : List Int} {fs : List Fr} {fr : Fr} {Q : Option AV → hM → Prop}
/-- at the loop's head -/
abbrev LPH (fb : Bool) (d : Nat) (p i : Int) (x4 x5 : Option AV) (σ : hM) (Q : Option AV → hM → Prop) : Prop := WP fb (d + 20) 96 36 [some (vR (some 128)), some (vI p), some (vR (some (prO p))), some (vI i), x4, x5] [] σ Q
theorem lp_out {x4 x5 : Option AV} (hP : PX σ0 W R σ) (hS : SHL W 0 c e 0) (hi : 0 ≤ i ∧ i < 1000000) (hgo : WP fb (d + 20) 96 590 [some (vR (some 128)), some (vI p), some (vR (some (prO p))), some (vI i), x4, x5] [] σ Q) : LPH fb d p i x4 x5 σ Q := by
  have hg := x_goesOn (fb := fb) (d := d + 19) hP hS (by decide) (Or.inl rfl)
  rw [if_pos ⟨rfl, rfl⟩] at hg
  unfold LPH
  obtain ⟨pr, hpr⟩ : ∃ q, prO p = q := ⟨_, rfl⟩
  rw [hpr] at hgo ⊢
  refine x_li (z := i) T_96_36 rfl ?_
  refine x_ic T_96_37 ?_
  refine x_ic2 T_96_39 (fun h => absurd (show 1000000 ≤ i from h) (by omega)) (fun _ => ?_)
  refine x_lr (z := some 128) T_96_42 rfl ?_
  refine x_gR (z := some 2187) T_96_43 F_0_2 (hP.o xo_128) (hP.rc xo_128 rfl rfl) ?_
  refine x_cv1 T_96_46 mN_99 mL_99 (Nat.le_of_ble_eq_true rfl) mO_99 (hP.o xo_2187) (Nat.le_of_ble_eq_true rfl) (hg) ?_
  rintro _ σ ⟨rfl, rfl⟩
  refine cI ?_
  refine x_if T_96_49 (fun _ => ?_) (fun h => absurd (show (0 : Int) = 0 by rfl) h)
  exact hgo
/-- a round in which nothing begins -/
theorem lp_null {x4 x5 : Option AV} {Z : qR → Prop} (hP : PX σ0 W R σ) (hS : SHL W D c e w) (hD : 0 ≤ D) (hw : w = 0 ∨ w = 1) (hon : ¬ (w = 0 ∧ D = 0)) (hi : 0 ≤ i ∧ i < 1000000) (hnx : CL fb (d + 19) 100 [vR (some 2187), vR (some (prO p))] σ (fun r σ' => r = some (vR none) ∧ ∃ V, PX σ0 V R σ' ∧ Z V)) (hgo : ∀ (σ : hM) (V : qR), PX σ0 V R σ → Z V → LPH fb d p (i + 1) (some (vR none)) x5 σ Q) : LPH fb d p i x4 x5 σ Q := by
  have hg := x_goesOn (fb := fb) (d := d + 19) hP hS hD hw
  rw [if_neg hon] at hg
  unfold LPH at hgo ⊢
  obtain ⟨pr, hpr⟩ : ∃ q, prO p = q := ⟨_, rfl⟩
  rw [hpr] at hnx hgo ⊢
  refine x_li (z := i) T_96_36 rfl ?_
  refine x_ic T_96_37 ?_
  refine x_ic2 T_96_39 (fun h => absurd (show 1000000 ≤ i from h) (by omega)) (fun _ => ?_)
  refine x_lr (z := some 128) T_96_42 rfl ?_
  refine x_gR (z := some 2187) T_96_43 F_0_2 (hP.o xo_128) (hP.rc xo_128 rfl rfl) ?_
  refine x_cv1 T_96_46 mN_99 mL_99 (Nat.le_of_ble_eq_true rfl) mO_99 (hP.o xo_2187) (Nat.le_of_ble_eq_true rfl) (hg) ?_
  rintro _ σ ⟨rfl, rfl⟩
  refine cI ?_
  refine x_if T_96_49 (fun h => absurd (show (1 : Int) = 0 from h) (by decide)) (fun _ => ?_)
  refine x_lr (z := some 128) T_96_52 rfl ?_
  refine x_gR (z := some 2187) T_96_53 F_0_2 (hP.o xo_128) (hP.rc xo_128 rfl rfl) ?_
  refine x_lr (z := some pr) T_96_56 rfl ?_
  refine x_cv2 T_96_57 mN_100 mL_100 (Nat.le_of_ble_eq_true rfl) mO_100 (hP.o xo_2187) (Nat.le_of_ble_eq_true rfl) (hnx) ?_
  clear hP hnx
  rintro _ σ ⟨rfl, V, hP, hZ⟩
  refine cR ?_
  refine x_sr (ls1 := [some (vR (some 128)), some (vI p), some (vR (some pr)), some (vI i), some (vR none), x5]) T_96_60 rfl ?_
  refine x_lr (z := none) T_96_62 rfl ?_
  refine x_nnul T_96_64 (fun a0 h0 => absurd h0 (by simp)) (fun _ => ?_)
  refine x_goto T_96_67 ?_
  refine x_inc (w := (i + 1)) (ls1 := [some (vR (some 128)), some (vI p), some (vR (some pr)), some (vI (i + 1)), some (vR none), x5]) T_96_584 rfl (w32_id (by omega) (by omega)) rfl ?_
  refine x_goto T_96_587 ?_
  exact hgo σ V hP hZ
/-- a frame goes on or ends -/
theorem lp_res {x4 x5 : Option AV} {Z : qR → Prop} (hP : PX σ0 W R σ) (hS : SHL W D c e 0) (hD : 0 < D) (hi : 0 ≤ i ∧ i < 1000000) (hr : CL fb (d + 18) 101 [vR (some 2187), vR (some (prO p))] σ (fun r σ' => r = none ∧ ∃ V, PX σ0 V R σ' ∧ Z V)) (hgo : ∀ (σ : hM) (V : qR), PX σ0 V R σ → Z V → LPH fb d p (i + 1) (some (vR none)) x5 σ Q) : LPH fb d p i x4 x5 σ Q := lp_null hP hS (by omega) (Or.inl rfl) (fun c => by omega) hi (x_nextG (d := d + 14) hP hS.2.2.2 hr) hgo
/-- a line that waits: refused, or begun -/
theorem lp_line {x4 x5 : Option AV} (hP : PX σ0 W R σ) (hS : XST K T U W R P fs c e 1) (hp : 0 ≤ p ∧ p < 8) (hlv : ¬ P 2320 p = 0) (hn : fs.length ≤ 12) (hc : 0 ≤ c ∧ c ≤ 200) (hex : ex = 0 ∨ ex = 1) (hW : WTX W ex src) (hi : 0 ≤ i ∧ i < 1000000) (hL : exL P p (arOf fs) ex src = L) (h0 : ∀ (σ : hM) (V : qR), ¬ bgE (fs.length : Int) c L = 0 → PX σ0 V R σ → XST K T U V R P fs (bgC (fs.length : Int) c) (bgE (fs.length : Int) c L) 0 → LPH fb d p (i + 1) (some (vR none)) x5 σ Q) (h1 : ∀ (σ : hM) (V : qR), bgE (fs.length : Int) c L = 0 → fs.length < 12 → PX σ0 V R σ → XST K T U V R P ((0, L, 0, 0, []) :: fs) (c + 1) e 0 → WP fb (d + 20) 96 70 [some (vR (some 128)), some (vI p), some (vR (some (prO p))), some (vI i), some (vR (some (cmO (fs.length : Int)))), x5] [] σ Q) : LPH fb d p i x4 x5 σ Q := by
  have hg := x_goesOn (fb := fb) (d := d + 19) hP hS.2.2 (by omega) (Or.inr rfl)
  rw [if_neg (fun c => absurd c.1 (by decide))] at hg
  have hnx := x_nextW (fb := fb) (d := d + 16) hP hS.1 hp hlv rfl hn hS.2.1 hS.2.2 hc hW.1 hex hW.2
  rw [hL] at hnx
  obtain ⟨hX, hFS, hD, hcc, hee, hww⟩ := hS
  have hA : ∀ V : qR, FNX (cmO (fs.length : Int)) W V → fs.length < 12 → XW K T U V R P ∧ FSX V fs := fun V hF h12 => by
    have hkr := cmO_rng (i := (fs.length : Int)) ⟨by omega, by omega⟩
    have ek : cmO (fs.length : Int) = 2191 + 7 * fs.length := by unfold cmO; omega
    exact ⟨hX.fnx hF ⟨by omega, by omega⟩, hFS.eqv (fun x j a b => hF x j (by omega) (by omega))⟩
  have hA2 : ∀ V : qR, FNX 2280 W V → fs.length = 12 → XW K T U V R P ∧ FSX V fs := fun V hF h12 => by
    exact ⟨hX.hiw (fun x j hx => hF x j (by omega) (by omega)) (fun _ _ _ => rfl), hFS.eqv (fun x j a b => hF x j (by omega) (by omega))⟩
  have h0' : ∀ (σ : hM) (V : qR), (FNX (cmO (fs.length : Int)) W V ∧ (fs.length = 12 → FNX 2280 W V)) → ¬ bgE (fs.length : Int) c L = 0 → PX σ0 V R σ → SHL V (fs.length : Int) (bgC (fs.length : Int) c) (bgE (fs.length : Int) c L) 0 → LPH fb d p (i + 1) (some (vR none)) x5 σ Q := fun σ V hF hb hP hS => by
    by_cases q : fs.length < 12
    · exact h0 σ V hb hP ⟨(hA V hF.1 q).1, (hA V hF.1 q).2, hS⟩
    · exact h0 σ V hb hP ⟨(hA2 V (hF.2 (by omega)) (by omega)).1, (hA2 V (hF.2 (by omega)) (by omega)).2, hS⟩
  have h1' : ∀ (σ : hM) (V : qR), FNX (cmO (fs.length : Int)) W V → bgE (fs.length : Int) c L = 0 → PX σ0 V R σ → FRX V (cmO (fs.length : Int)) (0, L, 0, 0, []) → SHL V ((fs.length : Int) + 1) (c + 1) e 0 → WP fb (d + 20) 96 70 [some (vR (some 128)), some (vI p), some (vR (some (prO p))), some (vI i), some (vR (some (cmO (fs.length : Int)))), x5] [] σ Q := fun σ V hF hb hP hR hS => by
    have q : fs.length < 12 := by
      by_cases q : (fs.length : Int) = 12 ∨ c = 200
      · unfold bgE at hb
        rw [if_pos q] at hb
        exact absurd hb (by decide)
      · omega
    exact h1 σ V hb q hP ⟨(hA V hF q).1, ⟨⟨⟨show (0 : Int) ≤ 0 by decide, show (0 : Int) ≤ 3 by decide⟩, hR⟩, (hA V hF q).2⟩, hS⟩
  unfold LPH at h0' ⊢
  obtain ⟨k, hk⟩ : ∃ q, cmO (fs.length : Int) = q := ⟨_, rfl⟩
  unfold NXX at hnx
  rw [hk] at hnx
  simp only [hk] at h0' h1'
  obtain ⟨pr, hpr⟩ : ∃ q, prO p = q := ⟨_, rfl⟩
  rw [hpr] at hnx
  simp only [hpr] at h0' h1' ⊢
  by_cases q : bgE (fs.length : Int) c L = 0
  · have hnx := hnx.mono (Q := fun r σ' => r = some (vR (some k)) ∧ ∃ V, PX σ0 V R σ' ∧ FNX k W V ∧ FRX V k (0, L, 0, 0, []) ∧ SHL V ((fs.length : Int) + 1) (c + 1) e 0) (fun r σ' h => by
      obtain ⟨V, g1, g2, g3 | g3⟩ := h
      · exact ⟨g3.2.1, V, g1, g2.1, g3.2.2.1, g3.2.2.2⟩
      · exact absurd q g3.1)
    refine x_li (z := i) T_96_36 rfl ?_
    refine x_ic T_96_37 ?_
    refine x_ic2 T_96_39 (fun h => absurd (show 1000000 ≤ i from h) (by omega)) (fun _ => ?_)
    refine x_lr (z := some 128) T_96_42 rfl ?_
    refine x_gR (z := some 2187) T_96_43 F_0_2 (hP.o xo_128) (hP.rc xo_128 rfl rfl) ?_
    refine x_cv1 T_96_46 mN_99 mL_99 (Nat.le_of_ble_eq_true rfl) mO_99 (hP.o xo_2187) (Nat.le_of_ble_eq_true rfl) (hg) ?_
    rintro _ σ ⟨rfl, rfl⟩
    refine cI ?_
    refine x_if T_96_49 (fun h => absurd (show (1 : Int) = 0 from h) (by decide)) (fun _ => ?_)
    refine x_lr (z := some 128) T_96_52 rfl ?_
    refine x_gR (z := some 2187) T_96_53 F_0_2 (hP.o xo_128) (hP.rc xo_128 rfl rfl) ?_
    refine x_lr (z := some pr) T_96_56 rfl ?_
    refine x_cv2 T_96_57 mN_100 mL_100 (Nat.le_of_ble_eq_true rfl) mO_100 (hP.o xo_2187) (Nat.le_of_ble_eq_true rfl) (hnx) ?_
    clear hP hnx
    rintro _ σ ⟨rfl, V, hP, hF, hR, hS⟩
    refine cR ?_
    refine x_sr (ls1 := [some (vR (some 128)), some (vI p), some (vR (some pr)), some (vI i), some (vR (some k)), x5]) T_96_60 rfl ?_
    refine x_lr (z := some k) T_96_62 rfl ?_
    refine x_nnul T_96_64 (fun _ _ => ?_) (fun h0 => absurd h0 (by simp))
    exact h1' σ V hF q hP hR hS
  · have hnx := hnx.mono (Q := fun r σ' => r = some (vR none) ∧ ∃ V, PX σ0 V R σ' ∧ (FNX k W V ∧ (fs.length = 12 → FNX 2280 W V)) ∧ SHL V (fs.length : Int) (bgC (fs.length : Int) c) (bgE (fs.length : Int) c L) 0) (fun r σ' h => by
      obtain ⟨V, g1, g2, g3 | g3⟩ := h
      · exact absurd g3.1 q
      · exact ⟨g3.2.1, V, g1, g2, g3.2.2⟩)
    refine x_li (z := i) T_96_36 rfl ?_
    refine x_ic T_96_37 ?_
    refine x_ic2 T_96_39 (fun h => absurd (show 1000000 ≤ i from h) (by omega)) (fun _ => ?_)
    refine x_lr (z := some 128) T_96_42 rfl ?_
    refine x_gR (z := some 2187) T_96_43 F_0_2 (hP.o xo_128) (hP.rc xo_128 rfl rfl) ?_
    refine x_cv1 T_96_46 mN_99 mL_99 (Nat.le_of_ble_eq_true rfl) mO_99 (hP.o xo_2187) (Nat.le_of_ble_eq_true rfl) (hg) ?_
    rintro _ σ ⟨rfl, rfl⟩
    refine cI ?_
    refine x_if T_96_49 (fun h => absurd (show (1 : Int) = 0 from h) (by decide)) (fun _ => ?_)
    refine x_lr (z := some 128) T_96_52 rfl ?_
    refine x_gR (z := some 2187) T_96_53 F_0_2 (hP.o xo_128) (hP.rc xo_128 rfl rfl) ?_
    refine x_lr (z := some pr) T_96_56 rfl ?_
    refine x_cv2 T_96_57 mN_100 mL_100 (Nat.le_of_ble_eq_true rfl) mO_100 (hP.o xo_2187) (Nat.le_of_ble_eq_true rfl) (hnx) ?_
    clear hP hnx
    rintro _ σ ⟨rfl, V, hP, hF, hS⟩
    refine cR ?_
    refine x_sr (ls1 := [some (vR (some 128)), some (vI p), some (vR (some pr)), some (vI i), some (vR none), x5]) T_96_60 rfl ?_
    refine x_lr (z := none) T_96_62 rfl ?_
    refine x_nnul T_96_64 (fun a0 h0 => absurd h0 (by simp)) (fun _ => ?_)
    refine x_goto T_96_67 ?_
    refine x_inc (w := (i + 1)) (ls1 := [some (vR (some 128)), some (vI p), some (vR (some pr)), some (vI (i + 1)), some (vR none), x5]) T_96_584 rfl (w32_id (by omega) (by omega)) rfl ?_
    refine x_goto T_96_587 ?_
    exact h0' σ V hF q hP hS
end XLP1
