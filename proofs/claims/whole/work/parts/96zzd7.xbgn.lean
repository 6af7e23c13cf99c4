/-! The class's processes: one begins. -/
theorem T_191_0 : hTab 191 0 = some ((3, 0, 2, []), 1) := rfl
theorem T_191_1 : hTab 191 1 = some ((0, 0, 1, []), 2) := rfl
theorem T_191_2 : hTab 191 2 = some ((25, 6, Int.ofNat 5, []), 5) := rfl
theorem T_191_5 : hTab 191 5 = some ((3, 0, 2, []), 6) := rfl
theorem T_191_6 : hTab 191 6 = some ((0, 0, 0, []), 7) := rfl
theorem T_191_7 : hTab 191 7 = some ((25, 6, Int.ofNat 6, []), 10) := rfl
theorem T_191_10 : hTab 191 10 = some ((3, 0, 2, []), 11) := rfl
theorem T_191_11 : hTab 191 11 = some ((3, 1, 0, []), 12) := rfl
theorem T_191_12 : hTab 191 12 = some ((25, 6, Int.ofNat 7, []), 15) := rfl
theorem T_191_15 : hTab 191 15 = some ((3, 0, 2, []), 16) := rfl
theorem T_191_16 : hTab 191 16 = some ((3, 2, 0, []), 17) := rfl
theorem T_191_17 : hTab 191 17 = some ((25, 6, Int.ofNat 8, []), 20) := rfl
theorem T_191_20 : hTab 191 20 = some ((3, 0, 2, []), 21) := rfl
theorem T_191_21 : hTab 191 21 = some ((3, 3, 2, []), 22) := rfl
theorem T_191_22 : hTab 191 22 = some ((25, 6, Int.ofNat 9, []), 25) := rfl
theorem T_191_25 : hTab 191 25 = some ((3, 0, 2, []), 26) := rfl
theorem T_191_26 : hTab 191 26 = some ((24, 6, Int.ofNat 9, []), 29) := rfl
theorem T_191_29 : hTab 191 29 = some ((6, 0, 0, []), 30) := rfl
theorem T_191_30 : hTab 191 30 = some ((24, 3, Int.ofNat 2, []), 33) := rfl
theorem T_191_33 : hTab 191 33 = some ((0, 0, 1, []), 34) := rfl
theorem T_191_34 : hTab 191 34 = some ((10, 0, 0, []), 35) := rfl
theorem T_191_35 : hTab 191 35 = some ((25, 3, Int.ofNat 2, []), 38) := rfl
theorem T_191_38 : hTab 191 38 = some ((3, 0, 2, []), 39) := rfl
theorem T_191_39 : hTab 191 39 = some ((24, 6, Int.ofNat 1, []), 42) := rfl
theorem T_191_42 : hTab 191 42 = some ((31, 27, 0, []), 45) := rfl
theorem T_191_45 : hTab 191 45 = some ((3, 0, 2, []), 46) := rfl
theorem T_191_46 : hTab 191 46 = some ((24, 6, Int.ofNat 1, []), 49) := rfl
theorem T_191_49 : hTab 191 49 = some ((0, 0, 47, []), 51) := rfl
theorem T_191_51 : hTab 191 51 = some ((31, 73, 0, []), 54) := rfl
theorem T_191_54 : hTab 191 54 = some ((7, 0, 0, []), 55) := rfl
theorem T_191_55 : hTab 191 55 = some ((3, 0, 2, []), 56) := rfl
theorem T_191_56 : hTab 191 56 = some ((24, 6, Int.ofNat 2, []), 59) := rfl
theorem T_191_59 : hTab 191 59 = some ((31, 27, 0, []), 62) := rfl
theorem T_191_62 : hTab 191 62 = some ((0, 0, 0, []), 63) := rfl
theorem T_191_63 : hTab 191 63 = some ((4, 4, 0, []), 65) := rfl
theorem T_191_65 : hTab 191 65 = some ((3, 4, 0, []), 67) := rfl
theorem T_191_67 : hTab 191 67 = some ((0, 0, 26, []), 69) := rfl
theorem T_191_69 : hTab 191 69 = some ((19, 3, Int.ofNat 88, []), 72) := rfl
theorem T_191_72 : hTab 191 72 = some ((3, 0, 2, []), 73) := rfl
theorem T_191_73 : hTab 191 73 = some ((24, 6, Int.ofNat 3, []), 76) := rfl
theorem T_191_76 : hTab 191 76 = some ((3, 4, 0, []), 78) := rfl
theorem T_191_78 : hTab 191 78 = some ((26, 10, 0, []), 79) := rfl
theorem T_191_79 : hTab 191 79 = some ((31, 27, 0, []), 82) := rfl
theorem T_191_82 : hTab 191 82 = some ((5, 4, 1, []), 85) := rfl
theorem T_191_85 : hTab 191 85 = some ((22, 0, Int.ofNat 65, []), 88) := rfl
theorem T_191_88 : hTab 191 88 = some ((33, 0, 0, []), 89) := rfl
theorem mN_191 : hmN 191 = 4 := by decide +kernel
theorem mL_191 : hmL 191 = 5 := by decide +kernel
theorem mK_191 : hmK 191 = 1 := by decide +kernel
theorem mO_191 : hmO 191 = 6 := by decide +kernel
/-- what a process's object is behind its beginning -/
def BGN (W : qR) (pr ga : Nat) (u r : Int) (W2 : qR) : Prop := W2 pr 2197 = 1 ∧ W2 pr 2198 = 0 ∧ W2 pr 2199 = u ∧ W2 pr 2200 = r ∧ W2 ga 2098 = W ga 2098 + 1 ∧ BY W2 (pr + 1) 60 [47] ∧ BY W2 (pr + 3) 1000 [] ∧ (∀ x : Int, 0 ≤ x → x < 26 → BY W2 (pr + 7 + 2 * x.toNat) 20 []) ∧ (∀ (x : Nat) (k : Int), ¬ (pr ≤ x ∧ x < pr + 59) → ¬ (x = ga ∧ k = 2098) → W2 x k = W x k) ∧ W2 pr 2192 = W pr 2192
section XBGN
variable {fb : Bool} {d y a b c ga : Nat} {σ0 σ : hM} {W W1 W2 V : qR} {R R1 R2 : rR} {i j k s f u r p h0 : Int}
theorem bg_1 : ∀ p < 8, tX (296 + 125 * p) = some (Sum.inl 2) := by decide +kernel
theorem bg_2 : ∀ p < 8, tX (297 + 125 * p) = some (Sum.inr (1, 60)) := by decide +kernel
theorem bg_3 : ∀ p < 8, tX (298 + 125 * p) = some (Sum.inl 2) := by decide +kernel
theorem bg_4 : ∀ p < 8, tX (299 + 125 * p) = some (Sum.inr (1, 1000)) := by decide +kernel
theorem bg_5 : ∀ p < 8, ∀ x < 26, tX (303 + 125 * p + 2 * x) = some (Sum.inr (1, 20)) := by decide +kernel
theorem prO_sh (hp : 0 ≤ p ∧ p < 8) : SH (prO p + 1) 60 ∧ SH (prO p + 3) 1000 ∧ ∀ x : Int, 0 ≤ x → x < 26 → SH (prO p + 7 + 2 * x.toNat) 20 := by
  have hp8 : p.toNat < 8 := by omega
  have h1 := bg_1 p.toNat hp8
  have h2 := bg_2 p.toNat hp8
  have h3 := bg_3 p.toNat hp8
  have h4 := bg_4 p.toNat hp8
  have e : prO p = 295 + 125 * p.toNat := rfl
  refine ⟨⟨?_, ⟨?_, by omega⟩, by decide⟩, ⟨?_, ⟨?_, by omega⟩, by decide⟩, fun x x0 x1 => ?_⟩
  · rw [e, show 295 + 125 * p.toNat + 1 = 296 + 125 * p.toNat by omega]; exact h1
  · rw [e, show 295 + 125 * p.toNat + 1 + 1 = 297 + 125 * p.toNat by omega]; exact h2
  · rw [e, show 295 + 125 * p.toNat + 3 = 298 + 125 * p.toNat by omega]; exact h3
  · rw [e, show 295 + 125 * p.toNat + 3 + 1 = 299 + 125 * p.toNat by omega]; exact h4
  · have g1 := tX_var p.toNat hp8 x.toNat (by omega)
    have g2 := bg_5 p.toNat hp8 x.toNat (by omega)
    refine ⟨?_, ⟨?_, by omega⟩, by decide⟩
    · rw [e, show 295 + 125 * p.toNat + 7 + 2 * x.toNat = 302 + 125 * p.toNat + 2 * x.toNat by omega]; exact g1
    · rw [e, show 295 + 125 * p.toNat + 7 + 2 * x.toNat + 1 = 303 + 125 * p.toNat + 2 * x.toNat by omega]; exact g2
theorem bgn_loop (hp : 0 ≤ p ∧ p < 8) {Q : Option AV → hM → Prop} : ∀ (m : Nat) (i : Int) (σ : hM) (V : qR), i + m = 26 → 0 ≤ i → PX σ0 V R σ → (∀ x : Int, 0 ≤ x → x < i → BY V (prO p + 7 + 2 * x.toNat) 20 []) → (∀ (σ : hM) (V2 : qR), PX σ0 V2 R σ → (∀ x : Int, 0 ≤ x → x < 26 → BY V2 (prO p + 7 + 2 * x.toNat) 20 []) → (∀ (x : Nat) (k : Int), ¬ (prO p + 7 ≤ x ∧ x < prO p + 59) → V2 x k = V x k) → Q none σ) → WP fb (d + 1) 191 65 [some (vR (some (prO p))), some (vI u), some (vI r), some (vR (some ga)), some (vI i)] [] σ Q := by
  have ho := prO_o hp
  have hA := (prO_a hp).2
  have hrp := prO_rng hp
  intro m
  induction m with
  | zero =>
    intro i σ V h1 h2 hP hV hQ
    have hi : i = 26 := by omega
    subst hi
    have hgo := hQ σ V hP hV (fun _ _ _ => rfl)
    obtain ⟨a, ha⟩ : ∃ a, prO p = a := ⟨_, rfl⟩
    rw [ha] at ho ⊢
    refine x_li (z := 26) T_191_65 rfl ?_
    refine x_ic T_191_67 ?_
    refine x_ic2 T_191_69 (fun _ => ?_) (fun h => absurd (show 26 ≤ (26 : Int) by decide) h)
    refine x_rv T_191_88 ?_
    exact hgo
  | succ m ih =>
    intro i σ V h1 h2 hP hV hQ
    have hcl := x_clear0 (fb := fb) (d := d) hP ((prO_sh hp).2.2 i h2 (by omega))
    have hr := rA_var (x := i) hp ⟨h2, by omega⟩
    have hgo := fun (σ : hM) (V2 : qR) (hP : PX σ0 V2 R σ) (hB : BY V2 (prO p + 7 + 2 * i.toNat) 20 []) (hF : FB (prO p + 7 + 2 * i.toNat) V V2) => ih (i + 1) σ V2 (by omega) (by omega) hP (fun x x0 x1 => by
      by_cases q : x = i
      · rw [q]; exact hB
      · exact hF.by (hV x x0 (by omega)) (by omega)) (fun σ V4 hP h1 h2 => hQ σ V4 hP h1 (fun x k hx => (h2 x k hx).trans (hF x k (by omega) (by omega))))
    obtain ⟨a, ha⟩ : ∃ a, prO p = a := ⟨_, rfl⟩
    have hvo : tX (prO p + 7 + 2 * i.toNat) = some (Sum.inl 2) := ((prO_sh hp).2.2 i h2 (by omega)).1
    obtain ⟨vb, hvb⟩ : ∃ vb, prO p + 7 + 2 * i.toNat = vb := ⟨_, rfl⟩
    simp only [hvb] at hr hcl hgo hvo
    simp only [ha] at ho hA hr hgo ⊢
    refine x_li (z := i) T_191_65 rfl ?_
    refine x_ic T_191_67 ?_
    refine x_ic2 T_191_69 (fun h => absurd (show 26 ≤ i from h) (by omega)) (fun _ => ?_)
    refine x_lr (z := some a) T_191_72 rfl ?_
    refine x_gR (z := some (a + 5)) T_191_73 F_6_3 (hP.o ho) (hP.rc ho rfl rfl) ?_
    refine x_li (z := i) T_191_76 rfl ?_
    refine x_alR (z := some vb) T_191_78 (hP.ta hA) (by decide) (by omega) (by omega) (hP.arc hA rfl hr) ?_
    refine x_cv1 T_191_79 mN_27 mL_27 (Nat.le_of_ble_eq_true rfl) mO_27 (hP.o hvo) (Nat.le_of_ble_eq_true rfl) (hcl) ?_
    clear hP
    rintro _ σ ⟨rfl, V2, hP, hB2, hF2⟩
    refine cV ?_
    refine x_inc (w := (i + 1)) (ls1 := [some (vR (some a)), some (vI u), some (vI r), some (vR (some ga)), some (vI (i + 1))]) T_191_82 rfl (w32_id (by omega) (by omega)) rfl ?_
    refine x_goto T_191_85 ?_
    exact hgo σ V2 hP hB2 hF2
theorem x_begin (hP : PX σ0 W R σ) (hp : 0 ≤ p ∧ p < 8) (hga : tX ga = some (Sum.inl 3)) (hg2 : ¬ (prO p ≤ ga ∧ ga < prO p + 59)) (h98 : W ga 2098 = h0) (hh : 0 ≤ h0 ∧ h0 ≤ 8) : CL fb (d + 1) 191 [vR (some (prO p)), vI u, vI r, vR (some ga)] σ (fun o σ' => o = none ∧ ∃ W2, PX σ0 W2 (oU R (prO p) 2201 (some ga)) σ' ∧ BGN W (prO p) ga u r W2) := by
  have ho := prO_o hp
  have hrp := prO_rng hp
  obtain ⟨s1, s2, s3⟩ := prO_sh hp
  have hc1 := fun (σ : hM) (V : qR) (hP : PX σ0 V (oU R (prO p) 2201 (some ga)) σ) => x_clear0 (fb := fb) (d := d) hP s1
  have hc2 := fun (σ : hM) (V : qR) (hP : PX σ0 V (oU R (prO p) 2201 (some ga)) σ) (hB : BY V (prO p + 1) 60 []) => x_add (fb := fb) (d := d) (x := 47) hP hB (by decide)
  have e1 : (if (([] : List Int).length : Int) < ((60 : Nat) : Int) then ([] : List Int) ++ [47] else []) = [47] := rfl
  have e2 : (if (([] : List Int).length : Int) < ((60 : Nat) : Int) then (1 : Int) else 0) = 1 := rfl
  rw [e1, e2] at hc2
  have hc3 := fun (σ : hM) (V : qR) (hP : PX σ0 V (oU R (prO p) 2201 (some ga)) σ) => x_clear0 (fb := fb) (d := d) hP s2
  have hlo := fun (σ : hM) (V : qR) (hP : PX σ0 V (oU R (prO p) 2201 (some ga)) σ) => bgn_loop (fb := fb) (d := d) (σ0 := σ0) (u := u) (r := r) (ga := ga) (Q := fun o σ' => o = none ∧ ∃ W2, PX σ0 W2 (oU R (prO p) 2201 (some ga)) σ' ∧ (∀ x : Int, 0 ≤ x → x < 26 → BY W2 (prO p + 7 + 2 * x.toNat) 20 []) ∧ ∀ (x : Nat) (k : Int), ¬ (prO p + 7 ≤ x ∧ x < prO p + 59) → W2 x k = V x k) hp 26 0 σ V (by decide) (by decide) hP (fun x h0 h1 => by omega) (fun σ V2 hP h1 h2 => ⟨rfl, V2, hP, h1, h2⟩)
  obtain ⟨V0, hV0⟩ : ∃ V0, rU (rU (rU (rU (rU W (prO p) 2197 1) (prO p) 2198 0) (prO p) 2199 u) (prO p) 2200 r) ga 2098 (h0 + 1) = V0 := ⟨_, rfl⟩
  have hfin : ∀ (V1 V2 V3 W2 : qR), BY V1 (prO p + 1) 60 [] → FB (prO p + 1) V0 V1 → BY V2 (prO p + 1) 60 [47] → FB (prO p + 1) V1 V2 → BY V3 (prO p + 3) 1000 [] → FB (prO p + 3) V2 V3 → (∀ x : Int, 0 ≤ x → x < 26 → BY W2 (prO p + 7 + 2 * x.toNat) 20 []) → (∀ (x : Nat) (k : Int), ¬ (prO p + 7 ≤ x ∧ x < prO p + 59) → W2 x k = V3 x k) → BGN W (prO p) ga u r W2 := fun V1 V2 V3 W2 b1 f1 b2 f2 b3 f3 b4 f4 => by
    have hgp : ga ≠ prO p := by omega
    have hk : ∀ k : Int, k ≠ 2065 → W2 (prO p) k = V0 (prO p) k := fun k _ => (f4 _ _ (by omega)).trans ((f3 _ _ (by omega) (by omega)).trans ((f2 _ _ (by omega) (by omega)).trans (f1 _ _ (by omega) (by omega))))
    have hall : ∀ (x : Nat) (k : Int), ¬ (prO p ≤ x ∧ x < prO p + 59) → W2 x k = V0 x k := fun x k hx => (f4 _ _ (by omega)).trans ((f3 _ _ (by omega) (by omega)).trans ((f2 _ _ (by omega) (by omega)).trans (f1 _ _ (by omega) (by omega))))
    have hby : ∀ {b n : Nat} {l : List Int}, BY V3 b n l → b + 1 < prO p + 7 → BY W2 b n l := fun {b n l} h hb => by
      obtain ⟨a1, a2, a3, a4, a5, a6, a7⟩ := h
      exact ⟨a1, a2, a3, (f4 _ _ (by omega)).trans a4, a5, a6, fun i i0 i1 => (f4 _ _ (by omega)).trans (a7 i i0 i1)⟩
    refine ⟨?_, ?_, ?_, ?_, ?_, hby (f3.by b2 (by omega)) (by omega), hby b3 (by omega), b4, fun x k hx hy => ?_, ?_⟩
    · rw [hk _ (by decide), ← hV0, rU_f (fun c => hgp c.symm), rU_k (by decide), rU_k (by decide), rU_k (by decide)]
      exact rU_s
    · rw [hk _ (by decide), ← hV0, rU_f (fun c => hgp c.symm), rU_k (by decide), rU_k (by decide)]
      exact rU_s
    · rw [hk _ (by decide), ← hV0, rU_f (fun c => hgp c.symm), rU_k (by decide)]
      exact rU_s
    · rw [hk _ (by decide), ← hV0, rU_f (fun c => hgp c.symm)]
      exact rU_s
    · rw [hall _ _ (by omega), ← hV0, h98]
      exact rU_s
    · have hxp : x ≠ prO p := by omega
      rw [hall _ _ hx, ← hV0]
      exact (if_neg hy).trans ((rU_f hxp).trans ((rU_f hxp).trans ((rU_f hxp).trans (rU_f hxp))))
    · rw [hk _ (by decide), ← hV0, rU_f (fun c => hgp c.symm), rU_k (by decide), rU_k (by decide), rU_k (by decide), rU_k (by decide)]
  obtain ⟨a, ha⟩ : ∃ a, prO p = a := ⟨_, rfl⟩
  simp only [ha] at ho hrp hg2 hV0 hc1 hc2 hc3 hlo hfin ⊢
  have ho1 : tX (a + 1) = some (Sum.inl 2) := by rw [← ha]; exact s1.1
  have ho3 : tX (a + 3) = some (Sum.inl 2) := by rw [← ha]; exact s2.1
  have hne : ga ≠ a := by omega
  refine CL_in mL_191 rfl ?_
  show WP fb _ 191 0 [some (vR (some a)), some (vI u), some (vI r), some (vR (some ga)), none] [] σ _
  refine x_lr (z := some a) T_191_0 rfl ?_
  refine x_ic T_191_1 ?_
  refine z_pZ hP T_191_2 F_6_5 rfl ho (key := 2197) rfl (fun σ hP => ?_)
  refine x_lr (z := some a) T_191_5 rfl ?_
  refine x_ic T_191_6 ?_
  refine z_pZ hP T_191_7 F_6_6 rfl ho (key := 2198) rfl (fun σ hP => ?_)
  refine x_lr (z := some a) T_191_10 rfl ?_
  refine x_li (z := u) T_191_11 rfl ?_
  refine z_pI hP T_191_12 F_6_7 ho (key := 2199) rfl (fun σ hP => ?_)
  refine x_lr (z := some a) T_191_15 rfl ?_
  refine x_li (z := r) T_191_16 rfl ?_
  refine z_pI hP T_191_17 F_6_8 ho (key := 2200) rfl (fun σ hP => ?_)
  refine x_lr (z := some a) T_191_20 rfl ?_
  refine x_lr (z := some ga) T_191_21 rfl ?_
  refine z_pR hP T_191_22 F_6_9 rfl ho (key := 2201) rfl (fun σ hP => ?_)
  refine x_lr (z := some a) T_191_25 rfl ?_
  refine x_gR (z := some ga) T_191_26 F_6_9 (hP.o ho) (Eq.trans (hP.rm ho rfl (key := 2201) rfl) oU_s) ?_
  refine x_dupR T_191_29 ?_
  refine x_gI (z := h0) T_191_30 (Or.inl F_3_2) (hP.o hga) (Eq.trans (Eq.trans (hP.gi hga (key := 2098) rfl) (Eq.trans (rU_j (by decide)) (Eq.trans (rU_j (by decide)) (Eq.trans (rU_j (by decide)) (rU_j (by decide)))))) h98) ?_
  refine x_ic T_191_33 ?_
  refine x_ib (w := (h0 + 1)) T_191_34 (fun h => absurd h.1 (by decide)) (w32_id (by omega) (by omega)) ?_
  refine z_pI hP T_191_35 F_3_2 hga (key := 2098) rfl (fun σ hP => ?_)
  refine x_lr (z := some a) T_191_38 rfl ?_
  refine x_gR (z := some (a + 1)) T_191_39 F_6_1 (hP.o ho) (hP.rc ho rfl rfl) ?_
  refine x_cv1 T_191_42 mN_27 mL_27 (Nat.le_of_ble_eq_true rfl) mO_27 (hP.o ho1) (Nat.le_of_ble_eq_true rfl) (hc1 σ _ hP) ?_
  clear hP
  rintro _ σ ⟨rfl, V1, hP, hB1, hF1⟩
  rw [hV0] at hF1
  refine cV ?_
  refine x_lr (z := some a) T_191_45 rfl ?_
  refine x_gR (z := some (a + 1)) T_191_46 F_6_1 (hP.o ho) (hP.rc ho rfl rfl) ?_
  refine x_ic T_191_49 ?_
  refine x_cv2 T_191_51 mN_73 mL_73 (Nat.le_of_ble_eq_true rfl) mO_73 (hP.o ho1) (Nat.le_of_ble_eq_true rfl) (hc2 σ V1 hP hB1) ?_
  clear hP
  rintro _ σ ⟨rfl, V2, hP, hB2, hF2⟩
  refine cI ?_
  refine x_popI T_191_54 ?_
  refine x_lr (z := some a) T_191_55 rfl ?_
  refine x_gR (z := some (a + 3)) T_191_56 F_6_2 (hP.o ho) (hP.rc ho rfl rfl) ?_
  refine x_cv1 T_191_59 mN_27 mL_27 (Nat.le_of_ble_eq_true rfl) mO_27 (hP.o ho3) (Nat.le_of_ble_eq_true rfl) (hc3 σ V2 hP) ?_
  clear hP
  rintro _ σ ⟨rfl, V3, hP, hB3, hF3⟩
  refine cV ?_
  refine x_ic T_191_62 ?_
  refine x_si (ls1 := [some (vR (some a)), some (vI u), some (vI r), some (vR (some ga)), some (vI 0)]) T_191_63 rfl ?_
  refine (hlo σ V3 hP).mono ?_
  rintro o σ1 ⟨rfl, W2, g1, g2, g3⟩
  exact ⟨rfl, W2, g1, hfin V1 V2 V3 W2 hB1 hF1 hB2 hF2 hB3 hF3 g2 g3⟩
end XBGN
