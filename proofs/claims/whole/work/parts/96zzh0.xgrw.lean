/-! The class's Group.remove and Point.remove; one group alone changes. -/
theorem T_183_0 : hTab 183 0 = some ((3, 1, 0, []), 1) := rfl
theorem T_183_1 : hTab 183 1 = some ((18, 2, Int.ofNat 18, []), 4) := rfl
theorem T_183_4 : hTab 183 4 = some ((3, 1, 0, []), 5) := rfl
theorem T_183_5 : hTab 183 5 = some ((3, 0, 2, []), 6) := rfl
theorem T_183_6 : hTab 183 6 = some ((24, 4, Int.ofNat 3, []), 9) := rfl
theorem T_183_9 : hTab 183 9 = some ((19, 3, Int.ofNat 18, []), 12) := rfl
theorem T_183_12 : hTab 183 12 = some ((3, 1, 0, []), 13) := rfl
theorem T_183_13 : hTab 183 13 = some ((0, 0, 6, []), 15) := rfl
theorem T_183_15 : hTab 183 15 = some ((19, 2, Int.ofNat 19, []), 18) := rfl
theorem T_183_19 : hTab 183 19 = some ((3, 0, 2, []), 20) := rfl
theorem T_183_20 : hTab 183 20 = some ((24, 4, Int.ofNat 0, []), 23) := rfl
theorem T_183_23 : hTab 183 23 = some ((3, 1, 0, []), 24) := rfl
theorem T_183_24 : hTab 183 24 = some ((26, 10, 0, []), 25) := rfl
theorem T_183_25 : hTab 183 25 = some ((4, 2, 2, []), 26) := rfl
theorem T_183_26 : hTab 183 26 = some ((3, 0, 2, []), 27) := rfl
theorem T_183_27 : hTab 183 27 = some ((6, 0, 0, []), 28) := rfl
theorem T_183_28 : hTab 183 28 = some ((24, 4, Int.ofNat 3, []), 31) := rfl
theorem T_183_31 : hTab 183 31 = some ((0, 0, 1, []), 32) := rfl
theorem T_183_32 : hTab 183 32 = some ((10, 1, 0, []), 33) := rfl
theorem T_183_33 : hTab 183 33 = some ((25, 4, Int.ofNat 3, []), 36) := rfl
theorem T_183_36 : hTab 183 36 = some ((3, 1, 0, []), 37) := rfl
theorem T_183_37 : hTab 183 37 = some ((4, 3, 0, []), 38) := rfl
theorem T_183_38 : hTab 183 38 = some ((3, 3, 0, []), 39) := rfl
theorem T_183_39 : hTab 183 39 = some ((3, 0, 2, []), 40) := rfl
theorem T_183_40 : hTab 183 40 = some ((24, 4, Int.ofNat 3, []), 43) := rfl
theorem T_183_43 : hTab 183 43 = some ((19, 3, Int.ofNat 66, []), 46) := rfl
theorem T_183_46 : hTab 183 46 = some ((3, 0, 2, []), 47) := rfl
theorem T_183_47 : hTab 183 47 = some ((24, 4, Int.ofNat 0, []), 50) := rfl
theorem T_183_50 : hTab 183 50 = some ((3, 3, 0, []), 51) := rfl
theorem T_183_51 : hTab 183 51 = some ((3, 0, 2, []), 52) := rfl
theorem T_183_52 : hTab 183 52 = some ((24, 4, Int.ofNat 0, []), 55) := rfl
theorem T_183_55 : hTab 183 55 = some ((3, 3, 0, []), 56) := rfl
theorem T_183_56 : hTab 183 56 = some ((0, 0, 1, []), 57) := rfl
theorem T_183_57 : hTab 183 57 = some ((10, 0, 0, []), 58) := rfl
theorem T_183_58 : hTab 183 58 = some ((26, 10, 0, []), 59) := rfl
theorem T_183_59 : hTab 183 59 = some ((27, 10, 0, []), 60) := rfl
theorem T_183_60 : hTab 183 60 = some ((5, 3, 1, []), 63) := rfl
theorem T_183_63 : hTab 183 63 = some ((22, 0, Int.ofNat 38, []), 66) := rfl
theorem T_183_66 : hTab 183 66 = some ((3, 0, 2, []), 67) := rfl
theorem T_183_67 : hTab 183 67 = some ((24, 4, Int.ofNat 0, []), 70) := rfl
theorem T_183_70 : hTab 183 70 = some ((3, 0, 2, []), 71) := rfl
theorem T_183_71 : hTab 183 71 = some ((24, 4, Int.ofNat 3, []), 74) := rfl
theorem T_183_74 : hTab 183 74 = some ((3, 2, 2, []), 75) := rfl
theorem T_183_75 : hTab 183 75 = some ((27, 10, 0, []), 76) := rfl
theorem T_183_76 : hTab 183 76 = some ((33, 0, 0, []), 77) := rfl
theorem T_184_0 : hTab 184 0 = some ((0, 0, 0, []), 1) := rfl
theorem T_184_1 : hTab 184 1 = some ((4, 2, 0, []), 2) := rfl
theorem T_184_2 : hTab 184 2 = some ((0, 0, 0, []), 3) := rfl
theorem T_184_3 : hTab 184 3 = some ((4, 3, 0, []), 4) := rfl
theorem T_184_4 : hTab 184 4 = some ((3, 3, 0, []), 5) := rfl
theorem T_184_5 : hTab 184 5 = some ((3, 0, 2, []), 6) := rfl
theorem T_184_6 : hTab 184 6 = some ((24, 3, Int.ofNat 1, []), 9) := rfl
theorem T_184_9 : hTab 184 9 = some ((19, 3, Int.ofNat 49, []), 12) := rfl
theorem T_184_12 : hTab 184 12 = some ((3, 3, 0, []), 13) := rfl
theorem T_184_13 : hTab 184 13 = some ((0, 0, 8, []), 15) := rfl
theorem T_184_15 : hTab 184 15 = some ((19, 3, Int.ofNat 49, []), 18) := rfl
theorem T_184_18 : hTab 184 18 = some ((3, 0, 2, []), 19) := rfl
theorem T_184_19 : hTab 184 19 = some ((24, 3, Int.ofNat 0, []), 22) := rfl
theorem T_184_22 : hTab 184 22 = some ((3, 3, 0, []), 23) := rfl
theorem T_184_23 : hTab 184 23 = some ((26, 10, 0, []), 24) := rfl
theorem T_184_24 : hTab 184 24 = some ((3, 1, 2, []), 25) := rfl
theorem T_184_25 : hTab 184 25 = some ((21, 0, Int.ofNat 43, []), 28) := rfl
theorem T_184_28 : hTab 184 28 = some ((3, 0, 2, []), 29) := rfl
theorem T_184_29 : hTab 184 29 = some ((24, 3, Int.ofNat 0, []), 32) := rfl
theorem T_184_32 : hTab 184 32 = some ((3, 2, 0, []), 33) := rfl
theorem T_184_33 : hTab 184 33 = some ((3, 0, 2, []), 34) := rfl
theorem T_184_34 : hTab 184 34 = some ((24, 3, Int.ofNat 0, []), 37) := rfl
theorem T_184_37 : hTab 184 37 = some ((3, 3, 0, []), 38) := rfl
theorem T_184_38 : hTab 184 38 = some ((26, 10, 0, []), 39) := rfl
theorem T_184_39 : hTab 184 39 = some ((27, 10, 0, []), 40) := rfl
theorem T_184_40 : hTab 184 40 = some ((5, 2, 1, []), 43) := rfl
theorem T_184_43 : hTab 184 43 = some ((5, 3, 1, []), 46) := rfl
theorem T_184_46 : hTab 184 46 = some ((22, 0, Int.ofNat 4, []), 49) := rfl
theorem T_184_49 : hTab 184 49 = some ((3, 2, 0, []), 50) := rfl
theorem T_184_50 : hTab 184 50 = some ((3, 0, 2, []), 51) := rfl
theorem T_184_51 : hTab 184 51 = some ((24, 3, Int.ofNat 1, []), 54) := rfl
theorem T_184_54 : hTab 184 54 = some ((19, 3, Int.ofNat 69, []), 57) := rfl
theorem T_184_57 : hTab 184 57 = some ((3, 0, 2, []), 58) := rfl
theorem T_184_58 : hTab 184 58 = some ((3, 2, 0, []), 59) := rfl
theorem T_184_59 : hTab 184 59 = some ((25, 3, Int.ofNat 1, []), 62) := rfl
theorem T_184_62 : hTab 184 62 = some ((3, 0, 2, []), 63) := rfl
theorem T_184_63 : hTab 184 63 = some ((24, 3, Int.ofNat 0, []), 66) := rfl
theorem T_184_66 : hTab 184 66 = some ((3, 2, 0, []), 67) := rfl
theorem T_184_67 : hTab 184 67 = some ((3, 1, 2, []), 68) := rfl
theorem T_184_68 : hTab 184 68 = some ((27, 10, 0, []), 69) := rfl
theorem T_184_69 : hTab 184 69 = some ((33, 0, 0, []), 70) := rfl
theorem mN_183 : hmN 183 = 2 := by decide +kernel
theorem mL_183 : hmL 183 = 4 := by decide +kernel
theorem mK_183 : hmK 183 = 1 := by decide +kernel
theorem mO_183 : hmO 183 = 4 := by decide +kernel
theorem mN_184 : hmN 184 = 2 := by decide +kernel
theorem mL_184 : hmL 184 = 4 := by decide +kernel
theorem mK_184 : hmK 184 = 1 := by decide +kernel
theorem mO_184 : hmO 184 = 3 := by decide +kernel
section XGRW
variable {fb : Bool} {d S a b y x0 n st b0 : Nat} {σ0 σ : hM} {W W1 W2 V P Q : qR} {R R1 R2 V3 : rR} {i j k x z v s e w f g p pt K T U C : Int}
theorem rmG_loop (hg : 0 ≤ g ∧ g < 8) (hcn : W (grO g) 2097 = C) (hC : C ≤ 8) (hA : ARP R (grO g + 1) 8 (grO g + 2) 8) (hp : 0 ≤ p ∧ p < C) (hb : R (grO g + 1) p = some b) {Q : Option AV → hM → Prop} (hQ : ∀ σ : hM, PX σ0 W (mvR R (grO g) p C) σ → WP fb d 184 49 [some (vR (some (grO g))), some (vR (some b)), some (vI (C - 1)), some (vI C)] [] σ Q) : ∀ (m : Nat) (i j : Int) (σ : hM), i + m = C → 0 ≤ i → j = (if i ≤ p then i else i - 1) → PX σ0 W (mvR R (grO g) p i) σ → WP fb d 184 4 [some (vR (some (grO g))), some (vR (some b)), some (vI j), some (vI i)] [] σ Q := by
  have hO := grO_o hg
  have hgA := grO_a hg
  have hrg := grO_rng hg
  have hbo : tX b = some (Sum.inl 4) := by
    obtain ⟨t, ht, hni⟩ := hA.1 p hp.1 (by omega)
    have : b = grO g + 2 + 8 * t := Option.some.inj (hb.symm.trans hni)
    rw [this]
    exact (PYO_of hg ht).1
  intro m
  induction m with
  | zero =>
    intro i j σ h1 h2 hj hP
    have h1 : i + ((0 : Nat) : Int) = C := h1
    have hi : i = C := by omega
    subst hi
    rw [if_neg (by omega)] at hj
    subst hj
    have hgo := hQ σ hP
    obtain ⟨ga, hga⟩ : ∃ q, grO g = q := ⟨_, rfl⟩
    rw [hga] at hO hgA hcn hgo hP ⊢
    refine x_li (z := i) T_184_4 rfl ?_
    refine x_lr (z := some ga) T_184_5 rfl ?_
    refine x_gI (z := i) T_184_6 (Or.inl F_3_1) (hP.o hO) (Eq.trans (hP.gi hO (key := 2097) rfl) hcn) ?_
    refine x_ic2 T_184_9 (fun _ => ?_) (fun h => absurd (show i ≤ i by omega) h)
    exact hgo
  | succ m ih =>
    intro i j σ h1 h2 hj hP
    have hgo := fun j (σ : hM) => ih (i + 1) j σ (by omega) (by omega)
    obtain ⟨t, ht, hni⟩ := hA.1 i h2 (by omega)
    have hno := (PYO_of hg ht).1
    have hat := (mvR_at (R := R) (S := grO g) (p := p) (i := i)).trans hni
    have hst := mvR_step (R := R) (S := grO g) (p := p) (i := i)
    rw [hni] at hst
    obtain ⟨na, hna⟩ : ∃ na, grO g + 2 + 8 * t = na := ⟨_, rfl⟩
    rw [hna] at hni hat hno hst
    have hmu : mutA (grO g + 1) 14 8 = true := rfl
    by_cases q : i = p
    · have hnb : na = b := by
        rw [q] at hni
        exact Option.some.inj (hni.symm.trans hb)
      subst hnb
      have hgo := hgo j σ (by rw [if_neg (by omega)]; rw [if_pos (by omega)] at hj; omega) (by rw [mvR_le (by omega)]; rw [mvR_le (by omega)] at hP; exact hP)
      obtain ⟨ga, hga⟩ : ∃ q, grO g = q := ⟨_, rfl⟩
      rw [hga] at hO hgA hcn hgo hP hat hmu ⊢
      refine x_li (z := i) T_184_4 rfl ?_
      refine x_lr (z := some ga) T_184_5 rfl ?_
      refine x_gI (z := C) T_184_6 (Or.inl F_3_1) (hP.o hO) (Eq.trans (hP.gi hO (key := 2097) rfl) hcn) ?_
      refine x_ic2 T_184_9 (fun h => absurd (show C ≤ i from h) (by omega)) (fun _ => ?_)
      refine x_li (z := i) T_184_12 rfl ?_
      refine x_ic T_184_13 ?_
      refine x_ic2 T_184_15 (fun h => absurd (show 8 ≤ i from h) (by omega)) (fun _ => ?_)
      refine x_lr (z := some ga) T_184_18 rfl ?_
      refine x_gR (z := some (ga + 1)) T_184_19 F_3_0 (hP.o hO) (hP.rc hO rfl rfl) ?_
      refine x_li (z := i) T_184_22 rfl ?_
      refine x_alR (z := some na) T_184_23 (hP.ta hgA) (by decide) (by omega) (by omega) (Eq.trans (hP.arm hgA hmu (by omega)) hat) ?_
      refine x_lr (z := some na) T_184_24 rfl ?_
      refine x_aeq T_184_25 (tX_o hno).1 (tX_o hno).1 (fun _ => ?_) (fun h0 => absurd h0 (by exact fun c => c rfl))
      refine x_inc (w := (i + 1)) (ls1 := [some (vR (some ga)), some (vR (some na)), some (vI j), some (vI (i + 1))]) T_184_43 rfl (w32_id (by omega) (by omega)) rfl ?_
      refine x_goto T_184_46 ?_
      exact hgo
    · have hnb : na ≠ b := fun e => q (hA.2 i p h2 (by omega) hp.1 (by omega) (by rw [hni, hb, e]))
      have hput : oU (mvR R (grO g) p i) (grO g + 1) j (some na) = mvR R (grO g) p (i + 1) := by
        by_cases q2 : i ≤ p
        · rw [if_pos q2] at hj
          rw [hj, mvR_le (by omega), mvR_le (by omega), ← hni]
          exact oU_self
        · rw [if_neg q2] at hj
          rw [hj]
          exact hst (by omega)
      have hgo := fun (σ : hM) (hP : PX σ0 W (oU (mvR R (grO g) p i) (grO g + 1) j (some na)) σ) => hgo (j + 1) σ (by split at hj <;> split <;> omega) (by rw [← hput]; exact hP)
      have hj0 : 0 ≤ j ∧ j < 8 := by split at hj <;> omega
      obtain ⟨ga, hga⟩ : ∃ q, grO g = q := ⟨_, rfl⟩
      simp only [hga] at hO hgA hcn hgo hP hat hmu ⊢
      refine x_li (z := i) T_184_4 rfl ?_
      refine x_lr (z := some ga) T_184_5 rfl ?_
      refine x_gI (z := C) T_184_6 (Or.inl F_3_1) (hP.o hO) (Eq.trans (hP.gi hO (key := 2097) rfl) hcn) ?_
      refine x_ic2 T_184_9 (fun h => absurd (show C ≤ i from h) (by omega)) (fun _ => ?_)
      refine x_li (z := i) T_184_12 rfl ?_
      refine x_ic T_184_13 ?_
      refine x_ic2 T_184_15 (fun h => absurd (show 8 ≤ i from h) (by omega)) (fun _ => ?_)
      refine x_lr (z := some ga) T_184_18 rfl ?_
      refine x_gR (z := some (ga + 1)) T_184_19 F_3_0 (hP.o hO) (hP.rc hO rfl rfl) ?_
      refine x_li (z := i) T_184_22 rfl ?_
      refine x_alR (z := some na) T_184_23 (hP.ta hgA) (by decide) (by omega) (by omega) (Eq.trans (hP.arm hgA hmu (by omega)) hat) ?_
      refine x_lr (z := some b) T_184_24 rfl ?_
      refine x_aeq T_184_25 (tX_o hbo).1 (tX_o hno).1 (fun h0 => absurd h0 (by exact fun c => hnb (Option.some.inj c))) (fun _ => ?_)
      refine x_lr (z := some ga) T_184_28 rfl ?_
      refine x_gR (z := some (ga + 1)) T_184_29 F_3_0 (hP.o hO) (hP.rc hO rfl rfl) ?_
      refine x_li (z := j) T_184_32 rfl ?_
      refine x_lr (z := some ga) T_184_33 rfl ?_
      refine x_gR (z := some (ga + 1)) T_184_34 F_3_0 (hP.o hO) (hP.rc hO rfl rfl) ?_
      refine x_li (z := i) T_184_37 rfl ?_
      refine x_alR (z := some na) T_184_38 (hP.ta hgA) (by decide) (by omega) (by omega) (Eq.trans (hP.arm hgA hmu (by omega)) hat) ?_
      refine z_aR hP T_184_39 (by decide) (fun _ e => by cases e; exact hno) hmu hgA (by omega) (by omega) (fun σ hP => ?_)
      refine x_inc (w := (j + 1)) (ls1 := [some (vR (some ga)), some (vR (some b)), some (vI (j + 1)), some (vI i)]) T_184_40 rfl (w32_id (by omega) (by omega)) rfl ?_
      refine x_inc (w := (i + 1)) (ls1 := [some (vR (some ga)), some (vR (some b)), some (vI (j + 1)), some (vI (i + 1))]) T_184_43 rfl (w32_id (by omega) (by omega)) rfl ?_
      refine x_goto T_184_46 ?_
      exact hgo σ hP
theorem x_removeG (hP : PX σ0 W R σ) (hg : 0 ≤ g ∧ g < 8) (hcn : W (grO g) 2097 = C) (hC : C ≤ 8) (hA : ARP R (grO g + 1) 8 (grO g + 2) 8) (hp : 0 ≤ p ∧ p < C) (hb : R (grO g + 1) p = some b) : CL fb d 184 [vR (some (grO g)), vR (some b)] σ (fun r σ' => r = none ∧ PX σ0 (rU W (grO g) 2097 (C - 1)) (rmR R (grO g) p C) σ') := by
  have hO := grO_o hg
  have hgA := grO_a hg
  have hrg := grO_rng hg
  have hbo : tX b = some (Sum.inl 4) := by
    obtain ⟨t, ht, hni⟩ := hA.1 p hp.1 (by omega)
    have : b = grO g + 2 + 8 * t := Option.some.inj (hb.symm.trans hni)
    rw [this]
    exact (PYO_of hg ht).1
  have hmu : mutA (grO g + 1) 14 8 = true := rfl
  have h49 : ∀ σ : hM, PX σ0 W (mvR R (grO g) p C) σ → WP fb d 184 49 [some (vR (some (grO g))), some (vR (some b)), some (vI (C - 1)), some (vI C)] [] σ (fun r σ' => r = none ∧ PX σ0 (rU W (grO g) 2097 (C - 1)) (rmR R (grO g) p C) σ') := fun σ hP => by
    unfold rmR
    rw [hb]
    obtain ⟨ga, hga⟩ : ∃ q, grO g = q := ⟨_, rfl⟩
    rw [hga] at hO hgA hcn hP hmu ⊢
    refine x_li (z := (C - 1)) T_184_49 rfl ?_
    refine x_lr (z := some ga) T_184_50 rfl ?_
    refine x_gI (z := C) T_184_51 (Or.inl F_3_1) (hP.o hO) (Eq.trans (hP.gi hO (key := 2097) rfl) hcn) ?_
    refine x_ic2 T_184_54 (fun h => absurd (show C ≤ (C - 1) from h) (by omega)) (fun _ => ?_)
    refine x_lr (z := some ga) T_184_57 rfl ?_
    refine x_li (z := (C - 1)) T_184_58 rfl ?_
    refine z_pI hP T_184_59 F_3_1 hO (key := 2097) rfl (fun σ hP => ?_)
    refine x_lr (z := some ga) T_184_62 rfl ?_
    refine x_gR (z := some (ga + 1)) T_184_63 F_3_0 (hP.o hO) (hP.rc hO rfl rfl) ?_
    refine x_li (z := (C - 1)) T_184_66 rfl ?_
    refine x_lr (z := some b) T_184_67 rfl ?_
    refine z_aR hP T_184_68 (by decide) (fun _ e => by cases e; exact hbo) hmu hgA (by omega) (by omega) (fun σ hP => ?_)
    refine x_rv T_184_69 ?_
    exact ⟨rfl, hP⟩
  have hlo := rmG_loop (fb := fb) (d := d) (σ0 := σ0) hg hcn hC hA hp hb h49 C.toNat 0 0 σ (by omega) (by decide) (by rw [if_pos hp.1]) (by rw [mvR_le (by omega)]; exact hP)
  obtain ⟨ga, hga⟩ : ∃ q, grO g = q := ⟨_, rfl⟩
  rw [hga] at hO hlo ⊢
  refine CL_in mL_184 rfl ?_
  show WP fb _ 184 0 [some (vR (some ga)), some (vR (some b)), none, none] [] σ _
  refine x_ic T_184_0 ?_
  refine x_si (ls1 := [some (vR (some ga)), some (vR (some b)), some (vI 0), none]) T_184_1 rfl ?_
  refine x_ic T_184_2 ?_
  refine x_si (ls1 := [some (vR (some ga)), some (vR (some b)), some (vI 0), some (vI 0)]) T_184_3 rfl ?_
  exact hlo
theorem rmM_loop (hY : PYO y) (hA : ARP R (y + 1) 6 (y + 2) 1) (hc : W y 2131 = C - 1) (hC : C ≤ 6) (hj : 0 ≤ j) {Q : Option AV → hM → Prop} (hQ : ∀ σ : hM, PX σ0 W (mvR R y j C) σ → WP fb d 183 66 [some (vR (some y)), some (vI j), some (vR (some b)), some (vI (C - 1))] [] σ Q) : ∀ (m : Nat) (i : Int) (σ : hM), i + m = C - 1 → j ≤ i → PX σ0 W (mvR R y j (i + 1)) σ → WP fb d 183 38 [some (vR (some y)), some (vI j), some (vR (some b)), some (vI i)] [] σ Q := by
  obtain ⟨h1, h2, h3, h4⟩ := hY
  have hmu := mut_pt (a := y + 1) (by omega)
  obtain ⟨D, hD⟩ : ∃ D, C - 1 = D := ⟨_, rfl⟩
  rw [hD] at hc hQ ⊢
  intro m
  induction m with
  | zero =>
    intro i σ e1 e2 hP
    have e1 : i + ((0 : Nat) : Int) = D := e1
    have hi : i = D := by omega
    subst hi
    rw [show i + 1 = C by omega] at hP
    have hgo := hQ σ hP
    refine x_li (z := i) T_183_38 rfl ?_
    refine x_lr (z := some y) T_183_39 rfl ?_
    refine x_gI (z := i) T_183_40 (Or.inl F_4_3) (hP.o h1) (Eq.trans (hP.gi h1 (key := 2131) rfl) hc) ?_
    refine x_ic2 T_183_43 (fun _ => ?_) (fun h => absurd (show i ≤ i by omega) h)
    exact hgo
  | succ m ih =>
    intro i σ e1 e2 hP
    have hgo := fun (σ : hM) => ih (i + 1) σ (by omega) (by omega)
    obtain ⟨t, ht, hni⟩ := hA.1 (i + 1) (by omega) (by omega)
    have hno := h4 t ht
    rw [Nat.one_mul] at hni
    have hat := (mvR_at (R := R) (S := y) (p := j) (i := i + 1)).trans hni
    have hst := mvR_step (R := R) (S := y) (p := j) (i := i + 1) (by omega)
    rw [hni, show i + 1 - 1 = i by omega] at hst
    obtain ⟨na, hna⟩ : ∃ na, y + 2 + t = na := ⟨_, rfl⟩
    rw [hna] at hat hno hst
    have hgo := fun (σ : hM) (hP : PX σ0 W (oU (mvR R y j (i + 1)) (y + 1) i (some na)) σ) => hgo σ (by rw [← hst]; exact hP)
    refine x_li (z := i) T_183_38 rfl ?_
    refine x_lr (z := some y) T_183_39 rfl ?_
    refine x_gI (z := D) T_183_40 (Or.inl F_4_3) (hP.o h1) (Eq.trans (hP.gi h1 (key := 2131) rfl) hc) ?_
    refine x_ic2 T_183_43 (fun h => absurd (show D ≤ i from h) (by omega)) (fun _ => ?_)
    refine x_lr (z := some y) T_183_46 rfl ?_
    refine x_gR (z := some (y + 1)) T_183_47 F_4_0 (hP.o h1) (hP.rc h1 rfl rfl) ?_
    refine x_li (z := i) T_183_50 rfl ?_
    refine x_lr (z := some y) T_183_51 rfl ?_
    refine x_gR (z := some (y + 1)) T_183_52 F_4_0 (hP.o h1) (hP.rc h1 rfl rfl) ?_
    refine x_li (z := i) T_183_55 rfl ?_
    refine x_ic T_183_56 ?_
    refine x_ib (w := (i + 1)) T_183_57 (fun h => absurd h.1 (by decide)) (w32_id (by omega) (by omega)) ?_
    refine x_alR (z := some na) T_183_58 (hP.ta h2) (by decide) (by omega) (by omega) (Eq.trans (hP.arm h2 hmu (by omega)) hat) ?_
    refine z_aR hP T_183_59 (by decide) (fun _ e => by cases e; exact hno) hmu h2 (by omega) (by omega) (fun σ hP => ?_)
    refine x_inc (w := (i + 1)) (ls1 := [some (vR (some y)), some (vI j), some (vR (some b)), some (vI (i + 1))]) T_183_60 rfl (w32_id (by omega) (by omega)) rfl ?_
    refine x_goto T_183_63 ?_
    exact hgo σ hP
theorem x_removeM (hP : PX σ0 W R σ) (hY : PYO y) (hA : ARP R (y + 1) 6 (y + 2) 1) (hc : W y 2131 = C) (hC : C ≤ 6) (hj : 0 ≤ j ∧ j < C) : CL fb d 183 [vR (some y), vI j] σ (fun r σ' => r = none ∧ PX σ0 (rU W y 2131 (C - 1)) (rmR R y j C) σ') := by
  obtain ⟨h1, h2, h3, h4⟩ := id hY
  have hmu := mut_pt (a := y + 1) (by omega)
  obtain ⟨t, ht, hni⟩ := hA.1 j hj.1 (by omega)
  have hbo := h4 t ht
  rw [Nat.one_mul] at hni
  obtain ⟨b, hb⟩ : ∃ b, y + 2 + t = b := ⟨_, rfl⟩
  rw [hb] at hbo hni
  have h66 : ∀ σ : hM, PX σ0 (rU W y 2131 (C - 1)) (mvR R y j C) σ → WP fb d 183 66 [some (vR (some y)), some (vI j), some (vR (some b)), some (vI (C - 1))] [] σ (fun r σ' => r = none ∧ PX σ0 (rU W y 2131 (C - 1)) (rmR R y j C) σ') := fun σ hP => by
    unfold rmR
    rw [hni]
    obtain ⟨V, hV⟩ : ∃ V, rU W y 2131 (C - 1) = V := ⟨_, rfl⟩
    have hc1 : V y 2131 = C - 1 := by rw [← hV]; exact rU_s
    rw [hV] at hP ⊢
    obtain ⟨D, hD⟩ : ∃ D, C - 1 = D := ⟨_, rfl⟩
    rw [hD] at hc1 ⊢
    refine x_lr (z := some y) T_183_66 rfl ?_
    refine x_gR (z := some (y + 1)) T_183_67 F_4_0 (hP.o h1) (hP.rc h1 rfl rfl) ?_
    refine x_lr (z := some y) T_183_70 rfl ?_
    refine x_gI (z := D) T_183_71 (Or.inl F_4_3) (hP.o h1) (Eq.trans (hP.gi h1 (key := 2131) rfl) hc1) ?_
    refine x_lr (z := some b) T_183_74 rfl ?_
    refine z_aR hP T_183_75 (by decide) (fun _ e => by cases e; exact hbo) hmu h2 (by omega) (by omega) (fun σ hP => ?_)
    refine x_rv T_183_76 ?_
    exact ⟨rfl, hP⟩
  have hlo := fun (σ : hM) (hP : PX σ0 (rU W y 2131 (C - 1)) R σ) => rmM_loop (fb := fb) (d := d) (σ0 := σ0) hY hA rU_s hC hj.1 h66 (C - 1 - j).toNat j σ (by omega) (Int.le_refl j) (by rw [mvR_le (by omega)]; exact hP)
  refine CL_in mL_183 rfl ?_
  show WP fb _ 183 0 [some (vR (some y)), some (vI j), none, none] [] σ _
  refine x_li (z := j) T_183_0 rfl ?_
  refine x_if T_183_1 (fun h => absurd (show j < 0 from h) (by omega)) (fun _ => ?_)
  refine x_li (z := j) T_183_4 rfl ?_
  refine x_lr (z := some y) T_183_5 rfl ?_
  refine x_gI (z := C) T_183_6 (Or.inl F_4_3) (hP.o h1) (Eq.trans (hP.gi h1 (key := 2131) rfl) hc) ?_
  refine x_ic2 T_183_9 (fun h => absurd (show C ≤ j from h) (by omega)) (fun _ => ?_)
  refine x_li (z := j) T_183_12 rfl ?_
  refine x_ic T_183_13 ?_
  refine x_ic2 T_183_15 (fun _ => ?_) (fun h => absurd (show j < 6 by omega) h)
  refine x_lr (z := some y) T_183_19 rfl ?_
  refine x_gR (z := some (y + 1)) T_183_20 F_4_0 (hP.o h1) (hP.rc h1 rfl rfl) ?_
  refine x_li (z := j) T_183_23 rfl ?_
  refine x_alR (z := some b) T_183_24 (hP.ta h2) (by decide) (by omega) (by omega) (Eq.trans (hP.arm h2 hmu (by omega)) hni) ?_
  refine x_sr (ls1 := [some (vR (some y)), some (vI j), some (vR (some b)), none]) T_183_25 rfl ?_
  refine x_lr (z := some y) T_183_26 rfl ?_
  refine x_dupR T_183_27 ?_
  refine x_gI (z := C) T_183_28 (Or.inl F_4_3) (hP.o h1) (Eq.trans (hP.gi h1 (key := 2131) rfl) hc) ?_
  refine x_ic T_183_31 ?_
  refine x_ib (w := (C - 1)) T_183_32 (fun h => absurd h.1 (by decide)) (w32_id (by omega) (by omega)) ?_
  refine z_pI hP T_183_33 F_4_3 h1 (key := 2131) rfl (fun σ hP => ?_)
  refine x_li (z := j) T_183_36 rfl ?_
  refine x_si (ls1 := [some (vR (some y)), some (vI j), some (vR (some b)), some (vI j)]) T_183_37 rfl ?_
  exact hlo σ hP
/-- only a group's object changes -/
def GRF (g : Int) (W W2 : qR) (R R2 : rR) : Prop := (∀ (x : Nat) (k : Int), ¬ (grO g ≤ x ∧ x < grO g + 66) ∨ k = 2198 → W2 x k = W x k) ∧ ∀ (x : Nat) (k : Int), ¬ (grO g ≤ x ∧ x < grO g + 66) ∨ k = 2267 → R2 x k = R x k
theorem GRF_rfl : GRF g W W R R := ⟨fun _ _ _ => rfl, fun _ _ _ => rfl⟩
theorem GRF_tr (h1 : GRF g W W1 R R1) (h2 : GRF g W1 W2 R1 R2) : GRF g W W2 R R2 := ⟨fun x k a => (h2.1 x k a).trans (h1.1 x k a), fun x k a => (h2.2 x k a).trans (h1.2 x k a)⟩
theorem GRF_ptf (hy : grO g ≤ y ∧ y + 8 ≤ grO g + 66) (h : PTF y W W2 R R2) : GRF g W W2 R R2 := ⟨fun x k a => by
    rcases a with a | a
    · exact h.1 x k (by omega)
    · rw [a]; exact h.2.2.1 x, fun x k a => by
    rcases a with a | a
    · exact h.2.2.2.1 x k (by omega)
    · rw [a]; exact h.2.2.2.2 x⟩
theorem GRF_fcm (hg : 0 ≤ g ∧ g < 8) (h : GRF g W W2 R R2) : FCM W W2 R R2 := by
  have := grO_rng hg
  exact ⟨fun x k a b c => h.1 x k (Or.inl (by omega)), fun x k a => h.2 x k (Or.inl (by omega))⟩
/-- in the middle of a change of a group -/
theorem XM.grf (h : XM K T U W R P) (hL : ∀ p : Int, 0 ≤ p → p < 8 → ¬ P 2320 p = 0 → R (295 + 125 * p.toNat) 2201 = some (grO (P 2323 p))) (hg : 0 ≤ g ∧ g < 8) (r : RF (2334 :: ptR) Q P) (hG : GI T U Q) (hF : GRF g W W2 R R2) (hn : W2 (grO g) 2097 = Q 2334 g) (hQ : ∀ g2 : Int, 0 ≤ g2 → g2 < 8 → g2 ≠ g → Q 2334 g2 = P 2334 g2) : XM K T U W2 R2 Q := by
  have hrg := grO_rng hg
  have egg : grO g = 229 + 125 * g.toNat := rfl
  refine h.rowG (fun f k hf => r f k (elem_sub (l1 := 2334 :: ptR) (l2 := npG) (by decide) hf)) hG (fun x k hx => hF.1 x k (by omega)) (fun x k hx => hF.2 x k (by omega)) (fun p p0 p1 hl => ?_)
  have hI := h.2.2.1.iv
  obtain ⟨b1, b2, ⟨b3, b4⟩, ⟨ga, c1, c2, c3, c4⟩, b5⟩ := h.2.2.2.2.1 p p0 p1 hl
  have hga : ga = grO (P 2323 p) := Option.some.inj (c1.symm.trans (hL p p0 p1 hl))
  have hgR2 : 0 ≤ P 2323 p ∧ P 2323 p ≤ 7 := IV.a hI 2323 0 8 rfl rfl rfl (by omega) (by omega)
  have hr3 := grO_rng (g := P 2323 p) ⟨hgR2.1, by omega⟩
  have eg3 : grO (P 2323 p) = 229 + 125 * (P 2323 p).toNat := rfl
  have hpb : 0 ≤ Q 2334 g ∧ Q 2334 g ≤ 8 := IV.a hG.iv 2334 0 8 rfl rfl rfl (by omega) (by omega)
  refine ⟨b1, b2, ⟨(hF.1 _ _ (Or.inl (by omega))).trans (b3.trans (r 2322 _ rfl).symm), by rw [r 2322 _ rfl]; exact b4⟩, ⟨ga, (hF.2 _ _ (Or.inl (by omega))).trans c1, c2, ?_, ?_⟩, fun k k0 k1 => ?_⟩
  · rw [r 2323 _ rfl]
    by_cases q : P 2323 p = g
    · rw [hga, q]
      exact hn
    · rw [hQ _ hgR2.1 (by omega) q, hF.1 _ _ (Or.inl (by omega))]
      exact c3
  · rw [r 2323 _ rfl]
    by_cases q : P 2323 p = g
    · rw [q]
      exact hpb
    · rw [hQ _ hgR2.1 (by omega) q]
      exact c4
  · rw [r 2327 _ rfl, hF.2 _ _ (Or.inl (by omega))]
    exact b5 k k0 k1
theorem XN.grf (h : XN W R P) (hI : IV false T U P) (hg : 0 ≤ g ∧ g < 8) (r : ∀ (f : Nat) (k : Int), nsR.elem f = true → (2334 :: ptR).elem f = false → Q f k = P f k) (hF1 : ∀ (x : Nat) (k : Int), 229 ≤ x → x < 1293 → ¬ (grO g ≤ x ∧ x < grO g + 66) → k ≠ 2198 → W2 x k = W x k) (hF2 : ∀ (x : Nat) (k : Int), 229 ≤ x → x < 1293 → ¬ (grO g ≤ x ∧ x < grO g + 66) → R2 x k = R x k) (hQ : ∀ g2 : Int, 0 ≤ g2 → g2 < 8 → g2 ≠ g → grQ P Q g2) (hX : XGR W2 R2 Q g) : XN W2 R2 Q := by
  have hrg := grO_rng hg
  have egg : grO g = 229 + 125 * g.toNat := rfl
  have q8 : ∀ g2, qPn Q g2 8 0 = qPn P g2 8 0 := fun g2 => qPn_fr (fun k => r 2320 k rfl rfl) (fun k => r 2323 k rfl rfl) 8 0
  refine ⟨fun p p0 p1 => ?_, fun g2 g0 g1 => ?_, fun o o0 o1 => ?_⟩
  · obtain ⟨a1, a2, a3, a4⟩ := h.1 p p0 p1
    have hrp := prO_rng (p := p) ⟨p0, p1⟩
    have epp : prO p = 295 + 125 * p.toNat := rfl
    refine ⟨(hF1 _ _ (by omega) (by omega) (by omega) (by decide)).trans a1, (hF1 _ _ (by omega) (by omega) (by omega) (by decide)).trans (a2.trans (r 2320 _ rfl rfl).symm), fun k k0 k1 => ?_, fun hl => ?_⟩
    · rw [hF2 _ _ (by omega) (by omega) (by omega), r 2320 _ rfl rfl, r 2327 _ rfl rfl]
      exact a3 k k0 k1
    · rw [r 2320 _ rfl rfl] at hl
      have e : ∀ f : Nat, nsR.elem f = true → (2334 :: ptR).elem f = false → Q f = P f := fun f hf hf2 => funext (fun k => r f k hf hf2)
      exact (a4 hl).at2 ⟨p0, p1⟩ (fun x k x0 x1 hk => hF1 _ _ (by omega) (by omega) (by omega) hk) (hF2 _ _ (by omega) (by omega) (by omega)) (r 2322 _ rfl rfl) (r 2324 _ rfl rfl) (r 2323 _ rfl rfl) (by rw [e 2325 rfl rfl, e 2326 rfl rfl]) (by rw [e 2328 rfl rfl, e 2329 rfl rfl]) (fun x _ _ => by rw [e 2361 rfl rfl, e 2362 rfl rfl])
  · by_cases q : g2 = g
    · rw [q]
      exact hX
    · have hr2 := grO_rng (g := g2) ⟨g0, g1⟩
      have eg2 : grO g2 = 229 + 125 * g2.toNat := rfl
      exact (h.2.1 g2 g0 g1).at2 ⟨g0, g1⟩ hI (fun x k x0 x1 hk => hF1 _ _ (by omega) (by omega) (by omega) hk) (fun x k x0 x1 => hF2 _ _ (by omega) (by omega) (by omega)) (q8 g2) (hQ g2 g0 g1 q)
  · obtain ⟨a1, a2⟩ := h.2.2 o o0 o1
    have eu : qUsers Q o = qUsers P o := usR_fr (fun k => r 2320 _ rfl rfl) (fun k => r 2327 _ rfl rfl) 64 0 0
    have hW : ∀ k : Int, k ≠ 2198 → W2 (1229 + o.toNat) k = W (1229 + o.toNat) k := fun k hk => hF1 _ _ (by omega) (by omega) (by omega) hk
    rw [hW _ (by decide), hW _ (by decide), hW _ (by decide), hW _ (by decide), eu, r 2330 _ rfl rfl, r 2331 _ rfl rfl, r 2332 _ rfl rfl, r 2333 _ rfl rfl]
    exact ⟨a1, a2⟩
theorem XW.grf (h : XW K T U W R P) (hg : 0 ≤ g ∧ g < 8) (r : RF (2334 :: ptR) Q P) (hG : GI T U Q) (hT : PTS Q) (hF : GRF g W W2 R R2) (hQ : ∀ g2 : Int, 0 ≤ g2 → g2 < 8 → g2 ≠ g → grQ P Q g2) (hX : XGR W2 R2 Q g) : XW K T U W2 R2 Q := (h.mid.grf (fun p p0 p1 hl => ((h.1.2.2.1.1 p p0 p1).2.2.2 hl).2.2.1) hg r hG hF hX.1 (fun g2 g0 g1 q => (hQ g2 g0 g1 q).1)).xw (h.1.2.2.1.grf h.1.2.2.2.1.iv hg (fun f k _ hf => r f k hf) (fun x k _ _ hx _ => hF.1 x k (Or.inl hx)) (fun x k _ _ hx => hF.2 x k (Or.inl hx)) hQ hX) (h.1.2.2.2.2.2.1.fr (fun k => r 2320 _ rfl) (fun k => r 2327 _ rfl) (fun k => r 2330 _ rfl)) hT
theorem grQ_tr {P1 P2 : qR} (h2 : grQ P P1 g) (h3 : grQ P1 P2 g) : grQ P P2 g := by
  obtain ⟨a1, a2, a3⟩ := h2
  obtain ⟨b1, b2, b3⟩ := h3
  refine ⟨b1.trans a1, fun q q0 q1 => ?_, fun m m0 m1 => ?_⟩
  · obtain ⟨c1, c2, c3⟩ := a2 q q0 q1
    obtain ⟨e1, e2, e3⟩ := b2 q q0 q1
    exact ⟨e1.trans c1, e2.trans c2, e3.trans c3⟩
  · obtain ⟨c1, c2, c3, c4, c5⟩ := a3 m m0 m1
    obtain ⟨e1, e2, e3, e4, e5⟩ := b3 m m0 m1
    exact ⟨e1.trans c1, e2.trans c2, e3.trans c3, e4.trans c4, e5.trans c5⟩
end XGRW
