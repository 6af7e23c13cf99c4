/-! The class's own methods: a process's descriptors. -/
theorem T_223_19 : hTab 223 19 = some ((3, 4, 2, []), 21) := rfl
theorem T_223_21 : hTab 223 21 = some ((3, 2, 0, []), 22) := rfl
theorem T_223_22 : hTab 223 22 = some ((31, 166, 0, []), 25) := rfl
theorem T_223_34 : hTab 223 34 = some ((3, 3, 0, []), 35) := rfl
theorem T_223_35 : hTab 223 35 = some ((23, 88, 0, [64, 70, 76, 82]), 64) := rfl
theorem T_223_64 : hTab 223 64 = some ((3, 5, 2, []), 66) := rfl
theorem T_223_66 : hTab 223 66 = some ((24, 5, Int.ofNat 0, []), 69) := rfl
theorem T_223_69 : hTab 223 69 = some ((33, 1, 0, []), 70) := rfl
theorem T_223_70 : hTab 223 70 = some ((3, 5, 2, []), 72) := rfl
theorem T_223_72 : hTab 223 72 = some ((24, 5, Int.ofNat 1, []), 75) := rfl
theorem T_223_75 : hTab 223 75 = some ((33, 1, 0, []), 76) := rfl
theorem T_223_76 : hTab 223 76 = some ((3, 5, 2, []), 78) := rfl
theorem T_223_78 : hTab 223 78 = some ((24, 5, Int.ofNat 6, []), 81) := rfl
theorem T_223_81 : hTab 223 81 = some ((33, 1, 0, []), 82) := rfl
theorem T_223_82 : hTab 223 82 = some ((3, 5, 2, []), 84) := rfl
theorem T_223_84 : hTab 223 84 = some ((24, 5, Int.ofNat 7, []), 87) := rfl
theorem T_223_87 : hTab 223 87 = some ((33, 1, 0, []), 88) := rfl
theorem T_223_88 : hTab 223 88 = some ((0, 0, (-100), []), 90) := rfl
theorem T_223_90 : hTab 223 90 = some ((33, 1, 0, []), 91) := rfl
section XGETC
variable {fb : Bool} {d b : Nat} {σ0 σ : hM} {W W2 P : qR} {R : rR} {i p x z e K T U : Int} {l : List Int}
theorem x_descriptorX (hP : PX σ0 W R σ) (hX : XW K T U W R P) : CL fb (d + 1) 223 [vR (some 128), vI p, vI e, vI x] σ (rP (yDes P p e x) σ) := by
  have hli := x_livP (fb := fb) (d := d) (p := p) hP hX.1.2.2.1
  unfold yDes
  by_cases q : isPr P p
  · obtain ⟨hp, hlv⟩ := isPr_v q
    rw [if_pos q] at hli
    have hpo := prO_o hp
    by_cases qe : 0 ≤ e ∧ e < 8
    · have hop := x_opOf (fb := fb) (d := d) (k := e) hP hX.1.2.2.1 hp hlv qe
      by_cases qo : P 2327 (8 * p + e) < 0
      · rw [if_pos qo] at hop
        rw [if_neg (fun c => by omega)]
        obtain ⟨pr, hpr⟩ : ∃ q, prO p = q := ⟨_, rfl⟩
        rw [hpr] at hli hpo hop
        refine CL_in mL_223 rfl ?_
        show WP fb _ 223 0 [some (vR (some 128)), some (vI p), some (vI e), some (vI x), none, none] [] σ _
        refine x_lr (z := some 128) T_223_0 rfl ?_
        refine x_gR (z := some 129) T_223_1 F_0_0 (hP.o xo_128) (hP.rc xo_128 rfl rfl) ?_
        refine x_li (z := p) T_223_4 rfl ?_
        refine x_cv2 T_223_5 mN_97 mL_97 (Nat.le_of_ble_eq_true rfl) mO_97 (hP.o xo_129) (Nat.le_of_ble_eq_true rfl) (hli) ?_
        rintro _ σ ⟨rfl, rfl⟩
        refine cR ?_
        refine x_sr (ls1 := [some (vR (some 128)), some (vI p), some (vI e), some (vI x), some (vR (some pr)), none]) T_223_8 rfl ?_
        refine x_lr (z := some pr) T_223_10 rfl ?_
        refine x_nnul T_223_12 (fun _ _ => ?_) (fun h0 => absurd h0 (by simp))
        refine x_lr (z := some pr) T_223_19 rfl ?_
        refine x_li (z := e) T_223_21 rfl ?_
        refine x_cv2 T_223_22 mN_166 mL_166 (Nat.le_of_ble_eq_true rfl) mO_166 (hP.o hpo) (Nat.le_of_ble_eq_true rfl) (hop) ?_
        rintro _ σ ⟨rfl, rfl⟩
        refine cR ?_
        refine x_sr (ls1 := [some (vR (some 128)), some (vI p), some (vI e), some (vI x), some (vR (some pr)), some (vR none)]) T_223_25 rfl ?_
        refine x_lr (z := none) T_223_27 rfl ?_
        refine x_nnul T_223_29 (fun a0 h0 => absurd h0 (by simp)) (fun _ => ?_)
        refine x_ic T_223_32 ?_
        refine x_ri T_223_33 ?_
        exact ⟨rfl, rfl⟩
      · rw [if_neg qo] at hop
        rw [if_pos ⟨q, ⟨by omega, by omega⟩, by omega⟩]
        obtain ⟨o1, ⟨o2, o3, o4⟩, -⟩ := hX.opn hp hlv qe rfl (by omega)
        have ou := (hX.1.2.2.1.2.2 (P 2327 (8 * p + e)) (by omega) o1).1
        have hot : tX (1229 + (P 2327 (8 * p + e)).toNat) = some (Sum.inl 5) := tX_opn _ (by omega)
        obtain ⟨o, ho⟩ : ∃ q, P 2327 (8 * p + e) = q := ⟨_, rfl⟩
        rw [ho] at hop o2 o3 o4 ou hot ⊢
        obtain ⟨ob, hob⟩ : ∃ q, 1229 + o.toNat = q := ⟨_, rfl⟩
        rw [hob] at hop o2 o3 o4 ou hot
        obtain ⟨v0, h0⟩ : ∃ q, P 2331 o = q := ⟨_, rfl⟩
        obtain ⟨v1, h1⟩ : ∃ q, P 2332 o = q := ⟨_, rfl⟩
        obtain ⟨v2, h2⟩ : ∃ q, P 2333 o = q := ⟨_, rfl⟩
        obtain ⟨v3, h3⟩ : ∃ q, qUsers P o = q := ⟨_, rfl⟩
        rw [h0] at o2
        rw [h1] at o3
        rw [h2] at o4
        rw [h3] at ou
        rw [h0, h1, h2, h3]
        obtain ⟨pr, hpr⟩ : ∃ q, prO p = q := ⟨_, rfl⟩
        rw [hpr] at hli hpo hop
        by_cases q0 : x = 0
        · subst q0
          rw [if_pos rfl]
          refine CL_in mL_223 rfl ?_
          show WP fb _ 223 0 [some (vR (some 128)), some (vI p), some (vI e), some (vI 0), none, none] [] σ _
          refine x_lr (z := some 128) T_223_0 rfl ?_
          refine x_gR (z := some 129) T_223_1 F_0_0 (hP.o xo_128) (hP.rc xo_128 rfl rfl) ?_
          refine x_li (z := p) T_223_4 rfl ?_
          refine x_cv2 T_223_5 mN_97 mL_97 (Nat.le_of_ble_eq_true rfl) mO_97 (hP.o xo_129) (Nat.le_of_ble_eq_true rfl) (hli) ?_
          rintro _ σ ⟨rfl, rfl⟩
          refine cR ?_
          refine x_sr (ls1 := [some (vR (some 128)), some (vI p), some (vI e), some (vI 0), some (vR (some pr)), none]) T_223_8 rfl ?_
          refine x_lr (z := some pr) T_223_10 rfl ?_
          refine x_nnul T_223_12 (fun _ _ => ?_) (fun h0 => absurd h0 (by simp))
          refine x_lr (z := some pr) T_223_19 rfl ?_
          refine x_li (z := e) T_223_21 rfl ?_
          refine x_cv2 T_223_22 mN_166 mL_166 (Nat.le_of_ble_eq_true rfl) mO_166 (hP.o hpo) (Nat.le_of_ble_eq_true rfl) (hop) ?_
          rintro _ σ ⟨rfl, rfl⟩
          refine cR ?_
          refine x_sr (ls1 := [some (vR (some 128)), some (vI p), some (vI e), some (vI 0), some (vR (some pr)), some (vR (some ob))]) T_223_25 rfl ?_
          refine x_lr (z := some ob) T_223_27 rfl ?_
          refine x_nnul T_223_29 (fun _ _ => ?_) (fun h0 => absurd h0 (by simp))
          refine x_li (z := 0) T_223_34 rfl ?_
          refine x_swIn T_223_35 (by decide) (by decide) rfl ?_
          refine x_lr (z := some ob) T_223_64 rfl ?_
          refine x_gI (z := v0) T_223_66 (Or.inl F_5_0) (hP.o hot) (Eq.trans (hP.gi hot (key := 2160) rfl) o2) ?_
          refine x_ri T_223_69 ?_
          exact ⟨rfl, rfl⟩
        rw [if_neg q0]
        by_cases q1 : x = 1
        · subst q1
          rw [if_pos rfl]
          refine CL_in mL_223 rfl ?_
          show WP fb _ 223 0 [some (vR (some 128)), some (vI p), some (vI e), some (vI 1), none, none] [] σ _
          refine x_lr (z := some 128) T_223_0 rfl ?_
          refine x_gR (z := some 129) T_223_1 F_0_0 (hP.o xo_128) (hP.rc xo_128 rfl rfl) ?_
          refine x_li (z := p) T_223_4 rfl ?_
          refine x_cv2 T_223_5 mN_97 mL_97 (Nat.le_of_ble_eq_true rfl) mO_97 (hP.o xo_129) (Nat.le_of_ble_eq_true rfl) (hli) ?_
          rintro _ σ ⟨rfl, rfl⟩
          refine cR ?_
          refine x_sr (ls1 := [some (vR (some 128)), some (vI p), some (vI e), some (vI 1), some (vR (some pr)), none]) T_223_8 rfl ?_
          refine x_lr (z := some pr) T_223_10 rfl ?_
          refine x_nnul T_223_12 (fun _ _ => ?_) (fun h0 => absurd h0 (by simp))
          refine x_lr (z := some pr) T_223_19 rfl ?_
          refine x_li (z := e) T_223_21 rfl ?_
          refine x_cv2 T_223_22 mN_166 mL_166 (Nat.le_of_ble_eq_true rfl) mO_166 (hP.o hpo) (Nat.le_of_ble_eq_true rfl) (hop) ?_
          rintro _ σ ⟨rfl, rfl⟩
          refine cR ?_
          refine x_sr (ls1 := [some (vR (some 128)), some (vI p), some (vI e), some (vI 1), some (vR (some pr)), some (vR (some ob))]) T_223_25 rfl ?_
          refine x_lr (z := some ob) T_223_27 rfl ?_
          refine x_nnul T_223_29 (fun _ _ => ?_) (fun h0 => absurd h0 (by simp))
          refine x_li (z := 1) T_223_34 rfl ?_
          refine x_swIn T_223_35 (by decide) (by decide) rfl ?_
          refine x_lr (z := some ob) T_223_70 rfl ?_
          refine x_gI (z := v1) T_223_72 (Or.inl F_5_1) (hP.o hot) (Eq.trans (hP.gi hot (key := 2161) rfl) o3) ?_
          refine x_ri T_223_75 ?_
          exact ⟨rfl, rfl⟩
        rw [if_neg q1]
        by_cases q2 : x = 2
        · subst q2
          rw [if_pos rfl]
          refine CL_in mL_223 rfl ?_
          show WP fb _ 223 0 [some (vR (some 128)), some (vI p), some (vI e), some (vI 2), none, none] [] σ _
          refine x_lr (z := some 128) T_223_0 rfl ?_
          refine x_gR (z := some 129) T_223_1 F_0_0 (hP.o xo_128) (hP.rc xo_128 rfl rfl) ?_
          refine x_li (z := p) T_223_4 rfl ?_
          refine x_cv2 T_223_5 mN_97 mL_97 (Nat.le_of_ble_eq_true rfl) mO_97 (hP.o xo_129) (Nat.le_of_ble_eq_true rfl) (hli) ?_
          rintro _ σ ⟨rfl, rfl⟩
          refine cR ?_
          refine x_sr (ls1 := [some (vR (some 128)), some (vI p), some (vI e), some (vI 2), some (vR (some pr)), none]) T_223_8 rfl ?_
          refine x_lr (z := some pr) T_223_10 rfl ?_
          refine x_nnul T_223_12 (fun _ _ => ?_) (fun h0 => absurd h0 (by simp))
          refine x_lr (z := some pr) T_223_19 rfl ?_
          refine x_li (z := e) T_223_21 rfl ?_
          refine x_cv2 T_223_22 mN_166 mL_166 (Nat.le_of_ble_eq_true rfl) mO_166 (hP.o hpo) (Nat.le_of_ble_eq_true rfl) (hop) ?_
          rintro _ σ ⟨rfl, rfl⟩
          refine cR ?_
          refine x_sr (ls1 := [some (vR (some 128)), some (vI p), some (vI e), some (vI 2), some (vR (some pr)), some (vR (some ob))]) T_223_25 rfl ?_
          refine x_lr (z := some ob) T_223_27 rfl ?_
          refine x_nnul T_223_29 (fun _ _ => ?_) (fun h0 => absurd h0 (by simp))
          refine x_li (z := 2) T_223_34 rfl ?_
          refine x_swIn T_223_35 (by decide) (by decide) rfl ?_
          refine x_lr (z := some ob) T_223_76 rfl ?_
          refine x_gI (z := v2) T_223_78 (Or.inl F_5_6) (hP.o hot) (Eq.trans (hP.gi hot (key := 2166) rfl) o4) ?_
          refine x_ri T_223_81 ?_
          exact ⟨rfl, rfl⟩
        rw [if_neg q2]
        by_cases q3 : x = 3
        · subst q3
          rw [if_pos rfl]
          refine CL_in mL_223 rfl ?_
          show WP fb _ 223 0 [some (vR (some 128)), some (vI p), some (vI e), some (vI 3), none, none] [] σ _
          refine x_lr (z := some 128) T_223_0 rfl ?_
          refine x_gR (z := some 129) T_223_1 F_0_0 (hP.o xo_128) (hP.rc xo_128 rfl rfl) ?_
          refine x_li (z := p) T_223_4 rfl ?_
          refine x_cv2 T_223_5 mN_97 mL_97 (Nat.le_of_ble_eq_true rfl) mO_97 (hP.o xo_129) (Nat.le_of_ble_eq_true rfl) (hli) ?_
          rintro _ σ ⟨rfl, rfl⟩
          refine cR ?_
          refine x_sr (ls1 := [some (vR (some 128)), some (vI p), some (vI e), some (vI 3), some (vR (some pr)), none]) T_223_8 rfl ?_
          refine x_lr (z := some pr) T_223_10 rfl ?_
          refine x_nnul T_223_12 (fun _ _ => ?_) (fun h0 => absurd h0 (by simp))
          refine x_lr (z := some pr) T_223_19 rfl ?_
          refine x_li (z := e) T_223_21 rfl ?_
          refine x_cv2 T_223_22 mN_166 mL_166 (Nat.le_of_ble_eq_true rfl) mO_166 (hP.o hpo) (Nat.le_of_ble_eq_true rfl) (hop) ?_
          rintro _ σ ⟨rfl, rfl⟩
          refine cR ?_
          refine x_sr (ls1 := [some (vR (some 128)), some (vI p), some (vI e), some (vI 3), some (vR (some pr)), some (vR (some ob))]) T_223_25 rfl ?_
          refine x_lr (z := some ob) T_223_27 rfl ?_
          refine x_nnul T_223_29 (fun _ _ => ?_) (fun h0 => absurd h0 (by simp))
          refine x_li (z := 3) T_223_34 rfl ?_
          refine x_swIn T_223_35 (by decide) (by decide) rfl ?_
          refine x_lr (z := some ob) T_223_82 rfl ?_
          refine x_gI (z := v3) T_223_84 (Or.inl F_5_7) (hP.o hot) (Eq.trans (hP.gi hot (key := 2167) rfl) ou) ?_
          refine x_ri T_223_87 ?_
          exact ⟨rfl, rfl⟩
        rw [if_neg q3]
        refine CL_in mL_223 rfl ?_
        show WP fb _ 223 0 [some (vR (some 128)), some (vI p), some (vI e), some (vI x), none, none] [] σ _
        refine x_lr (z := some 128) T_223_0 rfl ?_
        refine x_gR (z := some 129) T_223_1 F_0_0 (hP.o xo_128) (hP.rc xo_128 rfl rfl) ?_
        refine x_li (z := p) T_223_4 rfl ?_
        refine x_cv2 T_223_5 mN_97 mL_97 (Nat.le_of_ble_eq_true rfl) mO_97 (hP.o xo_129) (Nat.le_of_ble_eq_true rfl) (hli) ?_
        rintro _ σ ⟨rfl, rfl⟩
        refine cR ?_
        refine x_sr (ls1 := [some (vR (some 128)), some (vI p), some (vI e), some (vI x), some (vR (some pr)), none]) T_223_8 rfl ?_
        refine x_lr (z := some pr) T_223_10 rfl ?_
        refine x_nnul T_223_12 (fun _ _ => ?_) (fun h0 => absurd h0 (by simp))
        refine x_lr (z := some pr) T_223_19 rfl ?_
        refine x_li (z := e) T_223_21 rfl ?_
        refine x_cv2 T_223_22 mN_166 mL_166 (Nat.le_of_ble_eq_true rfl) mO_166 (hP.o hpo) (Nat.le_of_ble_eq_true rfl) (hop) ?_
        rintro _ σ ⟨rfl, rfl⟩
        refine cR ?_
        refine x_sr (ls1 := [some (vR (some 128)), some (vI p), some (vI e), some (vI x), some (vR (some pr)), some (vR (some ob))]) T_223_25 rfl ?_
        refine x_lr (z := some ob) T_223_27 rfl ?_
        refine x_nnul T_223_29 (fun _ _ => ?_) (fun h0 => absurd h0 (by simp))
        refine x_li (z := x) T_223_34 rfl ?_
        refine x_swOut T_223_35  (by show x < 0 ∨ _ ≤ x; simp only [List.length]; omega) ?_
        refine x_ic T_223_88 ?_
        refine x_ri T_223_90 ?_
        exact ⟨rfl, rfl⟩
    · have hop := x_openingOf (fb := fb) (d := d) (k := e) (r := none) hP hp (fun k0 k1 => absurd ⟨k0, k1⟩ qe)
      rw [if_neg qe] at hop
      rw [if_neg (fun c => qe (by omega))]
      obtain ⟨pr, hpr⟩ : ∃ q, prO p = q := ⟨_, rfl⟩
      rw [hpr] at hli hpo hop
      refine CL_in mL_223 rfl ?_
      show WP fb _ 223 0 [some (vR (some 128)), some (vI p), some (vI e), some (vI x), none, none] [] σ _
      refine x_lr (z := some 128) T_223_0 rfl ?_
      refine x_gR (z := some 129) T_223_1 F_0_0 (hP.o xo_128) (hP.rc xo_128 rfl rfl) ?_
      refine x_li (z := p) T_223_4 rfl ?_
      refine x_cv2 T_223_5 mN_97 mL_97 (Nat.le_of_ble_eq_true rfl) mO_97 (hP.o xo_129) (Nat.le_of_ble_eq_true rfl) (hli) ?_
      rintro _ σ ⟨rfl, rfl⟩
      refine cR ?_
      refine x_sr (ls1 := [some (vR (some 128)), some (vI p), some (vI e), some (vI x), some (vR (some pr)), none]) T_223_8 rfl ?_
      refine x_lr (z := some pr) T_223_10 rfl ?_
      refine x_nnul T_223_12 (fun _ _ => ?_) (fun h0 => absurd h0 (by simp))
      refine x_lr (z := some pr) T_223_19 rfl ?_
      refine x_li (z := e) T_223_21 rfl ?_
      refine x_cv2 T_223_22 mN_166 mL_166 (Nat.le_of_ble_eq_true rfl) mO_166 (hP.o hpo) (Nat.le_of_ble_eq_true rfl) (hop) ?_
      rintro _ σ ⟨rfl, rfl⟩
      refine cR ?_
      refine x_sr (ls1 := [some (vR (some 128)), some (vI p), some (vI e), some (vI x), some (vR (some pr)), some (vR none)]) T_223_25 rfl ?_
      refine x_lr (z := none) T_223_27 rfl ?_
      refine x_nnul T_223_29 (fun a0 h0 => absurd h0 (by simp)) (fun _ => ?_)
      refine x_ic T_223_32 ?_
      refine x_ri T_223_33 ?_
      exact ⟨rfl, rfl⟩
  · rw [if_neg q] at hli
    rw [if_neg (fun c => q c.1)]
    refine CL_in mL_223 rfl ?_
    show WP fb _ 223 0 [some (vR (some 128)), some (vI p), some (vI e), some (vI x), none, none] [] σ _
    refine x_lr (z := some 128) T_223_0 rfl ?_
    refine x_gR (z := some 129) T_223_1 F_0_0 (hP.o xo_128) (hP.rc xo_128 rfl rfl) ?_
    refine x_li (z := p) T_223_4 rfl ?_
    refine x_cv2 T_223_5 mN_97 mL_97 (Nat.le_of_ble_eq_true rfl) mO_97 (hP.o xo_129) (Nat.le_of_ble_eq_true rfl) (hli) ?_
    rintro _ σ ⟨rfl, rfl⟩
    refine cR ?_
    refine x_sr (ls1 := [some (vR (some 128)), some (vI p), some (vI e), some (vI x), some (vR none), none]) T_223_8 rfl ?_
    refine x_lr (z := none) T_223_10 rfl ?_
    refine x_nnul T_223_12 (fun a0 h0 => absurd h0 (by simp)) (fun _ => ?_)
    refine x_nu T_223_15 ?_
    refine x_goto T_223_16 ?_
    refine x_sr (ls1 := [some (vR (some 128)), some (vI p), some (vI e), some (vI x), some (vR none), some (vR none)]) T_223_25 rfl ?_
    refine x_lr (z := none) T_223_27 rfl ?_
    refine x_nnul T_223_29 (fun a0 h0 => absurd h0 (by simp)) (fun _ => ?_)
    refine x_ic T_223_32 ?_
    refine x_ri T_223_33 ?_
    exact ⟨rfl, rfl⟩
end XGETC
