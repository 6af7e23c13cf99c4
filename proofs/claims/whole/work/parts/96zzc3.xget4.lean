/-! The class's own methods: points and their members. -/
theorem T_221_19 : hTab 221 19 = some ((3, 4, 2, []), 21) := rfl
theorem T_221_21 : hTab 221 21 = some ((24, 6, Int.ofNat 9, []), 24) := rfl
theorem T_221_24 : hTab 221 24 = some ((3, 2, 0, []), 25) := rfl
theorem T_221_25 : hTab 221 25 = some ((31, 189, 0, []), 28) := rfl
theorem T_221_37 : hTab 221 37 = some ((3, 3, 0, []), 38) := rfl
theorem T_221_38 : hTab 221 38 = some ((23, 82, 0, [64, 70, 76]), 64) := rfl
theorem T_221_64 : hTab 221 64 = some ((3, 5, 2, []), 66) := rfl
theorem T_221_66 : hTab 221 66 = some ((24, 4, Int.ofNat 1, []), 69) := rfl
theorem T_221_69 : hTab 221 69 = some ((33, 1, 0, []), 70) := rfl
theorem T_221_70 : hTab 221 70 = some ((3, 5, 2, []), 72) := rfl
theorem T_221_72 : hTab 221 72 = some ((24, 4, Int.ofNat 2, []), 75) := rfl
theorem T_221_75 : hTab 221 75 = some ((33, 1, 0, []), 76) := rfl
theorem T_221_76 : hTab 221 76 = some ((3, 5, 2, []), 78) := rfl
theorem T_221_78 : hTab 221 78 = some ((24, 4, Int.ofNat 3, []), 81) := rfl
theorem T_221_81 : hTab 221 81 = some ((33, 1, 0, []), 82) := rfl
theorem T_221_82 : hTab 221 82 = some ((0, 0, (-100), []), 84) := rfl
theorem T_221_84 : hTab 221 84 = some ((33, 1, 0, []), 85) := rfl
section XGETD
variable {fb : Bool} {d b : Nat} {σ0 σ : hM} {W W2 P : qR} {R : rR} {i p x z k j K T U : Int} {l : List Int}
theorem x_ptG (hP : PX σ0 W R σ) (hX : XW K T U W R P) (hp : 0 ≤ p ∧ p < 8) (hlv : ¬ P 2320 p = 0) : ∃ ga : Nat, tX ga = some (Sum.inl 3) ∧ R (prO p) 2201 = some ga ∧ ((0 ≤ k ∧ k < P 2334 (P 2323 p)) → ∃ y0 : Nat, CL fb d 189 [vR (some ga), vI k] σ (rPR (some y0) σ) ∧ PTM W R y0 P (8 * P 2323 p + k) ∧ W y0 2129 = P 2335 (8 * P 2323 p + k) ∧ W y0 2130 = P 2336 (8 * P 2323 p + k)) ∧ (¬ (0 ≤ k ∧ k < P 2334 (P 2323 p)) → CL fb d 189 [vR (some ga), vI k] σ (rPR none σ)) := by
  have hIV := hX.1.2.2.2.1.iv
  have hgR : 0 ≤ P 2323 p ∧ P 2323 p ≤ 7 := IV.a hIV 2323 0 8 rfl rfl rfl (by omega) (by omega)
  have hgr := ((hX.1.2.2.1.1 p hp.1 hp.2).2.2.2 hlv).2.2.1
  have hG := hX.1.2.2.1.2.1 _ hgR.1 (show P 2323 p < 8 by omega)
  refine ⟨_, grO_o ⟨hgR.1, by omega⟩, hgr, fun hk => ?_, fun hk => ?_⟩
  · obtain ⟨y0, h0, hM⟩ := PTM_of hG ⟨hgR.1, by omega⟩ hIV hk
    obtain ⟨y, g0, g1, g2, -⟩ := hG.2.2.2.2 k hk.1 hk.2
    have ey : y = y0 := Option.some.inj (g0.symm.trans h0)
    rw [ey] at g1 g2
    have h := x_pointOf (fb := fb) (d := d) (k := k) (r := some y0) hP hG ⟨hgR.1, by omega⟩ hIV (fun _ _ => h0)
    rw [if_pos hk] at h
    exact ⟨y0, h, hM, g1, g2⟩
  · have h := x_pointOf (fb := fb) (d := d) (k := k) (r := none) hP hG ⟨hgR.1, by omega⟩ hIV (fun a b => absurd ⟨a, b⟩ hk)
    rw [if_neg hk] at h
    exact h
theorem x_pointX (hP : PX σ0 W R σ) (hX : XW K T U W R P) : CL fb (d + 1) 221 [vR (some 128), vI p, vI k, vI x] σ (rP (yPt P p k x) σ) := by
  have hli := x_livP (fb := fb) (d := d) (p := p) hP hX.1.2.2.1
  unfold yPt
  by_cases q : isPr P p
  rotate_left
  · rw [if_neg q] at hli
    rw [if_neg (fun c => q c.1)]
    refine CL_in mL_221 rfl ?_
    show WP fb _ 221 0 [some (vR (some 128)), some (vI p), some (vI k), some (vI x), none, none] [] σ _
    refine x_lr (z := some 128) T_221_0 rfl ?_
    refine x_gR (z := some 129) T_221_1 F_0_0 (hP.o xo_128) (hP.rc xo_128 rfl rfl) ?_
    refine x_li (z := p) T_221_4 rfl ?_
    refine x_cv2 T_221_5 mN_97 mL_97 (Nat.le_of_ble_eq_true rfl) mO_97 (hP.o xo_129) (Nat.le_of_ble_eq_true rfl) (hli) ?_
    rintro _ σ ⟨rfl, rfl⟩
    refine cR ?_
    refine x_sr (ls1 := [some (vR (some 128)), some (vI p), some (vI k), some (vI x), some (vR none), none]) T_221_8 rfl ?_
    refine x_lr (z := none) T_221_10 rfl ?_
    refine x_nnul T_221_12 (fun a0 h0 => absurd h0 (by simp)) (fun _ => ?_)
    refine x_nu T_221_15 ?_
    refine x_goto T_221_16 ?_
    refine x_sr (ls1 := [some (vR (some 128)), some (vI p), some (vI k), some (vI x), some (vR none), some (vR none)]) T_221_28 rfl ?_
    refine x_lr (z := none) T_221_30 rfl ?_
    refine x_nnul T_221_32 (fun a0 h0 => absurd h0 (by simp)) (fun _ => ?_)
    refine x_ic T_221_35 ?_
    refine x_ri T_221_36 ?_
    exact ⟨rfl, rfl⟩
  obtain ⟨hp, hlv⟩ := isPr_v q
  rw [if_pos q] at hli
  have hpo := prO_o hp
  obtain ⟨ga, hga, hgr, hy, hn⟩ := x_ptG (fb := fb) (d := d) (k := k) hP hX hp hlv
  obtain ⟨pr, hpr⟩ : ∃ q, prO p = q := ⟨_, rfl⟩
  rw [hpr] at hli hpo hgr
  by_cases qk : 0 ≤ k ∧ k < P 2334 (P 2323 p)
  · obtain ⟨y0, hpt, hM, h0, h1⟩ := hy qk
    have h2 := hM.2.2.2.1
    have hyo := hM.1
    rw [if_pos ⟨q, by omega⟩]
    obtain ⟨v0, hv0⟩ : ∃ q, P 2335 (8 * P 2323 p + k) = q := ⟨_, rfl⟩
    obtain ⟨v1, hv1⟩ : ∃ q, P 2336 (8 * P 2323 p + k) = q := ⟨_, rfl⟩
    obtain ⟨v2, hv2⟩ : ∃ q, P 2337 (8 * P 2323 p + k) = q := ⟨_, rfl⟩
    rw [hv0] at h0
    rw [hv1] at h1
    rw [hv2] at h2
    rw [hv0, hv1, hv2]
    by_cases q0 : x = 0
    · subst q0
      rw [if_pos rfl]
      refine CL_in mL_221 rfl ?_
      show WP fb _ 221 0 [some (vR (some 128)), some (vI p), some (vI k), some (vI 0), none, none] [] σ _
      refine x_lr (z := some 128) T_221_0 rfl ?_
      refine x_gR (z := some 129) T_221_1 F_0_0 (hP.o xo_128) (hP.rc xo_128 rfl rfl) ?_
      refine x_li (z := p) T_221_4 rfl ?_
      refine x_cv2 T_221_5 mN_97 mL_97 (Nat.le_of_ble_eq_true rfl) mO_97 (hP.o xo_129) (Nat.le_of_ble_eq_true rfl) (hli) ?_
      rintro _ σ ⟨rfl, rfl⟩
      refine cR ?_
      refine x_sr (ls1 := [some (vR (some 128)), some (vI p), some (vI k), some (vI 0), some (vR (some pr)), none]) T_221_8 rfl ?_
      refine x_lr (z := some pr) T_221_10 rfl ?_
      refine x_nnul T_221_12 (fun _ _ => ?_) (fun h0 => absurd h0 (by simp))
      refine x_lr (z := some pr) T_221_19 rfl ?_
      refine x_gR (z := some ga) T_221_21 F_6_9 (hP.o hpo) (Eq.trans (hP.rm hpo rfl (key := 2201) rfl) hgr) ?_
      refine x_li (z := k) T_221_24 rfl ?_
      refine x_cv2 T_221_25 mN_189 mL_189 (Nat.le_of_ble_eq_true rfl) mO_189 (hP.o hga) (Nat.le_of_ble_eq_true rfl) (hpt) ?_
      rintro _ σ ⟨rfl, rfl⟩
      refine cR ?_
      refine x_sr (ls1 := [some (vR (some 128)), some (vI p), some (vI k), some (vI 0), some (vR (some pr)), some (vR (some y0))]) T_221_28 rfl ?_
      refine x_lr (z := some y0) T_221_30 rfl ?_
      refine x_nnul T_221_32 (fun _ _ => ?_) (fun h0 => absurd h0 (by simp))
      refine x_li (z := 0) T_221_37 rfl ?_
      refine x_swIn T_221_38 (by decide) (by decide) rfl ?_
      refine x_lr (z := some y0) T_221_64 rfl ?_
      refine x_gI (z := v0) T_221_66 (Or.inl F_4_1) (hP.o hyo) (Eq.trans (hP.gi hyo (key := 2129) rfl) h0) ?_
      refine x_ri T_221_69 ?_
      exact ⟨rfl, rfl⟩
    rw [if_neg q0]
    by_cases q1 : x = 1
    · subst q1
      rw [if_pos rfl]
      refine CL_in mL_221 rfl ?_
      show WP fb _ 221 0 [some (vR (some 128)), some (vI p), some (vI k), some (vI 1), none, none] [] σ _
      refine x_lr (z := some 128) T_221_0 rfl ?_
      refine x_gR (z := some 129) T_221_1 F_0_0 (hP.o xo_128) (hP.rc xo_128 rfl rfl) ?_
      refine x_li (z := p) T_221_4 rfl ?_
      refine x_cv2 T_221_5 mN_97 mL_97 (Nat.le_of_ble_eq_true rfl) mO_97 (hP.o xo_129) (Nat.le_of_ble_eq_true rfl) (hli) ?_
      rintro _ σ ⟨rfl, rfl⟩
      refine cR ?_
      refine x_sr (ls1 := [some (vR (some 128)), some (vI p), some (vI k), some (vI 1), some (vR (some pr)), none]) T_221_8 rfl ?_
      refine x_lr (z := some pr) T_221_10 rfl ?_
      refine x_nnul T_221_12 (fun _ _ => ?_) (fun h0 => absurd h0 (by simp))
      refine x_lr (z := some pr) T_221_19 rfl ?_
      refine x_gR (z := some ga) T_221_21 F_6_9 (hP.o hpo) (Eq.trans (hP.rm hpo rfl (key := 2201) rfl) hgr) ?_
      refine x_li (z := k) T_221_24 rfl ?_
      refine x_cv2 T_221_25 mN_189 mL_189 (Nat.le_of_ble_eq_true rfl) mO_189 (hP.o hga) (Nat.le_of_ble_eq_true rfl) (hpt) ?_
      rintro _ σ ⟨rfl, rfl⟩
      refine cR ?_
      refine x_sr (ls1 := [some (vR (some 128)), some (vI p), some (vI k), some (vI 1), some (vR (some pr)), some (vR (some y0))]) T_221_28 rfl ?_
      refine x_lr (z := some y0) T_221_30 rfl ?_
      refine x_nnul T_221_32 (fun _ _ => ?_) (fun h0 => absurd h0 (by simp))
      refine x_li (z := 1) T_221_37 rfl ?_
      refine x_swIn T_221_38 (by decide) (by decide) rfl ?_
      refine x_lr (z := some y0) T_221_70 rfl ?_
      refine x_gI (z := v1) T_221_72 (Or.inl F_4_2) (hP.o hyo) (Eq.trans (hP.gi hyo (key := 2130) rfl) h1) ?_
      refine x_ri T_221_75 ?_
      exact ⟨rfl, rfl⟩
    rw [if_neg q1]
    by_cases q2 : x = 2
    · subst q2
      rw [if_pos rfl]
      refine CL_in mL_221 rfl ?_
      show WP fb _ 221 0 [some (vR (some 128)), some (vI p), some (vI k), some (vI 2), none, none] [] σ _
      refine x_lr (z := some 128) T_221_0 rfl ?_
      refine x_gR (z := some 129) T_221_1 F_0_0 (hP.o xo_128) (hP.rc xo_128 rfl rfl) ?_
      refine x_li (z := p) T_221_4 rfl ?_
      refine x_cv2 T_221_5 mN_97 mL_97 (Nat.le_of_ble_eq_true rfl) mO_97 (hP.o xo_129) (Nat.le_of_ble_eq_true rfl) (hli) ?_
      rintro _ σ ⟨rfl, rfl⟩
      refine cR ?_
      refine x_sr (ls1 := [some (vR (some 128)), some (vI p), some (vI k), some (vI 2), some (vR (some pr)), none]) T_221_8 rfl ?_
      refine x_lr (z := some pr) T_221_10 rfl ?_
      refine x_nnul T_221_12 (fun _ _ => ?_) (fun h0 => absurd h0 (by simp))
      refine x_lr (z := some pr) T_221_19 rfl ?_
      refine x_gR (z := some ga) T_221_21 F_6_9 (hP.o hpo) (Eq.trans (hP.rm hpo rfl (key := 2201) rfl) hgr) ?_
      refine x_li (z := k) T_221_24 rfl ?_
      refine x_cv2 T_221_25 mN_189 mL_189 (Nat.le_of_ble_eq_true rfl) mO_189 (hP.o hga) (Nat.le_of_ble_eq_true rfl) (hpt) ?_
      rintro _ σ ⟨rfl, rfl⟩
      refine cR ?_
      refine x_sr (ls1 := [some (vR (some 128)), some (vI p), some (vI k), some (vI 2), some (vR (some pr)), some (vR (some y0))]) T_221_28 rfl ?_
      refine x_lr (z := some y0) T_221_30 rfl ?_
      refine x_nnul T_221_32 (fun _ _ => ?_) (fun h0 => absurd h0 (by simp))
      refine x_li (z := 2) T_221_37 rfl ?_
      refine x_swIn T_221_38 (by decide) (by decide) rfl ?_
      refine x_lr (z := some y0) T_221_76 rfl ?_
      refine x_gI (z := v2) T_221_78 (Or.inl F_4_3) (hP.o hyo) (Eq.trans (hP.gi hyo (key := 2131) rfl) h2) ?_
      refine x_ri T_221_81 ?_
      exact ⟨rfl, rfl⟩
    rw [if_neg q2]
    refine CL_in mL_221 rfl ?_
    show WP fb _ 221 0 [some (vR (some 128)), some (vI p), some (vI k), some (vI x), none, none] [] σ _
    refine x_lr (z := some 128) T_221_0 rfl ?_
    refine x_gR (z := some 129) T_221_1 F_0_0 (hP.o xo_128) (hP.rc xo_128 rfl rfl) ?_
    refine x_li (z := p) T_221_4 rfl ?_
    refine x_cv2 T_221_5 mN_97 mL_97 (Nat.le_of_ble_eq_true rfl) mO_97 (hP.o xo_129) (Nat.le_of_ble_eq_true rfl) (hli) ?_
    rintro _ σ ⟨rfl, rfl⟩
    refine cR ?_
    refine x_sr (ls1 := [some (vR (some 128)), some (vI p), some (vI k), some (vI x), some (vR (some pr)), none]) T_221_8 rfl ?_
    refine x_lr (z := some pr) T_221_10 rfl ?_
    refine x_nnul T_221_12 (fun _ _ => ?_) (fun h0 => absurd h0 (by simp))
    refine x_lr (z := some pr) T_221_19 rfl ?_
    refine x_gR (z := some ga) T_221_21 F_6_9 (hP.o hpo) (Eq.trans (hP.rm hpo rfl (key := 2201) rfl) hgr) ?_
    refine x_li (z := k) T_221_24 rfl ?_
    refine x_cv2 T_221_25 mN_189 mL_189 (Nat.le_of_ble_eq_true rfl) mO_189 (hP.o hga) (Nat.le_of_ble_eq_true rfl) (hpt) ?_
    rintro _ σ ⟨rfl, rfl⟩
    refine cR ?_
    refine x_sr (ls1 := [some (vR (some 128)), some (vI p), some (vI k), some (vI x), some (vR (some pr)), some (vR (some y0))]) T_221_28 rfl ?_
    refine x_lr (z := some y0) T_221_30 rfl ?_
    refine x_nnul T_221_32 (fun _ _ => ?_) (fun h0 => absurd h0 (by simp))
    refine x_li (z := x) T_221_37 rfl ?_
    refine x_swOut T_221_38  (by clear hy hn h0 h1 h2 hM; show x < 0 ∨ _ ≤ x; simp only [List.length]; omega) ?_
    refine x_ic T_221_82 ?_
    refine x_ri T_221_84 ?_
    exact ⟨rfl, rfl⟩
  · have hpt := hn qk
    rw [if_neg (fun c => qk (by omega))]
    refine CL_in mL_221 rfl ?_
    show WP fb _ 221 0 [some (vR (some 128)), some (vI p), some (vI k), some (vI x), none, none] [] σ _
    refine x_lr (z := some 128) T_221_0 rfl ?_
    refine x_gR (z := some 129) T_221_1 F_0_0 (hP.o xo_128) (hP.rc xo_128 rfl rfl) ?_
    refine x_li (z := p) T_221_4 rfl ?_
    refine x_cv2 T_221_5 mN_97 mL_97 (Nat.le_of_ble_eq_true rfl) mO_97 (hP.o xo_129) (Nat.le_of_ble_eq_true rfl) (hli) ?_
    rintro _ σ ⟨rfl, rfl⟩
    refine cR ?_
    refine x_sr (ls1 := [some (vR (some 128)), some (vI p), some (vI k), some (vI x), some (vR (some pr)), none]) T_221_8 rfl ?_
    refine x_lr (z := some pr) T_221_10 rfl ?_
    refine x_nnul T_221_12 (fun _ _ => ?_) (fun h0 => absurd h0 (by simp))
    refine x_lr (z := some pr) T_221_19 rfl ?_
    refine x_gR (z := some ga) T_221_21 F_6_9 (hP.o hpo) (Eq.trans (hP.rm hpo rfl (key := 2201) rfl) hgr) ?_
    refine x_li (z := k) T_221_24 rfl ?_
    refine x_cv2 T_221_25 mN_189 mL_189 (Nat.le_of_ble_eq_true rfl) mO_189 (hP.o hga) (Nat.le_of_ble_eq_true rfl) (hpt) ?_
    rintro _ σ ⟨rfl, rfl⟩
    refine cR ?_
    refine x_sr (ls1 := [some (vR (some 128)), some (vI p), some (vI k), some (vI x), some (vR (some pr)), some (vR none)]) T_221_28 rfl ?_
    refine x_lr (z := none) T_221_30 rfl ?_
    refine x_nnul T_221_32 (fun a0 h0 => absurd h0 (by simp)) (fun _ => ?_)
    refine x_ic T_221_35 ?_
    refine x_ri T_221_36 ?_
    exact ⟨rfl, rfl⟩
end XGETD
