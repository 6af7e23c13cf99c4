/-! type, for the reference. -/
theorem T_306_26 : hTab 306 26 = some ((0, 0, (-101), []), 28) := rfl
theorem T_306_28 : hTab 306 28 = some ((33, 1, 0, []), 29) := rfl
def yTyp (P : qR) (w n : Int) : Int × qR := if ¬ (1 ≤ n ∧ n ≤ 8) then (-100, P) else if 100 < P 2281 103 + n then (-101, P) else (P 2281 103 + n, rW (rU P 2281 103 (P 2281 103 + n)) 2363 (P 2281 103) (leb n.toNat w))
section MTYP
variable {fb : Bool} {d : Nat} {σ0 σ : hM} {P P1 P2 Q0 R S S0 S1 S2 : qR} {T U s w g u p k e t z o n N v b c c2 i mu dn : Int} {l L tx tt sc src A : List Int} {h : List Ch}
theorem rU_over {f : Nat} {j v1 v2 : Int} : rU (rU P f j v1) f j v2 = rU P f j v2 := by
  funext y x
  unfold rU
  split <;> rfl
theorem m_type_put (hz : 0 ≤ z) (hn : n ≤ 8) (hzn : z + n ≤ 100) {Q : Option AV → hM → Prop} (hQ : ∀ σ : hM, PM σ0 (rW (rU P 2281 103 (z + n)) 2363 z (leb n.toNat w)) S σ → Q (some (vI (z + n))) σ) : ∀ (m : Nat) (k : Int) (σ : hM), k + m = n → 0 ≤ k → PM σ0 (rW (rU P 2281 103 (z + k)) 2363 z (leb k.toNat w)) S σ → WP fb d 306 32 [some (vR (some 2281)), some (vL w), none, some (vI n), some (vI k)] [] σ Q := by
  intro m
  induction m with
  | zero =>
    intro k σ h1 h2 hP
    have h1 : k + ((0 : Nat) : Int) = n := h1
    have hk : k = n := by omega
    subst hk
    have hgo := hQ σ hP
    have hz2 : rW (rU P 2281 103 (z + k)) 2363 z (leb k.toNat w) 2281 103 = z + k := (rW_f (by decide)).trans rU_s
    refine x_li (z := k) T_306_32 rfl ?_
    refine x_li (z := k) T_306_34 rfl ?_
    refine x_ic2 T_306_35 (fun _ => ?_) (fun h => absurd (show k ≤ k by omega) h)
    refine x_lr (z := some 2281) T_306_75 rfl ?_
    refine x_gI (z := (z + k)) T_306_76 (Or.inl F_17_103) (PM.t hP) (Eq.trans (PM.nP hP 2281 103 103 rfl rfl rfl) hz2) ?_
    refine x_ri T_306_79 ?_
    exact hgo
  | succ m ih =>
    intro k σ h1 h2 hP
    have hll : ((leb k.toNat w).length : Int) = k := by rw [leb_len]; omega
    have hz2 : rW (rU P 2281 103 (z + k)) 2363 z (leb k.toNat w) 2281 103 = z + k := (rW_f (by decide)).trans rU_s
    have hz3 : rU (rW (rU P 2281 103 (z + k)) 2363 z (leb k.toNat w)) 2363 (z + k) (w / 256 ^ k.toNat % 256) 2281 103 = z + k := (rU_f (by decide)).trans hz2
    have hgo := fun (σ : hM) (hP : PM σ0 (rU (rU (rW (rU P 2281 103 (z + k)) 2363 z (leb k.toNat w)) 2363 (z + k) (w / 256 ^ k.toNat % 256)) 2281 103 (z + k + 1)) S σ) => ih (k + 1) σ (by omega) (by omega) (by
      have e1 := rW_snoc (P := rU P 2281 103 (z + k)) (f := 2363) (o := z) (l := leb k.toNat w) (v := w / 256 ^ k.toNat % 256)
      rw [hll, ← leb_snoc] at e1
      rw [e1, rU_rW (by decide), rU_over, show k.toNat + 1 = (k + 1).toNat by omega, show z + k + 1 = z + (k + 1) by omega] at hP
      exact hP)
    refine x_li (z := k) T_306_32 rfl ?_
    refine x_li (z := n) T_306_34 rfl ?_
    refine x_ic2 T_306_35 (fun h => absurd (show n ≤ k from h) (by omega)) (fun _ => ?_)
    refine x_lr (z := some 2281) T_306_38 rfl ?_
    refine x_gR (z := some 2363) T_306_39 F_17_102 (PM.t hP) (PM.r hP 102 2363 rfl) ?_
    refine x_lr (z := some 2281) T_306_42 rfl ?_
    refine x_gI (z := (z + k)) T_306_43 (Or.inl F_17_103) (PM.t hP) (Eq.trans (PM.nP hP 2281 103 103 rfl rfl rfl) hz2) ?_
    refine x_ll (z := w) T_306_46 rfl ?_
    refine x_ic T_306_47 ?_
    refine x_li (z := k) T_306_49 rfl ?_
    refine x_ib (w := (8 * k)) T_306_51 (fun h => absurd h.1 (by decide)) (w32_id (by omega) (by omega)) ?_
    refine x_lh (w := (shr64 w (8 * k))) T_306_52 rfl ?_
    refine x_lc T_306_53 ?_
    refine x_lb (w := (w / 256 ^ k.toNat % 256)) T_306_56 (fun h => absurd h.1 (by decide)) (byte64 w (by omega) (by omega)) ?_
    refine x_l2i (w := (w / 256 ^ k.toNat % 256)) T_306_57 (w32_id (by omega) (by omega)) ?_
    refine y_aIP hP T_306_58 2363 100 rfl rfl rfl (by omega) (by omega) (fun σ hP => ?_)
    refine x_lr (z := some 2281) T_306_59 rfl ?_
    refine x_dupR T_306_60 ?_
    refine x_gI (z := (z + k)) T_306_61 (Or.inl F_17_103) (PM.t hP) (Eq.trans (Eq.trans (PM.nP hP 2281 103 103 rfl rfl rfl) (rU_f (Nat.ne_of_beq_eq_false rfl))) hz3) ?_
    refine x_ic T_306_64 ?_
    refine x_ib (w := ((z + k) + 1)) T_306_65 (fun h => absurd h.1 (by decide)) (w32_id (by omega) (by omega)) ?_
    refine y_pIP hP T_306_66 F_17_103 103 rfl rfl (fun σ hP => ?_)
    refine x_inc (w := (k + 1)) (ls1 := [some (vR (some 2281)), some (vL w), none, some (vI n), some (vI (k + 1))]) T_306_69 rfl (w32_id (by omega) (by omega)) rfl ?_
    refine x_goto T_306_72 ?_
    exact hgo σ hP
theorem m_type (hP : PM σ0 P S σ) (hI : IV false T U P) : CL fb (d + 1) 306 [vR (some 2281), vL w, vI n] σ (fun r σ' => r = some (vI (yTyp P w n).1) ∧ PM σ0 (yTyp P w n).2 S σ') := by
  unfold yTyp
  by_cases q : 1 ≤ n ∧ n ≤ 8
  · rw [if_neg (fun c => c q)]
    have h1 : 0 ≤ P 2281 103 ∧ P 2281 103 ≤ 100 := IV.n hI 103 103 rfl rfl (by decide)
    obtain ⟨z, hz⟩ : ∃ z, P 2281 103 = z := ⟨_, rfl⟩
    rw [hz] at h1 ⊢
    by_cases q2 : 100 < z + n
    · rw [if_pos q2]
      refine CL_in mL_306 rfl ?_
      show WP fb _ 306 0 [some (vR (some 2281)), some (vL w), none, some (vI n), none] [] σ _
      refine x_li (z := n) T_306_0 rfl ?_
      refine x_i2l T_306_1 ?_
      refine x_lc T_306_2 ?_
      refine x_lc T_306_3 ?_
      refine x_cs3 T_306_6 mN_282 mL_282 (Nat.le_of_ble_eq_true rfl) mK_282 (Nat.le_of_ble_eq_true rfl) (m_in) ?_
      rintro _ σ ⟨rfl, rfl⟩
      refine cI ?_
      refine x_if T_306_9 (fun _ => ?_) (fun h => absurd (show ¬ (if 1 ≤ n ∧ n ≤ 8 then (1 : Int) else 0) = 0 by rw [if_pos q]; decide) h)
      refine x_lr (z := some 2281) T_306_15 rfl ?_
      refine x_gI (z := z) T_306_16 (Or.inl F_17_103) (PM.t hP) (Eq.trans (PM.nP hP 2281 103 103 rfl rfl rfl) hz) ?_
      refine x_li (z := n) T_306_19 rfl ?_
      refine x_ib (w := (z + n)) T_306_20 (fun h => absurd h.1 (by decide)) (w32_id (by omega) (by omega)) ?_
      refine x_ic T_306_21 ?_
      refine x_ic2 T_306_23 (fun h => absurd (show (z + n) ≤ 100 from h) (by omega)) (fun _ => ?_)
      refine x_ic T_306_26 ?_
      refine x_ri T_306_28 ?_
      exact ⟨rfl, hP⟩
    · rw [if_neg q2]
      have hgo := fun (σ : hM) (hP : PM σ0 P S σ) => m_type_put (fb := fb) (d := d + 1) (w := w) (Q := fun r σ' => r = some (vI (z + n)) ∧ PM σ0 (rW (rU P 2281 103 (z + n)) 2363 z (leb n.toNat w)) S σ') h1.1 q.2 (by omega) (fun σ hP => ⟨rfl, hP⟩) n.toNat 0 σ (by omega) (by decide) (by
        rw [show leb (0 : Int).toNat w = [] from rfl, rW_nil, Int.add_zero, ← hz, rU_self]
        exact hP)
      refine CL_in mL_306 rfl ?_
      show WP fb _ 306 0 [some (vR (some 2281)), some (vL w), none, some (vI n), none] [] σ _
      refine x_li (z := n) T_306_0 rfl ?_
      refine x_i2l T_306_1 ?_
      refine x_lc T_306_2 ?_
      refine x_lc T_306_3 ?_
      refine x_cs3 T_306_6 mN_282 mL_282 (Nat.le_of_ble_eq_true rfl) mK_282 (Nat.le_of_ble_eq_true rfl) (m_in) ?_
      rintro _ σ ⟨rfl, rfl⟩
      refine cI ?_
      refine x_if T_306_9 (fun _ => ?_) (fun h => absurd (show ¬ (if 1 ≤ n ∧ n ≤ 8 then (1 : Int) else 0) = 0 by rw [if_pos q]; decide) h)
      refine x_lr (z := some 2281) T_306_15 rfl ?_
      refine x_gI (z := z) T_306_16 (Or.inl F_17_103) (PM.t hP) (Eq.trans (PM.nP hP 2281 103 103 rfl rfl rfl) hz) ?_
      refine x_li (z := n) T_306_19 rfl ?_
      refine x_ib (w := (z + n)) T_306_20 (fun h => absurd h.1 (by decide)) (w32_id (by omega) (by omega)) ?_
      refine x_ic T_306_21 ?_
      refine x_ic2 T_306_23 (fun _ => ?_) (fun h => absurd (show (z + n) ≤ 100 by omega) h)
      refine x_ic T_306_29 ?_
      refine x_si (ls1 := [some (vR (some 2281)), some (vL w), none, some (vI n), some (vI 0)]) T_306_30 rfl ?_
      exact hgo σ hP
  · rw [if_pos q]
    refine CL_in mL_306 rfl ?_
    show WP fb _ 306 0 [some (vR (some 2281)), some (vL w), none, some (vI n), none] [] σ _
    refine x_li (z := n) T_306_0 rfl ?_
    refine x_i2l T_306_1 ?_
    refine x_lc T_306_2 ?_
    refine x_lc T_306_3 ?_
    refine x_cs3 T_306_6 mN_282 mL_282 (Nat.le_of_ble_eq_true rfl) mK_282 (Nat.le_of_ble_eq_true rfl) (m_in) ?_
    rintro _ σ ⟨rfl, rfl⟩
    refine cI ?_
    refine x_if T_306_9 (fun h => absurd (show ¬ (if 1 ≤ n ∧ n ≤ 8 then (1 : Int) else 0) = 0 from h) (by rw [if_neg q]; decide)) (fun _ => ?_)
    refine x_ic T_306_12 ?_
    refine x_ri T_306_14 ?_
    exact ⟨rfl, hP⟩
end MTYP
