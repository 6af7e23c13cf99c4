/-! The class's commands: words are joined. -/
theorem T_108_0 : hTab 108 0 = some ((3, 2, 0, []), 1) := rfl
theorem T_108_1 : hTab 108 1 = some ((4, 4, 0, []), 3) := rfl
theorem T_108_3 : hTab 108 3 = some ((3, 4, 0, []), 5) := rfl
theorem T_108_5 : hTab 108 5 = some ((3, 3, 0, []), 6) := rfl
theorem T_108_6 : hTab 108 6 = some ((19, 3, Int.ofNat 49, []), 9) := rfl
theorem T_108_9 : hTab 108 9 = some ((3, 4, 0, []), 11) := rfl
theorem T_108_11 : hTab 108 11 = some ((3, 2, 0, []), 12) := rfl
theorem T_108_12 : hTab 108 12 = some ((19, 5, Int.ofNat 22, []), 15) := rfl
theorem T_108_15 : hTab 108 15 = some ((3, 1, 2, []), 16) := rfl
theorem T_108_16 : hTab 108 16 = some ((0, 0, 32, []), 18) := rfl
theorem T_108_18 : hTab 108 18 = some ((31, 73, 0, []), 21) := rfl
theorem T_108_21 : hTab 108 21 = some ((7, 0, 0, []), 22) := rfl
theorem T_108_22 : hTab 108 22 = some ((3, 1, 2, []), 23) := rfl
theorem T_108_23 : hTab 108 23 = some ((3, 0, 2, []), 24) := rfl
theorem T_108_24 : hTab 108 24 = some ((24, 16, Int.ofNat 0, []), 27) := rfl
theorem T_108_27 : hTab 108 27 = some ((3, 0, 2, []), 28) := rfl
theorem T_108_28 : hTab 108 28 = some ((3, 4, 0, []), 30) := rfl
theorem T_108_30 : hTab 108 30 = some ((31, 104, 0, []), 33) := rfl
theorem T_108_33 : hTab 108 33 = some ((3, 0, 2, []), 34) := rfl
theorem T_108_34 : hTab 108 34 = some ((3, 4, 0, []), 36) := rfl
theorem T_108_36 : hTab 108 36 = some ((31, 106, 0, []), 39) := rfl
theorem T_108_39 : hTab 108 39 = some ((31, 32, 0, []), 42) := rfl
theorem T_108_42 : hTab 108 42 = some ((7, 0, 0, []), 43) := rfl
theorem T_108_43 : hTab 108 43 = some ((5, 4, 1, []), 46) := rfl
theorem T_108_46 : hTab 108 46 = some ((22, 0, Int.ofNat 3, []), 49) := rfl
theorem T_108_49 : hTab 108 49 = some ((33, 0, 0, []), 50) := rfl
theorem mN_108 : hmN 108 = 4 := by decide +kernel
theorem mL_108 : hmL 108 = 5 := by decide +kernel
theorem mK_108 : hmK 108 = 1 := by decide +kernel
theorem mO_108 : hmO 108 = 16 := by decide +kernel
section XJNT
variable {fb : Bool} {d S b c q n a0 m k tb : Nat} {σ0 σ : hM} {W W0 W1 W2 V V1 P Q : qR} {R R1 R2 V3 : rR} {i j x z v s e w f g u p a : Int} {l l0 lo nm M wd A C : List Int}
theorem x_join_loop (hC : CMD W k l) (hb1 : ¬ (k ≤ b ∧ b < k + 7)) (hb2 : ¬ (k ≤ b + 1 ∧ b + 1 < k + 7)) (ha : 0 ≤ a) (hz : z ≤ ((lnW l).length : Int)) : ∀ (m : Nat) (w : Int) (C : List Int) (σ : hM) (V : qR), w + m = z → a ≤ w → PX σ0 V R σ → BY V b n C → FB b W V → C.length + (if a < w ∧ 0 < m then 1 else 0) + (ecT l z w m).length ≤ n → WP fb (d + 1) 108 3 [some (vR (some k)), some (vR (some b)), some (vI a), some (vI z), some (vI w)] [] σ (fun r σ' => r = none ∧ ∃ W2, PX σ0 W2 R σ' ∧ BY W2 b n (C ++ (if a < w ∧ 0 < m then [32] else []) ++ ecT l z w m) ∧ FB b W W2) := by
  have hk := hC.1
  have hkr := hC.2.2.1
  have h50 := (lnW_ok hC.2.2.2.1.2.2.2.2.1).2
  intro m
  induction m with
  | zero =>
    intro w C σ V h1 h2 hP hB hF hl
    have h1 : w + ((0 : Nat) : Int) = z := h1
    have hbo := hB.1
    rw [if_neg (fun c => absurd c.2 (Nat.lt_irrefl 0)), List.append_nil, show ecT l z w 0 = [] from rfl, List.append_nil]
    refine x_li (z := w) T_108_3 rfl ?_
    refine x_li (z := z) T_108_5 rfl ?_
    refine x_ic2 T_108_6 (fun _ => ?_) (fun h => absurd (show z ≤ w by omega) h)
    refine x_rv T_108_49 ?_
    exact ⟨rfl, V, hP, hB, hF⟩
  | succ m ih =>
    intro w C σ V h1 h2 hP hB hF hl
    have hbo := hB.1
    have eT : ecT l z w (m + 1) = lnB l w ++ (if w + 1 < z then [32] else []) ++ ecT l z (w + 1) m := rfl
    rw [eT] at hl ⊢
    have hCV : ∀ V : qR, FB b W V → CMD V k l := fun V hF => by
      obtain ⟨c1, c2, c3, c4, c5, c6⟩ := hC
      have g := lnW_ok c4.2.2.2.2.1
      have := g.2
      refine ⟨c1, c2, c3, hF.by c4 (by omega), (hF _ _ (by omega) (by omega)).trans c5, fun i hi => ?_⟩
      exact ⟨(hF _ _ (by omega) (by omega)).trans (c6 i hi).1, (hF _ _ (by omega) (by omega)).trans (c6 i hi).2⟩
    obtain ⟨-, s, e, hs, he, g1, g2, g3, g4⟩ := hC.word (w := w) ⟨by omega, by omega⟩
    have hst := fun (σ : hM) (V : qR) (hP : PX σ0 V R σ) (hF : FB b W V) => x_startOf (fb := fb) (d := d) (w := w) (v := s) hP (hCV V hF) ⟨by omega, by omega⟩ (by
      have := lnW_ok hC.2.2.2.1.2.2.2.2.1
      have := this.2
      exact (hF _ _ (by omega) (by omega)).trans hs)
    have hen := fun (σ : hM) (V : qR) (hP : PX σ0 V R σ) (hF : FB b W V) => x_endOf (fb := fb) (d := d) (w := w) (v := e) hP (hCV V hF) ⟨by omega, by omega⟩ (by
      have := lnW_ok hC.2.2.2.1.2.2.2.2.1
      have := this.2
      exact (hF _ _ (by omega) (by omega)).trans he)
    have had := fun (C : List Int) (hl2 : C.length + (lnB l w).length ≤ n) (σ : hM) (V : qR) (hP : PX σ0 V R σ) (hB : BY V b n C) (hF : FB b W V) => (x_addAll (fb := fb) (d := d) (s := s) (e := e) hP hB (hCV V hF).2.2.2.1 (by omega) (Or.inr g1) (by omega)).mono (Q := fun r σ' => ∃ e2, r = some (vI e2) ∧ ∃ W2, PX σ0 W2 R σ' ∧ BY W2 b n (C ++ lnB l w) ∧ FB b W W2) (fun r σ' h => by
      obtain ⟨rfl, W2, r1, r2, r3⟩ := h
      rw [← g4, List.take_of_length_le (by rw [List.length_append]; omega)] at r2
      exact ⟨_, rfl, W2, r1, r2, FB_tr hF r3⟩)
    have hsp := fun (hl2 : C.length + 1 ≤ n) => (x_add (fb := fb) (d := d) (x := 32) hP hB (by decide)).mono (Q := fun r σ' => ∃ e2, r = some (vI e2) ∧ ∃ W2, PX σ0 W2 R σ' ∧ BY W2 b n (C ++ [32]) ∧ FB b W W2) (fun r σ' h => by
      obtain ⟨rfl, W2, r1, r2, r3⟩ := h
      rw [if_pos (by omega)] at r2
      exact ⟨_, rfl, W2, r1, r2, FB_tr hF r3⟩)
    have hkb : tX (k + 1) = some (Sum.inl 2) := hC.2.2.2.1.1
    have emz : (if w + 1 < z then [(32 : Int)] else []) = (if a < w + 1 ∧ 0 < m then [32] else []) := by
      by_cases q : w + 1 < z
      · rw [if_pos q, if_pos ⟨by omega, by omega⟩]
      · rw [if_neg q, if_neg (fun c => q (by omega))]
    have emn : ((if w + 1 < z then [(32 : Int)] else []).length) = (if a < w + 1 ∧ 0 < m then 1 else 0) := by
      rw [emz]
      split <;> rfl
    rw [List.length_append, List.length_append, emn] at hl
    rw [emz]
    have hgo := fun (C : List Int) (hl2 : C.length + (lnB l w).length + (if a < w + 1 ∧ 0 < m then 1 else 0) + (ecT l z (w + 1) m).length ≤ n) (σ : hM) (V : qR) (hP : PX σ0 V R σ) (hB : BY V b n (C ++ lnB l w)) (hF : FB b W V) => ih (w + 1) (C ++ lnB l w) σ V (by omega) (by omega) hP hB hF (by rw [List.length_append]; exact hl2)
    by_cases q : a < w
    · rw [if_pos ⟨q, Nat.succ_pos m⟩] at hl ⊢
      have hsp := hsp (by omega)
      have had := had (C ++ [32]) (by rw [List.length_append]; show C.length + 1 + _ ≤ n; omega)
      have hgo := hgo (C ++ [32]) (by rw [List.length_append]; show C.length + 1 + _ + _ + _ ≤ n; omega)
      rw [show C ++ [32] ++ (lnB l w ++ (if a < w + 1 ∧ 0 < m then [32] else []) ++ ecT l z (w + 1) m) = C ++ [32] ++ lnB l w ++ (if a < w + 1 ∧ 0 < m then [32] else []) ++ ecT l z (w + 1) m by simp only [List.append_assoc]]
      refine x_li (z := w) T_108_3 rfl ?_
      refine x_li (z := z) T_108_5 rfl ?_
      refine x_ic2 T_108_6 (fun h => absurd (show z ≤ w from h) (by omega)) (fun _ => ?_)
      refine x_li (z := w) T_108_9 rfl ?_
      refine x_li (z := a) T_108_11 rfl ?_
      refine x_ic2 T_108_12 (fun h => absurd (show w ≤ a from h) (by omega)) (fun _ => ?_)
      refine x_lr (z := some b) T_108_15 rfl ?_
      refine x_ic T_108_16 ?_
      refine x_cv2 T_108_18 mN_73 mL_73 (Nat.le_of_ble_eq_true rfl) mO_73 (hP.o hbo) (Nat.le_of_ble_eq_true rfl) (hsp) ?_
      clear hP hB hF
      rintro _ σ ⟨e2, rfl, V1, hP, hB, hF⟩
      refine cI ?_
      refine x_popI T_108_21 ?_
      refine x_lr (z := some b) T_108_22 rfl ?_
      refine x_lr (z := some k) T_108_23 rfl ?_
      refine x_gR (z := some (k + 1)) T_108_24 F_16_0 (hP.o hk) (hP.rc hk rfl rfl) ?_
      refine x_lr (z := some k) T_108_27 rfl ?_
      refine x_li (z := w) T_108_28 rfl ?_
      refine x_cv2 T_108_30 mN_104 mL_104 (Nat.le_of_ble_eq_true rfl) mO_104 (hP.o hk) (Nat.le_of_ble_eq_true rfl) (hst σ V1 hP hF) ?_
      rintro _ σ ⟨rfl, rfl⟩
      refine cI ?_
      refine x_lr (z := some k) T_108_33 rfl ?_
      refine x_li (z := w) T_108_34 rfl ?_
      refine x_cv2 T_108_36 mN_106 mL_106 (Nat.le_of_ble_eq_true rfl) mO_106 (hP.o hk) (Nat.le_of_ble_eq_true rfl) (hen σ V1 hP hF) ?_
      rintro _ σ ⟨rfl, rfl⟩
      refine cI ?_
      refine x_cv4 T_108_39 mN_32 mL_32 (Nat.le_of_ble_eq_true rfl) mO_32 (hP.o hbo) (Nat.le_of_ble_eq_true rfl) (had σ V1 hP hB hF) ?_
      clear hP hB hF
      rintro _ σ ⟨e3, rfl, V2, hP, hB, hF⟩
      refine cI ?_
      refine x_popI T_108_42 ?_
      refine x_inc (w := (w + 1)) (ls1 := [some (vR (some k)), some (vR (some b)), some (vI a), some (vI z), some (vI (w + 1))]) T_108_43 rfl (w32_id (by omega) (by omega)) rfl ?_
      refine x_goto T_108_46 ?_
      exact hgo σ V2 hP hB hF
    · rw [if_neg (fun c => q c.1)] at hl ⊢
      have had := had C (by omega)
      have hgo := hgo C (by omega)
      rw [List.append_nil, show C ++ (lnB l w ++ (if a < w + 1 ∧ 0 < m then [32] else []) ++ ecT l z (w + 1) m) = C ++ lnB l w ++ (if a < w + 1 ∧ 0 < m then [32] else []) ++ ecT l z (w + 1) m by simp only [List.append_assoc]]
      refine x_li (z := w) T_108_3 rfl ?_
      refine x_li (z := z) T_108_5 rfl ?_
      refine x_ic2 T_108_6 (fun h => absurd (show z ≤ w from h) (by omega)) (fun _ => ?_)
      refine x_li (z := w) T_108_9 rfl ?_
      refine x_li (z := a) T_108_11 rfl ?_
      refine x_ic2 T_108_12 (fun _ => ?_) (fun h => absurd (show w ≤ a by omega) h)
      refine x_lr (z := some b) T_108_22 rfl ?_
      refine x_lr (z := some k) T_108_23 rfl ?_
      refine x_gR (z := some (k + 1)) T_108_24 F_16_0 (hP.o hk) (hP.rc hk rfl rfl) ?_
      refine x_lr (z := some k) T_108_27 rfl ?_
      refine x_li (z := w) T_108_28 rfl ?_
      refine x_cv2 T_108_30 mN_104 mL_104 (Nat.le_of_ble_eq_true rfl) mO_104 (hP.o hk) (Nat.le_of_ble_eq_true rfl) (hst σ V hP hF) ?_
      rintro _ σ ⟨rfl, rfl⟩
      refine cI ?_
      refine x_lr (z := some k) T_108_33 rfl ?_
      refine x_li (z := w) T_108_34 rfl ?_
      refine x_cv2 T_108_36 mN_106 mL_106 (Nat.le_of_ble_eq_true rfl) mO_106 (hP.o hk) (Nat.le_of_ble_eq_true rfl) (hen σ V hP hF) ?_
      rintro _ σ ⟨rfl, rfl⟩
      refine cI ?_
      refine x_cv4 T_108_39 mN_32 mL_32 (Nat.le_of_ble_eq_true rfl) mO_32 (hP.o hbo) (Nat.le_of_ble_eq_true rfl) (had σ V hP hB hF) ?_
      clear hP hB hF
      rintro _ σ ⟨e3, rfl, V2, hP, hB, hF⟩
      refine cI ?_
      refine x_popI T_108_42 ?_
      refine x_inc (w := (w + 1)) (ls1 := [some (vR (some k)), some (vR (some b)), some (vI a), some (vI z), some (vI (w + 1))]) T_108_43 rfl (w32_id (by omega) (by omega)) rfl ?_
      refine x_goto T_108_46 ?_
      exact hgo σ V2 hP hB hF
theorem x_join (hP : PX σ0 W R σ) (hC : CMD W k l) (hB : BY W b n []) (hb1 : ¬ (k ≤ b ∧ b < k + 7)) (hb2 : ¬ (k ≤ b + 1 ∧ b + 1 < k + 7)) (ha : 0 ≤ a) (haz : a ≤ z) (hz : z ≤ ((lnW l).length : Int)) (hl : (ecT l z a (z - a).toNat).length ≤ n) : CL fb (d + 1) 108 [vR (some k), vR (some b), vI a, vI z] σ (fun r σ' => r = none ∧ ∃ W2, PX σ0 W2 R σ' ∧ BY W2 b n (ecT l z a (z - a).toNat) ∧ FB b W W2) := by
  have hk := hC.1
  have hgo := x_join_loop (fb := fb) (d := d) (σ0 := σ0) (R := R) hC hb1 hb2 ha hz (z - a).toNat a [] σ W (by omega) (Int.le_refl _) hP hB FB_rfl (by rw [if_neg (fun c => absurd c.1 (Int.lt_irrefl a))]; show 0 + 0 + _ ≤ n; omega)
  rw [if_neg (fun c => absurd c.1 (Int.lt_irrefl a)), List.append_nil, List.nil_append] at hgo
  refine CL_in mL_108 rfl ?_
  show WP fb _ 108 0 [some (vR (some k)), some (vR (some b)), some (vI a), some (vI z), none] [] σ _
  refine x_li (z := a) T_108_0 rfl ?_
  refine x_si (ls1 := [some (vR (some k)), some (vR (some b)), some (vI a), some (vI z), some (vI a)]) T_108_1 rfl ?_
  exact hgo
theorem ecT_99 (hl : l.length ≤ 100) (h2 : 2 ≤ (lnW l).length) (hz : 2 ≤ z) {m : Nat} (h1 : 1 ≤ w) (hm : w + m ≤ (lnW l).length) : ((ecT l z w m).length : Int) ≤ 99 := by
  obtain ⟨i1, i2⟩ := ecT_len (z := z) hl m w (by omega) hm
  obtain ⟨k1, k2⟩ := ecT_len (z := z) hl (w.toNat - 1) 1 (by decide) (by omega)
  obtain ⟨j1, j2⟩ := ecT_len (z := z) hl 1 0 (by decide) (by omega)
  have j3 := (totW_sp (f := lg l) (z := (l.length : Int)) l.length 0 (by decide) (by omega)).1
  have e : totW ((lnW l).drop (0 : Int).toNat) ≤ (l.length : Int) - 0 + 1 := j3
  have h0 := lnB_len hl (w := 0) ⟨by decide, by omega⟩
  have e1 : ecT l z 0 1 = lnB l 0 ++ (if (0 : Int) + 1 < z then [32] else []) ++ [] := rfl
  rw [e1, if_pos (by omega), List.append_nil, List.length_append] at j2
  have j2 : ((((lnB l 0).length + 1 : Nat)) : Int) + totW ((lnW l).drop ((0 : Int).toNat + 1)) ≤ totW ((lnW l).drop (0 : Int).toNat) := j2
  rw [show (0 : Int).toNat + 1 = 1 from rfl] at j2
  rw [show (1 : Int).toNat + (w.toNat - 1) = w.toNat by omega, show (1 : Int).toNat = 1 from rfl] at k2
  omega
end XJNT
