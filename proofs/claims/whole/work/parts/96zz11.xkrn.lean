/-! The class's kernel: servers, messages kept and summed. -/
theorem T_30_0 : hTab 30 0 = some ((3, 0, 2, []), 1) := rfl
theorem T_30_1 : hTab 30 1 = some ((24, 1, Int.ofNat 9, []), 4) := rfl
theorem T_30_4 : hTab 30 4 = some ((3, 0, 2, []), 5) := rfl
theorem T_30_5 : hTab 30 5 = some ((24, 1, Int.ofNat 3, []), 8) := rfl
theorem T_30_8 : hTab 30 8 = some ((0, 0, 40, []), 10) := rfl
theorem T_30_10 : hTab 30 10 = some ((10, 4, 0, []), 11) := rfl
theorem T_30_11 : hTab 30 11 = some ((26, 10, 0, []), 12) := rfl
theorem T_30_12 : hTab 30 12 = some ((4, 2, 2, []), 13) := rfl
theorem T_30_13 : hTab 30 13 = some ((3, 2, 2, []), 14) := rfl
theorem T_30_14 : hTab 30 14 = some ((3, 1, 2, []), 15) := rfl
theorem T_30_15 : hTab 30 15 = some ((0, 0, 0, []), 16) := rfl
theorem T_30_16 : hTab 30 16 = some ((3, 1, 2, []), 17) := rfl
theorem T_30_17 : hTab 30 17 = some ((31, 28, 0, []), 20) := rfl
theorem T_30_20 : hTab 30 20 = some ((31, 31, 0, []), 23) := rfl
theorem T_30_23 : hTab 30 23 = some ((7, 0, 0, []), 24) := rfl
theorem T_30_24 : hTab 30 24 = some ((3, 0, 2, []), 25) := rfl
theorem T_30_25 : hTab 30 25 = some ((6, 0, 0, []), 26) := rfl
theorem T_30_26 : hTab 30 26 = some ((24, 1, Int.ofNat 3, []), 29) := rfl
theorem T_30_29 : hTab 30 29 = some ((0, 0, 1, []), 30) := rfl
theorem T_30_30 : hTab 30 30 = some ((10, 0, 0, []), 31) := rfl
theorem T_30_31 : hTab 30 31 = some ((25, 1, Int.ofNat 3, []), 34) := rfl
theorem T_30_34 : hTab 30 34 = some ((3, 0, 2, []), 35) := rfl
theorem T_30_35 : hTab 30 35 = some ((24, 1, Int.ofNat 4, []), 38) := rfl
theorem T_30_38 : hTab 30 38 = some ((4, 3, 1, []), 39) := rfl
theorem T_30_39 : hTab 30 39 = some ((0, 0, 0, []), 40) := rfl
theorem T_30_40 : hTab 30 40 = some ((4, 5, 0, []), 42) := rfl
theorem T_30_42 : hTab 30 42 = some ((3, 5, 0, []), 44) := rfl
theorem T_30_44 : hTab 30 44 = some ((3, 1, 2, []), 45) := rfl
theorem T_30_45 : hTab 30 45 = some ((31, 28, 0, []), 48) := rfl
theorem T_30_48 : hTab 30 48 = some ((19, 3, Int.ofNat 71, []), 51) := rfl
theorem T_30_51 : hTab 30 51 = some ((3, 3, 1, []), 52) := rfl
theorem T_30_52 : hTab 30 52 = some ((3, 1, 2, []), 53) := rfl
theorem T_30_53 : hTab 30 53 = some ((3, 5, 0, []), 55) := rfl
theorem T_30_55 : hTab 30 55 = some ((31, 33, 0, []), 58) := rfl
theorem T_30_58 : hTab 30 58 = some ((14, 0, 0, []), 59) := rfl
theorem T_30_59 : hTab 30 59 = some ((11, 7, 0, []), 60) := rfl
theorem T_30_60 : hTab 30 60 = some ((1, 0, 1099511628211, []), 63) := rfl
theorem T_30_63 : hTab 30 63 = some ((11, 2, 0, []), 64) := rfl
theorem T_30_64 : hTab 30 64 = some ((4, 3, 1, []), 65) := rfl
theorem T_30_65 : hTab 30 65 = some ((5, 5, 1, []), 68) := rfl
theorem T_30_68 : hTab 30 68 = some ((22, 0, Int.ofNat 42, []), 71) := rfl
theorem T_30_71 : hTab 30 71 = some ((3, 0, 2, []), 72) := rfl
theorem T_30_72 : hTab 30 72 = some ((3, 3, 1, []), 73) := rfl
theorem T_30_73 : hTab 30 73 = some ((25, 1, Int.ofNat 4, []), 76) := rfl
theorem T_30_76 : hTab 30 76 = some ((33, 0, 0, []), 77) := rfl
theorem mN_30 : hmN 30 = 2 := by decide +kernel
theorem mL_30 : hmL 30 = 6 := by decide +kernel
theorem mK_30 : hmK 30 = 1 := by decide +kernel
theorem mO_30 : hmO 30 = 1 := by decide +kernel
/-- messages, their sum, the latest ones -/
def KM (W P : qR) : Prop := W 129 2035 = P 2281 42 ∧ W 129 2036 = P 2281 45 ∧ ∀ i : Int, 0 ≤ i → i < 40 → P 2317 i ≤ 300 ∧ BY W (149 + 2 * i.toNat) 300 (seg (P 2316) (420 * i) (P 2317 i).toNat)
def FN (W W2 : qR) : Prop := ∀ (x : Nat) (k : Int), ¬ (149 ≤ x ∧ x < 229) → ¬ (x = 129 ∧ (k = 2035 ∨ k = 2036)) → W2 x k = W x k
section XKRN
variable {fb : Bool} {d S a b n : Nat} {σ0 σ : hM} {W W0 W1 W2 P : qR} {R : rR} {i k x z v s e w c f T U y : Int} {l : List Int} {r : Option Nat}
theorem FN_rfl : FN W W := fun _ _ _ _ => rfl
theorem FN_tr (h1 : FN W W1) (h2 : FN W1 W2) : FN W W2 := fun x k a b => (h2 x k a b).trans (h1 x k a b)
theorem FN.by (h : FN W W2) {m : Nat} (hB : BY W b m l) (hb : b < 148 ∨ 229 ≤ b) : BY W2 b m l := by
  obtain ⟨a1, a2, a3, a4, a5, a6, a7⟩ := hB
  refine ⟨a1, a2, a3, (h b 2065 (by omega) (fun c => by omega)).trans a4, a5, a6, fun i h0 h1 => ?_⟩
  rw [h (b + 1) i (by omega) (fun c => by omega)]
  exact a7 i h0 h1
theorem rA_lat (h : 0 ≤ i ∧ i < 40) : rAr 140 12 40 i.toNat = some (149 + 2 * i.toNat) := by
  unfold rAr rA1
  rw [if_pos (by omega), if_neg (by decide), if_neg (fun c => c.2 rfl), if_pos rfl]
theorem tX_late (h : 0 ≤ i ∧ i < 40) : tX (149 + 2 * i.toNat) = some (Sum.inl 2) := tX_lat i.toNat (by omega)
theorem rA_srv (h : 0 ≤ s ∧ s < 3) : rAr 141 17 3 s.toNat = some (1293 + 294 * s.toNat) := by
  unfold rAr rA1
  rw [if_pos (by omega), if_neg (by decide), if_neg (fun c => absurd c.1 (by decide)), if_neg (by decide), if_pos rfl]
theorem x_host (hP : PX σ0 W R σ) (hs : 0 ≤ s ∧ s < 3) : CL fb d 122 [vR (some 129), vI s] σ (rPR (some (1293 + 294 * s.toNat)) σ) := by
  have hr := rA_srv hs
  refine CL_in mL_122 rfl ?_
  show WP fb _ 122 0 [some (vR (some 129)), some (vI s)] [] σ _
  refine x_lr (z := some 129) T_122_0 rfl ?_
  refine x_gR (z := some 141) T_122_1 F_1_10 (hP.o xo_129) (hP.rc xo_129 rfl rfl) ?_
  refine x_li (z := s) T_122_4 rfl ?_
  refine x_if T_122_5 (fun h => absurd (show s < 0 from h) (by omega)) (fun _ => ?_)
  refine x_li (z := s) T_122_8 rfl ?_
  refine x_ic T_122_9 ?_
  refine x_ic2 T_122_10 (fun _ => ?_) (fun h => absurd (show s < 3 by omega) h)
  refine x_li (z := s) T_122_17 rfl ?_
  refine x_alR (z := some (1293 + 294 * s.toNat)) T_122_18 (hP.ta xa_141) (by decide) (by omega) (by omega) (hP.arc xa_141 rfl hr) ?_
  refine x_rr T_122_19 ?_
  exact ⟨rfl, rfl⟩
theorem x_kept (hP : PX σ0 W R σ) (hm : W 129 2035 = n) (hn : 0 ≤ (n : Int) ∧ (n : Int) ≤ 2147483000) : CL fb d 213 [vR (some 129), vI k] σ (rPR (if 0 ≤ k ∧ k < (n : Int) ∧ (n : Int) - 40 ≤ k then some (149 + 2 * (k % 40).toNat) else none) σ) := by
  obtain ⟨z, hz⟩ : ∃ z : Int, (n : Int) = z := ⟨_, rfl⟩
  rw [hz] at hm hn ⊢
  by_cases q1 : 0 ≤ k
  · by_cases q2 : k < z
    · by_cases q3 : z - 40 ≤ k
      · rw [if_pos ⟨q1, q2, q3⟩]
        have hr := rA_lat (i := k % 40) ⟨by omega, by omega⟩
        refine CL_in mL_213 rfl ?_
        show WP fb _ 213 0 [some (vR (some 129)), some (vI k)] [] σ _
        refine x_li (z := k) T_213_0 rfl ?_
        refine x_if T_213_1 (fun h => absurd (show k < 0 from h) (by omega)) (fun _ => ?_)
        refine x_li (z := k) T_213_4 rfl ?_
        refine x_lr (z := some 129) T_213_5 rfl ?_
        refine x_gI (z := z) T_213_6 (Or.inl F_1_3) (hP.o xo_129) (Eq.trans (hP.gi xo_129 (key := 2035) rfl) hm) ?_
        refine x_ic2 T_213_9 (fun h => absurd (show z ≤ k from h) (by omega)) (fun _ => ?_)
        refine x_li (z := k) T_213_12 rfl ?_
        refine x_lr (z := some 129) T_213_13 rfl ?_
        refine x_gI (z := z) T_213_14 (Or.inl F_1_3) (hP.o xo_129) (Eq.trans (hP.gi xo_129 (key := 2035) rfl) hm) ?_
        refine x_ic T_213_17 ?_
        refine x_ib (w := (z - 40)) T_213_19 (fun h => absurd h.1 (by decide)) (w32_id (by omega) (by omega)) ?_
        refine x_ic2 T_213_20 (fun _ => ?_) (fun h => absurd (show (z - 40) ≤ k by omega) h)
        refine x_lr (z := some 129) T_213_27 rfl ?_
        refine x_gR (z := some 140) T_213_28 F_1_9 (hP.o xo_129) (hP.rc xo_129 rfl rfl) ?_
        refine x_li (z := k) T_213_31 rfl ?_
        refine x_ic T_213_32 ?_
        refine x_ib (w := (k % 40)) T_213_34 (fun h => absurd h.2 (by decide)) (rem32_n (by omega) (by omega) (by decide)) ?_
        refine x_alR (z := some (149 + 2 * (k % 40).toNat)) T_213_35 (hP.ta xa_140) (by decide) (by omega) (by omega) (hP.arc xa_140 rfl hr) ?_
        refine x_rr T_213_36 ?_
        exact ⟨rfl, rfl⟩
      · rw [if_neg (fun c => q3 c.2.2)]
        refine CL_in mL_213 rfl ?_
        show WP fb _ 213 0 [some (vR (some 129)), some (vI k)] [] σ _
        refine x_li (z := k) T_213_0 rfl ?_
        refine x_if T_213_1 (fun h => absurd (show k < 0 from h) (by omega)) (fun _ => ?_)
        refine x_li (z := k) T_213_4 rfl ?_
        refine x_lr (z := some 129) T_213_5 rfl ?_
        refine x_gI (z := z) T_213_6 (Or.inl F_1_3) (hP.o xo_129) (Eq.trans (hP.gi xo_129 (key := 2035) rfl) hm) ?_
        refine x_ic2 T_213_9 (fun h => absurd (show z ≤ k from h) (by omega)) (fun _ => ?_)
        refine x_li (z := k) T_213_12 rfl ?_
        refine x_lr (z := some 129) T_213_13 rfl ?_
        refine x_gI (z := z) T_213_14 (Or.inl F_1_3) (hP.o xo_129) (Eq.trans (hP.gi xo_129 (key := 2035) rfl) hm) ?_
        refine x_ic T_213_17 ?_
        refine x_ib (w := (z - 40)) T_213_19 (fun h => absurd h.1 (by decide)) (w32_id (by omega) (by omega)) ?_
        refine x_ic2 T_213_20 (fun h => absurd (show (z - 40) ≤ k from h) (by omega)) (fun _ => ?_)
        refine x_nu T_213_23 ?_
        refine x_goto T_213_24 ?_
        refine x_rr T_213_36 ?_
        exact ⟨rfl, rfl⟩
    · rw [if_neg (fun c => q2 c.2.1)]
      refine CL_in mL_213 rfl ?_
      show WP fb _ 213 0 [some (vR (some 129)), some (vI k)] [] σ _
      refine x_li (z := k) T_213_0 rfl ?_
      refine x_if T_213_1 (fun h => absurd (show k < 0 from h) (by omega)) (fun _ => ?_)
      refine x_li (z := k) T_213_4 rfl ?_
      refine x_lr (z := some 129) T_213_5 rfl ?_
      refine x_gI (z := z) T_213_6 (Or.inl F_1_3) (hP.o xo_129) (Eq.trans (hP.gi xo_129 (key := 2035) rfl) hm) ?_
      refine x_ic2 T_213_9 (fun _ => ?_) (fun h => absurd (show z ≤ k by omega) h)
      refine x_nu T_213_23 ?_
      refine x_goto T_213_24 ?_
      refine x_rr T_213_36 ?_
      exact ⟨rfl, rfl⟩
  · rw [if_neg (fun c => q1 c.1)]
    refine CL_in mL_213 rfl ?_
    show WP fb _ 213 0 [some (vR (some 129)), some (vI k)] [] σ _
    refine x_li (z := k) T_213_0 rfl ?_
    refine x_if T_213_1 (fun _ => ?_) (fun h => absurd (show k < 0 by omega) h)
    refine x_nu T_213_23 ?_
    refine x_goto T_213_24 ?_
    refine x_rr T_213_36 ?_
    exact ⟨rfl, rfl⟩
theorem x_sum_loop (hP : PX σ0 W R σ) (hB : BY W b n l) {Q : Option AV → hM → Prop} (hQ : WP fb (d + 2) 30 71 [some (vR (some 129)), some (vR (some b)), some (vR r), some (vL (sumL v l)), none, some (vI (l.length : Int))] [] σ Q) : ∀ (m : Nat) (i y : Int), i + m = l.length → 0 ≤ i → sumL y (seg (lg l) i m) = sumL v l → WP fb (d + 2) 30 42 [some (vR (some 129)), some (vR (some b)), some (vR r), some (vL y), none, some (vI i)] [] σ Q := by
  obtain ⟨z, hz⟩ : ∃ z : Int, (l.length : Int) = z := ⟨_, rfl⟩
  have hn := hB.2.2.1
  have hl := hB.2.2.2.2.1
  have hsz := x_size (fb := fb) (d := d + 1) hP hB hz
  have hbo := hB.1
  rw [hz] at hQ
  intro m
  induction m with
  | zero =>
    intro i y h1 h2 h3
    have hi : i = z := by omega
    subst hi
    rw [← h3] at hQ
    have hQ : WP fb (d + 2) 30 71 [some (vR (some 129)), some (vR (some b)), some (vR r), some (vL y), none, some (vI i)] [] σ Q := hQ
    refine x_li (z := i) T_30_42 rfl ?_
    refine x_lr (z := some b) T_30_44 rfl ?_
    refine x_cv1 T_30_45 mN_28 mL_28 (Nat.le_of_ble_eq_true rfl) mO_28 (hP.o hbo) (Nat.le_of_ble_eq_true rfl) (hsz) ?_
    rintro _ σ ⟨rfl, rfl⟩
    refine cI ?_
    refine x_ic2 T_30_48 (fun _ => ?_) (fun h => absurd (show i ≤ i by omega) h)
    exact hQ
  | succ m ih =>
    intro i y h1 h2 h3
    have hat := x_at (fb := fb) (d := d + 1) (i := i) hP hB
    rw [if_pos (by omega)] at hat
    rw [seg_cons] at h3
    obtain ⟨x, hx⟩ : ∃ x, lg l i = x := ⟨_, rfl⟩
    rw [hx] at hat h3
    have hgo := ih (i + 1) (sumB y x) (by omega) (by omega) h3
    refine x_li (z := i) T_30_42 rfl ?_
    refine x_lr (z := some b) T_30_44 rfl ?_
    refine x_cv1 T_30_45 mN_28 mL_28 (Nat.le_of_ble_eq_true rfl) mO_28 (hP.o hbo) (Nat.le_of_ble_eq_true rfl) (hsz) ?_
    rintro _ σ ⟨rfl, rfl⟩
    refine cI ?_
    refine x_ic2 T_30_48 (fun h => absurd (show z ≤ i from h) (by omega)) (fun _ => ?_)
    refine x_ll (z := y) T_30_51 rfl ?_
    refine x_lr (z := some b) T_30_52 rfl ?_
    refine x_li (z := i) T_30_53 rfl ?_
    refine x_cv2 T_30_55 mN_33 mL_33 (Nat.le_of_ble_eq_true rfl) mO_33 (hP.o hbo) (Nat.le_of_ble_eq_true rfl) (hat) ?_
    rintro _ σ ⟨rfl, rfl⟩
    refine cI ?_
    refine x_i2l T_30_58 ?_
    refine x_lb (w := (xor64 y x)) T_30_59 (fun h => absurd h.1 (by decide)) rfl ?_
    refine x_lc T_30_60 ?_
    refine x_lb (w := (sumB y x)) T_30_63 (fun h => absurd h.1 (by decide)) rfl ?_
    refine x_sl (ls1 := [some (vR (some 129)), some (vR (some b)), some (vR r), some (vL (sumB y x)), none, some (vI i)]) T_30_64 rfl ?_
    refine x_inc (w := (i + 1)) (ls1 := [some (vR (some 129)), some (vR (some b)), some (vR r), some (vL (sumB y x)), none, some (vI (i + 1))]) T_30_65 rfl (w32_id (by omega) (by omega)) rfl ?_
    refine x_goto T_30_68 ?_
    exact hgo
theorem BY.key {m : Nat} (h : BY W b m l) (hk : 2000 ≤ k) (hk2 : k ≠ 2065) : BY (rU W a k v) b m l := by
  obtain ⟨a1, a2, a3, a4, a5, a6, a7⟩ := h
  exact ⟨a1, a2, a3, (rU_j (Ne.symm hk2)).trans a4, a5, a6, fun i h0 h1 => (rU_j (by omega)).trans (a7 i h0 h1)⟩
theorem KM_gM1 {l : List Int} {W4 : qR} (hK : KM W P) (hm : 0 ≤ P 2281 42) (hl : l.length ≤ 300) (h1 : W4 129 2035 = P 2281 42 + 1) (h2 : W4 129 2036 = sumL (P 2281 45) l) (h3 : BY W4 (149 + 2 * (P 2281 42 % 40).toNat) 300 l) (h4 : ∀ i : Int, 0 ≤ i → i < 40 → i ≠ P 2281 42 % 40 → ∀ t, BY W (149 + 2 * i.toNat) 300 t → BY W4 (149 + 2 * i.toNat) 300 t) : KM W4 (gM1 P l) := by
  obtain ⟨z, hz⟩ : ∃ z, P 2281 42 = z := ⟨_, rfl⟩
  rw [hz] at hm h1 h3 h4
  refine ⟨?_, ?_, fun i h0 hi => ?_⟩
  · rw [h1]
    show z + 1 = rU _ 2281 42 (P 2281 42 + 1) 2281 42
    rw [rU_s, hz]
  · rw [h2]
    show _ = rU (rU (rU _ 2281 45 _) _ _ _) 2281 42 _ 2281 45
    rw [rU_k (by decide), rU_f (by decide), rU_s]
  · have eR : ∀ k, gM1 P l 2316 k = rW P 2316 (420 * (z % 40)) l 2316 k := fun k => by
      unfold gM1 gKp
      rw [rU_f (by decide), rU_f (by decide), rU_f (by decide), show P 2281 42 = z from hz]
    have eS : ∀ k, gM1 P l 2317 k = rU P 2317 (z % 40) (l.length : Int) 2317 k := fun k => by
      unfold gM1 gKp
      rw [rU_f (by decide), show P 2281 42 = z from hz]
      unfold rU
      by_cases q : k = z % 40
      · rw [if_pos ⟨rfl, q⟩, if_pos ⟨rfl, q⟩]
      · rw [if_neg (fun c => q c.2), if_neg (fun c => absurd c.1 (by decide)), if_neg (fun c => q c.2)]
        exact if_neg (fun c => absurd c.1 (by decide))
    rw [eS]
    by_cases q : i = z % 40
    · rw [q, rU_s]
      refine ⟨by omega, ?_⟩
      have e : seg (gM1 P l 2316) (420 * (z % 40)) ((l.length : Int)).toNat = l := seg_eq.mpr ⟨by omega, fun j j0 j1 => by
        rw [eR, rW_i ⟨by omega, by omega⟩]
        congr 1
        omega⟩
      rw [e]
      exact h3
    · rw [rU_k q]
      obtain ⟨g1, g2⟩ := hK.2.2 i h0 hi
      refine ⟨g1, ?_⟩
      have e : seg (gM1 P l 2316) (420 * i) (P 2317 i).toNat = seg (P 2316) (420 * i) (P 2317 i).toNat := seg_seg.mpr (fun j j0 j1 => by
        rw [eR]
        exact rW_o (by omega))
      rw [e]
      exact h4 i h0 hi q _ g2
theorem x_note (hP : PX σ0 W R σ) (hK : KM W P) (hm : 0 ≤ P 2281 42 ∧ P 2281 42 ≤ 2147483000) (hB : BY W b n l) (hl : l.length ≤ 300) (hb : b < 148 ∨ 229 ≤ b) : CL fb (d + 2) 30 [vR (some 129), vR (some b)] σ (fun r σ' => r = none ∧ ∃ W2, PX σ0 W2 R σ' ∧ KM W2 (gM1 P l) ∧ FN W W2) := by
  obtain ⟨m, hmz⟩ : ∃ z, P 2281 42 = z := ⟨_, rfl⟩
  obtain ⟨z, hz⟩ : ∃ z : Int, (l.length : Int) = z := ⟨_, rfl⟩
  obtain ⟨v, hv⟩ : ∃ z, P 2281 45 = z := ⟨_, rfl⟩
  have h1 : W 129 2035 = m := hK.1.trans hmz
  have h2 : W 129 2036 = v := hK.2.1.trans hv
  have hm0 := hm
  rw [hmz] at hm
  have hbo := hB.1
  have hr := rA_lat (i := m % 40) ⟨by omega, by omega⟩
  have hlo := tX_late (i := m % 40) ⟨by omega, by omega⟩
  obtain ⟨-, hk0⟩ := hK.2.2 (m % 40) (by omega) (by omega)
  have hsz := x_size (fb := fb) (d := d + 1) hP hB hz
  obtain ⟨kp, hkp⟩ : ∃ kp, 149 + 2 * (m % 40).toNat = kp := ⟨_, rfl⟩
  rw [hkp] at hr hlo hk0
  have hne : b ≠ kp := by omega
  have htk := x_take (fb := fb) (d := d) (s := 0) (e := z) hP hk0 hB hne (Or.inr (by decide)) (by omega)
  rw [show (z - 0).toNat = l.length by omega, seg_all, List.take_of_length_le hl, if_pos hl] at htk
  have hend : ∀ (σ : hM) (W2 : qR), PX σ0 W2 R σ → BY W2 kp 300 l → FB kp W W2 → WP fb (d + 2) 30 24 [some (vR (some 129)), some (vR (some b)), some (vR (some kp)), none, none, none] [] σ (fun r σ' => r = none ∧ ∃ W2, PX σ0 W2 R σ' ∧ KM W2 (gM1 P l) ∧ FN W W2) := fun σ W2 hP hB2 hF2 => by
    have g1 : W2 129 2035 = m := (hF2.o (by decide) (by decide)).trans h1
    have g2 : W2 129 2036 = v := (hF2.o (by decide) (by decide)).trans h2
    have hBb : BY (rU W2 129 2035 (m + 1)) b n l := (hF2.by hB hne).key (by decide) (by decide)
    have hfin : KM (rU (rU W2 129 2035 (m + 1)) 129 2036 (sumL v l)) (gM1 P l) := by
      refine KM_gM1 hK hm0.1 hl ?_ ?_ ?_ ?_
      · rw [rU_k (by decide), rU_s, hmz]
      · rw [rU_s, hv]
      · rw [hmz, hkp]
        exact (hB2.key (by decide) (by decide)).key (by decide) (by decide)
      · intro i i0 i1 i2 t ht
        exact (((hF2.by ht (by omega)).key (by decide) (by decide)).key (by decide) (by decide))
    have hfn : FN W (rU (rU W2 129 2035 (m + 1)) 129 2036 (sumL v l)) := fun x k q1 q2 => by
      unfold rU
      rw [if_neg (fun c => q2 ⟨c.1, Or.inr c.2⟩), if_neg (fun c => q2 ⟨c.1, Or.inl c.2⟩)]
      exact hF2 x k (fun c => by omega) (fun c => by omega)
    have hlp := fun (σ : hM) (hP : PX σ0 (rU W2 129 2035 (m + 1)) R σ) => x_sum_loop (fb := fb) (d := d) (r := some kp) (v := v) hP hBb (Q := fun r σ' => r = none ∧ ∃ W2, PX σ0 W2 R σ' ∧ KM W2 (gM1 P l) ∧ FN W W2) (by
      obtain ⟨sm, hsm⟩ : ∃ sm, sumL v l = sm := ⟨_, rfl⟩
      rw [hsm] at hfin hfn ⊢
      rw [hz]
      refine x_lr (z := some 129) T_30_71 rfl ?_
      refine x_ll (z := sm) T_30_72 rfl ?_
      refine z_pL hP T_30_73 F_1_4 xo_129 (key := 2036) rfl (fun σ hP => ?_)
      refine x_rv T_30_76 ?_
      exact ⟨rfl, _, hP, hfin, hfn⟩
      ) l.length 0 v (by omega) (by decide) (by rw [seg_all])
    refine x_lr (z := some 129) T_30_24 rfl ?_
    refine x_dupR T_30_25 ?_
    refine x_gI (z := m) T_30_26 (Or.inl F_1_3) (hP.o xo_129) (Eq.trans (hP.gi xo_129 (key := 2035) rfl) g1) ?_
    refine x_ic T_30_29 ?_
    refine x_ib (w := (m + 1)) T_30_30 (fun h => absurd h.1 (by decide)) (w32_id (by omega) (by omega)) ?_
    refine z_pI hP T_30_31 F_1_3 xo_129 (key := 2035) rfl (fun σ hP => ?_)
    refine x_lr (z := some 129) T_30_34 rfl ?_
    refine x_gL (z := v) T_30_35 F_1_4 (hP.o xo_129) (Eq.trans (Eq.trans (hP.gi xo_129 (key := 2036) rfl) (rU_j (by decide))) g2) ?_
    refine x_sl (ls1 := [some (vR (some 129)), some (vR (some b)), some (vR (some kp)), some (vL v), none, none]) T_30_38 rfl ?_
    refine x_ic T_30_39 ?_
    refine x_si (ls1 := [some (vR (some 129)), some (vR (some b)), some (vR (some kp)), some (vL v), none, some (vI 0)]) T_30_40 rfl ?_
    exact hlp σ hP
  refine CL_in mL_30 rfl ?_
  show WP fb _ 30 0 [some (vR (some 129)), some (vR (some b)), none, none, none, none] [] σ _
  refine x_lr (z := some 129) T_30_0 rfl ?_
  refine x_gR (z := some 140) T_30_1 F_1_9 (hP.o xo_129) (hP.rc xo_129 rfl rfl) ?_
  refine x_lr (z := some 129) T_30_4 rfl ?_
  refine x_gI (z := m) T_30_5 (Or.inl F_1_3) (hP.o xo_129) (Eq.trans (hP.gi xo_129 (key := 2035) rfl) h1) ?_
  refine x_ic T_30_8 ?_
  refine x_ib (w := (m % 40)) T_30_10 (fun h => absurd h.2 (by decide)) (rem32_n (by omega) (by omega) (by decide)) ?_
  refine x_alR (z := some kp) T_30_11 (hP.ta xa_140) (by decide) (by omega) (by omega) (hP.arc xa_140 rfl hr) ?_
  refine x_sr (ls1 := [some (vR (some 129)), some (vR (some b)), some (vR (some kp)), none, none, none]) T_30_12 rfl ?_
  refine x_lr (z := some kp) T_30_13 rfl ?_
  refine x_lr (z := some b) T_30_14 rfl ?_
  refine x_ic T_30_15 ?_
  refine x_lr (z := some b) T_30_16 rfl ?_
  refine x_cv1 T_30_17 mN_28 mL_28 (Nat.le_of_ble_eq_true rfl) mO_28 (hP.o hbo) (Nat.le_of_ble_eq_true rfl) (hsz) ?_
  rintro _ σ ⟨rfl, rfl⟩
  refine cI ?_
  refine x_cv4 T_30_20 mN_31 mL_31 (Nat.le_of_ble_eq_true rfl) mO_31 (hP.o hlo) (Nat.le_of_ble_eq_true rfl) (htk) ?_
  clear hP htk
  rintro _ σ ⟨rfl, W2, hP, hB2, hF2⟩
  refine cI ?_
  refine x_popI T_30_23 ?_
  exact hend σ W2 hP hB2 hF2
end XKRN
