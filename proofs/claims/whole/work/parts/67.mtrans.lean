/-! What is kept of a message: the ring's bytes and the sum. -/
theorem T_231_2 : hTab 231 2 = some ((3, 2, 0, []), 3) := rfl
theorem T_231_3 : hTab 231 3 = some ((0, 0, 4, []), 4) := rfl
theorem T_231_4 : hTab 231 4 = some ((19, 3, Int.ofNat 32, []), 7) := rfl
theorem T_231_7 : hTab 231 7 = some ((3, 0, 2, []), 8) := rfl
theorem T_231_8 : hTab 231 8 = some ((24, 17, Int.ofNat 3, []), 11) := rfl
theorem T_231_11 : hTab 231 11 = some ((3, 2, 0, []), 12) := rfl
theorem T_231_12 : hTab 231 12 = some ((3, 0, 2, []), 13) := rfl
theorem T_231_13 : hTab 231 13 = some ((24, 17, Int.ofNat 4, []), 16) := rfl
theorem T_231_16 : hTab 231 16 = some ((0, 0, 8, []), 18) := rfl
theorem T_231_18 : hTab 231 18 = some ((3, 2, 0, []), 19) := rfl
theorem T_231_19 : hTab 231 19 = some ((10, 2, 0, []), 20) := rfl
theorem T_231_20 : hTab 231 20 = some ((10, 9, 0, []), 21) := rfl
theorem T_231_21 : hTab 231 21 = some ((0, 0, 255, []), 24) := rfl
theorem T_231_24 : hTab 231 24 = some ((10, 5, 0, []), 25) := rfl
theorem T_231_25 : hTab 231 25 = some ((27, 0, 0, []), 26) := rfl
theorem T_231_26 : hTab 231 26 = some ((5, 2, 1, []), 29) := rfl
theorem T_231_29 : hTab 231 29 = some ((22, 0, Int.ofNat 2, []), 32) := rfl
theorem T_231_34 : hTab 231 34 = some ((3, 2, 0, []), 35) := rfl
theorem T_231_35 : hTab 231 35 = some ((3, 0, 2, []), 36) := rfl
theorem T_231_36 : hTab 231 36 = some ((24, 17, Int.ofNat 4, []), 39) := rfl
theorem T_231_39 : hTab 231 39 = some ((19, 3, Int.ofNat 59, []), 42) := rfl
theorem T_231_42 : hTab 231 42 = some ((3, 0, 2, []), 43) := rfl
theorem T_231_43 : hTab 231 43 = some ((3, 0, 2, []), 44) := rfl
theorem T_231_44 : hTab 231 44 = some ((24, 17, Int.ofNat 3, []), 47) := rfl
theorem T_231_47 : hTab 231 47 = some ((3, 2, 0, []), 48) := rfl
theorem T_231_48 : hTab 231 48 = some ((26, 0, 0, []), 49) := rfl
theorem T_231_49 : hTab 231 49 = some ((3, 2, 0, []), 50) := rfl
theorem T_231_50 : hTab 231 50 = some ((31, 232, 0, []), 53) := rfl
theorem T_231_53 : hTab 231 53 = some ((5, 2, 1, []), 56) := rfl
theorem T_231_56 : hTab 231 56 = some ((22, 0, Int.ofNat 34, []), 59) := rfl
theorem T_231_93 : hTab 231 93 = some ((3, 2, 0, []), 94) := rfl
theorem T_231_94 : hTab 231 94 = some ((3, 0, 2, []), 95) := rfl
theorem T_231_95 : hTab 231 95 = some ((24, 17, Int.ofNat 6, []), 98) := rfl
theorem T_231_98 : hTab 231 98 = some ((19, 3, Int.ofNat 118, []), 101) := rfl
theorem T_231_101 : hTab 231 101 = some ((3, 0, 2, []), 102) := rfl
theorem T_231_102 : hTab 231 102 = some ((3, 0, 2, []), 103) := rfl
theorem T_231_103 : hTab 231 103 = some ((24, 17, Int.ofNat 5, []), 106) := rfl
theorem T_231_106 : hTab 231 106 = some ((3, 2, 0, []), 107) := rfl
theorem T_231_107 : hTab 231 107 = some ((26, 0, 0, []), 108) := rfl
theorem T_231_108 : hTab 231 108 = some ((3, 2, 0, []), 109) := rfl
theorem T_231_109 : hTab 231 109 = some ((31, 232, 0, []), 112) := rfl
theorem T_231_112 : hTab 231 112 = some ((5, 2, 1, []), 115) := rfl
theorem T_231_115 : hTab 231 115 = some ((22, 0, Int.ofNat 93, []), 118) := rfl
theorem T_232_0 : hTab 232 0 = some ((3, 0, 2, []), 1) := rfl
theorem T_232_1 : hTab 232 1 = some ((3, 0, 2, []), 2) := rfl
theorem T_232_2 : hTab 232 2 = some ((24, 17, Int.ofNat 45, []), 5) := rfl
theorem T_232_5 : hTab 232 5 = some ((3, 1, 0, []), 6) := rfl
theorem T_232_6 : hTab 232 6 = some ((14, 0, 0, []), 7) := rfl
theorem T_232_7 : hTab 232 7 = some ((11, 7, 0, []), 8) := rfl
theorem T_232_8 : hTab 232 8 = some ((1, 0, 1099511628211, []), 11) := rfl
theorem T_232_11 : hTab 232 11 = some ((11, 2, 0, []), 12) := rfl
theorem T_232_12 : hTab 232 12 = some ((25, 17, Int.ofNat 45, []), 15) := rfl
theorem T_232_15 : hTab 232 15 = some ((3, 0, 2, []), 16) := rfl
theorem T_232_16 : hTab 232 16 = some ((24, 17, Int.ofNat 43, []), 19) := rfl
theorem T_232_19 : hTab 232 19 = some ((0, 0, 420, []), 22) := rfl
theorem T_232_22 : hTab 232 22 = some ((3, 0, 2, []), 23) := rfl
theorem T_232_23 : hTab 232 23 = some ((24, 17, Int.ofNat 42, []), 26) := rfl
theorem T_232_26 : hTab 232 26 = some ((0, 0, 40, []), 28) := rfl
theorem T_232_28 : hTab 232 28 = some ((10, 4, 0, []), 29) := rfl
theorem T_232_29 : hTab 232 29 = some ((10, 2, 0, []), 30) := rfl
theorem T_232_30 : hTab 232 30 = some ((3, 2, 0, []), 31) := rfl
theorem T_232_31 : hTab 232 31 = some ((10, 0, 0, []), 32) := rfl
theorem T_232_32 : hTab 232 32 = some ((3, 1, 0, []), 33) := rfl
theorem T_232_33 : hTab 232 33 = some ((27, 0, 0, []), 34) := rfl
theorem T_232_34 : hTab 232 34 = some ((33, 0, 0, []), 35) := rfl
theorem F_17_43 : (hFd 17 43).2.2.1 = 4 := rfl
theorem mN_231 : hmN 231 = 2 := by decide +kernel
theorem mL_231 : hmL 231 = 3 := by decide +kernel
theorem mK_231 : hmK 231 = 1 := by decide +kernel
theorem mO_231 : hmO 231 = 17 := by decide +kernel
theorem mN_232 : hmN 232 = 3 := by decide +kernel
theorem mL_232 : hmL 232 = 3 := by decide +kernel
theorem mK_232 : hmK 232 = 1 := by decide +kernel
theorem mO_232 : hmO 232 = 17 := by decide +kernel
def sumB (s b : Int) : Int := w64 (xor64 s b * 1099511628211)
def sumL (s : Int) (l : List Int) : Int := l.foldl sumB s
theorem sumL_snoc {s b : Int} {l : List Int} : sumL s (l ++ [b]) = sumB (sumL s l) b := by
  unfold sumL
  rw [List.foldl_append]
  rfl
def gKp (P : qR) (l : List Int) : qR := rU (rW P 2316 (420 * (P 2281 42 % 40)) l) 2281 45 (sumL (P 2281 45) l)
theorem gKp_sum {P : qR} {l : List Int} : gKp P l 2281 45 = sumL (P 2281 45) l := rU_s
theorem gKp_k {P : qR} {l : List Int} {k : Int} (h : k ≠ 45) : gKp P l 2281 k = P 2281 k := (rU_k h).trans (rW_f (by decide))
theorem gKp_f {P : qR} {l : List Int} {f : Nat} {k : Int} (h : f ≠ 2281) (h2 : f ≠ 2316) : gKp P l f k = P f k := (rU_f h).trans (rW_f h2)
theorem gKp_nil {P : qR} : gKp P [] = P := by
  unfold gKp
  rw [rW_nil, show sumL (P 2281 45) [] = P 2281 45 from rfl, rU_self]
theorem gKp_snoc {P : qR} {l : List Int} {b : Int} : rU (rU (gKp P l) 2281 45 (sumB (sumL (P 2281 45) l) b)) 2316 (420 * (P 2281 42 % 40) + l.length) b = gKp P (l ++ [b]) := by
  have e : rU (rW P 2316 (420 * (P 2281 42 % 40)) l) 2316 (420 * (P 2281 42 % 40) + l.length) b = rW P 2316 (420 * (P 2281 42 % 40)) (l ++ [b]) := by rw [← rW_one, rW_app]
  unfold gKp
  rw [rU_rU, sumL_snoc, rU_comm (f1 := 2281) (f2 := 2316) (Or.inl (by decide)), e]
section MTRANS
variable {fb : Bool} {d : Nat} {σ0 σ : hM} {P Q S S1 : qR} {T U w : Int} {l : List Int}
theorem m_keepByte {b k : Int} (hP : PM σ0 (gKp P l) S σ) (hm : 0 ≤ P 2281 42 ∧ P 2281 42 ≤ 2147483000) (hk : (l.length : Int) = k) (hl : k < 420) : CL fb d 232 [vR (some 2281), vI b, vI k] σ (rV σ0 (gKp P (l ++ [b])) S) := by
  rw [← gKp_snoc, hk]
  have e1 : gKp P l 2281 45 = sumL (P 2281 45) l := gKp_sum
  have e2 : gKp P l 2281 42 = P 2281 42 := gKp_k (by decide)
  refine CL_in mL_232 rfl ?_
  show WP fb _ 232 0 [some (vR (some 2281)), some (vI b), some (vI k)] [] σ _
  refine x_lr (z := some 2281) T_232_0 rfl ?_
  refine x_lr (z := some 2281) T_232_1 rfl ?_
  refine x_gL (z := sumL (P 2281 45) l) T_232_2 F_17_45 (PM.t hP) (Eq.trans (PM.nP hP 2281 45 45 rfl rfl rfl) e1) ?_
  refine x_li (z := b) T_232_5 rfl ?_
  refine x_i2l T_232_6 ?_
  refine x_lb (w := (xor64 (sumL (P 2281 45) l) b)) T_232_7 (fun h => absurd h.1 (by decide)) rfl ?_
  refine x_lc T_232_8 ?_
  refine x_lb (w := sumB (sumL (P 2281 45) l) b) T_232_11 (fun h => absurd h.1 (by decide)) rfl ?_
  refine y_pLP hP T_232_12 F_17_45 45 rfl rfl (fun σ hP => ?_)
  refine x_lr (z := some 2281) T_232_15 rfl ?_
  refine x_gR (z := some 2316) T_232_16 F_17_43 (PM.t hP) (PM.r hP 43 2316 rfl) ?_
  refine x_ic T_232_19 ?_
  refine x_lr (z := some 2281) T_232_22 rfl ?_
  refine x_gI (z := P 2281 42) T_232_23 (Or.inl F_17_42) (PM.t hP) (Eq.trans (Eq.trans (PM.nP hP 2281 42 42 rfl rfl rfl) (rU_k (by decide))) e2) ?_
  refine x_ic T_232_26 ?_
  refine x_ib (w := (P 2281 42 % 40)) T_232_28 (fun h => absurd h.2 (by decide)) (rem32_n (by omega) (by omega) (by decide)) ?_
  refine x_ib (w := (420 * (P 2281 42 % 40))) T_232_29 (fun h => absurd h.1 (by decide)) (w32_id (by omega) (by omega)) ?_
  refine x_li (z := k) T_232_30 rfl ?_
  refine x_ib (w := ((420 * (P 2281 42 % 40)) + k)) T_232_31 (fun h => absurd h.1 (by decide)) (w32_id (by omega) (by omega)) ?_
  refine x_li (z := b) T_232_32 rfl ?_
  refine y_aIP hP T_232_33 2316 16800 rfl rfl rfl (by omega) (by omega) (fun σ hP => ?_)
  refine x_rv T_232_34 ?_
  exact ⟨rfl, hP⟩
theorem sumL_rng {s : Int} (h : -9223372036854775808 ≤ s ∧ s ≤ 9223372036854775807) : ∀ l : List Int, -9223372036854775808 ≤ sumL s l ∧ sumL s l ≤ 9223372036854775807
  | [] => h
  | b :: l => sumL_rng (s := sumB s b) (w64_rng _) l
theorem MI_gKp (h : MI T U P) (hb : byt l) : MI T U (gKp P l) := by
  have hs : -9223372036854775808 ≤ P 2281 45 ∧ P 2281 45 ≤ 9223372036854775807 := IV.n h.1 45 45 rfl rfl (by decide)
  exact ⟨(h.1.wA 2316 rfl (fun k h1 h2 => hb _ (by omega))).uN 45 45 rfl (sumL_rng hs l), h.2.of (fun _ => gKp_f (by decide) (by decide)) (fun _ => gKp_f (by decide) (by decide)) (fun _ => gKp_f (by decide) (by decide)) (fun _ => gKp_f (by decide) (by decide))⟩
/-- a request, whole -/
def RK (T U : Int) (S S1 : qR) (w : Int) (R : List Int) : Prop := S1 2281 4 = w ∧ (R.length : Int) = w ∧ seg (S1 2285) 0 w.toNat = R ∧ byt R ∧ IV true T U S1 ∧ (∀ (f : Nat) (k : Int), f ≠ 2281 → f ≠ 2285 → S1 f k = S f k) ∧ (∀ k : Int, k ≠ 4 → S1 2281 k = S 2281 k) ∧ w ≤ 420
theorem RQ.whole (h : RQ T U S S1 w l) : RK T U S (rW S1 2285 0 (leb 4 w)) w (leb 4 w ++ l) := by
  obtain ⟨h1, h2, h3, h4, h5, h6, h7, h8⟩ := h
  refine ⟨(rW_f (by decide)).trans h1, by rw [List.length_append, leb_len]; omega, ?_, byt_app (byt_leb 4 _) h4, h5.wA 2285 rfl (fun k q1 q2 => byt_leb 4 _ _ (by omega)), fun f k q1 q2 => (rW_f q2).trans (h6 f k q1 q2), fun k q => (rW_f (by decide)).trans (h7 k q), h8⟩
  refine seg_eq.mpr ⟨by rw [List.length_append, leb_len]; omega, fun i i0 i1 => ?_⟩
  rw [lg_app i0, leb_len, Int.zero_add]
  split <;> rename_i hi
  · rw [rW_i (by rw [leb_len]; omega), Int.sub_zero]
  · rw [rW_o (by rw [leb_len]; omega)]
    have := h3 (i - ((4 : Nat) : Int)) (by omega) (by omega)
    rw [show (4 : Int) + (i - ((4 : Nat) : Int)) = i by omega] at this
    exact this
theorem m_tr_size {s : Int} (hw : 0 ≤ w ∧ w ≤ 420) (hz : S 2281 4 = w) {Q : Option AV → hM → Prop} (hQ : ∀ σ, PM σ0 P (rW S 2285 0 (leb 4 w)) σ → WP fb d 231 32 [some (vR (some 2281)), some (vI s), some (vI 4)] [] σ Q) : ∀ (m : Nat) (i : Int) (σ : hM), i + m = 4 → 0 ≤ i → PM σ0 P (rW S 2285 0 (leb i.toNat w)) σ → WP fb d 231 2 [some (vR (some 2281)), some (vI s), some (vI i)] [] σ Q := by
  intro m
  induction m with
  | zero =>
    intro i σ hi hi0 hP
    obtain rfl : i = 4 := by omega
    refine x_li (z := 4) T_231_2 rfl ?_
    refine x_ic T_231_3 ?_
    refine x_ic2 T_231_4 (fun _ => ?_) (fun h => absurd (show 4 ≤ (4 : Int) by decide) h)
    exact hQ σ hP
  | succ m ih =>
    intro i σ hi hi0 hP
    refine x_li (z := i) T_231_2 rfl ?_
    refine x_ic T_231_3 ?_
    refine x_ic2 T_231_4 (fun h => absurd (show 4 ≤ i from h) (by omega)) (fun _ => ?_)
    refine x_lr (z := some 2281) T_231_7 rfl ?_
    refine x_gR (z := some 2285) T_231_8 F_17_3 (PM.t hP) (PM.r hP 3 2285 rfl) ?_
    refine x_li (z := i) T_231_11 rfl ?_
    refine x_lr (z := some 2281) T_231_12 rfl ?_
    refine x_gI (z := w) T_231_13 (Or.inl F_17_4) (PM.t hP) (Eq.trans (Eq.trans (PM.nS hP 2281 4 4 rfl rfl rfl) (rW_f (Nat.ne_of_beq_eq_false rfl))) hz) ?_
    refine x_ic T_231_16 ?_
    refine x_li (z := i) T_231_18 rfl ?_
    refine x_ib (w := (8 * i)) T_231_19 (fun h => absurd h.1 (by decide)) (w32_id (by omega) (by omega)) ?_
    refine x_ib (w := (shr32 w (8 * i))) T_231_20 (fun h => absurd h.1 (by decide)) rfl ?_
    refine x_ic T_231_21 ?_
    refine x_ib (w := (w / 256 ^ i.toNat % 256)) T_231_24 (fun h => absurd h.1 (by decide)) (byte32 (by omega) (by omega) (by omega) (by omega)) ?_
    refine y_aIS hP T_231_25 2285 512 rfl rfl rfl (by omega) (by omega) (fun σ hP => ?_)
    refine x_inc (w := (i + 1)) (ls1 := [some (vR (some 2281)), some (vI s), some (vI (i + 1))]) T_231_26 rfl (w32_id (by omega) (by omega)) rfl ?_
    refine x_goto T_231_29 ?_
    refine ih (i + 1) σ (by omega) (by omega) ?_
    have e := rW_app (W := S) (f := 2285) (o := 0) (l1 := leb i.toNat w) (l2 := [w / 256 ^ i.toNat % 256])
    rw [leb_len, rW_one, Int.zero_add, Int.toNat_of_nonneg hi0] at e
    rw [show (i + 1).toNat = i.toNat + 1 by omega, leb_snoc, ← e]
    exact hP
theorem m_tr_kept {s : Int} (hm : 0 ≤ P 2281 42 ∧ P 2281 42 ≤ 2147483000) (hw : 0 ≤ w ∧ w ≤ 420) (hz : S 2281 4 = w) {Q : Option AV → hM → Prop} (hQ : ∀ σ, PM σ0 (gKp P (seg (S 2285) 0 w.toNat)) S σ → WP fb (d + 1) 231 59 [some (vR (some 2281)), some (vI s), some (vI w)] [] σ Q) : ∀ (m : Nat) (i : Int) (σ : hM), i + m = w → 0 ≤ i → PM σ0 (gKp P (seg (S 2285) 0 i.toNat)) S σ → WP fb (d + 1) 231 34 [some (vR (some 2281)), some (vI s), some (vI i)] [] σ Q := by
  intro m
  induction m with
  | zero =>
    intro i σ hi hi0 hP
    obtain rfl : i = w := by omega
    refine x_li (z := i) T_231_34 rfl ?_
    refine x_lr (z := some 2281) T_231_35 rfl ?_
    refine x_gI (z := i) T_231_36 (Or.inl F_17_4) (PM.t hP) (Eq.trans (PM.nS hP 2281 4 4 rfl rfl rfl) hz) ?_
    refine x_ic2 T_231_39 (fun _ => ?_) (fun h => absurd (show i ≤ i by omega) h)
    exact hQ σ hP
  | succ m ih =>
    intro i σ hi hi0 hP
    have e := seg_snoc (S 2285) 0 i.toNat
    rw [Int.toNat_of_nonneg hi0, Int.zero_add] at e
    refine x_li (z := i) T_231_34 rfl ?_
    refine x_lr (z := some 2281) T_231_35 rfl ?_
    refine x_gI (z := w) T_231_36 (Or.inl F_17_4) (PM.t hP) (Eq.trans (PM.nS hP 2281 4 4 rfl rfl rfl) hz) ?_
    refine x_ic2 T_231_39 (fun h => absurd (show w ≤ i from h) (by omega)) (fun _ => ?_)
    refine x_lr (z := some 2281) T_231_42 rfl ?_
    refine x_lr (z := some 2281) T_231_43 rfl ?_
    refine x_gR (z := some 2285) T_231_44 F_17_3 (PM.t hP) (PM.r hP 3 2285 rfl) ?_
    refine x_li (z := i) T_231_47 rfl ?_
    refine x_alI (z := S 2285 i) T_231_48 (by decide) (PM.ta hP 2285 0 512 rfl rfl) (by omega) (by omega) (PM.aS hP 2285 rfl rfl (by omega)) ?_
    refine x_li (z := i) T_231_49 rfl ?_
    refine x_cv3 T_231_50 mN_232 mL_232 (Nat.le_of_ble_eq_true rfl) mO_232 (PM.t hP) (Nat.le_of_ble_eq_true rfl) (m_keepByte hP hm (by rw [seg_len]; omega) (by omega)) ?_
    rintro _ σ ⟨rfl, hP⟩
    refine cV ?_
    refine x_inc (w := (i + 1)) (ls1 := [some (vR (some 2281)), some (vI s), some (vI (i + 1))]) T_231_53 rfl (w32_id (by omega) (by omega)) rfl ?_
    refine x_goto T_231_56 ?_
    refine ih (i + 1) σ (by omega) (by omega) ?_
    rw [show (i + 1).toNat = i.toNat + 1 by omega, e]
    exact hP
theorem m_tr_kept2 {s : Int} (hm : 0 ≤ P 2281 42 ∧ P 2281 42 ≤ 2147483000) (hw : 0 ≤ w ∧ w ≤ 420) (hz : S 2281 6 = w) {Q : Option AV → hM → Prop} (hQ : ∀ σ, PM σ0 (gKp P (seg (S 2286) 0 w.toNat)) S σ → WP fb (d + 1) 231 118 [some (vR (some 2281)), some (vI s), some (vI w)] [] σ Q) : ∀ (m : Nat) (i : Int) (σ : hM), i + m = w → 0 ≤ i → PM σ0 (gKp P (seg (S 2286) 0 i.toNat)) S σ → WP fb (d + 1) 231 93 [some (vR (some 2281)), some (vI s), some (vI i)] [] σ Q := by
  intro m
  induction m with
  | zero =>
    intro i σ hi hi0 hP
    obtain rfl : i = w := by omega
    refine x_li (z := i) T_231_93 rfl ?_
    refine x_lr (z := some 2281) T_231_94 rfl ?_
    refine x_gI (z := i) T_231_95 (Or.inl F_17_6) (PM.t hP) (Eq.trans (PM.nS hP 2281 6 6 rfl rfl rfl) hz) ?_
    refine x_ic2 T_231_98 (fun _ => ?_) (fun h => absurd (show i ≤ i by omega) h)
    exact hQ σ hP
  | succ m ih =>
    intro i σ hi hi0 hP
    have e := seg_snoc (S 2286) 0 i.toNat
    rw [Int.toNat_of_nonneg hi0, Int.zero_add] at e
    refine x_li (z := i) T_231_93 rfl ?_
    refine x_lr (z := some 2281) T_231_94 rfl ?_
    refine x_gI (z := w) T_231_95 (Or.inl F_17_6) (PM.t hP) (Eq.trans (PM.nS hP 2281 6 6 rfl rfl rfl) hz) ?_
    refine x_ic2 T_231_98 (fun h => absurd (show w ≤ i from h) (by omega)) (fun _ => ?_)
    refine x_lr (z := some 2281) T_231_101 rfl ?_
    refine x_lr (z := some 2281) T_231_102 rfl ?_
    refine x_gR (z := some 2286) T_231_103 F_17_5 (PM.t hP) (PM.r hP 5 2286 rfl) ?_
    refine x_li (z := i) T_231_106 rfl ?_
    refine x_alI (z := S 2286 i) T_231_107 (by decide) (PM.ta hP 2286 0 512 rfl rfl) (by omega) (by omega) (PM.aS hP 2286 rfl rfl (by omega)) ?_
    refine x_li (z := i) T_231_108 rfl ?_
    refine x_cv3 T_231_109 mN_232 mL_232 (Nat.le_of_ble_eq_true rfl) mO_232 (PM.t hP) (Nat.le_of_ble_eq_true rfl) (m_keepByte hP hm (by rw [seg_len]; omega) (by omega)) ?_
    rintro _ σ ⟨rfl, hP⟩
    refine cV ?_
    refine x_inc (w := (i + 1)) (ls1 := [some (vR (some 2281)), some (vI s), some (vI (i + 1))]) T_231_112 rfl (w32_id (by omega) (by omega)) rfl ?_
    refine x_goto T_231_115 ?_
    refine ih (i + 1) σ (by omega) (by omega) ?_
    rw [show (i + 1).toNat = i.toNat + 1 by omega, e]
    exact hP
end MTRANS
