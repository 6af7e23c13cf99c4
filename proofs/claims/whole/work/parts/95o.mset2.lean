/-! Variables: assign, set. -/
theorem T_371_0 : hTab 371 0 = some ((3, 0, 2, []), 1) := rfl
theorem T_371_1 : hTab 371 1 = some ((0, 0, 1, []), 2) := rfl
theorem T_371_2 : hTab 371 2 = some ((31, 318, 0, []), 5) := rfl
theorem T_371_5 : hTab 371 5 = some ((0, 0, 1, []), 6) := rfl
theorem T_371_6 : hTab 371 6 = some ((19, 1, Int.ofNat 21, []), 9) := rfl
theorem T_371_9 : hTab 371 9 = some ((3, 0, 2, []), 10) := rfl
theorem T_371_10 : hTab 371 10 = some ((0, 0, 1, []), 11) := rfl
theorem T_371_11 : hTab 371 11 = some ((0, 0, 0, []), 12) := rfl
theorem T_371_12 : hTab 371 12 = some ((31, 319, 0, []), 15) := rfl
theorem T_371_15 : hTab 371 15 = some ((0, 0, 97, []), 17) := rfl
theorem T_371_17 : hTab 371 17 = some ((10, 1, 0, []), 18) := rfl
theorem T_371_18 : hTab 371 18 = some ((22, 0, Int.ofNat 22, []), 21) := rfl
theorem T_371_21 : hTab 371 21 = some ((0, 0, (-1), []), 22) := rfl
theorem T_371_22 : hTab 371 22 = some ((4, 2, 0, []), 23) := rfl
theorem T_371_23 : hTab 371 23 = some ((3, 2, 0, []), 24) := rfl
theorem T_371_24 : hTab 371 24 = some ((14, 0, 0, []), 25) := rfl
theorem T_371_25 : hTab 371 25 = some ((1, 0, 0, []), 26) := rfl
theorem T_371_26 : hTab 371 26 = some ((1, 0, 25, []), 29) := rfl
theorem T_371_29 : hTab 371 29 = some ((31, 282, 0, []), 32) := rfl
theorem T_371_32 : hTab 371 32 = some ((18, 0, Int.ofNat 53, []), 35) := rfl
theorem T_371_35 : hTab 371 35 = some ((3, 0, 2, []), 36) := rfl
theorem T_371_36 : hTab 371 36 = some ((24, 17, Int.ofNat 77, []), 39) := rfl
theorem T_371_39 : hTab 371 39 = some ((0, 0, 3, []), 40) := rfl
theorem T_371_40 : hTab 371 40 = some ((19, 1, Int.ofNat 56, []), 43) := rfl
theorem T_371_43 : hTab 371 43 = some ((3, 0, 2, []), 44) := rfl
theorem T_371_44 : hTab 371 44 = some ((0, 0, 2, []), 45) := rfl
theorem T_371_45 : hTab 371 45 = some ((31, 318, 0, []), 48) := rfl
theorem T_371_48 : hTab 371 48 = some ((0, 0, 20, []), 50) := rfl
theorem T_371_50 : hTab 371 50 = some ((19, 5, Int.ofNat 56, []), 53) := rfl
theorem T_371_53 : hTab 371 53 = some ((0, 0, 18, []), 55) := rfl
theorem T_371_55 : hTab 371 55 = some ((33, 1, 0, []), 56) := rfl
theorem T_371_56 : hTab 371 56 = some ((3, 0, 2, []), 57) := rfl
theorem T_371_57 : hTab 371 57 = some ((3, 1, 0, []), 58) := rfl
theorem T_371_58 : hTab 371 58 = some ((3, 2, 0, []), 59) := rfl
theorem T_371_59 : hTab 371 59 = some ((3, 0, 2, []), 60) := rfl
theorem T_371_60 : hTab 371 60 = some ((24, 17, Int.ofNat 77, []), 63) := rfl
theorem T_371_63 : hTab 371 63 = some ((0, 0, 3, []), 64) := rfl
theorem T_371_64 : hTab 371 64 = some ((19, 1, Int.ofNat 71, []), 67) := rfl
theorem T_371_67 : hTab 371 67 = some ((0, 0, 2, []), 68) := rfl
theorem T_371_68 : hTab 371 68 = some ((22, 0, Int.ofNat 72, []), 71) := rfl
theorem T_371_71 : hTab 371 71 = some ((0, 0, (-1), []), 72) := rfl
theorem T_371_72 : hTab 371 72 = some ((31, 372, 0, []), 75) := rfl
theorem T_371_75 : hTab 371 75 = some ((0, 0, 0, []), 76) := rfl
theorem T_371_76 : hTab 371 76 = some ((33, 1, 0, []), 77) := rfl
theorem T_372_0 : hTab 372 0 = some ((3, 3, 0, []), 1) := rfl
theorem T_372_1 : hTab 372 1 = some ((18, 3, Int.ofNat 8, []), 4) := rfl
theorem T_372_4 : hTab 372 4 = some ((0, 0, 0, []), 5) := rfl
theorem T_372_5 : hTab 372 5 = some ((22, 0, Int.ofNat 13, []), 8) := rfl
theorem T_372_8 : hTab 372 8 = some ((3, 0, 2, []), 9) := rfl
theorem T_372_9 : hTab 372 9 = some ((3, 3, 0, []), 10) := rfl
theorem T_372_10 : hTab 372 10 = some ((31, 318, 0, []), 13) := rfl
theorem T_372_13 : hTab 372 13 = some ((4, 4, 0, []), 15) := rfl
theorem T_372_15 : hTab 372 15 = some ((3, 0, 2, []), 16) := rfl
theorem T_372_16 : hTab 372 16 = some ((24, 17, Int.ofNat 101, []), 19) := rfl
theorem T_372_19 : hTab 372 19 = some ((0, 0, 26, []), 21) := rfl
theorem T_372_21 : hTab 372 21 = some ((3, 1, 0, []), 22) := rfl
theorem T_372_22 : hTab 372 22 = some ((10, 2, 0, []), 23) := rfl
theorem T_372_23 : hTab 372 23 = some ((3, 2, 0, []), 24) := rfl
theorem T_372_24 : hTab 372 24 = some ((10, 0, 0, []), 25) := rfl
theorem T_372_25 : hTab 372 25 = some ((3, 4, 0, []), 27) := rfl
theorem T_372_27 : hTab 372 27 = some ((27, 0, 0, []), 28) := rfl
theorem T_372_28 : hTab 372 28 = some ((0, 0, 0, []), 29) := rfl
theorem T_372_29 : hTab 372 29 = some ((4, 5, 0, []), 31) := rfl
theorem T_372_31 : hTab 372 31 = some ((3, 5, 0, []), 33) := rfl
theorem T_372_33 : hTab 372 33 = some ((3, 4, 0, []), 35) := rfl
theorem T_372_35 : hTab 372 35 = some ((19, 3, Int.ofNat 68, []), 38) := rfl
theorem T_372_38 : hTab 372 38 = some ((3, 0, 2, []), 39) := rfl
theorem T_372_39 : hTab 372 39 = some ((24, 17, Int.ofNat 100, []), 42) := rfl
theorem T_372_42 : hTab 372 42 = some ((0, 0, 20, []), 44) := rfl
theorem T_372_44 : hTab 372 44 = some ((0, 0, 26, []), 46) := rfl
theorem T_372_46 : hTab 372 46 = some ((3, 1, 0, []), 47) := rfl
theorem T_372_47 : hTab 372 47 = some ((10, 2, 0, []), 48) := rfl
theorem T_372_48 : hTab 372 48 = some ((3, 2, 0, []), 49) := rfl
theorem T_372_49 : hTab 372 49 = some ((10, 0, 0, []), 50) := rfl
theorem T_372_50 : hTab 372 50 = some ((10, 2, 0, []), 51) := rfl
theorem T_372_51 : hTab 372 51 = some ((3, 5, 0, []), 53) := rfl
theorem T_372_53 : hTab 372 53 = some ((10, 0, 0, []), 54) := rfl
theorem T_372_54 : hTab 372 54 = some ((3, 0, 2, []), 55) := rfl
theorem T_372_55 : hTab 372 55 = some ((3, 3, 0, []), 56) := rfl
theorem T_372_56 : hTab 372 56 = some ((3, 5, 0, []), 58) := rfl
theorem T_372_58 : hTab 372 58 = some ((31, 319, 0, []), 61) := rfl
theorem T_372_61 : hTab 372 61 = some ((27, 0, 0, []), 62) := rfl
theorem T_372_62 : hTab 372 62 = some ((5, 5, 1, []), 65) := rfl
theorem T_372_65 : hTab 372 65 = some ((22, 0, Int.ofNat 31, []), 68) := rfl
theorem T_372_68 : hTab 372 68 = some ((33, 0, 0, []), 69) := rfl
theorem F_17_100 : (hFd 17 100).2.2.1 = 4 := rfl
theorem F_17_101 : (hFd 17 101).2.2.1 = 4 := rfl
theorem mN_371 : hmN 371 = 2 := by decide +kernel
theorem mL_371 : hmL 371 = 3 := by decide +kernel
theorem mK_371 : hmK 371 = 1 := by decide +kernel
theorem mO_371 : hmO 371 = 17 := by decide +kernel
theorem mN_372 : hmN 372 = 4 := by decide +kernel
theorem mL_372 : hmL 372 = 6 := by decide +kernel
theorem mK_372 : hmK 372 = 1 := by decide +kernel
theorem mO_372 : hmO 372 = 17 := by decide +kernel
section MSET2
variable {fb : Bool} {d : Nat} {σ0 σ : hM} {P Q R S S1 S2 : qR} {T U s w g u p k e t z o thr pt off n N v : Int} {l l1 l2 nm wd A : List Int} {h : List Ch} {a f : Int → Int} {x : Int × Int} {c : Ch} {fr fd md n0 b : Int}
theorem GI_gVar (h : GI T U P) (hp : 0 ≤ p ∧ p < 8) (hv : 0 ≤ v ∧ v ≤ 25) (hb : byt l) (hl : l.length ≤ 20) : GI T U (gVar P p v l) := by
  refine h.of (l := [2361, 2362]) ⟨(h.iv.uA 2362 rfl (by show 0 ≤ (l.length : Int) ∧ (l.length : Int) ≤ 20; omega)).wA 2361 rfl (fun k h1 h2 => hb _ (by omega)), ?_⟩ (RF_wr (RF_up RF_rfl rfl) rfl) rfl rfl rfl rfl rfl rfl rfl rfl rfl
  exact h.1.1.2.of (fun _ => (rW_f (by decide)).trans (rU_f (by decide))) (fun _ => (rW_f (by decide)).trans (rU_f (by decide))) (fun _ => (rW_f (by decide)).trans (rU_f (by decide))) (fun _ => (rW_f (by decide)).trans (rU_f (by decide)))
theorem gVar_f {f : Nat} (h1 : f ≠ 2361) (h2 : f ≠ 2362) : gVar P p v l f k = P f k := (rW_f h1).trans (rU_f h2)
theorem KS.gvar {l3 : List Int} (hK : KS T U P S l h) (hp : 0 ≤ p ∧ p < 8) (hv : 0 ≤ v ∧ v ≤ 25) (hb : byt l3) (hl : l3.length ≤ 20) : KS T U (gVar P p v l3) S l h := ⟨GI_gVar hK.1 hp hv hb hl, hK.2.1.row (fun _ => gVar_f (by decide) (by decide)) (fun _ => gVar_f (by decide) (by decide)), hK.2.2⟩
theorem lnB_bt (hL : LN S l) : byt (lnB l w) := fun _ hk => lnB_b hL hk
theorem m_assign_loop (hL : LN S l) (hp : 0 ≤ p ∧ p < 8) (hv : 0 ≤ v ∧ v ≤ 25) (hw : w < 0 ∨ (0 ≤ w ∧ w < ((lnW l).length : Int) ∧ lnB l w = wd)) (hwd : w < 0 → wd = []) (hn : (wd.length : Int) = n) (h20 : n ≤ 20) : ∀ (m : Nat) (i : Int) (σ : hM), i + m = n → 0 ≤ i → PM σ0 (rW (rU P 2362 (26 * p + v) n) 2361 (20 * (26 * p + v)) (wd.take i.toNat)) S σ → WP fb (d + 1) 372 31 [some (vR (some 2281)), some (vI p), some (vI v), some (vI w), some (vI n), some (vI i)] [] σ (rV σ0 (gVar P p v wd) S) := by
  intro m
  induction m with
  | zero =>
    intro i σ h1 h2 hP
    have hi : i = n := by omega
    rw [hi, List.take_of_length_le (by omega)] at hP
    have e : rW (rU P 2362 (26 * p + v) n) 2361 (20 * (26 * p + v)) wd = gVar P p v wd := by
      unfold gVar
      rw [hn]
    rw [e] at hP
    refine x_li (z := i) T_372_31 rfl ?_
    refine x_li (z := n) T_372_33 rfl ?_
    refine x_ic2 T_372_35 (fun _ => ?_) (fun h => absurd (show n ≤ i by omega) h)
    refine x_rv T_372_68 ?_
    exact ⟨rfl, hP⟩
  | succ m ih =>
    intro i σ h1 h2 hP
    have hw2 : 0 ≤ w ∧ w < ((lnW l).length : Int) ∧ lnB l w = wd := by
      rcases hw with q | q
      · have := hwd q
        rw [this] at hn
        have hn : ((0 : Nat) : Int) = n := hn
        omega
      · exact q
    have e1 : wd.take (i + 1).toNat = wd.take i.toNat ++ [lg wd i] := by
      rw [show (i + 1).toNat = i.toNat + 1 by omega, List.take_add_one, List.getElem?_eq_getElem (show i.toNat < wd.length by omega)]
      unfold lg
      rw [List.getD_eq_getElem?_getD, List.getElem?_eq_getElem (show i.toNat < wd.length by omega)]
      rfl
    obtain ⟨y, hy⟩ : ∃ y, lg wd i = y := ⟨_, rfl⟩
    rw [hy] at e1
    have hlen : ((wd.take i.toNat).length : Int) = i := by rw [List.length_take]; omega
    have e2 : rU (rW (rU P 2362 (26 * p + v) n) 2361 (20 * (26 * p + v)) (wd.take i.toNat)) 2361 (20 * (26 * p + v) + i) y = rW (rU P 2362 (26 * p + v) n) 2361 (20 * (26 * p + v)) (wd.take (i + 1).toNat) := by
      rw [← rW_one, show 20 * (26 * p + v) + i = 20 * (26 * p + v) + ((wd.take i.toNat).length : Int) by omega, rW_app, e1]
    have hsg := fun (σ : hM) (P : qR) (hP : PM σ0 P S σ) => CL_val (m_sign (fb := fb) (d := d) (w := w) (k := i) hP hL ⟨hw2.1, hw2.2.1⟩ (by rw [hw2.2.2]; omega)) (show lg (lnB l w) i = y by rw [hw2.2.2]; exact hy)
    have hgo := fun (σ : hM) (hP : PM σ0 (rU (rW (rU P 2362 (26 * p + v) n) 2361 (20 * (26 * p + v)) (wd.take i.toNat)) 2361 (20 * (26 * p + v) + i) y) S σ) => ih (i + 1) σ (by omega) (by omega) (by rw [← e2]; exact hP)
    refine x_li (z := i) T_372_31 rfl ?_
    refine x_li (z := n) T_372_33 rfl ?_
    refine x_ic2 T_372_35 (fun h => absurd (show n ≤ i from h) (by omega)) (fun _ => ?_)
    refine x_lr (z := some 2281) T_372_38 rfl ?_
    refine x_gR (z := some 2361) T_372_39 F_17_100 (PM.t hP) (PM.r hP 100 2361 rfl) ?_
    refine x_ic T_372_42 ?_
    refine x_ic T_372_44 ?_
    refine x_li (z := p) T_372_46 rfl ?_
    refine x_ib (w := (26 * p)) T_372_47 (fun h => absurd h.1 (by decide)) (w32_id (by omega) (by omega)) ?_
    refine x_li (z := v) T_372_48 rfl ?_
    refine x_ib (w := ((26 * p) + v)) T_372_49 (fun h => absurd h.1 (by decide)) (w32_id (by omega) (by omega)) ?_
    refine x_ib (w := (20 * ((26 * p) + v))) T_372_50 (fun h => absurd h.1 (by decide)) (w32_id (by omega) (by omega)) ?_
    refine x_li (z := i) T_372_51 rfl ?_
    refine x_ib (w := ((20 * ((26 * p) + v)) + i)) T_372_53 (fun h => absurd h.1 (by decide)) (w32_id (by omega) (by omega)) ?_
    refine x_lr (z := some 2281) T_372_54 rfl ?_
    refine x_li (z := w) T_372_55 rfl ?_
    refine x_li (z := i) T_372_56 rfl ?_
    refine x_cv3 T_372_58 mN_319 mL_319 (Nat.le_of_ble_eq_true rfl) mO_319 (PM.t hP) (Nat.le_of_ble_eq_true rfl) (hsg σ _ hP) ?_
    rintro _ σ ⟨rfl, rfl⟩
    refine cI ?_
    refine y_aIP hP T_372_61 2361 4160 rfl rfl rfl (by omega) (by omega) (fun σ hP => ?_)
    refine x_inc (w := (i + 1)) (ls1 := [some (vR (some 2281)), some (vI p), some (vI v), some (vI w), some (vI n), some (vI (i + 1))]) T_372_62 rfl (w32_id (by omega) (by omega)) rfl ?_
    refine x_goto T_372_65 ?_
    exact hgo σ hP
theorem m_assign (hP : PM σ0 P S σ) (hL : LN S l) (hp : 0 ≤ p ∧ p < 8) (hv : 0 ≤ v ∧ v ≤ 25) (hw : w < 0 ∨ (0 ≤ w ∧ w < ((lnW l).length : Int) ∧ lnB l w = wd)) (hwd : w < 0 → wd = []) (h20 : wd.length ≤ 20) : CL fb (d + 1) 372 [vR (some 2281), vI p, vI v, vI w] σ (rV σ0 (gVar P p v wd) S) := by
  obtain ⟨n, hn⟩ : ∃ n : Int, (wd.length : Int) = n := ⟨_, rfl⟩
  have hgo := fun (σ : hM) (hP : PM σ0 (rU P 2362 (26 * p + v) n) S σ) => m_assign_loop (fb := fb) (d := d) (n := n) hL hp hv hw hwd hn (by omega) n.toNat 0 σ (by omega) (by decide) (by rw [show (0 : Int).toNat = 0 from rfl, List.take_zero, rW_nil]; exact hP)
  by_cases q : w < 0
  · have h0 := hwd q
    rw [h0] at hn
    have hn : ((0 : Nat) : Int) = n := hn
    have hn0 : n = 0 := by omega
    subst hn0
    refine CL_in mL_372 rfl ?_
    show WP fb _ 372 0 [some (vR (some 2281)), some (vI p), some (vI v), some (vI w), none, none] [] σ _
    refine x_li (z := w) T_372_0 rfl ?_
    refine x_if T_372_1 (fun h => absurd (show 0 ≤ w from h) (by omega)) (fun _ => ?_)
    refine x_ic T_372_4 ?_
    refine x_goto T_372_5 ?_
    refine x_si (ls1 := [some (vR (some 2281)), some (vI p), some (vI v), some (vI w), some (vI 0), none]) T_372_13 rfl ?_
    refine x_lr (z := some 2281) T_372_15 rfl ?_
    refine x_gR (z := some 2362) T_372_16 F_17_101 (PM.t hP) (PM.r hP 101 2362 rfl) ?_
    refine x_ic T_372_19 ?_
    refine x_li (z := p) T_372_21 rfl ?_
    refine x_ib (w := (26 * p)) T_372_22 (fun h => absurd h.1 (by decide)) (w32_id (by omega) (by omega)) ?_
    refine x_li (z := v) T_372_23 rfl ?_
    refine x_ib (w := ((26 * p) + v)) T_372_24 (fun h => absurd h.1 (by decide)) (w32_id (by omega) (by omega)) ?_
    refine x_li (z := 0) T_372_25 rfl ?_
    refine y_aIP hP T_372_27 2362 208 rfl rfl rfl (by omega) (by omega) (fun σ hP => ?_)
    refine x_ic T_372_28 ?_
    refine x_si (ls1 := [some (vR (some 2281)), some (vI p), some (vI v), some (vI w), some (vI 0), some (vI 0)]) T_372_29 rfl ?_
    exact hgo σ hP
  · have q2 : 0 ≤ w ∧ w < ((lnW l).length : Int) ∧ lnB l w = wd := hw.resolve_left q
    have hsz := CL_val (m_size (fb := fb) (d := d) (w := w) hP hL ⟨q2.1, q2.2.1⟩) (show ((lnB l w).length : Int) = n by rw [q2.2.2]; exact hn)
    refine CL_in mL_372 rfl ?_
    show WP fb _ 372 0 [some (vR (some 2281)), some (vI p), some (vI v), some (vI w), none, none] [] σ _
    refine x_li (z := w) T_372_0 rfl ?_
    refine x_if T_372_1 (fun _ => ?_) (fun h => absurd (show 0 ≤ w by omega) h)
    refine x_lr (z := some 2281) T_372_8 rfl ?_
    refine x_li (z := w) T_372_9 rfl ?_
    refine x_cv2 T_372_10 mN_318 mL_318 (Nat.le_of_ble_eq_true rfl) mO_318 (PM.t hP) (Nat.le_of_ble_eq_true rfl) (hsz) ?_
    rintro _ σ ⟨rfl, rfl⟩
    refine cI ?_
    refine x_si (ls1 := [some (vR (some 2281)), some (vI p), some (vI v), some (vI w), some (vI n), none]) T_372_13 rfl ?_
    refine x_lr (z := some 2281) T_372_15 rfl ?_
    refine x_gR (z := some 2362) T_372_16 F_17_101 (PM.t hP) (PM.r hP 101 2362 rfl) ?_
    refine x_ic T_372_19 ?_
    refine x_li (z := p) T_372_21 rfl ?_
    refine x_ib (w := (26 * p)) T_372_22 (fun h => absurd h.1 (by decide)) (w32_id (by omega) (by omega)) ?_
    refine x_li (z := v) T_372_23 rfl ?_
    refine x_ib (w := ((26 * p) + v)) T_372_24 (fun h => absurd h.1 (by decide)) (w32_id (by omega) (by omega)) ?_
    refine x_li (z := n) T_372_25 rfl ?_
    refine y_aIP hP T_372_27 2362 208 rfl rfl rfl (by omega) (by omega) (fun σ hP => ?_)
    refine x_ic T_372_28 ?_
    refine x_si (ls1 := [some (vR (some 2281)), some (vI p), some (vI v), some (vI w), some (vI n), some (vI 0)]) T_372_29 rfl ?_
    exact hgo σ hP
theorem m_set (hP : PM σ0 P S σ) (hK : KS T U P S l h) (hp : 0 ≤ p ∧ p < 8) (hw : 1 < ((lnW l).length : Int)) : CL fb (d + 2) 371 [vR (some 2281), vI p] σ (KC T U σ0 S l (cSet P p l).1 (cSet P p l).2 h) := by
  have hL := hK.2.2.2.2
  have h77 := hL.2.2.2.2.1
  have h100 := lnB_len hL.2.1 (w := 1) ⟨by decide, hw⟩
  have h50 := (lnW_ok hL.2.1).2
  obtain ⟨n, hn⟩ : ∃ n : Int, ((lnB l 1).length : Int) = n := ⟨_, rfl⟩
  have hsz := CL_val (m_size (fb := fb) (d := d + 1) (w := 1) hP hL ⟨by decide, hw⟩) hn
  have hb0 := lnB_b hL (w := 1) (k := 0) (by decide)
  obtain ⟨y, hy⟩ : ∃ y, lg (lnB l 1) 0 = y := ⟨_, rfl⟩
  rw [hy] at hb0
  have hsg := CL_val (m_sign (fb := fb) (d := d + 1) (w := 1) (k := 0) hP hL ⟨by decide, hw⟩ ⟨by decide, by omega⟩) hy
  have hs2 := fun h => m_size (fb := fb) (d := d + 1) (w := 2) hP hL h
  have has := fun v w wd => m_assign (fb := fb) (d := d) (v := v) (w := w) (wd := wd) hP hL hp
  unfold cSet
  obtain ⟨va, hva⟩ : ∃ va, vaN (lnB l 1) = va := ⟨_, rfl⟩
  rw [hva]
  have hv2 : va = if n = 1 then y - 97 else -1 := by
    rw [← hva]
    unfold vaN
    rw [hn, hy]
  obtain ⟨n2, hn2⟩ : ∃ n2 : Int, ((lnB l 2).length : Int) = n2 := ⟨_, rfl⟩
  rw [hn2] at hs2 ⊢
  have hK2 := fun (v : Int) (wd : List Int) (a1 : 0 ≤ v ∧ v ≤ 25) (a2 : byt wd) (a3 : wd.length ≤ 20) => hK.gvar (v := v) hp a1 a2 a3
  have hbt := lnB_bt hL (w := 2)
  have hrf : ((lnW l).length : Int) = 3 → 2 < ((lnW l).length : Int) := fun q => by omega
  obtain ⟨N, hN⟩ : ∃ N : Int, ((lnW l).length : Int) = N := ⟨_, rfl⟩
  rw [hN] at h77 hrf hw has hs2 ⊢
  by_cases q1 : ¬ (0 ≤ va ∧ va ≤ 25) ∨ (N = 3 ∧ 20 < n2)
  · rw [if_pos q1]
    dsimp only
    by_cases q2 : n = 1
    · rw [if_pos q2] at hv2
      by_cases q3 : 0 ≤ va ∧ va ≤ 25
      · have q4 := q1.resolve_left (fun c => c q3)
        have hs2 := hs2 ⟨by decide, by omega⟩
        refine CL_in mL_371 rfl ?_
        show WP fb _ 371 0 [some (vR (some 2281)), some (vI p), none] [] σ _
        refine x_lr (z := some 2281) T_371_0 rfl ?_
        refine x_ic T_371_1 ?_
        refine x_cv2 T_371_2 mN_318 mL_318 (Nat.le_of_ble_eq_true rfl) mO_318 (PM.t hP) (Nat.le_of_ble_eq_true rfl) (hsz) ?_
        rintro _ σ ⟨rfl, rfl⟩
        refine cI ?_
        refine x_ic T_371_5 ?_
        refine x_ic2 T_371_6 (fun h => absurd (show ¬ n = 1 from h) (by omega)) (fun _ => ?_)
        refine x_lr (z := some 2281) T_371_9 rfl ?_
        refine x_ic T_371_10 ?_
        refine x_ic T_371_11 ?_
        refine x_cv3 T_371_12 mN_319 mL_319 (Nat.le_of_ble_eq_true rfl) mO_319 (PM.t hP) (Nat.le_of_ble_eq_true rfl) (hsg) ?_
        rintro _ σ ⟨rfl, rfl⟩
        refine cI ?_
        refine x_ic T_371_15 ?_
        refine x_ib (w := va) T_371_17 (fun h => absurd h.1 (by decide)) (w32_e (by omega) (by omega) (by omega)) ?_
        refine x_goto T_371_18 ?_
        refine x_si (ls1 := [some (vR (some 2281)), some (vI p), some (vI va)]) T_371_22 rfl ?_
        refine x_li (z := va) T_371_23 rfl ?_
        refine x_i2l T_371_24 ?_
        refine x_lc T_371_25 ?_
        refine x_lc T_371_26 ?_
        refine x_cs3 T_371_29 mN_282 mL_282 (Nat.le_of_ble_eq_true rfl) mK_282 (Nat.le_of_ble_eq_true rfl) (m_in) ?_
        rintro _ σ ⟨rfl, rfl⟩
        refine cI ?_
        refine x_if T_371_32 (fun h => absurd (show (if 0 ≤ va ∧ va ≤ 25 then (1 : Int) else 0) = 0 from h) (by rw [if_pos (by omega)]; decide)) (fun _ => ?_)
        refine x_lr (z := some 2281) T_371_35 rfl ?_
        refine x_gI (z := N) T_371_36 (Or.inl F_17_77) (PM.t hP) (Eq.trans (PM.nS hP 2281 77 77 rfl rfl rfl) h77) ?_
        refine x_ic T_371_39 ?_
        refine x_ic2 T_371_40 (fun h => absurd (show ¬ N = 3 from h) (by omega)) (fun _ => ?_)
        refine x_lr (z := some 2281) T_371_43 rfl ?_
        refine x_ic T_371_44 ?_
        refine x_cv2 T_371_45 mN_318 mL_318 (Nat.le_of_ble_eq_true rfl) mO_318 (PM.t hP) (Nat.le_of_ble_eq_true rfl) (hs2) ?_
        rintro _ σ ⟨rfl, rfl⟩
        refine cI ?_
        refine x_ic T_371_48 ?_
        refine x_ic2 T_371_50 (fun h => absurd (show n2 ≤ 20 from h) (by omega)) (fun _ => ?_)
        refine x_ic T_371_53 ?_
        refine x_ri T_371_55 ?_
        exact ⟨S, rfl, hP, hK, SX_rfl⟩
      · skip
        refine CL_in mL_371 rfl ?_
        show WP fb _ 371 0 [some (vR (some 2281)), some (vI p), none] [] σ _
        refine x_lr (z := some 2281) T_371_0 rfl ?_
        refine x_ic T_371_1 ?_
        refine x_cv2 T_371_2 mN_318 mL_318 (Nat.le_of_ble_eq_true rfl) mO_318 (PM.t hP) (Nat.le_of_ble_eq_true rfl) (hsz) ?_
        rintro _ σ ⟨rfl, rfl⟩
        refine cI ?_
        refine x_ic T_371_5 ?_
        refine x_ic2 T_371_6 (fun h => absurd (show ¬ n = 1 from h) (by omega)) (fun _ => ?_)
        refine x_lr (z := some 2281) T_371_9 rfl ?_
        refine x_ic T_371_10 ?_
        refine x_ic T_371_11 ?_
        refine x_cv3 T_371_12 mN_319 mL_319 (Nat.le_of_ble_eq_true rfl) mO_319 (PM.t hP) (Nat.le_of_ble_eq_true rfl) (hsg) ?_
        rintro _ σ ⟨rfl, rfl⟩
        refine cI ?_
        refine x_ic T_371_15 ?_
        refine x_ib (w := va) T_371_17 (fun h => absurd h.1 (by decide)) (w32_e (by omega) (by omega) (by omega)) ?_
        refine x_goto T_371_18 ?_
        refine x_si (ls1 := [some (vR (some 2281)), some (vI p), some (vI va)]) T_371_22 rfl ?_
        refine x_li (z := va) T_371_23 rfl ?_
        refine x_i2l T_371_24 ?_
        refine x_lc T_371_25 ?_
        refine x_lc T_371_26 ?_
        refine x_cs3 T_371_29 mN_282 mL_282 (Nat.le_of_ble_eq_true rfl) mK_282 (Nat.le_of_ble_eq_true rfl) (m_in) ?_
        rintro _ σ ⟨rfl, rfl⟩
        refine cI ?_
        refine x_if T_371_32 (fun _ => ?_) (fun h => absurd (show (if 0 ≤ va ∧ va ≤ 25 then (1 : Int) else 0) = 0 by rw [if_neg (by omega)]) h)
        refine x_ic T_371_53 ?_
        refine x_ri T_371_55 ?_
        exact ⟨S, rfl, hP, hK, SX_rfl⟩
    · skip
      refine CL_in mL_371 rfl ?_
      show WP fb _ 371 0 [some (vR (some 2281)), some (vI p), none] [] σ _
      refine x_lr (z := some 2281) T_371_0 rfl ?_
      refine x_ic T_371_1 ?_
      refine x_cv2 T_371_2 mN_318 mL_318 (Nat.le_of_ble_eq_true rfl) mO_318 (PM.t hP) (Nat.le_of_ble_eq_true rfl) (hsz) ?_
      rintro _ σ ⟨rfl, rfl⟩
      refine cI ?_
      refine x_ic T_371_5 ?_
      refine x_ic2 T_371_6 (fun _ => ?_) (fun h => absurd (show ¬ n = 1 by omega) h)
      refine x_ic T_371_21 ?_
      refine x_si (ls1 := [some (vR (some 2281)), some (vI p), some (vI (-1))]) T_371_22 rfl ?_
      refine x_li (z := (-1)) T_371_23 rfl ?_
      refine x_i2l T_371_24 ?_
      refine x_lc T_371_25 ?_
      refine x_lc T_371_26 ?_
      refine x_cs3 T_371_29 mN_282 mL_282 (Nat.le_of_ble_eq_true rfl) mK_282 (Nat.le_of_ble_eq_true rfl) (m_in) ?_
      rintro _ σ ⟨rfl, rfl⟩
      refine cI ?_
      refine x_if T_371_32 (fun _ => ?_) (fun h => absurd (show (if 0 ≤ (-1) ∧ (-1) ≤ 25 then (1 : Int) else 0) = 0 by rw [if_neg (by decide)]) h)
      refine x_ic T_371_53 ?_
      refine x_ri T_371_55 ?_
      exact ⟨S, rfl, hP, hK, SX_rfl⟩
  · rw [if_neg q1]
    dsimp only
    have q2 : n = 1 := by
      by_cases q2 : n = 1
      · exact q2
      · rw [if_neg q2] at hv2
        omega
    rw [if_pos q2] at hv2
    by_cases q3 : N = 3
    · rw [if_pos q3]
      have has := has va 2 (lnB l 2) ⟨by omega, by omega⟩ (Or.inr ⟨by decide, by omega, rfl⟩) (fun q => absurd q (by decide)) (by omega)
      have hs2 := hs2 ⟨by decide, by omega⟩
      have hK3 := hK2 va (lnB l 2) ⟨by omega, by omega⟩ hbt (by omega)
      refine CL_in mL_371 rfl ?_
      show WP fb _ 371 0 [some (vR (some 2281)), some (vI p), none] [] σ _
      refine x_lr (z := some 2281) T_371_0 rfl ?_
      refine x_ic T_371_1 ?_
      refine x_cv2 T_371_2 mN_318 mL_318 (Nat.le_of_ble_eq_true rfl) mO_318 (PM.t hP) (Nat.le_of_ble_eq_true rfl) (hsz) ?_
      rintro _ σ ⟨rfl, rfl⟩
      refine cI ?_
      refine x_ic T_371_5 ?_
      refine x_ic2 T_371_6 (fun h => absurd (show ¬ n = 1 from h) (by omega)) (fun _ => ?_)
      refine x_lr (z := some 2281) T_371_9 rfl ?_
      refine x_ic T_371_10 ?_
      refine x_ic T_371_11 ?_
      refine x_cv3 T_371_12 mN_319 mL_319 (Nat.le_of_ble_eq_true rfl) mO_319 (PM.t hP) (Nat.le_of_ble_eq_true rfl) (hsg) ?_
      rintro _ σ ⟨rfl, rfl⟩
      refine cI ?_
      refine x_ic T_371_15 ?_
      refine x_ib (w := va) T_371_17 (fun h => absurd h.1 (by decide)) (w32_e (by omega) (by omega) (by omega)) ?_
      refine x_goto T_371_18 ?_
      refine x_si (ls1 := [some (vR (some 2281)), some (vI p), some (vI va)]) T_371_22 rfl ?_
      refine x_li (z := va) T_371_23 rfl ?_
      refine x_i2l T_371_24 ?_
      refine x_lc T_371_25 ?_
      refine x_lc T_371_26 ?_
      refine x_cs3 T_371_29 mN_282 mL_282 (Nat.le_of_ble_eq_true rfl) mK_282 (Nat.le_of_ble_eq_true rfl) (m_in) ?_
      rintro _ σ ⟨rfl, rfl⟩
      refine cI ?_
      refine x_if T_371_32 (fun h => absurd (show (if 0 ≤ va ∧ va ≤ 25 then (1 : Int) else 0) = 0 from h) (by rw [if_pos (by omega)]; decide)) (fun _ => ?_)
      refine x_lr (z := some 2281) T_371_35 rfl ?_
      refine x_gI (z := N) T_371_36 (Or.inl F_17_77) (PM.t hP) (Eq.trans (PM.nS hP 2281 77 77 rfl rfl rfl) h77) ?_
      refine x_ic T_371_39 ?_
      refine x_ic2 T_371_40 (fun h => absurd (show ¬ N = 3 from h) (by omega)) (fun _ => ?_)
      refine x_lr (z := some 2281) T_371_43 rfl ?_
      refine x_ic T_371_44 ?_
      refine x_cv2 T_371_45 mN_318 mL_318 (Nat.le_of_ble_eq_true rfl) mO_318 (PM.t hP) (Nat.le_of_ble_eq_true rfl) (hs2) ?_
      rintro _ σ ⟨rfl, rfl⟩
      refine cI ?_
      refine x_ic T_371_48 ?_
      refine x_ic2 T_371_50 (fun _ => ?_) (fun h => absurd (show n2 ≤ 20 by omega) h)
      refine x_lr (z := some 2281) T_371_56 rfl ?_
      refine x_li (z := p) T_371_57 rfl ?_
      refine x_li (z := va) T_371_58 rfl ?_
      refine x_lr (z := some 2281) T_371_59 rfl ?_
      refine x_gI (z := N) T_371_60 (Or.inl F_17_77) (PM.t hP) (Eq.trans (PM.nS hP 2281 77 77 rfl rfl rfl) h77) ?_
      refine x_ic T_371_63 ?_
      refine x_ic2 T_371_64 (fun h => absurd (show ¬ N = 3 from h) (by omega)) (fun _ => ?_)
      refine x_ic T_371_67 ?_
      refine x_goto T_371_68 ?_
      refine x_cv4 T_371_72 mN_372 mL_372 (Nat.le_of_ble_eq_true rfl) mO_372 (PM.t hP) (Nat.le_of_ble_eq_true rfl) (has) ?_
      clear hP has
      rintro _ σ ⟨rfl, hP⟩
      refine cV ?_
      refine x_ic T_371_75 ?_
      refine x_ri T_371_76 ?_
      exact ⟨S, rfl, hP, hK3, SX_rfl⟩
    · rw [if_neg q3]
      have has := has va (-1) [] ⟨by omega, by omega⟩ (Or.inl (by decide)) (fun _ => rfl) (by decide)
      have hK3 := hK2 va [] ⟨by omega, by omega⟩ byt_nil (by decide)
      refine CL_in mL_371 rfl ?_
      show WP fb _ 371 0 [some (vR (some 2281)), some (vI p), none] [] σ _
      refine x_lr (z := some 2281) T_371_0 rfl ?_
      refine x_ic T_371_1 ?_
      refine x_cv2 T_371_2 mN_318 mL_318 (Nat.le_of_ble_eq_true rfl) mO_318 (PM.t hP) (Nat.le_of_ble_eq_true rfl) (hsz) ?_
      rintro _ σ ⟨rfl, rfl⟩
      refine cI ?_
      refine x_ic T_371_5 ?_
      refine x_ic2 T_371_6 (fun h => absurd (show ¬ n = 1 from h) (by omega)) (fun _ => ?_)
      refine x_lr (z := some 2281) T_371_9 rfl ?_
      refine x_ic T_371_10 ?_
      refine x_ic T_371_11 ?_
      refine x_cv3 T_371_12 mN_319 mL_319 (Nat.le_of_ble_eq_true rfl) mO_319 (PM.t hP) (Nat.le_of_ble_eq_true rfl) (hsg) ?_
      rintro _ σ ⟨rfl, rfl⟩
      refine cI ?_
      refine x_ic T_371_15 ?_
      refine x_ib (w := va) T_371_17 (fun h => absurd h.1 (by decide)) (w32_e (by omega) (by omega) (by omega)) ?_
      refine x_goto T_371_18 ?_
      refine x_si (ls1 := [some (vR (some 2281)), some (vI p), some (vI va)]) T_371_22 rfl ?_
      refine x_li (z := va) T_371_23 rfl ?_
      refine x_i2l T_371_24 ?_
      refine x_lc T_371_25 ?_
      refine x_lc T_371_26 ?_
      refine x_cs3 T_371_29 mN_282 mL_282 (Nat.le_of_ble_eq_true rfl) mK_282 (Nat.le_of_ble_eq_true rfl) (m_in) ?_
      rintro _ σ ⟨rfl, rfl⟩
      refine cI ?_
      refine x_if T_371_32 (fun h => absurd (show (if 0 ≤ va ∧ va ≤ 25 then (1 : Int) else 0) = 0 from h) (by rw [if_pos (by omega)]; decide)) (fun _ => ?_)
      refine x_lr (z := some 2281) T_371_35 rfl ?_
      refine x_gI (z := N) T_371_36 (Or.inl F_17_77) (PM.t hP) (Eq.trans (PM.nS hP 2281 77 77 rfl rfl rfl) h77) ?_
      refine x_ic T_371_39 ?_
      refine x_ic2 T_371_40 (fun _ => ?_) (fun h => absurd (show ¬ N = 3 by omega) h)
      refine x_lr (z := some 2281) T_371_56 rfl ?_
      refine x_li (z := p) T_371_57 rfl ?_
      refine x_li (z := va) T_371_58 rfl ?_
      refine x_lr (z := some 2281) T_371_59 rfl ?_
      refine x_gI (z := N) T_371_60 (Or.inl F_17_77) (PM.t hP) (Eq.trans (PM.nS hP 2281 77 77 rfl rfl rfl) h77) ?_
      refine x_ic T_371_63 ?_
      refine x_ic2 T_371_64 (fun _ => ?_) (fun h => absurd (show ¬ N = 3 by omega) h)
      refine x_ic T_371_71 ?_
      refine x_cv4 T_371_72 mN_372 mL_372 (Nat.le_of_ble_eq_true rfl) mO_372 (PM.t hP) (Nat.le_of_ble_eq_true rfl) (has) ?_
      clear hP has
      rintro _ σ ⟨rfl, hP⟩
      refine cV ?_
      refine x_ic T_371_75 ?_
      refine x_ri T_371_76 ?_
      exact ⟨S, rfl, hP, hK3, SX_rfl⟩
end MSET2
