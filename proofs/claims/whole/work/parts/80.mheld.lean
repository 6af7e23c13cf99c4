/-! Channels that are held: the kernel's copies, steps and drops. -/
theorem T_336_0 : hTab 336 0 = some ((3, 0, 2, []), 1) := rfl
theorem T_336_1 : hTab 336 1 = some ((24, 17, Int.ofNat 86, []), 4) := rfl
theorem T_336_4 : hTab 336 4 = some ((3, 0, 2, []), 5) := rfl
theorem T_336_5 : hTab 336 5 = some ((24, 17, Int.ofNat 91, []), 8) := rfl
theorem T_336_8 : hTab 336 8 = some ((3, 1, 0, []), 9) := rfl
theorem T_336_9 : hTab 336 9 = some ((27, 0, 0, []), 10) := rfl
theorem T_336_10 : hTab 336 10 = some ((3, 0, 2, []), 11) := rfl
theorem T_336_11 : hTab 336 11 = some ((24, 17, Int.ofNat 87, []), 14) := rfl
theorem T_336_14 : hTab 336 14 = some ((3, 0, 2, []), 15) := rfl
theorem T_336_15 : hTab 336 15 = some ((24, 17, Int.ofNat 91, []), 18) := rfl
theorem T_336_18 : hTab 336 18 = some ((3, 2, 0, []), 19) := rfl
theorem T_336_19 : hTab 336 19 = some ((27, 0, 0, []), 20) := rfl
theorem T_336_20 : hTab 336 20 = some ((3, 0, 2, []), 21) := rfl
theorem T_336_21 : hTab 336 21 = some ((24, 17, Int.ofNat 88, []), 24) := rfl
theorem T_336_24 : hTab 336 24 = some ((3, 0, 2, []), 25) := rfl
theorem T_336_25 : hTab 336 25 = some ((24, 17, Int.ofNat 91, []), 28) := rfl
theorem T_336_28 : hTab 336 28 = some ((3, 3, 0, []), 29) := rfl
theorem T_336_29 : hTab 336 29 = some ((27, 0, 0, []), 30) := rfl
theorem T_336_30 : hTab 336 30 = some ((3, 0, 2, []), 31) := rfl
theorem T_336_31 : hTab 336 31 = some ((24, 17, Int.ofNat 89, []), 34) := rfl
theorem T_336_34 : hTab 336 34 = some ((3, 0, 2, []), 35) := rfl
theorem T_336_35 : hTab 336 35 = some ((24, 17, Int.ofNat 91, []), 38) := rfl
theorem T_336_38 : hTab 336 38 = some ((3, 4, 0, []), 40) := rfl
theorem T_336_40 : hTab 336 40 = some ((27, 0, 0, []), 41) := rfl
theorem T_336_41 : hTab 336 41 = some ((3, 0, 2, []), 42) := rfl
theorem T_336_42 : hTab 336 42 = some ((24, 17, Int.ofNat 90, []), 45) := rfl
theorem T_336_45 : hTab 336 45 = some ((3, 0, 2, []), 46) := rfl
theorem T_336_46 : hTab 336 46 = some ((24, 17, Int.ofNat 91, []), 49) := rfl
theorem T_336_49 : hTab 336 49 = some ((0, 0, (-1), []), 50) := rfl
theorem T_336_50 : hTab 336 50 = some ((27, 0, 0, []), 51) := rfl
theorem T_336_51 : hTab 336 51 = some ((3, 0, 2, []), 52) := rfl
theorem T_336_52 : hTab 336 52 = some ((6, 0, 0, []), 53) := rfl
theorem T_336_53 : hTab 336 53 = some ((24, 17, Int.ofNat 91, []), 56) := rfl
theorem T_336_56 : hTab 336 56 = some ((0, 0, 1, []), 57) := rfl
theorem T_336_57 : hTab 336 57 = some ((10, 0, 0, []), 58) := rfl
theorem T_336_58 : hTab 336 58 = some ((25, 17, Int.ofNat 91, []), 61) := rfl
theorem T_336_61 : hTab 336 61 = some ((33, 0, 0, []), 62) := rfl
theorem T_342_0 : hTab 342 0 = some ((3, 0, 2, []), 1) := rfl
theorem T_342_1 : hTab 342 1 = some ((0, 0, 110, []), 3) := rfl
theorem T_342_3 : hTab 342 3 = some ((0, 0, 1, []), 4) := rfl
theorem T_342_4 : hTab 342 4 = some ((31, 228, 0, []), 7) := rfl
theorem T_342_7 : hTab 342 7 = some ((3, 0, 2, []), 8) := rfl
theorem T_342_8 : hTab 342 8 = some ((0, 0, 4, []), 9) := rfl
theorem T_342_9 : hTab 342 9 = some ((3, 2, 0, []), 10) := rfl
theorem T_342_10 : hTab 342 10 = some ((14, 0, 0, []), 11) := rfl
theorem T_342_11 : hTab 342 11 = some ((31, 229, 0, []), 14) := rfl
theorem T_342_14 : hTab 342 14 = some ((3, 0, 2, []), 15) := rfl
theorem T_342_15 : hTab 342 15 = some ((0, 0, 4, []), 16) := rfl
theorem T_342_16 : hTab 342 16 = some ((3, 3, 0, []), 17) := rfl
theorem T_342_17 : hTab 342 17 = some ((14, 0, 0, []), 18) := rfl
theorem T_342_18 : hTab 342 18 = some ((31, 229, 0, []), 21) := rfl
theorem T_342_21 : hTab 342 21 = some ((3, 0, 2, []), 22) := rfl
theorem T_342_22 : hTab 342 22 = some ((0, 0, 2, []), 23) := rfl
theorem T_342_23 : hTab 342 23 = some ((1, 0, 1, []), 24) := rfl
theorem T_342_24 : hTab 342 24 = some ((31, 229, 0, []), 27) := rfl
theorem T_342_27 : hTab 342 27 = some ((3, 0, 2, []), 28) := rfl
theorem T_342_28 : hTab 342 28 = some ((3, 0, 2, []), 29) := rfl
theorem T_342_29 : hTab 342 29 = some ((24, 17, Int.ofNat 81, []), 32) := rfl
theorem T_342_32 : hTab 342 32 = some ((3, 4, 0, []), 34) := rfl
theorem T_342_34 : hTab 342 34 = some ((26, 0, 0, []), 35) := rfl
theorem T_342_35 : hTab 342 35 = some ((3, 0, 2, []), 36) := rfl
theorem T_342_36 : hTab 342 36 = some ((24, 17, Int.ofNat 82, []), 39) := rfl
theorem T_342_39 : hTab 342 39 = some ((3, 4, 0, []), 41) := rfl
theorem T_342_41 : hTab 342 41 = some ((26, 0, 0, []), 42) := rfl
theorem T_342_42 : hTab 342 42 = some ((31, 343, 0, []), 45) := rfl
theorem T_342_45 : hTab 342 45 = some ((3, 0, 2, []), 46) := rfl
theorem T_342_46 : hTab 342 46 = some ((3, 1, 0, []), 47) := rfl
theorem T_342_47 : hTab 342 47 = some ((31, 231, 0, []), 50) := rfl
theorem T_342_50 : hTab 342 50 = some ((33, 1, 0, []), 51) := rfl
theorem T_343_0 : hTab 343 0 = some ((3, 0, 2, []), 1) := rfl
theorem T_343_1 : hTab 343 1 = some ((0, 0, 2, []), 2) := rfl
theorem T_343_2 : hTab 343 2 = some ((3, 2, 0, []), 3) := rfl
theorem T_343_3 : hTab 343 3 = some ((3, 1, 0, []), 4) := rfl
theorem T_343_4 : hTab 343 4 = some ((10, 1, 0, []), 5) := rfl
theorem T_343_5 : hTab 343 5 = some ((14, 0, 0, []), 6) := rfl
theorem T_343_6 : hTab 343 6 = some ((31, 229, 0, []), 9) := rfl
theorem T_343_9 : hTab 343 9 = some ((3, 1, 0, []), 10) := rfl
theorem T_343_10 : hTab 343 10 = some ((4, 3, 0, []), 11) := rfl
theorem F_17_81 : (hFd 17 81).2.2.1 = 4 := rfl
theorem F_17_82 : (hFd 17 82).2.2.1 = 4 := rfl
theorem F_17_86 : (hFd 17 86).2.2.1 = 4 := rfl
theorem F_17_87 : (hFd 17 87).2.2.1 = 4 := rfl
theorem F_17_88 : (hFd 17 88).2.2.1 = 4 := rfl
theorem F_17_89 : (hFd 17 89).2.2.1 = 4 := rfl
theorem F_17_90 : (hFd 17 90).2.2.1 = 4 := rfl
theorem F_17_91 : (hFd 17 91).2.2.1 = 0 := rfl
theorem mN_336 : hmN 336 = 5 := by decide +kernel
theorem mL_336 : hmL 336 = 5 := by decide +kernel
theorem mK_336 : hmK 336 = 1 := by decide +kernel
theorem mO_336 : hmO 336 = 17 := by decide +kernel
theorem mN_342 : hmN 342 = 5 := by decide +kernel
theorem mL_342 : hmL 342 = 5 := by decide +kernel
theorem mK_342 : hmK 342 = 1 := by decide +kernel
theorem mO_342 : hmO 342 = 17 := by decide +kernel
abbrev Ch : Type := Int × Int × Int × Int × Int
def c0 : Ch := (0, 0, 0, 0, -1)
/-- scratch that is kept, but for messages and for what is held -/
def SK (S S1 : qR) : Prop := (∀ k : Int, k ≠ 4 → k ≠ 6 → k ≠ 7 → k ≠ 8 → k ≠ 9 → k ≠ 12 → k ≠ 91 → k ≠ 92 → S1 2281 k = S 2281 k) ∧ ∀ (f : Nat) (k : Int), scrR f = true → f ≠ 2285 → f ≠ 2286 → f ≠ 2287 → f ≠ 2288 → f ≠ 2350 → f ≠ 2351 → f ≠ 2352 → f ≠ 2353 → f ≠ 2354 → S1 f k = S f k
/-- what is held -/
def HS (S : qR) (l : List Ch) : Prop := S 2281 91 = (l.length : Int) ∧ l.length ≤ 60 ∧ ∀ i : Nat, i < l.length → S 2350 (i : Int) = (l.getD i c0).1 ∧ S 2351 (i : Int) = (l.getD i c0).2.1 ∧ S 2352 (i : Int) = (l.getD i c0).2.2.1 ∧ S 2353 (i : Int) = (l.getD i c0).2.2.2.1 ∧ S 2354 (i : Int) = (l.getD i c0).2.2.2.2
section MHELD
variable {fb : Bool} {d : Nat} {σ0 σ : hM} {P Q S S1 S2 : qR} {T U s w f g u p k : Int} {l R nm : List Int} {h : List Ch} {x y : Ch}
theorem w32_e {v z : Int} (e : v = z) (h1 : -2147483648 ≤ z) (h2 : z ≤ 2147483647) : w32 v = z := by
  rw [e]
  exact w32_id h1 h2
theorem SK_rfl : SK S S := ⟨fun _ _ _ _ _ _ _ _ _ => rfl, fun _ _ _ _ _ _ _ _ _ _ _ _ => rfl⟩
theorem SK_tr (h1 : SK S S1) (h2 : SK S1 S2) : SK S S2 := ⟨fun k a b c e f g i j => (h2.1 k a b c e f g i j).trans (h1.1 k a b c e f g i j), fun f k a b c e g h i j m n => (h2.2 f k a b c e g h i j m n).trans (h1.2 f k a b c e g h i j m n)⟩
theorem KA.sk (h : KA S S1) : SK S S1 := ⟨fun k a b c e f g _ j => h.1 k a b c e f g j, fun f k a b c e g _ _ _ _ _ => h.2 f k a b c e g⟩
theorem KA.hs (hk : KA S S1) (hh : HS S h) : HS S1 h := by
  refine ⟨(hk.1 91 (by decide) (by decide) (by decide) (by decide) (by decide) (by decide) (by decide)).trans hh.1, hh.2.1, fun i hi => ?_⟩
  rw [hk.2 _ _ rfl (by decide) (by decide) (by decide) (by decide), hk.2 _ _ rfl (by decide) (by decide) (by decide) (by decide), hk.2 _ _ rfl (by decide) (by decide) (by decide) (by decide), hk.2 _ _ rfl (by decide) (by decide) (by decide) (by decide), hk.2 _ _ rfl (by decide) (by decide) (by decide) (by decide)]
  exact hh.2.2 i hi
theorem getD_app1 {i : Nat} (hi : i < h.length) : (h ++ [x]).getD i c0 = h.getD i c0 := by
  rw [List.getD_eq_getElem?_getD, List.getD_eq_getElem?_getD, List.getElem?_append_left hi]
theorem getD_app2 : (h ++ [x]).getD h.length c0 = x := by
  rw [List.getD_eq_getElem?_getD, List.getElem?_append_right (Nat.le_refl _), Nat.sub_self]
  rfl
/-- one more is held -/
def rHo (S : qR) (n : Int) (x : Ch) : qR := rU (rU (rU (rU (rU (rU S 2350 n x.1) 2351 n x.2.1) 2352 n x.2.2.1) 2353 n x.2.2.2.1) 2354 n x.2.2.2.2) 2281 91 (n + 1)
theorem rHo_sk {n : Int} : SK S (rHo S n x) := by
  refine ⟨fun k _ _ _ _ _ _ a _ => ?_, fun f k h0 _ _ _ _ a b c e g => ?_⟩
  · unfold rHo
    rw [rU_k a, rU_f (by decide), rU_f (by decide), rU_f (by decide), rU_f (by decide), rU_f (by decide)]
  · unfold rHo
    rw [rU_f (fun q => by rw [q] at h0; exact absurd h0 (by decide)), rU_f g, rU_f e, rU_f c, rU_f b, rU_f a]
theorem rHo_hs2 (hh : ∀ i : Nat, i < h.length → S 2350 (i : Int) = (h.getD i c0).1 ∧ S 2351 (i : Int) = (h.getD i c0).2.1 ∧ S 2352 (i : Int) = (h.getD i c0).2.2.1 ∧ S 2353 (i : Int) = (h.getD i c0).2.2.2.1 ∧ S 2354 (i : Int) = (h.getD i c0).2.2.2.2) (hl : h.length < 60) : HS (rHo S (h.length : Int) x) (h ++ [x]) := by
  unfold rHo
  refine ⟨by rw [rU_s, List.length_append]; rfl, by rw [List.length_append]; exact hl, fun i hi => ?_⟩
  rw [List.length_append] at hi
  have hi : i < h.length + 1 := hi
  by_cases e : i = h.length
  · subst e
    rw [getD_app2]
    refine ⟨?_, ?_, ?_, ?_, ?_⟩
    · rw [rU_f (by decide), rU_f (by decide), rU_f (by decide), rU_f (by decide), rU_f (by decide), rU_s]
    · rw [rU_f (by decide), rU_f (by decide), rU_f (by decide), rU_f (by decide), rU_s]
    · rw [rU_f (by decide), rU_f (by decide), rU_f (by decide), rU_s]
    · rw [rU_f (by decide), rU_f (by decide), rU_s]
    · rw [rU_f (by decide), rU_s]
  · have g := hh i (by omega)
    have e2 : ¬ (i : Int) = (h.length : Int) := by omega
    rw [getD_app1 (by omega)]
    have r : ∀ (W : qR) (f f1 : Nat) (v : Int), rU W f1 (h.length : Int) v f (i : Int) = W f i := fun W f f1 v => if_neg (fun q => e2 q.2)
    refine ⟨?_, ?_, ?_, ?_, ?_⟩
    · rw [rU_f (by decide), r, r, r, r, r]; exact g.1
    · rw [rU_f (by decide), r, r, r, r, r]; exact g.2.1
    · rw [rU_f (by decide), r, r, r, r, r]; exact g.2.2.1
    · rw [rU_f (by decide), r, r, r, r, r]; exact g.2.2.2.1
    · rw [rU_f (by decide), r, r, r, r, r]; exact g.2.2.2.2
theorem rHo_hs (hh : HS S h) (hl : h.length < 60) : HS (rHo S (h.length : Int) x) (h ++ [x]) := rHo_hs2 hh.2.2 hl
theorem rHo_iv {n : Int} (hJ : IV true T U S) (hn : 0 ≤ n ∧ n < 64) (h1 : 0 ≤ x.1 ∧ x.1 ≤ 2) (h2 : 0 ≤ x.2.1 ∧ x.2.1 ≤ 47) (h3 : 0 ≤ x.2.2.1 ∧ x.2.2.1 ≤ T + 200) (h4 : 0 ≤ x.2.2.2.1 ∧ x.2.2.2.1 ≤ 255) (h5 : -1 ≤ x.2.2.2.2 ∧ x.2.2.2.2 ≤ 63) : IV true T U (rHo S n x) := (((((hJ.uA 2350 rfl h1).uA 2351 rfl h2).uA 2352 rfl h3).uA 2353 rfl h4).uA 2354 rfl h5).uN 91 91 rfl (by show 0 ≤ n + 1 ∧ n + 1 ≤ 64; omega)
/-- fewer are held -/
theorem HS.less {j : Nat} (hh : HS S h) (hj : j ≤ h.length) : HS (rU S 2281 91 (j : Int)) (h.take j) := by
  refine ⟨by rw [rU_s, List.length_take, Nat.min_eq_left hj], by rw [List.length_take]; have := hh.2.1; omega, fun i hi => ?_⟩
  rw [List.length_take] at hi
  rw [rU_f (by decide), rU_f (by decide), rU_f (by decide), rU_f (by decide), rU_f (by decide), List.getD_eq_getElem?_getD, List.getElem?_take_of_lt (by omega), ← List.getD_eq_getElem?_getD]
  exact hh.2.2 i (by omega)
theorem SK_held {v : Int} (hk : SK S S1) : SK S (rU S1 2281 91 v) := ⟨fun k a b c e f g i j => (rU_k i).trans (hk.1 k a b c e f g i j), fun f k a b c e g h i j m n => (rU_f (fun q => by rw [q] at a; exact absurd a (by decide))).trans (hk.2 f k a b c e g h i j m n)⟩
theorem HS.get (hh : HS S h) {i : Nat} {z : Int} (hz : (i : Int) = z) (hi : h[i]? = some x) : S 2350 z = x.1 ∧ S 2351 z = x.2.1 ∧ S 2352 z = x.2.2.1 ∧ S 2353 z = x.2.2.2.1 ∧ S 2354 z = x.2.2.2.2 := by
  subst hz
  have hl : i < h.length := by
    rcases Nat.lt_or_ge i h.length with q | q
    · exact q
    · rw [List.getElem?_eq_none q] at hi
      cases hi
  have g := hh.2.2 i hl
  rw [List.getD_eq_getElem?_getD, hi] at g
  exact g
theorem HS.last (hh : HS S (h ++ [x])) : S 2281 91 = (h.length : Int) + 1 ∧ h.length < 60 ∧ S 2350 (h.length : Int) = x.1 ∧ S 2351 (h.length : Int) = x.2.1 ∧ S 2352 (h.length : Int) = x.2.2.1 ∧ S 2353 (h.length : Int) = x.2.2.2.1 ∧ S 2354 (h.length : Int) = x.2.2.2.2 := by
  have h1 := hh.1
  have h2 := hh.2.1
  rw [List.length_append] at h1 h2
  have h1 : S 2281 91 = ((h.length + 1 : Nat) : Int) := h1
  have h2 : h.length + 1 ≤ 60 := h2
  have g := hh.2.2 h.length (by rw [List.length_append]; show h.length < h.length + 1; omega)
  rw [getD_app2] at g
  exact ⟨by omega, by omega, g⟩
/-- what a call of the kernel answers -/
abbrev KR (T U : Int) (σ0 : hM) (S : qR) (e : Int) (P1 : qR) (h : List Ch) : Option AV → hM → Prop := fun r σ' => ∃ S2 : qR, r = some (vI e) ∧ PM σ0 P1 S2 σ' ∧ GI T U P1 ∧ IV true T U S2 ∧ HS S2 h ∧ SK S S2
abbrev KV (T U : Int) (σ0 : hM) (S : qR) (P1 : qR) (h : List Ch) : Option AV → hM → Prop := fun r σ' => ∃ S2 : qR, r = none ∧ PM σ0 P1 S2 σ' ∧ GI T U P1 ∧ IV true T U S2 ∧ HS S2 h ∧ SK S S2
theorem rG_KR {r : Option AV} {σ1 : hM} (hh : HS S h) (hr : rG T U σ0 P S s l r σ1) : KR (T + 4) U σ0 S (tE P s l) (tP P s l) h r σ1 := by
  obtain ⟨S2, e, a1, a2, a3, a4, a5⟩ := hr
  exact ⟨S2, e, a1, a2, a3, a5.hs hh, a5.sk⟩
theorem m_hold {q : Int} (hP : PM σ0 P S σ) (hn : S 2281 91 = p) (hl : 0 ≤ p ∧ p < 60) : CL fb d 336 [vR (some 2281), vI s, vI f, vI g, vI q] σ (rV σ0 P (rHo S p (s, f, g, q, -1))) := by
  subst hn
  refine CL_in mL_336 rfl ?_
  show WP fb _ 336 0 [some (vR (some 2281)), some (vI s), some (vI f), some (vI g), some (vI q)] [] σ _
  refine x_lr (z := some 2281) T_336_0 rfl ?_
  refine x_gR (z := some 2350) T_336_1 F_17_86 (PM.t hP) (PM.r hP 86 2350 rfl) ?_
  refine x_lr (z := some 2281) T_336_4 rfl ?_
  refine x_gI (z := S 2281 91) T_336_5 (Or.inl F_17_91) (PM.t hP) (PM.nS hP 2281 91 91 rfl rfl rfl) ?_
  refine x_li (z := s) T_336_8 rfl ?_
  refine y_aIS hP T_336_9 2350 64 rfl rfl rfl (by omega) (by omega) (fun σ hP => ?_)
  refine x_lr (z := some 2281) T_336_10 rfl ?_
  refine x_gR (z := some 2351) T_336_11 F_17_87 (PM.t hP) (PM.r hP 87 2351 rfl) ?_
  refine x_lr (z := some 2281) T_336_14 rfl ?_
  refine x_gI (z := S 2281 91) T_336_15 (Or.inl F_17_91) (PM.t hP) (Eq.trans (PM.nS hP 2281 91 91 rfl rfl rfl) (rU_f (Nat.ne_of_beq_eq_false rfl))) ?_
  refine x_li (z := f) T_336_18 rfl ?_
  refine y_aIS hP T_336_19 2351 64 rfl rfl rfl (by omega) (by omega) (fun σ hP => ?_)
  refine x_lr (z := some 2281) T_336_20 rfl ?_
  refine x_gR (z := some 2352) T_336_21 F_17_88 (PM.t hP) (PM.r hP 88 2352 rfl) ?_
  refine x_lr (z := some 2281) T_336_24 rfl ?_
  refine x_gI (z := S 2281 91) T_336_25 (Or.inl F_17_91) (PM.t hP) (Eq.trans (PM.nS hP 2281 91 91 rfl rfl rfl) (Eq.trans (rU_f (Nat.ne_of_beq_eq_false rfl)) (rU_f (Nat.ne_of_beq_eq_false rfl)))) ?_
  refine x_li (z := g) T_336_28 rfl ?_
  refine y_aIS hP T_336_29 2352 64 rfl rfl rfl (by omega) (by omega) (fun σ hP => ?_)
  refine x_lr (z := some 2281) T_336_30 rfl ?_
  refine x_gR (z := some 2353) T_336_31 F_17_89 (PM.t hP) (PM.r hP 89 2353 rfl) ?_
  refine x_lr (z := some 2281) T_336_34 rfl ?_
  refine x_gI (z := S 2281 91) T_336_35 (Or.inl F_17_91) (PM.t hP) (Eq.trans (PM.nS hP 2281 91 91 rfl rfl rfl) (Eq.trans (rU_f (Nat.ne_of_beq_eq_false rfl)) (Eq.trans (rU_f (Nat.ne_of_beq_eq_false rfl)) (rU_f (Nat.ne_of_beq_eq_false rfl))))) ?_
  refine x_li (z := q) T_336_38 rfl ?_
  refine y_aIS hP T_336_40 2353 64 rfl rfl rfl (by omega) (by omega) (fun σ hP => ?_)
  refine x_lr (z := some 2281) T_336_41 rfl ?_
  refine x_gR (z := some 2354) T_336_42 F_17_90 (PM.t hP) (PM.r hP 90 2354 rfl) ?_
  refine x_lr (z := some 2281) T_336_45 rfl ?_
  refine x_gI (z := S 2281 91) T_336_46 (Or.inl F_17_91) (PM.t hP) (Eq.trans (PM.nS hP 2281 91 91 rfl rfl rfl) (Eq.trans (rU_f (Nat.ne_of_beq_eq_false rfl)) (Eq.trans (rU_f (Nat.ne_of_beq_eq_false rfl)) (Eq.trans (rU_f (Nat.ne_of_beq_eq_false rfl)) (rU_f (Nat.ne_of_beq_eq_false rfl)))))) ?_
  refine x_ic T_336_49 ?_
  refine y_aIS hP T_336_50 2354 64 rfl rfl rfl (by omega) (by omega) (fun σ hP => ?_)
  refine x_lr (z := some 2281) T_336_51 rfl ?_
  refine x_dupR T_336_52 ?_
  refine x_gI (z := S 2281 91) T_336_53 (Or.inl F_17_91) (PM.t hP) (Eq.trans (PM.nS hP 2281 91 91 rfl rfl rfl) (Eq.trans (rU_f (Nat.ne_of_beq_eq_false rfl)) (Eq.trans (rU_f (Nat.ne_of_beq_eq_false rfl)) (Eq.trans (rU_f (Nat.ne_of_beq_eq_false rfl)) (Eq.trans (rU_f (Nat.ne_of_beq_eq_false rfl)) (rU_f (Nat.ne_of_beq_eq_false rfl))))))) ?_
  refine x_ic T_336_56 ?_
  refine x_ib (w := (S 2281 91 + 1)) T_336_57 (fun h => absurd h.1 (by decide)) (w32_id (by omega) (by omega)) ?_
  refine y_pIS hP T_336_58 F_17_91 91 rfl rfl (fun σ hP => ?_)
  refine x_rv T_336_61 ?_
  exact ⟨rfl, hP⟩
theorem r_askRaw {a b : Int} (hP : PM σ0 P S1 σ) (hQ : RQ T U S S1 w l) (hJ : IV true T U S) (ha : 0 ≤ a) (hab : a ≤ b) (hb : b ≤ 200) (hw : w + 2 + (b - a) ≤ 420) : CL fb (d + 1) 343 [vR (some 2281), vI a, vI b] σ (rQ T U σ0 P S (w + 2 + (b - a)) (l ++ leb 2 (b - a) ++ seg (S 2346) a (b - a).toNat)) := by
  refine CL_in mL_343 rfl ?_
  show WP fb _ 343 0 [some (vR (some 2281)), some (vI a), some (vI b), none] [] σ _
  refine x_lr (z := some 2281) T_343_0 rfl ?_
  refine x_ic T_343_1 ?_
  refine x_li (z := b) T_343_2 rfl ?_
  refine x_li (z := a) T_343_3 rfl ?_
  refine x_ib (w := (b - a)) T_343_4 (fun h => absurd h.1 (by decide)) (w32_id (by omega) (by omega)) ?_
  refine x_i2l T_343_5 ?_
  refine x_cv3 T_343_6 mN_229 mL_229 (Nat.le_of_ble_eq_true rfl) mO_229 (PM.t hP) (Nat.le_of_ble_eq_true rfl) (r_askPut 2 rfl hP hQ (by decide) (by omega)) ?_
  rintro _ σ ⟨rfl, S1, hP, hQ⟩
  refine cV ?_
  refine x_li (z := a) T_343_9 rfl ?_
  refine x_si (ls1 := [some (vR (some 2281)), some (vI a), some (vI b), some (vI a)]) T_343_10 rfl ?_
  refine r_askRaw_loop (S := S) ha hb (by omega) hJ (b - a).toNat a σ S1 (by omega) (Int.le_refl a) hP ?_
  rw [show a - a = 0 by omega]
  show RQ T U S S1 (w + 2 + 0) (l ++ leb 2 (b - a) ++ [])
  rw [List.append_nil, show w + 2 + 0 = w + 2 by omega]
  exact hQ
theorem g_askWalk {j a b : Int} (hP : PM σ0 P S σ) (hJ : IV true T U S) (hG : GI T U P) (hT : T + 49 ≤ 2147483000) (hs : 0 ≤ s ∧ s < 3) (hg : 0 ≤ g ∧ g ≤ 47) (hj : 0 ≤ j ∧ j < 110) (ea : S 2347 j = a) (eb : S 2348 j = b) (hab : 0 ≤ a ∧ a ≤ b ∧ b ≤ 200) : CL fb (d + 11) 342 [vR (some 2281), vI s, vI f, vI g, vI j] σ (rG T U σ0 P S s (mWalk f g (seg (S 2346) a (b - a).toNat))) := by
  have e : leb 1 110 ++ leb 2 1 ++ leb 4 f ++ leb 4 g ++ leb 2 1 ++ leb 2 (b - a) ++ seg (S 2346) a (b - a).toNat = mWalk f g (seg (S 2346) a (b - a).toNat) := by
    unfold mWalk
    rw [seg_len, show ((b - a).toNat : Int) = b - a by omega]
  refine CL_in mL_342 rfl ?_
  show WP fb _ 342 0 [some (vR (some 2281)), some (vI s), some (vI f), some (vI g), some (vI j)] [] σ _
  refine x_lr (z := some 2281) T_342_0 rfl ?_
  refine x_ic T_342_1 ?_
  refine x_ic T_342_3 ?_
  refine x_cv3 T_342_4 mN_228 mL_228 (Nat.le_of_ble_eq_true rfl) mO_228 (PM.t hP) (Nat.le_of_ble_eq_true rfl) (r_begin hP hJ) ?_
  rintro _ σ ⟨rfl, S1, hP, hQ⟩
  refine cV ?_
  refine x_lr (z := some 2281) T_342_7 rfl ?_
  refine x_ic T_342_8 ?_
  refine x_li (z := f) T_342_9 rfl ?_
  refine x_i2l T_342_10 ?_
  refine x_cv3 T_342_11 mN_229 mL_229 (Nat.le_of_ble_eq_true rfl) mO_229 (PM.t hP) (Nat.le_of_ble_eq_true rfl) (r_askPut 4 rfl hP hQ (by decide) (by omega)) ?_
  rintro _ σ ⟨rfl, S1, hP, hQ⟩
  refine cV ?_
  refine x_lr (z := some 2281) T_342_14 rfl ?_
  refine x_ic T_342_15 ?_
  refine x_li (z := g) T_342_16 rfl ?_
  refine x_i2l T_342_17 ?_
  refine x_cv3 T_342_18 mN_229 mL_229 (Nat.le_of_ble_eq_true rfl) mO_229 (PM.t hP) (Nat.le_of_ble_eq_true rfl) (r_askPut 4 rfl hP hQ (by decide) (by omega)) ?_
  rintro _ σ ⟨rfl, S1, hP, hQ⟩
  refine cV ?_
  refine x_lr (z := some 2281) T_342_21 rfl ?_
  refine x_ic T_342_22 ?_
  refine x_lc T_342_23 ?_
  refine x_cv3 T_342_24 mN_229 mL_229 (Nat.le_of_ble_eq_true rfl) mO_229 (PM.t hP) (Nat.le_of_ble_eq_true rfl) (r_askPut 2 rfl hP hQ (by decide) (by omega)) ?_
  rintro _ σ ⟨rfl, S1, hP, hQ⟩
  refine cV ?_
  refine x_lr (z := some 2281) T_342_27 rfl ?_
  refine x_lr (z := some 2281) T_342_28 rfl ?_
  refine x_gR (z := some 2347) T_342_29 F_17_81 (PM.t hP) (PM.r hP 81 2347 rfl) ?_
  refine x_li (z := j) T_342_32 rfl ?_
  refine x_alI (z := S1 2347 j) T_342_34 (by decide) (PM.ta hP 2347 0 110 rfl rfl) (by omega) (by omega) (PM.aS hP 2347 rfl rfl (by omega)) ?_
  refine x_lr (z := some 2281) T_342_35 rfl ?_
  refine x_gR (z := some 2348) T_342_36 F_17_82 (PM.t hP) (PM.r hP 82 2348 rfl) ?_
  refine x_li (z := j) T_342_39 rfl ?_
  refine x_alI (z := S1 2348 j) T_342_41 (by decide) (PM.ta hP 2348 0 110 rfl rfl) (by omega) (by omega) (PM.aS hP 2348 rfl rfl (by omega)) ?_
  have e1 : S1 2347 j = a := (hQ.2.2.2.2.2.1 _ _ (by decide) (by decide)).trans ea
  have e2 : S1 2348 j = b := (hQ.2.2.2.2.2.1 _ _ (by decide) (by decide)).trans eb
  rw [e1, e2]
  refine x_cv3 T_342_42 mN_343 mL_343 (Nat.le_of_ble_eq_true rfl) mO_343 (PM.t hP) (Nat.le_of_ble_eq_true rfl) (r_askRaw hP hQ hJ hab.1 hab.2.1 hab.2.2 (by omega)) ?_
  rintro _ σ ⟨rfl, S2, hP, hQ⟩
  refine cV ?_
  refine x_lr (z := some 2281) T_342_45 rfl ?_
  refine x_li (z := s) T_342_46 rfl ?_
  refine x_cv2 T_342_47 mN_231 mL_231 (Nat.le_of_ble_eq_true rfl) mO_231 (PM.t hP) (Nat.le_of_ble_eq_true rfl) ((e ▸ m_trG (d := d) hP hQ hG hT hs (by rw [e]; have := mWalk_len (f := f) (g := g) (nm := seg (S 2346) a (b - a).toNat); omega) (by rw [e, mWalk_0]; decide) (fun q => absurd q (by rw [e, mWalk_0]; decide)) (fun _ => by rw [e, mWalk_g (by omega)]; exact hg.2) : CL fb (d + 10) 231 [vR (some 2281), vI s] σ (rG T U σ0 P S s (mWalk f g (seg (S 2346) a (b - a).toNat))))) ?_
  rintro _ σ ⟨S3, rfl, h⟩
  refine cI ?_
  refine x_ri T_342_50 ?_
  exact ⟨S3, rfl, h⟩
end MHELD
