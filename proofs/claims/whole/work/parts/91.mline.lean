/-! The line cut into words; words as numbers; numbers told. -/
theorem T_315_0 : hTab 315 0 = some ((3, 0, 2, []), 1) := rfl
theorem T_315_1 : hTab 315 1 = some ((0, 0, 0, []), 2) := rfl
theorem T_315_2 : hTab 315 2 = some ((25, 17, Int.ofNat 77, []), 5) := rfl
theorem T_315_5 : hTab 315 5 = some ((0, 0, 0, []), 6) := rfl
theorem T_315_6 : hTab 315 6 = some ((4, 1, 0, []), 7) := rfl
theorem T_315_7 : hTab 315 7 = some ((3, 1, 0, []), 8) := rfl
theorem T_315_8 : hTab 315 8 = some ((3, 0, 2, []), 9) := rfl
theorem T_315_9 : hTab 315 9 = some ((24, 17, Int.ofNat 74, []), 12) := rfl
theorem T_315_12 : hTab 315 12 = some ((19, 3, Int.ofNat 90, []), 15) := rfl
theorem T_315_15 : hTab 315 15 = some ((3, 0, 2, []), 16) := rfl
theorem T_315_16 : hTab 315 16 = some ((24, 17, Int.ofNat 73, []), 19) := rfl
theorem T_315_19 : hTab 315 19 = some ((3, 1, 0, []), 20) := rfl
theorem T_315_20 : hTab 315 20 = some ((26, 0, 0, []), 21) := rfl
theorem T_315_21 : hTab 315 21 = some ((0, 0, 32, []), 23) := rfl
theorem T_315_23 : hTab 315 23 = some ((19, 1, Int.ofNat 32, []), 26) := rfl
theorem T_315_26 : hTab 315 26 = some ((5, 1, 1, []), 29) := rfl
theorem T_315_29 : hTab 315 29 = some ((22, 0, Int.ofNat 7, []), 32) := rfl
theorem T_315_32 : hTab 315 32 = some ((3, 0, 2, []), 33) := rfl
theorem T_315_33 : hTab 315 33 = some ((24, 17, Int.ofNat 75, []), 36) := rfl
theorem T_315_36 : hTab 315 36 = some ((3, 0, 2, []), 37) := rfl
theorem T_315_37 : hTab 315 37 = some ((24, 17, Int.ofNat 77, []), 40) := rfl
theorem T_315_40 : hTab 315 40 = some ((3, 1, 0, []), 41) := rfl
theorem T_315_41 : hTab 315 41 = some ((27, 0, 0, []), 42) := rfl
theorem T_315_42 : hTab 315 42 = some ((3, 1, 0, []), 43) := rfl
theorem T_315_43 : hTab 315 43 = some ((3, 0, 2, []), 44) := rfl
theorem T_315_44 : hTab 315 44 = some ((24, 17, Int.ofNat 74, []), 47) := rfl
theorem T_315_47 : hTab 315 47 = some ((19, 3, Int.ofNat 67, []), 50) := rfl
theorem T_315_50 : hTab 315 50 = some ((3, 0, 2, []), 51) := rfl
theorem T_315_51 : hTab 315 51 = some ((24, 17, Int.ofNat 73, []), 54) := rfl
theorem T_315_54 : hTab 315 54 = some ((3, 1, 0, []), 55) := rfl
theorem T_315_55 : hTab 315 55 = some ((26, 0, 0, []), 56) := rfl
theorem T_315_56 : hTab 315 56 = some ((0, 0, 32, []), 58) := rfl
theorem T_315_58 : hTab 315 58 = some ((19, 0, Int.ofNat 67, []), 61) := rfl
theorem T_315_61 : hTab 315 61 = some ((5, 1, 1, []), 64) := rfl
theorem T_315_64 : hTab 315 64 = some ((22, 0, Int.ofNat 42, []), 67) := rfl
theorem T_315_67 : hTab 315 67 = some ((3, 0, 2, []), 68) := rfl
theorem T_315_68 : hTab 315 68 = some ((24, 17, Int.ofNat 76, []), 71) := rfl
theorem T_315_71 : hTab 315 71 = some ((3, 0, 2, []), 72) := rfl
theorem T_315_72 : hTab 315 72 = some ((24, 17, Int.ofNat 77, []), 75) := rfl
theorem T_315_75 : hTab 315 75 = some ((3, 1, 0, []), 76) := rfl
theorem T_315_76 : hTab 315 76 = some ((27, 0, 0, []), 77) := rfl
theorem T_315_77 : hTab 315 77 = some ((3, 0, 2, []), 78) := rfl
theorem T_315_78 : hTab 315 78 = some ((6, 0, 0, []), 79) := rfl
theorem T_315_79 : hTab 315 79 = some ((24, 17, Int.ofNat 77, []), 82) := rfl
theorem T_315_82 : hTab 315 82 = some ((0, 0, 1, []), 83) := rfl
theorem T_315_83 : hTab 315 83 = some ((10, 0, 0, []), 84) := rfl
theorem T_315_84 : hTab 315 84 = some ((25, 17, Int.ofNat 77, []), 87) := rfl
theorem T_315_87 : hTab 315 87 = some ((22, 0, Int.ofNat 7, []), 90) := rfl
theorem T_315_90 : hTab 315 90 = some ((33, 0, 0, []), 91) := rfl
theorem T_317_0 : hTab 317 0 = some ((1, 0, 0, []), 1) := rfl
theorem T_317_1 : hTab 317 1 = some ((4, 2, 1, []), 2) := rfl
theorem T_317_2 : hTab 317 2 = some ((0, 0, 0, []), 3) := rfl
theorem T_317_3 : hTab 317 3 = some ((4, 4, 0, []), 5) := rfl
theorem T_317_5 : hTab 317 5 = some ((3, 4, 0, []), 7) := rfl
theorem T_317_7 : hTab 317 7 = some ((3, 0, 2, []), 8) := rfl
theorem T_317_8 : hTab 317 8 = some ((3, 1, 0, []), 9) := rfl
theorem T_317_9 : hTab 317 9 = some ((31, 318, 0, []), 12) := rfl
theorem T_317_12 : hTab 317 12 = some ((19, 3, Int.ofNat 54, []), 15) := rfl
theorem T_317_15 : hTab 317 15 = some ((3, 0, 2, []), 16) := rfl
theorem T_317_16 : hTab 317 16 = some ((3, 1, 0, []), 17) := rfl
theorem T_317_17 : hTab 317 17 = some ((31, 318, 0, []), 20) := rfl
theorem T_317_20 : hTab 317 20 = some ((0, 0, 8, []), 22) := rfl
theorem T_317_22 : hTab 317 22 = some ((19, 4, Int.ofNat 54, []), 25) := rfl
theorem T_317_25 : hTab 317 25 = some ((3, 0, 2, []), 26) := rfl
theorem T_317_26 : hTab 317 26 = some ((3, 1, 0, []), 27) := rfl
theorem T_317_27 : hTab 317 27 = some ((0, 0, 0, []), 28) := rfl
theorem T_317_28 : hTab 317 28 = some ((31, 319, 0, []), 31) := rfl
theorem T_317_31 : hTab 317 31 = some ((18, 5, Int.ofNat 54, []), 34) := rfl
theorem T_317_34 : hTab 317 34 = some ((3, 2, 1, []), 35) := rfl
theorem T_317_35 : hTab 317 35 = some ((0, 0, 8, []), 37) := rfl
theorem T_317_37 : hTab 317 37 = some ((12, 0, 0, []), 38) := rfl
theorem T_317_38 : hTab 317 38 = some ((3, 0, 2, []), 39) := rfl
theorem T_317_39 : hTab 317 39 = some ((3, 1, 0, []), 40) := rfl
theorem T_317_40 : hTab 317 40 = some ((3, 4, 0, []), 42) := rfl
theorem T_317_42 : hTab 317 42 = some ((31, 319, 0, []), 45) := rfl
theorem T_317_45 : hTab 317 45 = some ((14, 0, 0, []), 46) := rfl
theorem T_317_46 : hTab 317 46 = some ((11, 6, 0, []), 47) := rfl
theorem T_317_47 : hTab 317 47 = some ((4, 2, 1, []), 48) := rfl
theorem T_317_48 : hTab 317 48 = some ((5, 4, 1, []), 51) := rfl
theorem T_317_51 : hTab 317 51 = some ((22, 0, Int.ofNat 5, []), 54) := rfl
theorem T_317_54 : hTab 317 54 = some ((3, 2, 1, []), 55) := rfl
theorem T_317_55 : hTab 317 55 = some ((33, 3, 0, []), 56) := rfl
theorem F_17_74 : (hFd 17 74).2.2.1 = 0 := rfl
theorem F_17_77 : (hFd 17 77).2.2.1 = 0 := rfl
theorem mN_315 : hmN 315 = 1 := by decide +kernel
theorem mL_315 : hmL 315 = 2 := by decide +kernel
theorem mK_315 : hmK 315 = 1 := by decide +kernel
theorem mO_315 : hmO 315 = 17 := by decide +kernel
theorem mN_317 : hmN 317 = 2 := by decide +kernel
theorem mL_317 : hmL 317 = 5 := by decide +kernel
theorem mK_317 : hmK 317 = 1 := by decide +kernel
theorem mO_317 : hmO 317 = 17 := by decide +kernel
def pkV : List Int → Int → Int
  | [], v => v
  | x :: r, v => pkV r (or64 (shl64 v 8) x)
def pkW (wd : List Int) : Int := if wd.length ≤ 8 ∧ 0 < lg wd 0 then pkV wd 0 else 0
def ndF (v : Int) : Nat → Nat → Nat
  | 0, i => i
  | m + 1, i => if 10 ≤ v / 10 ^ i then ndF v m (i + 1) else i
def dcL (v : Int) : Nat → List Int
  | 0 => [48 + v / 10 ^ 0 % 10]
  | k + 1 => (48 + v / 10 ^ (k + 1) % 10) :: dcL v k
/-- a number's digits -/
def decL (v : Int) : List Int := dcL v (ndF v 18 0)
def lwR : List Nat := [2344, 2345]
def lwN : List Int := [77]
section MLINE
variable {fb : Bool} {d : Nat} {σ0 σ : hM} {P Q R S S1 S2 : qR} {T U s w g u p k e t z o thr pt : Int} {l nm wd : List Int} {h : List Ch} {a f : Int → Int} {x : Int × Int} {c : Ch}
theorem div64_n {x y : Int} (h0 : 0 ≤ x ∧ x ≤ 9223372036854775807) (h1 : 0 < y ∧ y ≤ 9223372036854775807) : div64 x y = x / y := by
  unfold div64
  have hx : (Int64.ofInt x).toInt = x := Int64.toInt_ofInt_of_le (by omega) (by omega)
  have hy1 : (Int64.ofInt y).toInt = y := Int64.toInt_ofInt_of_le (by omega) (by omega)
  have hq0 : 0 ≤ x / y := Int.ediv_nonneg h0.1 (by omega)
  have hq1 : x / y ≤ x := Int.ediv_le_self y h0.1
  rw [Int64.toInt_div, hx, hy1, Int.tdiv_eq_ediv_of_nonneg h0.1]
  exact Int.bmod_eq_of_le (by omega) (by omega)
theorem rem64_n {x y : Int} (h0 : 0 ≤ x ∧ x ≤ 9223372036854775807) (h1 : 0 < y ∧ y ≤ 9223372036854775807) : rem64 x y = x % y := by
  unfold rem64
  have hx : (Int64.ofInt x).toInt = x := Int64.toInt_ofInt_of_le (by omega) (by omega)
  have hy1 : (Int64.ofInt y).toInt = y := Int64.toInt_ofInt_of_le (by omega) (by omega)
  have hq0 : 0 ≤ x / y := Int.ediv_nonneg h0.1 (by omega)
  have hq1 : x / y ≤ x := Int.ediv_le_self y h0.1
  have hm := Int.emod_add_mul_ediv x y
  have hm0 := Int.emod_nonneg x (show y ≠ 0 by omega)
  rw [Int64.toInt_sub, Int64.toInt_mul, Int64.toInt_div, hx, hy1, Int.tdiv_eq_ediv_of_nonneg h0.1]
  have e1 : (x / y).bmod (2 ^ 64) = x / y := Int.bmod_eq_of_le (by omega) (by omega)
  rw [e1]
  have e2 : x / y * y = x - x % y := by rw [Int.mul_comm]; omega
  have e3 : x % y ≤ x := by
    have : 0 ≤ x / y * y := Int.mul_nonneg hq0 (by omega)
    omega
  rw [e2, Int.bmod_eq_of_le (n := x - x % y) (by omega) (by omega)]
  rw [show x - (x - x % y) = x % y by omega]
  exact Int.bmod_eq_of_le (by omega) (by omega)
theorem ndF_le {v : Int} : ∀ (m i : Nat), i ≤ ndF v m i ∧ ndF v m i ≤ i + m
  | 0, i => ⟨Nat.le_refl _, Nat.le_refl _⟩
  | m + 1, i => by
    unfold ndF
    split
    · have := ndF_le (v := v) m (i + 1)
      omega
    · omega
theorem pow10_le {i j : Nat} (h : i ≤ j) : (10 : Int) ^ i ≤ 10 ^ j := by
  have h1 : (10 ^ i : Nat) ≤ 10 ^ j := Nat.pow_le_pow_right (by decide) h
  have h2 : ((10 ^ i : Nat) : Int) ≤ ((10 ^ j : Nat) : Int) := Int.ofNat_le.mpr h1
  rw [Int.natCast_pow, Int.natCast_pow] at h2
  exact h2
theorem m_split_end {l1 : Option AV} (hP : PM σ0 P S σ) (hz : S 2281 74 = z) (hz1 : z ≤ 100) (hl : ∀ i : Int, 0 ≤ i → i < z → S 2343 i = f i) {Q : Option AV → hM → Prop} (hk : 0 ≤ k) (hQ : WP fb d 315 67 [some (vR (some 2281)), some (vI (spE f z z.toNat k))] [] σ Q) : ∀ (m : Nat) (e : Int), z ≤ e + m → k ≤ e → e ≤ z → spE f z m e = spE f z z.toNat k → WP fb d 315 42 [some (vR (some 2281)), some (vI e)] [] σ Q := by
  intro m
  induction m with
  | zero =>
    intro e h1 h2 h3 h4
    have h4 : e = spE f z z.toNat k := h4
    rw [← h4] at hQ
    refine x_li (z := e) T_315_42 rfl ?_
    refine x_lr (z := some 2281) T_315_43 rfl ?_
    refine x_gI (z := z) T_315_44 (Or.inl F_17_74) (PM.t hP) (Eq.trans (PM.nS hP 2281 74 74 rfl rfl rfl) hz) ?_
    refine x_ic2 T_315_47 (fun _ => ?_) (fun h => absurd (show z ≤ e by omega) h)
    exact hQ
  | succ m ih =>
    intro e h1 h2 h3 h4
    by_cases q : e < z
    · have hx := hl e (by omega) q
      by_cases q2 : f e = 32
      · rw [show spE f z (m + 1) e = e from if_neg (fun c => c.2 q2)] at h4
        rw [← h4] at hQ
        refine x_li (z := e) T_315_42 rfl ?_
        refine x_lr (z := some 2281) T_315_43 rfl ?_
        refine x_gI (z := z) T_315_44 (Or.inl F_17_74) (PM.t hP) (Eq.trans (PM.nS hP 2281 74 74 rfl rfl rfl) hz) ?_
        refine x_ic2 T_315_47 (fun h => absurd (show z ≤ e from h) (by omega)) (fun _ => ?_)
        refine x_lr (z := some 2281) T_315_50 rfl ?_
        refine x_gR (z := some 2343) T_315_51 F_17_73 (PM.t hP) (PM.r hP 73 2343 rfl) ?_
        refine x_li (z := e) T_315_54 rfl ?_
        refine x_alI (z := f e) T_315_55 (by decide) (PM.ta hP 2343 0 100 rfl rfl) (by omega) (by omega) (Eq.trans (PM.aS hP 2343 rfl rfl (by omega)) hx) ?_
        refine x_ic T_315_56 ?_
        refine x_ic2 T_315_58 (fun _ => ?_) (fun h => absurd (show f e = 32 by exact q2) h)
        exact hQ
      · rw [show spE f z (m + 1) e = spE f z m (e + 1) from if_pos ⟨q, q2⟩] at h4
        refine x_li (z := e) T_315_42 rfl ?_
        refine x_lr (z := some 2281) T_315_43 rfl ?_
        refine x_gI (z := z) T_315_44 (Or.inl F_17_74) (PM.t hP) (Eq.trans (PM.nS hP 2281 74 74 rfl rfl rfl) hz) ?_
        refine x_ic2 T_315_47 (fun h => absurd (show z ≤ e from h) (by omega)) (fun _ => ?_)
        refine x_lr (z := some 2281) T_315_50 rfl ?_
        refine x_gR (z := some 2343) T_315_51 F_17_73 (PM.t hP) (PM.r hP 73 2343 rfl) ?_
        refine x_li (z := e) T_315_54 rfl ?_
        refine x_alI (z := f e) T_315_55 (by decide) (PM.ta hP 2343 0 100 rfl rfl) (by omega) (by omega) (Eq.trans (PM.aS hP 2343 rfl rfl (by omega)) hx) ?_
        refine x_ic T_315_56 ?_
        refine x_ic2 T_315_58 (fun h => absurd (show f e = 32 from h) (by exact q2)) (fun _ => ?_)
        refine x_inc (w := (e + 1)) (ls1 := [some (vR (some 2281)), some (vI (e + 1))]) T_315_61 rfl (w32_id (by omega) (by omega)) rfl ?_
        refine x_goto T_315_64 ?_
        exact ih (e + 1) (by omega) (by omega) (by omega) h4
    · rw [show spE f z (m + 1) e = e from if_neg (fun c => q c.1)] at h4
      rw [← h4] at hQ
      refine x_li (z := e) T_315_42 rfl ?_
      refine x_lr (z := some 2281) T_315_43 rfl ?_
      refine x_gI (z := z) T_315_44 (Or.inl F_17_74) (PM.t hP) (Eq.trans (PM.nS hP 2281 74 74 rfl rfl rfl) hz) ?_
      refine x_ic2 T_315_47 (fun _ => ?_) (fun h => absurd (show z ≤ e by omega) h)
      exact hQ
/-- words that were found -/
def WS (S : qR) (n : Int) (ws : List (Int × Int)) : Prop := S 2281 77 = n ∧ n = (ws.length : Int) ∧ ∀ i : Nat, i < ws.length → S 2344 (i : Int) = (ws.getD i (0, 0)).1 ∧ S 2345 (i : Int) = (ws.getD i (0, 0)).2
theorem WS.push {n b : Int} {ws : List (Int × Int)} (h : WS S n ws) : WS (rU (rU (rU S 2344 n k) 2345 n b) 2281 77 (n + 1)) (n + 1) (ws ++ [(k, b)]) := by
  obtain ⟨h1, h2, h3⟩ := h
  refine ⟨rU_s, by rw [List.length_append]; show n + 1 = ((ws.length + 1 : Nat) : Int); omega, fun i hi => ?_⟩
  rw [List.length_append] at hi
  have hi : i < ws.length + 1 := hi
  by_cases q : i = ws.length
  · subst q
    rw [gD2, ← h2]
    refine ⟨?_, ?_⟩
    · rw [rU_f (by decide), rU_f (by decide), rU_s]
    · rw [rU_f (by decide), rU_s]
  · have g := h3 i (by omega)
    rw [gD1 (by omega)]
    refine ⟨?_, ?_⟩
    · rw [rU_f (by decide), rU_f (by decide), rU_k (by omega)]
      exact g.1
    · rw [rU_f (by decide), rU_k (by omega), rU_f (by decide)]
      exact g.2
theorem m_split_loop (hz1 : 0 ≤ z ∧ z ≤ 100) : ∀ (m : Nat) (k n : Int) (ws : List (Int × Int)) (S1 : qR) (σ : hM), z ≤ k + m → 0 ≤ k → k ≤ z → 2 * n ≤ k + 1 → (2 * n ≤ k ∨ k = z ∨ f k = 32) → PM σ0 P S1 σ → IV true T U S1 → SX lwR lwN S S1 → S 2281 74 = z → (∀ i : Int, 0 ≤ i → i < z → S 2343 i = f i) → WS S1 n ws → WP fb d 315 7 [some (vR (some 2281)), some (vI k)] [] σ (fun r σ' => ∃ (S2 : qR) (n2 : Int), r = none ∧ PM σ0 P S2 σ' ∧ IV true T U S2 ∧ SX lwR lwN S S2 ∧ WS S2 n2 (ws ++ spW f z m k)) := by
  intro m
  induction m with
  | zero =>
    intro k n ws S1 σ h1 h2 h3 h4 h5 hP hJ hX hz hl hW
    have hz2 : S1 2281 74 = z := (hX.1 74 rfl).trans hz
    rw [show spW f z 0 k = [] from rfl, List.append_nil]
    refine x_li (z := k) T_315_7 rfl ?_
    refine x_lr (z := some 2281) T_315_8 rfl ?_
    refine x_gI (z := z) T_315_9 (Or.inl F_17_74) (PM.t hP) (Eq.trans (PM.nS hP 2281 74 74 rfl rfl rfl) hz2) ?_
    refine x_ic2 T_315_12 (fun _ => ?_) (fun h => absurd (show z ≤ k by omega) h)
    refine x_rv T_315_90 ?_
    exact ⟨S1, n, rfl, hP, hJ, hX, hW⟩
  | succ m ih =>
    intro k n ws S1 σ h1 h2 h3 h4 h5 hP hJ hX hz hl hW
    have hz2 : S1 2281 74 = z := (hX.1 74 rfl).trans hz
    by_cases q : z ≤ k
    · rw [show spW f z (m + 1) k = [] from if_pos q, List.append_nil]
      refine x_li (z := k) T_315_7 rfl ?_
      refine x_lr (z := some 2281) T_315_8 rfl ?_
      refine x_gI (z := z) T_315_9 (Or.inl F_17_74) (PM.t hP) (Eq.trans (PM.nS hP 2281 74 74 rfl rfl rfl) hz2) ?_
      refine x_ic2 T_315_12 (fun _ => ?_) (fun h => absurd (show z ≤ k by omega) h)
      refine x_rv T_315_90 ?_
      exact ⟨S1, n, rfl, hP, hJ, hX, hW⟩
    · have hx : S1 2343 k = f k := (hX.2 _ _ rfl rfl).trans (hl k h2 (by omega))
      by_cases q2 : f k = 32
      · rw [show spW f z (m + 1) k = spW f z m (k + 1) from (if_neg q).trans (if_pos q2)]
        have hgo := fun (σ : hM) (hP : PM σ0 P S1 σ) => ih (k + 1) n ws S1 σ (by omega) (by omega) (by omega) (by omega) (by omega) hP hJ hX hz hl hW
        refine x_li (z := k) T_315_7 rfl ?_
        refine x_lr (z := some 2281) T_315_8 rfl ?_
        refine x_gI (z := z) T_315_9 (Or.inl F_17_74) (PM.t hP) (Eq.trans (PM.nS hP 2281 74 74 rfl rfl rfl) hz2) ?_
        refine x_ic2 T_315_12 (fun h => absurd (show z ≤ k from h) (by omega)) (fun _ => ?_)
        refine x_lr (z := some 2281) T_315_15 rfl ?_
        refine x_gR (z := some 2343) T_315_16 F_17_73 (PM.t hP) (PM.r hP 73 2343 rfl) ?_
        refine x_li (z := k) T_315_19 rfl ?_
        refine x_alI (z := f k) T_315_20 (by decide) (PM.ta hP 2343 0 100 rfl rfl) (by omega) (by omega) (Eq.trans (PM.aS hP 2343 rfl rfl (by omega)) hx) ?_
        refine x_ic T_315_21 ?_
        refine x_ic2 T_315_23 (fun h => absurd (show ¬ f k = 32 from h) (by exact fun c => c q2)) (fun _ => ?_)
        refine x_inc (w := (k + 1)) (ls1 := [some (vR (some 2281)), some (vI (k + 1))]) T_315_26 rfl (w32_id (by omega) (by omega)) rfl ?_
        refine x_goto T_315_29 ?_
        exact hgo σ hP
      · have h5 : 2 * n ≤ k := by omega
        obtain ⟨e, he⟩ : ∃ e, spE f z z.toNat k = e := ⟨_, rfl⟩
        have e1 := spE_step (z := z) (f := f) (by omega) q2 h2
        have e2 := (spE_rng (f := f) (z := z) z.toNat k).2 h3
        rw [he] at e1 e2
        rw [show spW f z (m + 1) k = (k, e) :: spW f z m e by rw [← he]; exact (if_neg q).trans (if_neg q2)]
        have hb : e = z ∨ f e = 32 := by
          by_cases c0 : e = z
          · exact Or.inl c0
          · refine Or.inr ?_
            have hg : ∀ (n : Nat) (j : Int), spE f z n j = e → z ≤ j + n → e < z → f e = 32 := by
              intro n
              induction n with
              | zero => intro j h1 h2 h3; have h1 : j = e := h1; omega
              | succ n ih =>
                intro j h1 h2 h3
                unfold spE at h1
                by_cases c : j < z ∧ ¬ f j = 32
                · rw [if_pos c] at h1
                  exact ih (j + 1) h1 (by omega) h3
                · rw [if_neg c] at h1
                  rw [h1] at c
                  exact Classical.byContradiction (fun c2 => c ⟨h3, c2⟩)
            exact hg z.toNat k he (by omega) (by omega)
        have h77 := hW.1
        have hJ2 : IV true T U (rU S1 2344 n k) := hJ.uA 2344 rfl (by show 0 ≤ k ∧ k ≤ 100; omega)
        have hX2 : SX lwR lwN S (rU S1 2344 n k) := SX_up hX rfl rfl
        have hn0 : 0 ≤ n := by have := hW.2.1; omega
        have hgo := fun (σ : hM) (hP : PM σ0 P (rU (rU (rU S1 2344 n k) 2345 n e) 2281 77 (n + 1)) σ) => ih e (n + 1) (ws ++ [(k, e)]) _ σ (by omega) (by omega) e2 (by omega) (by omega) hP ((hJ2.uA 2345 rfl (by show 0 ≤ e ∧ e ≤ 100; omega)).uN 77 77 rfl (by show 0 ≤ n + 1 ∧ n + 1 ≤ 60; omega)) (SX_un (SX_up hX2 rfl rfl) rfl) hz hl hW.push
        rw [List.append_assoc] at hgo
        have h772 : rU S1 2344 n k 2281 77 = n := (rU_f (by decide)).trans h77
        have rest : ∀ (σ : hM), PM σ0 P (rU S1 2344 n k) σ → WP fb d 315 67 [some (vR (some 2281)), some (vI (spE f z z.toNat k))] [] σ (fun r σ' => ∃ (S2 : qR) (n2 : Int), r = none ∧ PM σ0 P S2 σ' ∧ IV true T U S2 ∧ SX lwR lwN S S2 ∧ WS S2 n2 (ws ++ ((k, e) :: spW f z m e))) := by
          intro σ hP
          rw [he]
          refine x_lr (z := some 2281) T_315_67 rfl ?_
          refine x_gR (z := some 2345) T_315_68 F_17_76 (PM.t hP) (PM.r hP 76 2345 rfl) ?_
          refine x_lr (z := some 2281) T_315_71 rfl ?_
          refine x_gI (z := n) T_315_72 (Or.inl F_17_77) (PM.t hP) (Eq.trans (PM.nS hP 2281 77 77 rfl rfl rfl) h77) ?_
          refine x_li (z := e) T_315_75 rfl ?_
          refine y_aIS hP T_315_76 2345 60 rfl rfl rfl (by omega) (by omega) (fun σ hP => ?_)
          refine x_lr (z := some 2281) T_315_77 rfl ?_
          refine x_dupR T_315_78 ?_
          refine x_gI (z := n) T_315_79 (Or.inl F_17_77) (PM.t hP) (Eq.trans (Eq.trans (PM.nS hP 2281 77 77 rfl rfl rfl) (rU_f (Nat.ne_of_beq_eq_false rfl))) h77) ?_
          refine x_ic T_315_82 ?_
          refine x_ib (w := (n + 1)) T_315_83 (fun h => absurd h.1 (by decide)) (w32_id (by omega) (by omega)) ?_
          refine y_pIS hP T_315_84 F_17_77 77 rfl rfl (fun σ hP => ?_)
          refine x_goto T_315_87 ?_
          exact hgo σ hP
        refine x_li (z := k) T_315_7 rfl ?_
        refine x_lr (z := some 2281) T_315_8 rfl ?_
        refine x_gI (z := z) T_315_9 (Or.inl F_17_74) (PM.t hP) (Eq.trans (PM.nS hP 2281 74 74 rfl rfl rfl) hz2) ?_
        refine x_ic2 T_315_12 (fun h => absurd (show z ≤ k from h) (by omega)) (fun _ => ?_)
        refine x_lr (z := some 2281) T_315_15 rfl ?_
        refine x_gR (z := some 2343) T_315_16 F_17_73 (PM.t hP) (PM.r hP 73 2343 rfl) ?_
        refine x_li (z := k) T_315_19 rfl ?_
        refine x_alI (z := f k) T_315_20 (by decide) (PM.ta hP 2343 0 100 rfl rfl) (by omega) (by omega) (Eq.trans (PM.aS hP 2343 rfl rfl (by omega)) hx) ?_
        refine x_ic T_315_21 ?_
        refine x_ic2 T_315_23 (fun _ => ?_) (fun h => absurd (show ¬ f k = 32 by exact q2) h)
        refine x_lr (z := some 2281) T_315_32 rfl ?_
        refine x_gR (z := some 2344) T_315_33 F_17_75 (PM.t hP) (PM.r hP 75 2344 rfl) ?_
        refine x_lr (z := some 2281) T_315_36 rfl ?_
        refine x_gI (z := n) T_315_37 (Or.inl F_17_77) (PM.t hP) (Eq.trans (PM.nS hP 2281 77 77 rfl rfl rfl) h77) ?_
        refine x_li (z := k) T_315_40 rfl ?_
        refine y_aIS hP T_315_41 2344 60 rfl rfl rfl (by omega) (by omega) (fun σ hP => ?_)
        exact m_split_end (l1 := none) (f := f) hP ((hX2.1 74 rfl).trans hz) hz1.2 (fun i a b => (hX2.2 _ _ rfl rfl).trans (hl i a b)) h2 (rest σ hP) (z - k).toNat k (by omega) (Int.le_refl k) h3 (spE_more _ _ k (by omega) (by omega))
theorem m_split (hP : PM σ0 P S σ) (hJ : IV true T U S) (hz : S 2281 74 = (l.length : Int)) (hl1 : l.length ≤ 100) (hb : byt l) (hl : ∀ i : Int, 0 ≤ i → i < l.length → S 2343 i = lg l i) : CL fb d 315 [vR (some 2281)] σ (fun r σ' => ∃ S2 : qR, r = none ∧ PM σ0 P S2 σ' ∧ IV true T U S2 ∧ SX lwR lwN S S2 ∧ LN S2 l) := by
  have hP0 := hP
  have hgo := fun (σ : hM) (hP : PM σ0 P (rU S 2281 77 0) σ) => m_split_loop (fb := fb) (d := d) (z := (l.length : Int)) (f := lg l) (S := S) ⟨by omega, by omega⟩ l.length 0 0 [] _ σ (by omega) (by decide) (by omega) (by decide) (Or.inl (by decide)) hP (hJ.uN 77 77 rfl (by show (0 : Int) ≤ 0 ∧ (0 : Int) ≤ 60; decide)) (SX_un SX_rfl rfl) hz hl ⟨rU_s, rfl, fun i hi => absurd hi (Nat.not_lt_zero i)⟩
  clear hP0
  refine CL_in mL_315 rfl ?_
  show WP fb _ 315 0 [some (vR (some 2281)), none] [] σ _
  refine x_lr (z := some 2281) T_315_0 rfl ?_
  refine x_ic T_315_1 ?_
  refine y_pIS hP T_315_2 F_17_77 77 rfl rfl (fun σ hP => ?_)
  refine x_ic T_315_5 ?_
  refine x_si (ls1 := [some (vR (some 2281)), some (vI 0)]) T_315_6 rfl ?_
  refine WP.mono (hgo σ hP) ?_
  rintro r σ1 ⟨S2, n2, a1, a2, a3, a4, a5⟩
  refine ⟨S2, a1, a2, a3, a4, (a4.1 74 rfl).trans hz, hl1, hb, fun i b1 b2 => (a4.2 _ _ rfl rfl).trans (hl i b1 b2), ?_, a5.2.2⟩
  rw [a5.1, a5.2.1]
  rfl
theorem m_packed_loop (hP : PM σ0 P S σ) (hL : LN S l) (hw : 0 ≤ w ∧ w < ((lnW l).length : Int)) (h8 : (lnB l w).length ≤ 8) (h0 : 0 < lg (lnB l w) 0) : ∀ (r : List Int) (k v : Int), k + r.length = ((lnB l w).length : Int) → 0 ≤ k → (∀ i : Nat, i < r.length → lg (lnB l w) (k + i) = r.getD i 0) → WP fb (d + 1) 317 5 [some (vR (some 2281)), some (vI w), some (vL v), none, some (vI k)] [] σ (rPL (pkV r v) σ) := by
  have hz := m_size (fb := fb) (d := d) hP hL hw
  have hlen := lnB_len hL.2.1 hw
  have hs0 := m_sign (fb := fb) (d := d) hP hL hw (k := 0) (by omega)
  obtain ⟨n, hn⟩ : ∃ n : Int, ((lnB l w).length : Int) = n := ⟨_, rfl⟩
  rw [hn] at hz
  intro r
  induction r with
  | nil =>
    intro k v h1 h2 h3
    have h1 : k + ((0 : Nat) : Int) = ((lnB l w).length : Int) := h1
    refine x_li (z := k) T_317_5 rfl ?_
    refine x_lr (z := some 2281) T_317_7 rfl ?_
    refine x_li (z := w) T_317_8 rfl ?_
    refine x_cv2 T_317_9 mN_318 mL_318 (Nat.le_of_ble_eq_true rfl) mO_318 (PM.t hP) (Nat.le_of_ble_eq_true rfl) (hz) ?_
    rintro _ σ ⟨rfl, rfl⟩
    refine cI ?_
    refine x_ic2 T_317_12 (fun _ => ?_) (fun h => absurd (show n ≤ k by omega) h)
    refine x_ll (z := v) T_317_54 rfl ?_
    refine x_rl T_317_55 ?_
    exact ⟨rfl, rfl⟩
  | cons x r ih =>
    intro k v h1 h2 h3
    have h1 : k + ((r.length + 1 : Nat) : Int) = ((lnB l w).length : Int) := h1
    have hx := h3 0 (by show 0 < r.length + 1; omega)
    rw [show k + ((0 : Nat) : Int) = k by omega] at hx
    have hx : lg (lnB l w) k = x := hx
    have hs := m_sign (fb := fb) (d := d) hP hL hw (k := k) (by omega)
    rw [hx] at hs
    have hgo := ih (k + 1) (or64 (shl64 v 8) x) (by omega) (by omega) (fun i hi => by
      have := h3 (i + 1) (by show i + 1 < r.length + 1; omega)
      rw [show k + ((i + 1 : Nat) : Int) = k + 1 + (i : Int) by omega] at this
      exact this)
    refine x_li (z := k) T_317_5 rfl ?_
    refine x_lr (z := some 2281) T_317_7 rfl ?_
    refine x_li (z := w) T_317_8 rfl ?_
    refine x_cv2 T_317_9 mN_318 mL_318 (Nat.le_of_ble_eq_true rfl) mO_318 (PM.t hP) (Nat.le_of_ble_eq_true rfl) (hz) ?_
    rintro _ σ ⟨rfl, rfl⟩
    refine cI ?_
    refine x_ic2 T_317_12 (fun h => absurd (show n ≤ k from h) (by omega)) (fun _ => ?_)
    refine x_lr (z := some 2281) T_317_15 rfl ?_
    refine x_li (z := w) T_317_16 rfl ?_
    refine x_cv2 T_317_17 mN_318 mL_318 (Nat.le_of_ble_eq_true rfl) mO_318 (PM.t hP) (Nat.le_of_ble_eq_true rfl) (hz) ?_
    rintro _ σ ⟨rfl, rfl⟩
    refine cI ?_
    refine x_ic T_317_20 ?_
    refine x_ic2 T_317_22 (fun h => absurd (show 8 < n from h) (by omega)) (fun _ => ?_)
    refine x_lr (z := some 2281) T_317_25 rfl ?_
    refine x_li (z := w) T_317_26 rfl ?_
    refine x_ic T_317_27 ?_
    refine x_cv3 T_317_28 mN_319 mL_319 (Nat.le_of_ble_eq_true rfl) mO_319 (PM.t hP) (Nat.le_of_ble_eq_true rfl) (hs0) ?_
    rintro _ σ ⟨rfl, rfl⟩
    refine cI ?_
    refine x_if T_317_31 (fun h => absurd (show (lg (lnB l w) 0) ≤ 0 from h) (by omega)) (fun _ => ?_)
    refine x_ll (z := v) T_317_34 rfl ?_
    refine x_ic T_317_35 ?_
    refine x_lh (w := (shl64 v 8)) T_317_37 rfl ?_
    refine x_lr (z := some 2281) T_317_38 rfl ?_
    refine x_li (z := w) T_317_39 rfl ?_
    refine x_li (z := k) T_317_40 rfl ?_
    refine x_cv3 T_317_42 mN_319 mL_319 (Nat.le_of_ble_eq_true rfl) mO_319 (PM.t hP) (Nat.le_of_ble_eq_true rfl) (hs) ?_
    rintro _ σ ⟨rfl, rfl⟩
    refine cI ?_
    refine x_i2l T_317_45 ?_
    refine x_lb (w := (or64 (shl64 v 8) x)) T_317_46 (fun h => absurd h.1 (by decide)) rfl ?_
    refine x_sl (ls1 := [some (vR (some 2281)), some (vI w), some (vL (or64 (shl64 v 8) x)), none, some (vI k)]) T_317_47 rfl ?_
    refine x_inc (w := (k + 1)) (ls1 := [some (vR (some 2281)), some (vI w), some (vL (or64 (shl64 v 8) x)), none, some (vI (k + 1))]) T_317_48 rfl (w32_id (by omega) (by omega)) rfl ?_
    refine x_goto T_317_51 ?_
    exact hgo
theorem m_packed (hP : PM σ0 P S σ) (hL : LN S l) (hw : 0 ≤ w ∧ w < ((lnW l).length : Int)) : CL fb (d + 1) 317 [vR (some 2281), vI w] σ (rPL (pkW (lnB l w)) σ) := by
  have hz := m_size (fb := fb) (d := d) hP hL hw
  have hlen := lnB_len hL.2.1 hw
  have hs0 := m_sign (fb := fb) (d := d) hP hL hw (k := 0) (by omega)
  obtain ⟨n, hn⟩ : ∃ n : Int, ((lnB l w).length : Int) = n := ⟨_, rfl⟩
  rw [hn] at hz
  unfold pkW
  by_cases q1 : (lnB l w).length ≤ 8
  · by_cases q2 : 0 < lg (lnB l w) 0
    · rw [if_pos ⟨q1, q2⟩]
      refine CL_in mL_317 rfl ?_
      show WP fb _ 317 0 [some (vR (some 2281)), some (vI w), none, none, none] [] σ _
      refine x_lc T_317_0 ?_
      refine x_sl (ls1 := [some (vR (some 2281)), some (vI w), some (vL 0), none, none]) T_317_1 rfl ?_
      refine x_ic T_317_2 ?_
      refine x_si (ls1 := [some (vR (some 2281)), some (vI w), some (vL 0), none, some (vI 0)]) T_317_3 rfl ?_
      exact m_packed_loop hP hL hw q1 q2 (lnB l w) 0 0 (by omega) (by decide) (fun i hi => by
        unfold lg
        rw [show ((0 : Int) + (i : Int)).toNat = i by omega])
    · rw [if_neg (fun c => q2 c.2)]
      refine CL_in mL_317 rfl ?_
      show WP fb _ 317 0 [some (vR (some 2281)), some (vI w), none, none, none] [] σ _
      refine x_lc T_317_0 ?_
      refine x_sl (ls1 := [some (vR (some 2281)), some (vI w), some (vL 0), none, none]) T_317_1 rfl ?_
      refine x_ic T_317_2 ?_
      refine x_si (ls1 := [some (vR (some 2281)), some (vI w), some (vL 0), none, some (vI 0)]) T_317_3 rfl ?_
      refine x_li (z := 0) T_317_5 rfl ?_
      refine x_lr (z := some 2281) T_317_7 rfl ?_
      refine x_li (z := w) T_317_8 rfl ?_
      refine x_cv2 T_317_9 mN_318 mL_318 (Nat.le_of_ble_eq_true rfl) mO_318 (PM.t hP) (Nat.le_of_ble_eq_true rfl) (hz) ?_
      rintro _ σ ⟨rfl, rfl⟩
      refine cI ?_
      refine x_ic2 T_317_12 (fun h => absurd (show n ≤ 0 from h) (by omega)) (fun _ => ?_)
      refine x_lr (z := some 2281) T_317_15 rfl ?_
      refine x_li (z := w) T_317_16 rfl ?_
      refine x_cv2 T_317_17 mN_318 mL_318 (Nat.le_of_ble_eq_true rfl) mO_318 (PM.t hP) (Nat.le_of_ble_eq_true rfl) (hz) ?_
      rintro _ σ ⟨rfl, rfl⟩
      refine cI ?_
      refine x_ic T_317_20 ?_
      refine x_ic2 T_317_22 (fun h => absurd (show 8 < n from h) (by omega)) (fun _ => ?_)
      refine x_lr (z := some 2281) T_317_25 rfl ?_
      refine x_li (z := w) T_317_26 rfl ?_
      refine x_ic T_317_27 ?_
      refine x_cv3 T_317_28 mN_319 mL_319 (Nat.le_of_ble_eq_true rfl) mO_319 (PM.t hP) (Nat.le_of_ble_eq_true rfl) (hs0) ?_
      rintro _ σ ⟨rfl, rfl⟩
      refine cI ?_
      refine x_if T_317_31 (fun _ => ?_) (fun h => absurd (show (lg (lnB l w) 0) ≤ 0 by omega) h)
      refine x_ll (z := 0) T_317_54 rfl ?_
      refine x_rl T_317_55 ?_
      exact ⟨rfl, rfl⟩
  · rw [if_neg (fun c => q1 c.1)]
    refine CL_in mL_317 rfl ?_
    show WP fb _ 317 0 [some (vR (some 2281)), some (vI w), none, none, none] [] σ _
    refine x_lc T_317_0 ?_
    refine x_sl (ls1 := [some (vR (some 2281)), some (vI w), some (vL 0), none, none]) T_317_1 rfl ?_
    refine x_ic T_317_2 ?_
    refine x_si (ls1 := [some (vR (some 2281)), some (vI w), some (vL 0), none, some (vI 0)]) T_317_3 rfl ?_
    refine x_li (z := 0) T_317_5 rfl ?_
    refine x_lr (z := some 2281) T_317_7 rfl ?_
    refine x_li (z := w) T_317_8 rfl ?_
    refine x_cv2 T_317_9 mN_318 mL_318 (Nat.le_of_ble_eq_true rfl) mO_318 (PM.t hP) (Nat.le_of_ble_eq_true rfl) (hz) ?_
    rintro _ σ ⟨rfl, rfl⟩
    refine cI ?_
    refine x_ic2 T_317_12 (fun h => absurd (show n ≤ 0 from h) (by omega)) (fun _ => ?_)
    refine x_lr (z := some 2281) T_317_15 rfl ?_
    refine x_li (z := w) T_317_16 rfl ?_
    refine x_cv2 T_317_17 mN_318 mL_318 (Nat.le_of_ble_eq_true rfl) mO_318 (PM.t hP) (Nat.le_of_ble_eq_true rfl) (hz) ?_
    rintro _ σ ⟨rfl, rfl⟩
    refine cI ?_
    refine x_ic T_317_20 ?_
    refine x_ic2 T_317_22 (fun _ => ?_) (fun h => absurd (show 8 < n by omega) h)
    refine x_ll (z := 0) T_317_54 rfl ?_
    refine x_rl T_317_55 ?_
    exact ⟨rfl, rfl⟩
end MLINE
