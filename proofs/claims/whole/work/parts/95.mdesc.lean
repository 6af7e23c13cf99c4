/-! Descriptors: free ones, users of an opening, close, read, write. -/
theorem T_356_0 : hTab 356 0 = some ((3, 0, 2, []), 1) := rfl
theorem T_356_1 : hTab 356 1 = some ((0, 0, 118, []), 3) := rfl
theorem T_356_3 : hTab 356 3 = some ((0, 0, 1, []), 4) := rfl
theorem T_356_4 : hTab 356 4 = some ((31, 228, 0, []), 7) := rfl
theorem T_356_7 : hTab 356 7 = some ((3, 0, 2, []), 8) := rfl
theorem T_356_8 : hTab 356 8 = some ((0, 0, 4, []), 9) := rfl
theorem T_356_9 : hTab 356 9 = some ((3, 1, 0, []), 10) := rfl
theorem T_356_10 : hTab 356 10 = some ((14, 0, 0, []), 11) := rfl
theorem T_356_11 : hTab 356 11 = some ((31, 229, 0, []), 14) := rfl
theorem T_356_14 : hTab 356 14 = some ((3, 0, 2, []), 15) := rfl
theorem T_356_15 : hTab 356 15 = some ((0, 0, 8, []), 17) := rfl
theorem T_356_17 : hTab 356 17 = some ((3, 2, 1, []), 18) := rfl
theorem T_356_18 : hTab 356 18 = some ((31, 229, 0, []), 21) := rfl
theorem T_356_21 : hTab 356 21 = some ((3, 0, 2, []), 22) := rfl
theorem T_356_22 : hTab 356 22 = some ((0, 0, 4, []), 23) := rfl
theorem T_356_23 : hTab 356 23 = some ((3, 4, 0, []), 25) := rfl
theorem T_356_25 : hTab 356 25 = some ((14, 0, 0, []), 26) := rfl
theorem T_356_26 : hTab 356 26 = some ((31, 229, 0, []), 29) := rfl
theorem T_356_29 : hTab 356 29 = some ((33, 0, 0, []), 30) := rfl
theorem T_357_0 : hTab 357 0 = some ((0, 0, 0, []), 1) := rfl
theorem T_357_1 : hTab 357 1 = some ((4, 2, 0, []), 2) := rfl
theorem T_357_2 : hTab 357 2 = some ((3, 2, 0, []), 3) := rfl
theorem T_357_3 : hTab 357 3 = some ((3, 0, 2, []), 4) := rfl
theorem T_357_4 : hTab 357 4 = some ((3, 1, 0, []), 5) := rfl
theorem T_357_5 : hTab 357 5 = some ((31, 318, 0, []), 8) := rfl
theorem T_357_8 : hTab 357 8 = some ((19, 3, Int.ofNat 29, []), 11) := rfl
theorem T_357_11 : hTab 357 11 = some ((3, 0, 2, []), 12) := rfl
theorem T_357_12 : hTab 357 12 = some ((0, 0, 1, []), 13) := rfl
theorem T_357_13 : hTab 357 13 = some ((3, 0, 2, []), 14) := rfl
theorem T_357_14 : hTab 357 14 = some ((3, 1, 0, []), 15) := rfl
theorem T_357_15 : hTab 357 15 = some ((3, 2, 0, []), 16) := rfl
theorem T_357_16 : hTab 357 16 = some ((31, 319, 0, []), 19) := rfl
theorem T_357_19 : hTab 357 19 = some ((14, 0, 0, []), 20) := rfl
theorem T_357_20 : hTab 357 20 = some ((31, 229, 0, []), 23) := rfl
theorem T_357_23 : hTab 357 23 = some ((5, 2, 1, []), 26) := rfl
theorem T_357_26 : hTab 357 26 = some ((22, 0, Int.ofNat 2, []), 29) := rfl
theorem T_357_29 : hTab 357 29 = some ((33, 0, 0, []), 30) := rfl
theorem T_380_0 : hTab 380 0 = some ((3, 0, 2, []), 1) := rfl
theorem T_380_1 : hTab 380 1 = some ((24, 17, Int.ofNat 57, []), 4) := rfl
theorem T_380_4 : hTab 380 4 = some ((0, 0, 8, []), 6) := rfl
theorem T_380_6 : hTab 380 6 = some ((3, 1, 0, []), 7) := rfl
theorem T_380_7 : hTab 380 7 = some ((10, 2, 0, []), 8) := rfl
theorem T_380_8 : hTab 380 8 = some ((3, 2, 0, []), 9) := rfl
theorem T_380_9 : hTab 380 9 = some ((10, 0, 0, []), 10) := rfl
theorem T_380_10 : hTab 380 10 = some ((26, 0, 0, []), 11) := rfl
theorem T_380_11 : hTab 380 11 = some ((4, 3, 0, []), 12) := rfl
theorem T_380_12 : hTab 380 12 = some ((3, 0, 2, []), 13) := rfl
theorem T_380_13 : hTab 380 13 = some ((24, 17, Int.ofNat 57, []), 16) := rfl
theorem T_380_16 : hTab 380 16 = some ((0, 0, 8, []), 18) := rfl
theorem T_380_18 : hTab 380 18 = some ((3, 1, 0, []), 19) := rfl
theorem T_380_19 : hTab 380 19 = some ((10, 2, 0, []), 20) := rfl
theorem T_380_20 : hTab 380 20 = some ((3, 2, 0, []), 21) := rfl
theorem T_380_21 : hTab 380 21 = some ((10, 0, 0, []), 22) := rfl
theorem T_380_22 : hTab 380 22 = some ((0, 0, (-1), []), 23) := rfl
theorem T_380_23 : hTab 380 23 = some ((27, 0, 0, []), 24) := rfl
theorem T_380_24 : hTab 380 24 = some ((3, 0, 2, []), 25) := rfl
theorem T_380_25 : hTab 380 25 = some ((3, 3, 0, []), 26) := rfl
theorem T_380_26 : hTab 380 26 = some ((31, 381, 0, []), 29) := rfl
theorem T_380_29 : hTab 380 29 = some ((18, 1, Int.ofNat 58, []), 32) := rfl
theorem T_380_32 : hTab 380 32 = some ((3, 0, 2, []), 33) := rfl
theorem T_380_33 : hTab 380 33 = some ((24, 17, Int.ofNat 60, []), 36) := rfl
theorem T_380_36 : hTab 380 36 = some ((3, 3, 0, []), 37) := rfl
theorem T_380_37 : hTab 380 37 = some ((0, 0, 0, []), 38) := rfl
theorem T_380_38 : hTab 380 38 = some ((27, 2, 0, []), 39) := rfl
theorem T_380_39 : hTab 380 39 = some ((3, 0, 2, []), 40) := rfl
theorem T_380_40 : hTab 380 40 = some ((0, 0, 120, []), 42) := rfl
theorem T_380_42 : hTab 380 42 = some ((3, 0, 2, []), 43) := rfl
theorem T_380_43 : hTab 380 43 = some ((24, 17, Int.ofNat 61, []), 46) := rfl
theorem T_380_46 : hTab 380 46 = some ((3, 3, 0, []), 47) := rfl
theorem T_380_47 : hTab 380 47 = some ((26, 0, 0, []), 48) := rfl
theorem T_380_48 : hTab 380 48 = some ((3, 0, 2, []), 49) := rfl
theorem T_380_49 : hTab 380 49 = some ((24, 17, Int.ofNat 62, []), 52) := rfl
theorem T_380_52 : hTab 380 52 = some ((3, 3, 0, []), 53) := rfl
theorem T_380_53 : hTab 380 53 = some ((26, 0, 0, []), 54) := rfl
theorem T_380_54 : hTab 380 54 = some ((31, 345, 0, []), 57) := rfl
theorem T_380_57 : hTab 380 57 = some ((33, 1, 0, []), 58) := rfl
theorem T_380_58 : hTab 380 58 = some ((0, 0, 0, []), 59) := rfl
theorem T_380_59 : hTab 380 59 = some ((33, 1, 0, []), 60) := rfl
theorem T_381_0 : hTab 381 0 = some ((0, 0, 0, []), 1) := rfl
theorem T_381_1 : hTab 381 1 = some ((4, 2, 0, []), 2) := rfl
theorem T_381_2 : hTab 381 2 = some ((0, 0, 0, []), 3) := rfl
theorem T_381_3 : hTab 381 3 = some ((4, 3, 0, []), 4) := rfl
theorem T_381_4 : hTab 381 4 = some ((3, 3, 0, []), 5) := rfl
theorem T_381_5 : hTab 381 5 = some ((0, 0, 64, []), 7) := rfl
theorem T_381_7 : hTab 381 7 = some ((19, 3, Int.ofNat 46, []), 10) := rfl
theorem T_381_10 : hTab 381 10 = some ((3, 0, 2, []), 11) := rfl
theorem T_381_11 : hTab 381 11 = some ((24, 17, Int.ofNat 50, []), 14) := rfl
theorem T_381_14 : hTab 381 14 = some ((3, 3, 0, []), 15) := rfl
theorem T_381_15 : hTab 381 15 = some ((0, 0, 8, []), 17) := rfl
theorem T_381_17 : hTab 381 17 = some ((10, 3, 0, []), 18) := rfl
theorem T_381_18 : hTab 381 18 = some ((26, 2, 0, []), 19) := rfl
theorem T_381_19 : hTab 381 19 = some ((18, 0, Int.ofNat 38, []), 22) := rfl
theorem T_381_22 : hTab 381 22 = some ((3, 0, 2, []), 23) := rfl
theorem T_381_23 : hTab 381 23 = some ((24, 17, Int.ofNat 57, []), 26) := rfl
theorem T_381_26 : hTab 381 26 = some ((3, 3, 0, []), 27) := rfl
theorem T_381_27 : hTab 381 27 = some ((26, 0, 0, []), 28) := rfl
theorem T_381_28 : hTab 381 28 = some ((3, 1, 0, []), 29) := rfl
theorem T_381_29 : hTab 381 29 = some ((19, 1, Int.ofNat 38, []), 32) := rfl
theorem T_381_32 : hTab 381 32 = some ((3, 2, 0, []), 33) := rfl
theorem T_381_33 : hTab 381 33 = some ((0, 0, 1, []), 34) := rfl
theorem T_381_34 : hTab 381 34 = some ((10, 0, 0, []), 35) := rfl
theorem T_381_35 : hTab 381 35 = some ((22, 0, Int.ofNat 39, []), 38) := rfl
theorem T_381_38 : hTab 381 38 = some ((3, 2, 0, []), 39) := rfl
theorem T_381_39 : hTab 381 39 = some ((4, 2, 0, []), 40) := rfl
theorem T_381_40 : hTab 381 40 = some ((5, 3, 1, []), 43) := rfl
theorem T_381_43 : hTab 381 43 = some ((22, 0, Int.ofNat 4, []), 46) := rfl
theorem T_381_46 : hTab 381 46 = some ((3, 2, 0, []), 47) := rfl
theorem T_381_47 : hTab 381 47 = some ((33, 1, 0, []), 48) := rfl
theorem T_393_0 : hTab 393 0 = some ((0, 0, 0, []), 1) := rfl
theorem T_393_1 : hTab 393 1 = some ((4, 2, 0, []), 2) := rfl
theorem T_393_2 : hTab 393 2 = some ((3, 2, 0, []), 3) := rfl
theorem T_393_3 : hTab 393 3 = some ((0, 0, 8, []), 5) := rfl
theorem T_393_5 : hTab 393 5 = some ((19, 3, Int.ofNat 30, []), 8) := rfl
theorem T_393_8 : hTab 393 8 = some ((3, 0, 2, []), 9) := rfl
theorem T_393_9 : hTab 393 9 = some ((24, 17, Int.ofNat 57, []), 12) := rfl
theorem T_393_12 : hTab 393 12 = some ((0, 0, 8, []), 14) := rfl
theorem T_393_14 : hTab 393 14 = some ((3, 1, 0, []), 15) := rfl
theorem T_393_15 : hTab 393 15 = some ((10, 2, 0, []), 16) := rfl
theorem T_393_16 : hTab 393 16 = some ((3, 2, 0, []), 17) := rfl
theorem T_393_17 : hTab 393 17 = some ((10, 0, 0, []), 18) := rfl
theorem T_393_18 : hTab 393 18 = some ((26, 0, 0, []), 19) := rfl
theorem T_393_19 : hTab 393 19 = some ((18, 3, Int.ofNat 24, []), 22) := rfl
theorem T_393_22 : hTab 393 22 = some ((3, 2, 0, []), 23) := rfl
theorem T_393_23 : hTab 393 23 = some ((33, 1, 0, []), 24) := rfl
theorem T_393_24 : hTab 393 24 = some ((5, 2, 1, []), 27) := rfl
theorem T_393_27 : hTab 393 27 = some ((22, 0, Int.ofNat 2, []), 30) := rfl
theorem T_393_30 : hTab 393 30 = some ((0, 0, (-1), []), 31) := rfl
theorem T_393_31 : hTab 393 31 = some ((33, 1, 0, []), 32) := rfl
theorem F_17_60 : (hFd 17 60).2.2.1 = 4 := rfl
theorem F_17_61 : (hFd 17 61).2.2.1 = 4 := rfl
theorem F_17_62 : (hFd 17 62).2.2.1 = 4 := rfl
theorem mN_356 : hmN 356 = 4 := by decide +kernel
theorem mL_356 : hmL 356 = 5 := by decide +kernel
theorem mK_356 : hmK 356 = 1 := by decide +kernel
theorem mO_356 : hmO 356 = 17 := by decide +kernel
theorem mN_357 : hmN 357 = 2 := by decide +kernel
theorem mL_357 : hmL 357 = 3 := by decide +kernel
theorem mK_357 : hmK 357 = 1 := by decide +kernel
theorem mO_357 : hmO 357 = 17 := by decide +kernel
theorem mN_380 : hmN 380 = 3 := by decide +kernel
theorem mL_380 : hmL 380 = 4 := by decide +kernel
theorem mK_380 : hmK 380 = 1 := by decide +kernel
theorem mO_380 : hmO 380 = 17 := by decide +kernel
theorem mN_381 : hmN 381 = 2 := by decide +kernel
theorem mL_381 : hmL 381 = 4 := by decide +kernel
theorem mK_381 : hmK 381 = 1 := by decide +kernel
theorem mO_381 : hmO 381 = 17 := by decide +kernel
theorem mN_393 : hmN 393 = 2 := by decide +kernel
theorem mL_393 : hmL 393 = 3 := by decide +kernel
theorem mK_393 : hmK 393 = 1 := by decide +kernel
theorem mO_393 : hmO 393 = 17 := by decide +kernel
def fdR (P : qR) (p : Int) : Nat → Int → Int
  | 0, _ => -1
  | m + 1, k => if P 2327 (8 * p + k) < 0 then k else fdR P p m (k + 1)
/-- the least free descriptor, or -1 -/
def qFd (P : qR) (p : Int) : Int := fdR P p 8 0
def usR (P : qR) (o : Int) : Nat → Int → Int → Int
  | 0, _, n => n
  | m + 1, k, n => usR P o m (k + 1) (if ¬ P 2320 (k / 8) = 0 ∧ P 2327 k = o then n + 1 else n)
def qUsers (P : qR) (o : Int) : Int := usR P o 64 0 0
def gCl (P : qR) (p k : Int) : qR := rU P 2327 (8 * p + k) (-1)
def gCl2 (P : qR) (p k : Int) : qR := rU (gCl P p k) 2330 (P 2327 (8 * p + k)) 0
def cClE (P : qR) (p k : Int) : Int := if qUsers (gCl P p k) (P 2327 (8 * p + k)) = 0 then tE (gCl2 P p k) (P 2331 (P 2327 (8 * p + k))) (mOne 120 (P 2332 (P 2327 (8 * p + k)))) else 0
def cClP (P : qR) (p k : Int) : qR := if qUsers (gCl P p k) (P 2327 (8 * p + k)) = 0 then tP (gCl2 P p k) (P 2331 (P 2327 (8 * p + k))) (mOne 120 (P 2332 (P 2327 (8 * p + k)))) else gCl P p k
def mWr (f off : Int) (l : List Int) : List Int := leb 1 118 ++ leb 2 1 ++ leb 4 f ++ leb 8 off ++ leb 4 (l.length : Int) ++ l
/-- a write of a word -/
def cWrt (P : qR) (p dd : Int) (wd : List Int) : Int × qR := if dd < 0 then (18, P) else if P 2327 (8 * p + dd) < 0 then (19, P) else (tE P (P 2331 (P 2327 (8 * p + dd))) (mWr (P 2332 (P 2327 (8 * p + dd))) (P 2333 (P 2327 (8 * p + dd))) wd), rU (tP P (P 2331 (P 2327 (8 * p + dd))) (mWr (P 2332 (P 2327 (8 * p + dd))) (P 2333 (P 2327 (8 * p + dd))) wd)) 2333 (P 2327 (8 * p + dd)) (P 2333 (P 2327 (8 * p + dd)) + if 0 < tE P (P 2331 (P 2327 (8 * p + dd))) (mWr (P 2332 (P 2327 (8 * p + dd))) (P 2333 (P 2327 (8 * p + dd))) wd) then 0 else (wd.length : Int)))
section MDESC
variable {fb : Bool} {d : Nat} {σ0 σ : hM} {P Q R S S1 S2 : qR} {T U s w g u p k e t z o thr pt : Int} {l nm wd : List Int} {h : List Ch} {a f : Int → Int} {x : Int × Int} {c : Ch}
theorem fdR_rng : ∀ (m : Nat) (k : Int), fdR P p m k = -1 ∨ (k ≤ fdR P p m k ∧ fdR P p m k < k + m ∧ P 2327 (8 * p + fdR P p m k) < 0)
  | 0, _ => Or.inl rfl
  | m + 1, k => by
    unfold fdR
    split
    · rename_i q
      exact Or.inr ⟨by omega, by omega, q⟩
    · rcases fdR_rng m (k + 1) with q | q
      · exact Or.inl q
      · exact Or.inr ⟨by omega, by omega, q.2.2⟩
theorem m_freeDescriptor_loop (hP : PM σ0 P S σ) (hp : 0 ≤ p ∧ p < 8) : ∀ (m : Nat) (k : Int), k + m = 8 → 0 ≤ k → WP fb d 393 2 [some (vR (some 2281)), some (vI p), some (vI k)] [] σ (rP (fdR P p m k) σ) := by
  intro m
  induction m with
  | zero =>
    intro k h1 h2
    refine x_li (z := k) T_393_2 rfl ?_
    refine x_ic T_393_3 ?_
    refine x_ic2 T_393_5 (fun _ => ?_) (fun h => absurd (show 8 ≤ k by omega) h)
    refine x_ic T_393_30 ?_
    refine x_ri T_393_31 ?_
    exact ⟨rfl, rfl⟩
  | succ m ih =>
    intro k h1 h2
    rw [show fdR P p (m + 1) k = if P 2327 (8 * p + k) < 0 then k else fdR P p m (k + 1) from rfl]
    refine x_li (z := k) T_393_2 rfl ?_
    refine x_ic T_393_3 ?_
    refine x_ic2 T_393_5 (fun h => absurd (show 8 ≤ k from h) (by omega)) (fun _ => ?_)
    refine x_lr (z := some 2281) T_393_8 rfl ?_
    refine x_gR (z := some 2327) T_393_9 F_17_57 (PM.t hP) (PM.r hP 57 2327 rfl) ?_
    refine x_ic T_393_12 ?_
    refine x_li (z := p) T_393_14 rfl ?_
    refine x_ib (w := (8 * p)) T_393_15 (fun h => absurd h.1 (by decide)) (w32_id (by omega) (by omega)) ?_
    refine x_li (z := k) T_393_16 rfl ?_
    refine x_ib (w := ((8 * p) + k)) T_393_17 (fun h => absurd h.1 (by decide)) (w32_id (by omega) (by omega)) ?_
    refine x_alI (z := P 2327 ((8 * p) + k)) T_393_18 (by decide) (PM.ta hP 2327 0 64 rfl rfl) (by omega) (by omega) (PM.aP hP 2327 rfl rfl (by omega)) ?_
    refine x_if T_393_19 (fun h19 => ?_) (fun h19 => ?_)
    · replace h19 : 0 ≤ P 2327 ((8 * p) + k) := h19
      refine x_inc (w := (k + 1)) (ls1 := [some (vR (some 2281)), some (vI p), some (vI (k + 1))]) T_393_24 rfl (w32_id (by omega) (by omega)) rfl ?_
      refine x_goto T_393_27 ?_
      rw [if_neg (by omega)]
      exact ih (k + 1) (by omega) (by omega)
    · replace h19 : ¬ (0 ≤ P 2327 ((8 * p) + k)) := h19
      refine x_li (z := k) T_393_22 rfl ?_
      refine x_ri T_393_23 ?_
      exact ⟨by rw [if_pos (by omega)], rfl⟩
theorem m_freeDescriptor (hP : PM σ0 P S σ) (hp : 0 ≤ p ∧ p < 8) : CL fb d 393 [vR (some 2281), vI p] σ (rP (qFd P p) σ) := by
  refine CL_in mL_393 rfl ?_
  show WP fb _ 393 0 [some (vR (some 2281)), some (vI p), none] [] σ _
  refine x_ic T_393_0 ?_
  refine x_si (ls1 := [some (vR (some 2281)), some (vI p), some (vI 0)]) T_393_1 rfl ?_
  exact m_freeDescriptor_loop hP hp 8 0 (by decide) (by decide)
theorem m_usersOf_loop (hP : PM σ0 P S σ) : ∀ (m : Nat) (k n : Int), k + m = 64 → 0 ≤ k → 0 ≤ n → n ≤ k → WP fb d 381 4 [some (vR (some 2281)), some (vI o), some (vI n), some (vI k)] [] σ (rP (usR P o m k n) σ) := by
  intro m
  induction m with
  | zero =>
    intro k n h1 h2 h3 h4
    refine x_li (z := k) T_381_4 rfl ?_
    refine x_ic T_381_5 ?_
    refine x_ic2 T_381_7 (fun _ => ?_) (fun h => absurd (show 64 ≤ k by omega) h)
    refine x_li (z := n) T_381_46 rfl ?_
    refine x_ri T_381_47 ?_
    exact ⟨rfl, rfl⟩
  | succ m ih =>
    intro k n h1 h2 h3 h4
    rw [show usR P o (m + 1) k n = usR P o m (k + 1) (if ¬ P 2320 (k / 8) = 0 ∧ P 2327 k = o then n + 1 else n) from rfl]
    refine x_li (z := k) T_381_4 rfl ?_
    refine x_ic T_381_5 ?_
    refine x_ic2 T_381_7 (fun h => absurd (show 64 ≤ k from h) (by omega)) (fun _ => ?_)
    refine x_lr (z := some 2281) T_381_10 rfl ?_
    refine x_gR (z := some 2320) T_381_11 F_17_50 (PM.t hP) (PM.r hP 50 2320 rfl) ?_
    refine x_li (z := k) T_381_14 rfl ?_
    refine x_ic T_381_15 ?_
    refine x_ib (w := (k / 8)) T_381_17 (fun h => absurd h.2 (by decide)) (div32_n (by omega) (by decide) (by decide)) ?_
    refine x_alI (z := P 2320 (k / 8)) T_381_18 (by decide) (PM.ta hP 2320 2 8 rfl rfl) (by omega) (by omega) (PM.aP hP 2320 rfl rfl (by omega)) ?_
    refine x_if T_381_19 (fun h19 => ?_) (fun h19 => ?_)
    · replace h19 : P 2320 (k / 8) = 0 := h19
      refine x_li (z := n) T_381_38 rfl ?_
      refine x_si (ls1 := [some (vR (some 2281)), some (vI o), some (vI n), some (vI k)]) T_381_39 rfl ?_
      refine x_inc (w := (k + 1)) (ls1 := [some (vR (some 2281)), some (vI o), some (vI n), some (vI (k + 1))]) T_381_40 rfl (w32_id (by omega) (by omega)) rfl ?_
      refine x_goto T_381_43 ?_
      first
        | (rw [if_pos (by omega)]; exact ih (k + 1) (n + 1) (by omega) (by omega) (by omega) (by omega))
        | (rw [if_neg (by omega)]; exact ih (k + 1) n (by omega) (by omega) (by omega) (by omega))
    · replace h19 : ¬ (P 2320 (k / 8) = 0) := h19
      refine x_lr (z := some 2281) T_381_22 rfl ?_
      refine x_gR (z := some 2327) T_381_23 F_17_57 (PM.t hP) (PM.r hP 57 2327 rfl) ?_
      refine x_li (z := k) T_381_26 rfl ?_
      refine x_alI (z := P 2327 k) T_381_27 (by decide) (PM.ta hP 2327 0 64 rfl rfl) (by omega) (by omega) (PM.aP hP 2327 rfl rfl (by omega)) ?_
      refine x_li (z := o) T_381_28 rfl ?_
      refine x_ic2 T_381_29 (fun h29 => ?_) (fun h29 => ?_)
      · replace h29 : ¬ P 2327 k = o := h29
        refine x_li (z := n) T_381_38 rfl ?_
        refine x_si (ls1 := [some (vR (some 2281)), some (vI o), some (vI n), some (vI k)]) T_381_39 rfl ?_
        refine x_inc (w := (k + 1)) (ls1 := [some (vR (some 2281)), some (vI o), some (vI n), some (vI (k + 1))]) T_381_40 rfl (w32_id (by omega) (by omega)) rfl ?_
        refine x_goto T_381_43 ?_
        first
          | (rw [if_pos (by omega)]; exact ih (k + 1) (n + 1) (by omega) (by omega) (by omega) (by omega))
          | (rw [if_neg (by omega)]; exact ih (k + 1) n (by omega) (by omega) (by omega) (by omega))
      · replace h29 : ¬ (¬ P 2327 k = o) := h29
        refine x_li (z := n) T_381_32 rfl ?_
        refine x_ic T_381_33 ?_
        refine x_ib (w := (n + 1)) T_381_34 (fun h => absurd h.1 (by decide)) (w32_id (by omega) (by omega)) ?_
        refine x_goto T_381_35 ?_
        refine x_si (ls1 := [some (vR (some 2281)), some (vI o), some (vI (n + 1)), some (vI k)]) T_381_39 rfl ?_
        refine x_inc (w := (k + 1)) (ls1 := [some (vR (some 2281)), some (vI o), some (vI (n + 1)), some (vI (k + 1))]) T_381_40 rfl (w32_id (by omega) (by omega)) rfl ?_
        refine x_goto T_381_43 ?_
        first
          | (rw [if_pos (by omega)]; exact ih (k + 1) (n + 1) (by omega) (by omega) (by omega) (by omega))
          | (rw [if_neg (by omega)]; exact ih (k + 1) n (by omega) (by omega) (by omega) (by omega))
theorem m_usersOf (hP : PM σ0 P S σ) : CL fb d 381 [vR (some 2281), vI o] σ (rP (qUsers P o) σ) := by
  refine CL_in mL_381 rfl ?_
  show WP fb _ 381 0 [some (vR (some 2281)), some (vI o), none, none] [] σ _
  refine x_ic T_381_0 ?_
  refine x_si (ls1 := [some (vR (some 2281)), some (vI o), some (vI 0), none]) T_381_1 rfl ?_
  refine x_ic T_381_2 ?_
  refine x_si (ls1 := [some (vR (some 2281)), some (vI o), some (vI 0), some (vI 0)]) T_381_3 rfl ?_
  exact m_usersOf_loop hP 64 0 0 (by decide) (by decide) (by decide) (by decide)
theorem GI_gCl (h : GI T U P) (hp : 0 ≤ p ∧ p < 8) : GI T U (gCl P p k) := GI_one (f := 2327) (ty := 0) (len := 64) h rfl (show (-1 : Int) ≤ -1 ∧ (-1 : Int) ≤ 63 by decide) rfl rfl rfl rfl rfl rfl rfl rfl rfl (by decide) (by decide)
theorem PTS_gCl (h : PTS P) : PTS (gCl P p k) := h.row (fun _ => rU_f (by decide)) (fun _ => rU_f (by decide))
theorem m_close (hP : PM σ0 P S σ) (hK : KS T U P S l h) (hp : 0 ≤ p ∧ p < 8) (hk : 0 ≤ k ∧ k < 8) (hT : T + 49 ≤ 2147483000) (ho : 0 ≤ P 2327 (8 * p + k)) : CL fb (d + 12) 380 [vR (some 2281), vI p, vI k] σ (KC (T + 4) U σ0 S l (cClE P p k) (cClP P p k) h) := by
  obtain ⟨hG, hPT, hJ, hh, hL⟩ := hK
  have bo : -1 ≤ P 2327 (8 * p + k) ∧ P 2327 (8 * p + k) ≤ 63 := IV.a hG.iv 2327 0 64 rfl rfl rfl (by omega) (by omega)
  obtain ⟨o, ho0⟩ : ∃ o, P 2327 (8 * p + k) = o := ⟨_, rfl⟩
  have hus := fun (σ : hM) (hP : PM σ0 (gCl P p k) S σ) => m_usersOf (fb := fb) (d := d + 11) (o := o) hP
  unfold cClE cClP
  rw [ho0] at bo ho ⊢
  obtain ⟨n, hn⟩ : ∃ n, qUsers (gCl P p k) o = n := ⟨_, rfl⟩
  rw [hn] at hus ⊢
  have hG1 := GI_gCl (k := k) hG hp
  have b1 : 0 ≤ P 2331 o ∧ P 2331 o ≤ 2 := IV.a hG.iv 2331 0 64 rfl rfl rfl (by omega) (by omega)
  have b2 : 0 ≤ P 2332 o ∧ P 2332 o ≤ 47 := IV.a hG.iv 2332 0 64 rfl rfl rfl (by omega) (by omega)
  by_cases q : n = 0
  · rw [if_pos q, if_pos q]
    have e2 : rU (gCl P p k) 2330 o 0 = gCl2 P p k := by unfold gCl2; rw [ho0]
    have hG2 : GI T U (gCl2 P p k) := by
      rw [← e2]
      exact GI_one (f := 2330) (ty := 2) (len := 64) hG1 rfl (show (0 : Int) ≤ 0 ∧ (0 : Int) ≤ 1 by decide) rfl rfl rfl rfl rfl rfl rfl rfl rfl (by decide) (by decide)
    have hPT2 : PTS (gCl2 P p k) := by
      rw [← e2]
      exact (PTS_gCl hPT).row (fun _ => rU_f (by decide)) (fun _ => rU_f (by decide))
    have hK2 : KS T U (gCl2 P p k) S l h := ⟨hG2, hPT2, hJ, hh, hL⟩
    have hone := fun (σ : hM) (hP : PM σ0 (rU (gCl P p k) 2330 o 0) S σ) => g_askOne (fb := fb) (d := d) (σ := σ) (s := P 2331 o) (f := P 2332 o) (t := 120) (by rw [e2] at hP; exact hP) hJ hG2 hT (by omega) (Or.inl rfl)
    refine CL_in mL_380 rfl ?_
    show WP fb _ 380 0 [some (vR (some 2281)), some (vI p), some (vI k), none] [] σ _
    refine x_lr (z := some 2281) T_380_0 rfl ?_
    refine x_gR (z := some 2327) T_380_1 F_17_57 (PM.t hP) (PM.r hP 57 2327 rfl) ?_
    refine x_ic T_380_4 ?_
    refine x_li (z := p) T_380_6 rfl ?_
    refine x_ib (w := (8 * p)) T_380_7 (fun h => absurd h.1 (by decide)) (w32_id (by omega) (by omega)) ?_
    refine x_li (z := k) T_380_8 rfl ?_
    refine x_ib (w := ((8 * p) + k)) T_380_9 (fun h => absurd h.1 (by decide)) (w32_id (by omega) (by omega)) ?_
    refine x_alI (z := o) T_380_10 (by decide) (PM.ta hP 2327 0 64 rfl rfl) (by omega) (by omega) (Eq.trans (PM.aP hP 2327 rfl rfl (by omega)) ho0) ?_
    refine x_si (ls1 := [some (vR (some 2281)), some (vI p), some (vI k), some (vI o)]) T_380_11 rfl ?_
    refine x_lr (z := some 2281) T_380_12 rfl ?_
    refine x_gR (z := some 2327) T_380_13 F_17_57 (PM.t hP) (PM.r hP 57 2327 rfl) ?_
    refine x_ic T_380_16 ?_
    refine x_li (z := p) T_380_18 rfl ?_
    refine x_ib (w := (8 * p)) T_380_19 (fun h => absurd h.1 (by decide)) (w32_id (by omega) (by omega)) ?_
    refine x_li (z := k) T_380_20 rfl ?_
    refine x_ib (w := ((8 * p) + k)) T_380_21 (fun h => absurd h.1 (by decide)) (w32_id (by omega) (by omega)) ?_
    refine x_ic T_380_22 ?_
    refine y_aIP hP T_380_23 2327 64 rfl rfl rfl (by omega) (by omega) (fun σ hP => ?_)
    have hP : PM σ0 (gCl P p k) S σ := hP
    have r1 : rU (gCl P p k) 2330 o 0 2331 o = P 2331 o := (rU_f (by decide)).trans (rU_f (by decide))
    have r2 : rU (gCl P p k) 2330 o 0 2332 o = P 2332 o := (rU_f (by decide)).trans (rU_f (by decide))
    refine x_lr (z := some 2281) T_380_24 rfl ?_
    refine x_li (z := o) T_380_25 rfl ?_
    refine x_cv2 T_380_26 mN_381 mL_381 (Nat.le_of_ble_eq_true rfl) mO_381 (PM.t hP) (Nat.le_of_ble_eq_true rfl) (hus σ hP) ?_
    rintro _ σ ⟨rfl, rfl⟩
    refine cI ?_
    refine x_if T_380_29 (fun h => absurd (show ¬ n = 0 from h) (by exact fun z => z q)) (fun _ => ?_)
    refine x_lr (z := some 2281) T_380_32 rfl ?_
    refine x_gR (z := some 2330) T_380_33 F_17_60 (PM.t hP) (PM.r hP 60 2330 rfl) ?_
    refine x_li (z := o) T_380_36 rfl ?_
    refine x_ic T_380_37 ?_
    refine y_aZP hP T_380_38 rfl 2330 64 rfl rfl rfl (by omega) (by omega) (fun σ hP => ?_)
    refine x_lr (z := some 2281) T_380_39 rfl ?_
    refine x_ic T_380_40 ?_
    refine x_lr (z := some 2281) T_380_42 rfl ?_
    refine x_gR (z := some 2331) T_380_43 F_17_61 (PM.t hP) (PM.r hP 61 2331 rfl) ?_
    refine x_li (z := o) T_380_46 rfl ?_
    refine x_alI (z := (gCl P p k) 2331 o) T_380_47 (by decide) (PM.ta hP 2331 0 64 rfl rfl) (by omega) (by omega) (Eq.trans (PM.aP hP 2331 rfl rfl (by omega)) (rU_f (Nat.ne_of_beq_eq_false rfl))) ?_
    refine x_lr (z := some 2281) T_380_48 rfl ?_
    refine x_gR (z := some 2332) T_380_49 F_17_62 (PM.t hP) (PM.r hP 62 2332 rfl) ?_
    refine x_li (z := o) T_380_52 rfl ?_
    refine x_alI (z := (gCl P p k) 2332 o) T_380_53 (by decide) (PM.ta hP 2332 0 64 rfl rfl) (by omega) (by omega) (Eq.trans (PM.aP hP 2332 rfl rfl (by omega)) (rU_f (Nat.ne_of_beq_eq_false rfl))) ?_
    rw [show gCl P p k 2331 o = P 2331 o from rU_f (by decide), show gCl P p k 2332 o = P 2332 o from rU_f (by decide)]
    refine x_cv4 T_380_54 mN_345 mL_345 (Nat.le_of_ble_eq_true rfl) mO_345 (PM.t hP) (Nat.le_of_ble_eq_true rfl) (hone σ hP) ?_
    clear hP
    intro r σ hr
    obtain ⟨S3, rfl, hP, hK3, hX3, -⟩ := hK2.ask (T1 := T + 4) (by omega) hr
    refine cI ?_
    refine x_ri T_380_57 ?_
    exact ⟨S3, rfl, hP, hK3, hX3⟩
  · rw [if_neg q, if_neg q]
    refine CL_in mL_380 rfl ?_
    show WP fb _ 380 0 [some (vR (some 2281)), some (vI p), some (vI k), none] [] σ _
    refine x_lr (z := some 2281) T_380_0 rfl ?_
    refine x_gR (z := some 2327) T_380_1 F_17_57 (PM.t hP) (PM.r hP 57 2327 rfl) ?_
    refine x_ic T_380_4 ?_
    refine x_li (z := p) T_380_6 rfl ?_
    refine x_ib (w := (8 * p)) T_380_7 (fun h => absurd h.1 (by decide)) (w32_id (by omega) (by omega)) ?_
    refine x_li (z := k) T_380_8 rfl ?_
    refine x_ib (w := ((8 * p) + k)) T_380_9 (fun h => absurd h.1 (by decide)) (w32_id (by omega) (by omega)) ?_
    refine x_alI (z := o) T_380_10 (by decide) (PM.ta hP 2327 0 64 rfl rfl) (by omega) (by omega) (Eq.trans (PM.aP hP 2327 rfl rfl (by omega)) ho0) ?_
    refine x_si (ls1 := [some (vR (some 2281)), some (vI p), some (vI k), some (vI o)]) T_380_11 rfl ?_
    refine x_lr (z := some 2281) T_380_12 rfl ?_
    refine x_gR (z := some 2327) T_380_13 F_17_57 (PM.t hP) (PM.r hP 57 2327 rfl) ?_
    refine x_ic T_380_16 ?_
    refine x_li (z := p) T_380_18 rfl ?_
    refine x_ib (w := (8 * p)) T_380_19 (fun h => absurd h.1 (by decide)) (w32_id (by omega) (by omega)) ?_
    refine x_li (z := k) T_380_20 rfl ?_
    refine x_ib (w := ((8 * p) + k)) T_380_21 (fun h => absurd h.1 (by decide)) (w32_id (by omega) (by omega)) ?_
    refine x_ic T_380_22 ?_
    refine y_aIP hP T_380_23 2327 64 rfl rfl rfl (by omega) (by omega) (fun σ hP => ?_)
    have hP : PM σ0 (gCl P p k) S σ := hP
    refine x_lr (z := some 2281) T_380_24 rfl ?_
    refine x_li (z := o) T_380_25 rfl ?_
    refine x_cv2 T_380_26 mN_381 mL_381 (Nat.le_of_ble_eq_true rfl) mO_381 (PM.t hP) (Nat.le_of_ble_eq_true rfl) (hus σ hP) ?_
    rintro _ σ ⟨rfl, rfl⟩
    refine cI ?_
    refine x_if T_380_29 (fun _ => ?_) (fun h => absurd (show ¬ n = 0 by exact q) h)
    refine x_ic T_380_58 ?_
    refine x_ri T_380_59 ?_
    exact ⟨S, rfl, hP, ⟨hG1.mono (by omega), PTS_gCl hPT, hJ.mono (by omega) (Int.le_refl U), hh, hL⟩, SX_rfl⟩
theorem mWr_len {fd off : Int} : ((mWr fd off wd).length : Int) = 19 + wd.length := by
  unfold mWr
  rw [List.length_append]
  show ((19 + wd.length : Nat) : Int) = _
  omega
theorem mWr_0 {fd off : Int} : lg (mWr fd off wd) 0 = 118 := rfl
theorem r_beginWrite {fd off n : Int} (hP : PM σ0 P S σ) (hJ : IV true T U S) : CL fb (d + 2) 356 [vR (some 2281), vI fd, vL off, vI n] σ (rQ T U σ0 P S 23 (leb 1 118 ++ leb 2 1 ++ leb 4 fd ++ leb 8 off ++ leb 4 n)) := by
  refine CL_in mL_356 rfl ?_
  show WP fb _ 356 0 [some (vR (some 2281)), some (vI fd), some (vL off), none, some (vI n)] [] σ _
  refine x_lr (z := some 2281) T_356_0 rfl ?_
  refine x_ic T_356_1 ?_
  refine x_ic T_356_3 ?_
  refine x_cv3 T_356_4 mN_228 mL_228 (Nat.le_of_ble_eq_true rfl) mO_228 (PM.t hP) (Nat.le_of_ble_eq_true rfl) (r_begin hP hJ) ?_
  rintro _ σ ⟨rfl, S1, hP, hQ⟩
  refine cV ?_
  refine x_lr (z := some 2281) T_356_7 rfl ?_
  refine x_ic T_356_8 ?_
  refine x_li (z := fd) T_356_9 rfl ?_
  refine x_i2l T_356_10 ?_
  refine x_cv3 T_356_11 mN_229 mL_229 (Nat.le_of_ble_eq_true rfl) mO_229 (PM.t hP) (Nat.le_of_ble_eq_true rfl) (r_askPut 4 rfl hP hQ (by decide) (by omega)) ?_
  rintro _ σ ⟨rfl, S1, hP, hQ⟩
  refine cV ?_
  refine x_lr (z := some 2281) T_356_14 rfl ?_
  refine x_ic T_356_15 ?_
  refine x_ll (z := off) T_356_17 rfl ?_
  refine x_cv3 T_356_18 mN_229 mL_229 (Nat.le_of_ble_eq_true rfl) mO_229 (PM.t hP) (Nat.le_of_ble_eq_true rfl) (r_askPut 8 rfl hP hQ (by decide) (by omega)) ?_
  rintro _ σ ⟨rfl, S1, hP, hQ⟩
  refine cV ?_
  refine x_lr (z := some 2281) T_356_21 rfl ?_
  refine x_ic T_356_22 ?_
  refine x_li (z := n) T_356_23 rfl ?_
  refine x_i2l T_356_25 ?_
  refine x_cv3 T_356_26 mN_229 mL_229 (Nat.le_of_ble_eq_true rfl) mO_229 (PM.t hP) (Nat.le_of_ble_eq_true rfl) (r_askPut 4 rfl hP hQ (by decide) (by omega)) ?_
  rintro _ σ ⟨rfl, S1, hP, hQ⟩
  refine cV ?_
  refine x_rv T_356_29 ?_
  exact ⟨rfl, S1, hP, hQ⟩
theorem LN.rq (hL : LN S l) {lq : List Int} {w0 : Int} (hQ : RQ T U S S1 w0 lq) : LN S1 l := hL.of (hQ.2.2.2.2.2.2.1 _ (by decide)) (hQ.2.2.2.2.2.2.1 _ (by decide)) (fun _ => hQ.2.2.2.2.2.1 _ _ (by decide) (by decide)) (fun _ => hQ.2.2.2.2.2.1 _ _ (by decide) (by decide)) (fun _ => hQ.2.2.2.2.2.1 _ _ (by decide) (by decide))
theorem r_putWord_loop {w0 : Int} {lq : List Int} (hL : LN S l) (hw : 0 ≤ w ∧ w < ((lnW l).length : Int)) (hw0 : w0 + ((lnB l w).length : Int) ≤ 420) : ∀ (m : Nat) (k : Int) (σ : hM) (S1 : qR), k + m = ((lnB l w).length : Int) → 0 ≤ k → PM σ0 P S1 σ → RQ T U S S1 (w0 + k) (lq ++ seg (lg (lnB l w)) 0 k.toNat) → WP fb (d + 1) 357 2 [some (vR (some 2281)), some (vI w), some (vI k)] [] σ (rQ T U σ0 P S (w0 + ((lnB l w).length : Int)) (lq ++ lnB l w)) := by
  have hlen := lnB_len hL.2.1 hw
  intro m
  induction m with
  | zero =>
    intro k σ S1 h1 h2 hP hQ
    have hk : k = ((lnB l w).length : Int) := by omega
    have hz := m_size (fb := fb) (d := d) hP (hL.rq hQ) hw
    have hseg : seg (lg (lnB l w)) 0 k.toNat = lnB l w := seg_eq.mpr ⟨by omega, fun i a b => by rw [Int.zero_add]⟩
    rw [hseg, hk] at hQ
    refine x_li (z := k) T_357_2 rfl ?_
    refine x_lr (z := some 2281) T_357_3 rfl ?_
    refine x_li (z := w) T_357_4 rfl ?_
    refine x_cv2 T_357_5 mN_318 mL_318 (Nat.le_of_ble_eq_true rfl) mO_318 (PM.t hP) (Nat.le_of_ble_eq_true rfl) (hz) ?_
    rintro _ σ ⟨rfl, rfl⟩
    refine cI ?_
    refine x_ic2 T_357_8 (fun _ => ?_) (fun h => absurd (show ((lnB l w).length : Int) ≤ k by omega) h)
    refine x_rv T_357_29 ?_
    exact ⟨rfl, S1, hP, hQ⟩
  | succ m ih =>
    intro k σ S1 h1 h2 hP hQ
    have hz := m_size (fb := fb) (d := d) hP (hL.rq hQ) hw
    have hs := m_sign (fb := fb) (d := d) hP (hL.rq hQ) hw (k := k) (by omega)
    have hb := lnB_b (w := w) hL h2
    refine x_li (z := k) T_357_2 rfl ?_
    refine x_lr (z := some 2281) T_357_3 rfl ?_
    refine x_li (z := w) T_357_4 rfl ?_
    refine x_cv2 T_357_5 mN_318 mL_318 (Nat.le_of_ble_eq_true rfl) mO_318 (PM.t hP) (Nat.le_of_ble_eq_true rfl) (hz) ?_
    rintro _ σ ⟨rfl, rfl⟩
    refine cI ?_
    refine x_ic2 T_357_8 (fun h => absurd (show ((lnB l w).length : Int) ≤ k from h) (by omega)) (fun _ => ?_)
    refine x_lr (z := some 2281) T_357_11 rfl ?_
    refine x_ic T_357_12 ?_
    refine x_lr (z := some 2281) T_357_13 rfl ?_
    refine x_li (z := w) T_357_14 rfl ?_
    refine x_li (z := k) T_357_15 rfl ?_
    refine x_cv3 T_357_16 mN_319 mL_319 (Nat.le_of_ble_eq_true rfl) mO_319 (PM.t hP) (Nat.le_of_ble_eq_true rfl) (hs) ?_
    rintro _ σ ⟨rfl, rfl⟩
    refine cI ?_
    refine x_i2l T_357_19 ?_
    refine x_cv3 T_357_20 mN_229 mL_229 (Nat.le_of_ble_eq_true rfl) mO_229 (PM.t hP) (Nat.le_of_ble_eq_true rfl) (r_askPut 1 rfl hP hQ (by decide) (by omega)) ?_
    rintro _ σ ⟨rfl, S1, hP, hQ⟩
    refine cV ?_
    refine x_inc (w := (k + 1)) (ls1 := [some (vR (some 2281)), some (vI w), some (vI (k + 1))]) T_357_23 rfl (w32_id (by omega) (by omega)) rfl ?_
    refine x_goto T_357_26 ?_
    refine ih (k + 1) σ _ (by omega) (by omega) hP ?_
    rw [leb_one hb, List.append_assoc] at hQ
    rw [show w0 + (k + 1) = w0 + k + 1 by omega, show (k + 1).toNat = k.toNat + 1 by omega, seg_snoc, show (0 : Int) + (k.toNat : Int) = k by omega]
    exact hQ
theorem r_putWord {w0 : Int} {lq : List Int} (hP : PM σ0 P S1 σ) (hQ : RQ T U S S1 w0 lq) (hL : LN S l) (hw : 0 ≤ w ∧ w < ((lnW l).length : Int)) (hw0 : w0 + ((lnB l w).length : Int) ≤ 420) : CL fb (d + 1) 357 [vR (some 2281), vI w] σ (rQ T U σ0 P S (w0 + ((lnB l w).length : Int)) (lq ++ lnB l w)) := by
  refine CL_in mL_357 rfl ?_
  show WP fb _ 357 0 [some (vR (some 2281)), some (vI w), none] [] σ _
  refine x_ic T_357_0 ?_
  refine x_si (ls1 := [some (vR (some 2281)), some (vI w), some (vI 0)]) T_357_1 rfl ?_
  refine r_putWord_loop (S := S) hL hw hw0 (lnB l w).length 0 σ S1 (by omega) (by decide) hP ?_
  show RQ T U S S1 (w0 + 0) (lq ++ [])
  rw [List.append_nil, show w0 + 0 = w0 by omega]
  exact hQ
end MDESC
