/-! What the reference's servers answer: files read. -/
theorem T_292_0 : hTab 292 0 = some ((3, 1, 0, []), 1) := rfl
theorem T_292_1 : hTab 292 1 = some ((3, 2, 0, []), 2) := rfl
theorem T_292_2 : hTab 292 2 = some ((31, 247, 0, []), 5) := rfl
theorem T_292_5 : hTab 292 5 = some ((4, 6, 0, []), 7) := rfl
theorem T_292_7 : hTab 292 7 = some ((0, 0, 0, []), 8) := rfl
theorem T_292_8 : hTab 292 8 = some ((4, 7, 0, []), 10) := rfl
theorem T_292_10 : hTab 292 10 = some ((3, 7, 0, []), 12) := rfl
theorem T_292_12 : hTab 292 12 = some ((3, 5, 0, []), 14) := rfl
theorem T_292_14 : hTab 292 14 = some ((19, 3, Int.ofNat 79, []), 17) := rfl
theorem T_292_17 : hTab 292 17 = some ((3, 3, 1, []), 18) := rfl
theorem T_292_18 : hTab 292 18 = some ((1, 0, 0, []), 19) := rfl
theorem T_292_19 : hTab 292 19 = some ((3, 0, 2, []), 20) := rfl
theorem T_292_20 : hTab 292 20 = some ((24, 17, Int.ofNat 21, []), 23) := rfl
theorem T_292_23 : hTab 292 23 = some ((3, 6, 0, []), 25) := rfl
theorem T_292_25 : hTab 292 25 = some ((26, 0, 0, []), 26) := rfl
theorem T_292_26 : hTab 292 26 = some ((14, 0, 0, []), 27) := rfl
theorem T_292_27 : hTab 292 27 = some ((31, 282, 0, []), 30) := rfl
theorem T_292_30 : hTab 292 30 = some ((18, 0, Int.ofNat 79, []), 33) := rfl
theorem T_292_33 : hTab 292 33 = some ((3, 3, 1, []), 34) := rfl
theorem T_292_34 : hTab 292 34 = some ((3, 7, 0, []), 36) := rfl
theorem T_292_36 : hTab 292 36 = some ((14, 0, 0, []), 37) := rfl
theorem T_292_37 : hTab 292 37 = some ((11, 0, 0, []), 38) := rfl
theorem T_292_38 : hTab 292 38 = some ((3, 0, 2, []), 39) := rfl
theorem T_292_39 : hTab 292 39 = some ((24, 17, Int.ofNat 21, []), 42) := rfl
theorem T_292_42 : hTab 292 42 = some ((3, 6, 0, []), 44) := rfl
theorem T_292_44 : hTab 292 44 = some ((26, 0, 0, []), 45) := rfl
theorem T_292_45 : hTab 292 45 = some ((14, 0, 0, []), 46) := rfl
theorem T_292_46 : hTab 292 46 = some ((17, 0, 0, []), 47) := rfl
theorem T_292_47 : hTab 292 47 = some ((18, 3, Int.ofNat 79, []), 50) := rfl
theorem T_292_50 : hTab 292 50 = some ((3, 0, 2, []), 51) := rfl
theorem T_292_51 : hTab 292 51 = some ((0, 0, 1, []), 52) := rfl
theorem T_292_52 : hTab 292 52 = some ((3, 0, 2, []), 53) := rfl
theorem T_292_53 : hTab 292 53 = some ((24, 17, Int.ofNat 24, []), 56) := rfl
theorem T_292_56 : hTab 292 56 = some ((0, 0, 600, []), 59) := rfl
theorem T_292_59 : hTab 292 59 = some ((3, 6, 0, []), 61) := rfl
theorem T_292_61 : hTab 292 61 = some ((10, 2, 0, []), 62) := rfl
theorem T_292_62 : hTab 292 62 = some ((3, 3, 1, []), 63) := rfl
theorem T_292_63 : hTab 292 63 = some ((15, 0, 0, []), 64) := rfl
theorem T_292_64 : hTab 292 64 = some ((10, 0, 0, []), 65) := rfl
theorem T_292_65 : hTab 292 65 = some ((3, 7, 0, []), 67) := rfl
theorem T_292_67 : hTab 292 67 = some ((10, 0, 0, []), 68) := rfl
theorem T_292_68 : hTab 292 68 = some ((26, 0, 0, []), 69) := rfl
theorem T_292_69 : hTab 292 69 = some ((14, 0, 0, []), 70) := rfl
theorem T_292_70 : hTab 292 70 = some ((31, 237, 0, []), 73) := rfl
theorem T_292_73 : hTab 292 73 = some ((5, 7, 1, []), 76) := rfl
theorem T_292_76 : hTab 292 76 = some ((22, 0, Int.ofNat 10, []), 79) := rfl
theorem T_292_79 : hTab 292 79 = some ((33, 0, 0, []), 80) := rfl
theorem T_294_0 : hTab 294 0 = some ((0, 0, 0, []), 1) := rfl
theorem T_294_1 : hTab 294 1 = some ((4, 5, 0, []), 3) := rfl
theorem T_294_3 : hTab 294 3 = some ((3, 5, 0, []), 5) := rfl
theorem T_294_5 : hTab 294 5 = some ((3, 4, 0, []), 7) := rfl
theorem T_294_7 : hTab 294 7 = some ((19, 3, Int.ofNat 55, []), 10) := rfl
theorem T_294_10 : hTab 294 10 = some ((3, 2, 1, []), 11) := rfl
theorem T_294_11 : hTab 294 11 = some ((1, 0, 0, []), 12) := rfl
theorem T_294_12 : hTab 294 12 = some ((1, 0, 7, []), 15) := rfl
theorem T_294_15 : hTab 294 15 = some ((31, 282, 0, []), 18) := rfl
theorem T_294_18 : hTab 294 18 = some ((18, 0, Int.ofNat 55, []), 21) := rfl
theorem T_294_21 : hTab 294 21 = some ((3, 2, 1, []), 22) := rfl
theorem T_294_22 : hTab 294 22 = some ((3, 5, 0, []), 24) := rfl
theorem T_294_24 : hTab 294 24 = some ((14, 0, 0, []), 25) := rfl
theorem T_294_25 : hTab 294 25 = some ((11, 0, 0, []), 26) := rfl
theorem T_294_26 : hTab 294 26 = some ((1, 0, 8, []), 29) := rfl
theorem T_294_29 : hTab 294 29 = some ((17, 0, 0, []), 30) := rfl
theorem T_294_30 : hTab 294 30 = some ((18, 3, Int.ofNat 55, []), 33) := rfl
theorem T_294_33 : hTab 294 33 = some ((3, 0, 2, []), 34) := rfl
theorem T_294_34 : hTab 294 34 = some ((0, 0, 1, []), 35) := rfl
theorem T_294_35 : hTab 294 35 = some ((3, 0, 2, []), 36) := rfl
theorem T_294_36 : hTab 294 36 = some ((3, 1, 0, []), 37) := rfl
theorem T_294_37 : hTab 294 37 = some ((3, 2, 1, []), 38) := rfl
theorem T_294_38 : hTab 294 38 = some ((15, 0, 0, []), 39) := rfl
theorem T_294_39 : hTab 294 39 = some ((3, 5, 0, []), 41) := rfl
theorem T_294_41 : hTab 294 41 = some ((10, 0, 0, []), 42) := rfl
theorem T_294_42 : hTab 294 42 = some ((31, 295, 0, []), 45) := rfl
theorem T_294_45 : hTab 294 45 = some ((14, 0, 0, []), 46) := rfl
theorem T_294_46 : hTab 294 46 = some ((31, 237, 0, []), 49) := rfl
theorem T_294_49 : hTab 294 49 = some ((5, 5, 1, []), 52) := rfl
theorem T_294_52 : hTab 294 52 = some ((22, 0, Int.ofNat 3, []), 55) := rfl
theorem T_294_55 : hTab 294 55 = some ((33, 0, 0, []), 56) := rfl
theorem T_295_0 : hTab 295 0 = some ((3, 0, 2, []), 1) := rfl
theorem T_295_1 : hTab 295 1 = some ((3, 1, 0, []), 2) := rfl
theorem T_295_2 : hTab 295 2 = some ((31, 296, 0, []), 5) := rfl
theorem T_295_5 : hTab 295 5 = some ((4, 3, 0, []), 6) := rfl
theorem T_295_6 : hTab 295 6 = some ((3, 0, 2, []), 7) := rfl
theorem T_295_7 : hTab 295 7 = some ((24, 17, Int.ofNat 64, []), 10) := rfl
theorem T_295_10 : hTab 295 10 = some ((3, 0, 2, []), 11) := rfl
theorem T_295_11 : hTab 295 11 = some ((24, 17, Int.ofNat 53, []), 14) := rfl
theorem T_295_14 : hTab 295 14 = some ((3, 1, 0, []), 15) := rfl
theorem T_295_15 : hTab 295 15 = some ((26, 0, 0, []), 16) := rfl
theorem T_295_16 : hTab 295 16 = some ((26, 0, 0, []), 17) := rfl
theorem T_295_17 : hTab 295 17 = some ((4, 4, 0, []), 19) := rfl
theorem T_295_19 : hTab 295 19 = some ((3, 2, 0, []), 20) := rfl
theorem T_295_20 : hTab 295 20 = some ((23, 94, 0, [64, 64, 64, 80, 83, 80, 88]), 64) := rfl
theorem T_295_64 : hTab 295 64 = some ((3, 0, 2, []), 65) := rfl
theorem T_295_65 : hTab 295 65 = some ((24, 17, Int.ofNat 2, []), 68) := rfl
theorem T_295_68 : hTab 295 68 = some ((0, 0, 3, []), 69) := rfl
theorem T_295_69 : hTab 295 69 = some ((3, 0, 2, []), 70) := rfl
theorem T_295_70 : hTab 295 70 = some ((24, 17, Int.ofNat 52, []), 73) := rfl
theorem T_295_73 : hTab 295 73 = some ((3, 1, 0, []), 74) := rfl
theorem T_295_74 : hTab 295 74 = some ((26, 0, 0, []), 75) := rfl
theorem T_295_75 : hTab 295 75 = some ((10, 2, 0, []), 76) := rfl
theorem T_295_76 : hTab 295 76 = some ((3, 2, 0, []), 77) := rfl
theorem T_295_77 : hTab 295 77 = some ((10, 0, 0, []), 78) := rfl
theorem T_295_78 : hTab 295 78 = some ((26, 0, 0, []), 79) := rfl
theorem T_295_79 : hTab 295 79 = some ((33, 1, 0, []), 80) := rfl
theorem T_295_80 : hTab 295 80 = some ((0, 0, 32, []), 82) := rfl
theorem T_295_82 : hTab 295 82 = some ((33, 1, 0, []), 83) := rfl
theorem T_295_83 : hTab 295 83 = some ((0, 0, 48, []), 85) := rfl
theorem T_295_85 : hTab 295 85 = some ((3, 3, 0, []), 86) := rfl
theorem T_295_86 : hTab 295 86 = some ((10, 0, 0, []), 87) := rfl
theorem T_295_87 : hTab 295 87 = some ((33, 1, 0, []), 88) := rfl
theorem T_295_88 : hTab 295 88 = some ((0, 0, 48, []), 90) := rfl
theorem T_295_90 : hTab 295 90 = some ((3, 4, 0, []), 92) := rfl
theorem T_295_92 : hTab 295 92 = some ((10, 0, 0, []), 93) := rfl
theorem T_295_93 : hTab 295 93 = some ((33, 1, 0, []), 94) := rfl
theorem T_295_94 : hTab 295 94 = some ((3, 2, 0, []), 95) := rfl
theorem T_295_95 : hTab 295 95 = some ((0, 0, 7, []), 97) := rfl
theorem T_295_97 : hTab 295 97 = some ((19, 1, Int.ofNat 105, []), 100) := rfl
theorem T_295_100 : hTab 295 100 = some ((0, 0, 10, []), 102) := rfl
theorem T_295_102 : hTab 295 102 = some ((22, 0, Int.ofNat 106, []), 105) := rfl
theorem T_295_106 : hTab 295 106 = some ((33, 1, 0, []), 107) := rfl
theorem T_296_0 : hTab 296 0 = some ((0, 0, 0, []), 1) := rfl
theorem T_296_1 : hTab 296 1 = some ((4, 2, 0, []), 2) := rfl
theorem T_296_2 : hTab 296 2 = some ((0, 0, 0, []), 3) := rfl
theorem T_296_3 : hTab 296 3 = some ((4, 3, 0, []), 4) := rfl
theorem T_296_4 : hTab 296 4 = some ((3, 3, 0, []), 5) := rfl
theorem T_296_5 : hTab 296 5 = some ((0, 0, 8, []), 7) := rfl
theorem T_296_7 : hTab 296 7 = some ((19, 3, Int.ofNat 38, []), 10) := rfl
theorem T_296_10 : hTab 296 10 = some ((3, 0, 2, []), 11) := rfl
theorem T_296_11 : hTab 296 11 = some ((24, 17, Int.ofNat 57, []), 14) := rfl
theorem T_296_14 : hTab 296 14 = some ((0, 0, 8, []), 16) := rfl
theorem T_296_16 : hTab 296 16 = some ((3, 1, 0, []), 17) := rfl
theorem T_296_17 : hTab 296 17 = some ((10, 2, 0, []), 18) := rfl
theorem T_296_18 : hTab 296 18 = some ((3, 3, 0, []), 19) := rfl
theorem T_296_19 : hTab 296 19 = some ((10, 0, 0, []), 20) := rfl
theorem T_296_20 : hTab 296 20 = some ((26, 0, 0, []), 21) := rfl
theorem T_296_21 : hTab 296 21 = some ((18, 2, Int.ofNat 30, []), 24) := rfl
theorem T_296_24 : hTab 296 24 = some ((3, 2, 0, []), 25) := rfl
theorem T_296_25 : hTab 296 25 = some ((0, 0, 1, []), 26) := rfl
theorem T_296_26 : hTab 296 26 = some ((10, 0, 0, []), 27) := rfl
theorem T_296_27 : hTab 296 27 = some ((22, 0, Int.ofNat 31, []), 30) := rfl
theorem T_296_30 : hTab 296 30 = some ((3, 2, 0, []), 31) := rfl
theorem T_296_31 : hTab 296 31 = some ((4, 2, 0, []), 32) := rfl
theorem T_296_32 : hTab 296 32 = some ((5, 3, 1, []), 35) := rfl
theorem T_296_35 : hTab 296 35 = some ((22, 0, Int.ofNat 4, []), 38) := rfl
theorem T_296_38 : hTab 296 38 = some ((3, 2, 0, []), 39) := rfl
theorem T_296_39 : hTab 296 39 = some ((33, 1, 0, []), 40) := rfl
theorem F_17_53 : (hFd 17 53).2.2.1 = 4 := rfl
theorem F_17_57 : (hFd 17 57).2.2.1 = 4 := rfl
theorem F_17_64 : (hFd 17 64).2.2.1 = 4 := rfl
theorem mN_292 : hmN 292 = 5 := by decide +kernel
theorem mL_292 : hmL 292 = 8 := by decide +kernel
theorem mK_292 : hmK 292 = 1 := by decide +kernel
theorem mO_292 : hmO 292 = 17 := by decide +kernel
theorem mN_294 : hmN 294 = 4 := by decide +kernel
theorem mL_294 : hmL 294 = 6 := by decide +kernel
theorem mK_294 : hmK 294 = 1 := by decide +kernel
theorem mO_294 : hmO 294 = 17 := by decide +kernel
theorem mN_295 : hmN 295 = 3 := by decide +kernel
theorem mL_295 : hmL 295 = 5 := by decide +kernel
theorem mK_295 : hmK 295 = 1 := by decide +kernel
theorem mO_295 : hmO 295 = 17 := by decide +kernel
theorem mN_296 : hmN 296 = 2 := by decide +kernel
theorem mL_296 : hmL 296 = 4 := by decide +kernel
theorem mK_296 : hmK 296 = 1 := by decide +kernel
theorem mO_296 : hmO 296 = 17 := by decide +kernel
def coD (P : qR) : Nat → Int → Int → Int
  | 0, _, c => c
  | m + 1, k, c => coD P m (k + 1) (if P 2327 k < 0 then c else c + 1)
/-- how many descriptors a process has; its status -/
def qDesc (P : qR) (p : Int) : Int := coD P 8 (8 * p) 0
def stL (P : qR) (p : Int) : List Int := [ubyte (3 * P 2322 p + 0), ubyte (3 * P 2322 p + 1), ubyte (3 * P 2322 p + 2), 32, 48 + qDesc P p, 32, 48 + P 2334 (P 2323 p), 10]
/-- from a place on, so many bytes of a row of so many -/
def part (f : Int → Int) (len off cnt : Int) : List Int := if 0 ≤ off ∧ off ≤ len then seg f off (if cnt < len - off then cnt else len - off).toNat else []
def gSh (P : qR) (n j : Int) : qR := fun g k => if g = 2314 ∧ 0 ≤ k ∧ k < j then P 2314 (k + n) else P g k
/-- n bytes are taken from the input -/
def gIn (P : qR) (n : Int) : qR := gSh (rU P 2281 39 (P 2281 39 - n)) n (P 2281 39 - n)
def rdE (P : qR) (s n : Int) : Nat → Int → Int → Int × Int × List Int
  | 0, x, l => (x, l, [])
  | m + 1, x, l => if 0 ≤ qEnt P s n x ∧ 58 + qNs P s (qEnt P s n x) ≤ l then ((rdE P s n m (x + 1) (l - (58 + qNs P s (qEnt P s n x)))).1, (rdE P s n m (x + 1) (l - (58 + qNs P s (qEnt P s n x)))).2.1, statL P s (qEnt P s n x) ++ (rdE P s n m (x + 1) (l - (58 + qNs P s (qEnt P s n x)))).2.2) else (x, l, [])
section MREAD
variable {fb : Bool} {d : Nat} {σ0 σ : hM} {P S S1 : qR} {T U s n u c t p z : Int} {st : List (Int × Int)}
theorem coD_rng : ∀ (m : Nat) (k w : Int), w ≤ coD P m k w ∧ coD P m k w ≤ w + m
  | 0, k, w => ⟨Int.le_refl _, by show w ≤ w + ((0 : Nat) : Int); omega⟩
  | m + 1, k, w => by
    have key : ∀ x, (x = w ∨ x = w + 1) → w ≤ coD P m (k + 1) x ∧ coD P m (k + 1) x ≤ w + ((m + 1 : Nat) : Int) := fun x hx => by
      have h := coD_rng m (k + 1) x
      omega
    exact key _ (by split <;> omega)
theorem m_descriptorsOf_loop (hP : PM σ0 P S σ) (hp : 0 ≤ p ∧ p < 8) : ∀ (m : Nat) (k w : Int), k + m = 8 → 0 ≤ k → 0 ≤ w → w ≤ k → WP fb d 296 4 [some (vR (some 2281)), some (vI p), some (vI w), some (vI k)] [] σ (rP (coD P m (8 * p + k) w) σ) := by
  intro m
  induction m with
  | zero =>
    intro k w h1 h2 h3 h4
    refine x_li (z := k) T_296_4 rfl ?_
    refine x_ic T_296_5 ?_
    refine x_ic2 T_296_7 (fun _ => ?_) (fun h => absurd (show 8 ≤ k by omega) h)
    refine x_li (z := w) T_296_38 rfl ?_
    refine x_ri T_296_39 ?_
    exact ⟨rfl, rfl⟩
  | succ m ih =>
    intro k w h1 h2 h3 h4
    have key : ∀ w', w' = (if P 2327 (8 * p + k) < 0 then w else w + 1) → WP fb d 296 4 [some (vR (some 2281)), some (vI p), some (vI w'), some (vI (k + 1))] [] σ (rP (coD P (m + 1) (8 * p + k) w) σ) := by
      intro w' e
      rw [show coD P (m + 1) (8 * p + k) w = coD P m (8 * p + (k + 1)) w' by rw [e, ← Int.add_assoc]; rfl]
      exact ih (k + 1) w' (by omega) (by omega) (by rw [e]; split <;> omega) (by rw [e]; split <;> omega)
    refine x_li (z := k) T_296_4 rfl ?_
    refine x_ic T_296_5 ?_
    refine x_ic2 T_296_7 (fun h => absurd (show 8 ≤ k from h) (by omega)) (fun _ => ?_)
    refine x_lr (z := some 2281) T_296_10 rfl ?_
    refine x_gR (z := some 2327) T_296_11 F_17_57 (PM.t hP) (PM.r hP 57 2327 rfl) ?_
    refine x_ic T_296_14 ?_
    refine x_li (z := p) T_296_16 rfl ?_
    refine x_ib (w := (8 * p)) T_296_17 (fun h => absurd h.1 (by decide)) (w32_id (by omega) (by omega)) ?_
    refine x_li (z := k) T_296_18 rfl ?_
    refine x_ib (w := ((8 * p) + k)) T_296_19 (fun h => absurd h.1 (by decide)) (w32_id (by omega) (by omega)) ?_
    refine x_alI (z := P 2327 ((8 * p) + k)) T_296_20 (by decide) (PM.ta hP 2327 0 64 rfl rfl) (by omega) (by omega) (PM.aP hP 2327 rfl rfl (by omega)) ?_
    refine x_if T_296_21 (fun h21 => ?_) (fun h21 => ?_)
    · replace h21 : P 2327 ((8 * p) + k) < 0 := h21
      refine x_li (z := w) T_296_30 rfl ?_
      refine x_si (ls1 := [some (vR (some 2281)), some (vI p), some (vI w), some (vI k)]) T_296_31 rfl ?_
      refine x_inc (w := (k + 1)) (ls1 := [some (vR (some 2281)), some (vI p), some (vI w), some (vI (k + 1))]) T_296_32 rfl (w32_id (by omega) (by omega)) rfl ?_
      refine x_goto T_296_35 ?_
      exact key _ (by split <;> first | rfl | omega)
    · replace h21 : ¬ (P 2327 ((8 * p) + k) < 0) := h21
      refine x_li (z := w) T_296_24 rfl ?_
      refine x_ic T_296_25 ?_
      refine x_ib (w := (w + 1)) T_296_26 (fun h => absurd h.1 (by decide)) (w32_id (by omega) (by omega)) ?_
      refine x_goto T_296_27 ?_
      refine x_si (ls1 := [some (vR (some 2281)), some (vI p), some (vI (w + 1)), some (vI k)]) T_296_31 rfl ?_
      refine x_inc (w := (k + 1)) (ls1 := [some (vR (some 2281)), some (vI p), some (vI (w + 1)), some (vI (k + 1))]) T_296_32 rfl (w32_id (by omega) (by omega)) rfl ?_
      refine x_goto T_296_35 ?_
      exact key _ (by split <;> first | rfl | omega)
theorem m_descriptorsOf (hP : PM σ0 P S σ) (hp : 0 ≤ p ∧ p < 8) : CL fb d 296 [vR (some 2281), vI p] σ (rP (qDesc P p) σ) := by
  refine CL_in mL_296 rfl ?_
  show WP fb _ 296 0 [some (vR (some 2281)), some (vI p), none, none] [] σ _
  refine x_ic T_296_0 ?_
  refine x_si (ls1 := [some (vR (some 2281)), some (vI p), some (vI 0), none]) T_296_1 rfl ?_
  refine x_ic T_296_2 ?_
  refine x_si (ls1 := [some (vR (some 2281)), some (vI p), some (vI 0), some (vI 0)]) T_296_3 rfl ?_
  have h := m_descriptorsOf_loop (fb := fb) (d := d) hP hp 8 0 0 (by omega) (by omega) (by omega) (by omega)
  rw [Int.add_zero] at h
  exact h
theorem m_statusByte {j : Int} (hP : PM σ0 P S σ) (hI : IV false T U P) (hp : 0 ≤ p ∧ p < 8) (hj : 0 ≤ j ∧ j < 8) : CL fb (d + 1) 295 [vR (some 2281), vI p, vI j] σ (rP (lg (stL P p) j) σ) := by
  have hd := coD_rng (P := P) 8 (8 * p) 0
  have hd : 0 ≤ qDesc P p ∧ qDesc P p ≤ 8 := by
    have h1 : qDesc P p = coD P 8 (8 * p) 0 := rfl
    omega
  have hj8 : j = 0 ∨ j = 1 ∨ j = 2 ∨ j = 3 ∨ j = 4 ∨ j = 5 ∨ j = 6 ∨ j = 7 := by omega
  rcases hj8 with rfl | rfl | rfl | rfl | rfl | rfl | rfl | rfl
  · skip
    refine CL_in mL_295 rfl ?_
    show WP fb _ 295 0 [some (vR (some 2281)), some (vI p), some (vI 0), none, none] [] σ _
    refine x_lr (z := some 2281) T_295_0 rfl ?_
    refine x_li (z := p) T_295_1 rfl ?_
    refine x_cv2 T_295_2 mN_296 mL_296 (Nat.le_of_ble_eq_true rfl) mO_296 (PM.t hP) (Nat.le_of_ble_eq_true rfl) (m_descriptorsOf hP (by omega)) ?_
    rintro _ σ ⟨rfl, rfl⟩
    refine cI ?_
    refine x_si (ls1 := [some (vR (some 2281)), some (vI p), some (vI 0), some (vI (qDesc P p)), none]) T_295_5 rfl ?_
    refine x_lr (z := some 2281) T_295_6 rfl ?_
    refine x_gR (z := some 2334) T_295_7 F_17_64 (PM.t hP) (PM.r hP 64 2334 rfl) ?_
    refine x_lr (z := some 2281) T_295_10 rfl ?_
    refine x_gR (z := some 2323) T_295_11 F_17_53 (PM.t hP) (PM.r hP 53 2323 rfl) ?_
    refine x_li (z := p) T_295_14 rfl ?_
    have b1 : 0 ≤ P 2323 p ∧ P 2323 p ≤ 7 := IV.a hI 2323 0 8 rfl rfl rfl (by omega) (by omega)
    refine x_alI (z := P 2323 p) T_295_15 (by decide) (PM.ta hP 2323 0 8 rfl rfl) (by omega) (by omega) (PM.aP hP 2323 rfl rfl (by omega)) ?_
    have b2 : 0 ≤ P 2334 (P 2323 p) ∧ P 2334 (P 2323 p) ≤ 8 := IV.a hI 2334 0 8 rfl rfl rfl (by omega) (by omega)
    refine x_alI (z := P 2334 (P 2323 p)) T_295_16 (by decide) (PM.ta hP 2334 0 8 rfl rfl) (by omega) (by omega) (PM.aP hP 2334 rfl rfl (by omega)) ?_
    refine x_si (ls1 := [some (vR (some 2281)), some (vI p), some (vI 0), some (vI (qDesc P p)), some (vI (P 2334 (P 2323 p)))]) T_295_17 rfl ?_
    refine x_li (z := 0) T_295_19 rfl ?_
    refine x_swIn T_295_20 (by decide) (by decide) rfl ?_
    refine x_lr (z := some 2281) T_295_64 rfl ?_
    refine x_gR (z := some 2284) T_295_65 F_17_2 (PM.t hP) (PM.r hP 2 2284 rfl) ?_
    refine x_ic T_295_68 ?_
    refine x_lr (z := some 2281) T_295_69 rfl ?_
    refine x_gR (z := some 2322) T_295_70 F_17_52 (PM.t hP) (PM.r hP 52 2322 rfl) ?_
    refine x_li (z := p) T_295_73 rfl ?_
    have b3 : 0 ≤ P 2322 p ∧ P 2322 p ≤ 3 := IV.a hI 2322 0 8 rfl rfl rfl (by omega) (by omega)
    refine x_alI (z := P 2322 p) T_295_74 (by decide) (PM.ta hP 2322 0 8 rfl rfl) (by omega) (by omega) (PM.aP hP 2322 rfl rfl (by omega)) ?_
    refine x_ib (w := (3 * P 2322 p)) T_295_75 (fun h => absurd h.1 (by decide)) (w32_id (by omega) (by omega)) ?_
    refine x_li (z := 0) T_295_76 rfl ?_
    refine x_ib (w := (3 * P 2322 p + 0)) T_295_77 (fun h => absurd h.1 (by decide)) (w32_id (by omega) (by omega)) ?_
    refine x_alI (z := ubyte (3 * P 2322 p + 0)) T_295_78 (by decide) (PM.ta hP 2284 0 12 rfl rfl) (by omega) (by omega) (PM.c2284 hP (by omega) (by omega)) ?_
    refine x_ri T_295_79 ?_
    exact ⟨rfl, rfl⟩
  · skip
    refine CL_in mL_295 rfl ?_
    show WP fb _ 295 0 [some (vR (some 2281)), some (vI p), some (vI 1), none, none] [] σ _
    refine x_lr (z := some 2281) T_295_0 rfl ?_
    refine x_li (z := p) T_295_1 rfl ?_
    refine x_cv2 T_295_2 mN_296 mL_296 (Nat.le_of_ble_eq_true rfl) mO_296 (PM.t hP) (Nat.le_of_ble_eq_true rfl) (m_descriptorsOf hP (by omega)) ?_
    rintro _ σ ⟨rfl, rfl⟩
    refine cI ?_
    refine x_si (ls1 := [some (vR (some 2281)), some (vI p), some (vI 1), some (vI (qDesc P p)), none]) T_295_5 rfl ?_
    refine x_lr (z := some 2281) T_295_6 rfl ?_
    refine x_gR (z := some 2334) T_295_7 F_17_64 (PM.t hP) (PM.r hP 64 2334 rfl) ?_
    refine x_lr (z := some 2281) T_295_10 rfl ?_
    refine x_gR (z := some 2323) T_295_11 F_17_53 (PM.t hP) (PM.r hP 53 2323 rfl) ?_
    refine x_li (z := p) T_295_14 rfl ?_
    have b1 : 0 ≤ P 2323 p ∧ P 2323 p ≤ 7 := IV.a hI 2323 0 8 rfl rfl rfl (by omega) (by omega)
    refine x_alI (z := P 2323 p) T_295_15 (by decide) (PM.ta hP 2323 0 8 rfl rfl) (by omega) (by omega) (PM.aP hP 2323 rfl rfl (by omega)) ?_
    have b2 : 0 ≤ P 2334 (P 2323 p) ∧ P 2334 (P 2323 p) ≤ 8 := IV.a hI 2334 0 8 rfl rfl rfl (by omega) (by omega)
    refine x_alI (z := P 2334 (P 2323 p)) T_295_16 (by decide) (PM.ta hP 2334 0 8 rfl rfl) (by omega) (by omega) (PM.aP hP 2334 rfl rfl (by omega)) ?_
    refine x_si (ls1 := [some (vR (some 2281)), some (vI p), some (vI 1), some (vI (qDesc P p)), some (vI (P 2334 (P 2323 p)))]) T_295_17 rfl ?_
    refine x_li (z := 1) T_295_19 rfl ?_
    refine x_swIn T_295_20 (by decide) (by decide) rfl ?_
    refine x_lr (z := some 2281) T_295_64 rfl ?_
    refine x_gR (z := some 2284) T_295_65 F_17_2 (PM.t hP) (PM.r hP 2 2284 rfl) ?_
    refine x_ic T_295_68 ?_
    refine x_lr (z := some 2281) T_295_69 rfl ?_
    refine x_gR (z := some 2322) T_295_70 F_17_52 (PM.t hP) (PM.r hP 52 2322 rfl) ?_
    refine x_li (z := p) T_295_73 rfl ?_
    have b3 : 0 ≤ P 2322 p ∧ P 2322 p ≤ 3 := IV.a hI 2322 0 8 rfl rfl rfl (by omega) (by omega)
    refine x_alI (z := P 2322 p) T_295_74 (by decide) (PM.ta hP 2322 0 8 rfl rfl) (by omega) (by omega) (PM.aP hP 2322 rfl rfl (by omega)) ?_
    refine x_ib (w := (3 * P 2322 p)) T_295_75 (fun h => absurd h.1 (by decide)) (w32_id (by omega) (by omega)) ?_
    refine x_li (z := 1) T_295_76 rfl ?_
    refine x_ib (w := (3 * P 2322 p + 1)) T_295_77 (fun h => absurd h.1 (by decide)) (w32_id (by omega) (by omega)) ?_
    refine x_alI (z := ubyte (3 * P 2322 p + 1)) T_295_78 (by decide) (PM.ta hP 2284 0 12 rfl rfl) (by omega) (by omega) (PM.c2284 hP (by omega) (by omega)) ?_
    refine x_ri T_295_79 ?_
    exact ⟨rfl, rfl⟩
  · skip
    refine CL_in mL_295 rfl ?_
    show WP fb _ 295 0 [some (vR (some 2281)), some (vI p), some (vI 2), none, none] [] σ _
    refine x_lr (z := some 2281) T_295_0 rfl ?_
    refine x_li (z := p) T_295_1 rfl ?_
    refine x_cv2 T_295_2 mN_296 mL_296 (Nat.le_of_ble_eq_true rfl) mO_296 (PM.t hP) (Nat.le_of_ble_eq_true rfl) (m_descriptorsOf hP (by omega)) ?_
    rintro _ σ ⟨rfl, rfl⟩
    refine cI ?_
    refine x_si (ls1 := [some (vR (some 2281)), some (vI p), some (vI 2), some (vI (qDesc P p)), none]) T_295_5 rfl ?_
    refine x_lr (z := some 2281) T_295_6 rfl ?_
    refine x_gR (z := some 2334) T_295_7 F_17_64 (PM.t hP) (PM.r hP 64 2334 rfl) ?_
    refine x_lr (z := some 2281) T_295_10 rfl ?_
    refine x_gR (z := some 2323) T_295_11 F_17_53 (PM.t hP) (PM.r hP 53 2323 rfl) ?_
    refine x_li (z := p) T_295_14 rfl ?_
    have b1 : 0 ≤ P 2323 p ∧ P 2323 p ≤ 7 := IV.a hI 2323 0 8 rfl rfl rfl (by omega) (by omega)
    refine x_alI (z := P 2323 p) T_295_15 (by decide) (PM.ta hP 2323 0 8 rfl rfl) (by omega) (by omega) (PM.aP hP 2323 rfl rfl (by omega)) ?_
    have b2 : 0 ≤ P 2334 (P 2323 p) ∧ P 2334 (P 2323 p) ≤ 8 := IV.a hI 2334 0 8 rfl rfl rfl (by omega) (by omega)
    refine x_alI (z := P 2334 (P 2323 p)) T_295_16 (by decide) (PM.ta hP 2334 0 8 rfl rfl) (by omega) (by omega) (PM.aP hP 2334 rfl rfl (by omega)) ?_
    refine x_si (ls1 := [some (vR (some 2281)), some (vI p), some (vI 2), some (vI (qDesc P p)), some (vI (P 2334 (P 2323 p)))]) T_295_17 rfl ?_
    refine x_li (z := 2) T_295_19 rfl ?_
    refine x_swIn T_295_20 (by decide) (by decide) rfl ?_
    refine x_lr (z := some 2281) T_295_64 rfl ?_
    refine x_gR (z := some 2284) T_295_65 F_17_2 (PM.t hP) (PM.r hP 2 2284 rfl) ?_
    refine x_ic T_295_68 ?_
    refine x_lr (z := some 2281) T_295_69 rfl ?_
    refine x_gR (z := some 2322) T_295_70 F_17_52 (PM.t hP) (PM.r hP 52 2322 rfl) ?_
    refine x_li (z := p) T_295_73 rfl ?_
    have b3 : 0 ≤ P 2322 p ∧ P 2322 p ≤ 3 := IV.a hI 2322 0 8 rfl rfl rfl (by omega) (by omega)
    refine x_alI (z := P 2322 p) T_295_74 (by decide) (PM.ta hP 2322 0 8 rfl rfl) (by omega) (by omega) (PM.aP hP 2322 rfl rfl (by omega)) ?_
    refine x_ib (w := (3 * P 2322 p)) T_295_75 (fun h => absurd h.1 (by decide)) (w32_id (by omega) (by omega)) ?_
    refine x_li (z := 2) T_295_76 rfl ?_
    refine x_ib (w := (3 * P 2322 p + 2)) T_295_77 (fun h => absurd h.1 (by decide)) (w32_id (by omega) (by omega)) ?_
    refine x_alI (z := ubyte (3 * P 2322 p + 2)) T_295_78 (by decide) (PM.ta hP 2284 0 12 rfl rfl) (by omega) (by omega) (PM.c2284 hP (by omega) (by omega)) ?_
    refine x_ri T_295_79 ?_
    exact ⟨rfl, rfl⟩
  · skip
    refine CL_in mL_295 rfl ?_
    show WP fb _ 295 0 [some (vR (some 2281)), some (vI p), some (vI 3), none, none] [] σ _
    refine x_lr (z := some 2281) T_295_0 rfl ?_
    refine x_li (z := p) T_295_1 rfl ?_
    refine x_cv2 T_295_2 mN_296 mL_296 (Nat.le_of_ble_eq_true rfl) mO_296 (PM.t hP) (Nat.le_of_ble_eq_true rfl) (m_descriptorsOf hP (by omega)) ?_
    rintro _ σ ⟨rfl, rfl⟩
    refine cI ?_
    refine x_si (ls1 := [some (vR (some 2281)), some (vI p), some (vI 3), some (vI (qDesc P p)), none]) T_295_5 rfl ?_
    refine x_lr (z := some 2281) T_295_6 rfl ?_
    refine x_gR (z := some 2334) T_295_7 F_17_64 (PM.t hP) (PM.r hP 64 2334 rfl) ?_
    refine x_lr (z := some 2281) T_295_10 rfl ?_
    refine x_gR (z := some 2323) T_295_11 F_17_53 (PM.t hP) (PM.r hP 53 2323 rfl) ?_
    refine x_li (z := p) T_295_14 rfl ?_
    have b1 : 0 ≤ P 2323 p ∧ P 2323 p ≤ 7 := IV.a hI 2323 0 8 rfl rfl rfl (by omega) (by omega)
    refine x_alI (z := P 2323 p) T_295_15 (by decide) (PM.ta hP 2323 0 8 rfl rfl) (by omega) (by omega) (PM.aP hP 2323 rfl rfl (by omega)) ?_
    have b2 : 0 ≤ P 2334 (P 2323 p) ∧ P 2334 (P 2323 p) ≤ 8 := IV.a hI 2334 0 8 rfl rfl rfl (by omega) (by omega)
    refine x_alI (z := P 2334 (P 2323 p)) T_295_16 (by decide) (PM.ta hP 2334 0 8 rfl rfl) (by omega) (by omega) (PM.aP hP 2334 rfl rfl (by omega)) ?_
    refine x_si (ls1 := [some (vR (some 2281)), some (vI p), some (vI 3), some (vI (qDesc P p)), some (vI (P 2334 (P 2323 p)))]) T_295_17 rfl ?_
    refine x_li (z := 3) T_295_19 rfl ?_
    refine x_swIn T_295_20 (by decide) (by decide) rfl ?_
    refine x_ic T_295_80 ?_
    refine x_ri T_295_82 ?_
    exact ⟨rfl, rfl⟩
  · skip
    refine CL_in mL_295 rfl ?_
    show WP fb _ 295 0 [some (vR (some 2281)), some (vI p), some (vI 4), none, none] [] σ _
    refine x_lr (z := some 2281) T_295_0 rfl ?_
    refine x_li (z := p) T_295_1 rfl ?_
    refine x_cv2 T_295_2 mN_296 mL_296 (Nat.le_of_ble_eq_true rfl) mO_296 (PM.t hP) (Nat.le_of_ble_eq_true rfl) (m_descriptorsOf hP (by omega)) ?_
    rintro _ σ ⟨rfl, rfl⟩
    refine cI ?_
    refine x_si (ls1 := [some (vR (some 2281)), some (vI p), some (vI 4), some (vI (qDesc P p)), none]) T_295_5 rfl ?_
    refine x_lr (z := some 2281) T_295_6 rfl ?_
    refine x_gR (z := some 2334) T_295_7 F_17_64 (PM.t hP) (PM.r hP 64 2334 rfl) ?_
    refine x_lr (z := some 2281) T_295_10 rfl ?_
    refine x_gR (z := some 2323) T_295_11 F_17_53 (PM.t hP) (PM.r hP 53 2323 rfl) ?_
    refine x_li (z := p) T_295_14 rfl ?_
    have b1 : 0 ≤ P 2323 p ∧ P 2323 p ≤ 7 := IV.a hI 2323 0 8 rfl rfl rfl (by omega) (by omega)
    refine x_alI (z := P 2323 p) T_295_15 (by decide) (PM.ta hP 2323 0 8 rfl rfl) (by omega) (by omega) (PM.aP hP 2323 rfl rfl (by omega)) ?_
    have b2 : 0 ≤ P 2334 (P 2323 p) ∧ P 2334 (P 2323 p) ≤ 8 := IV.a hI 2334 0 8 rfl rfl rfl (by omega) (by omega)
    refine x_alI (z := P 2334 (P 2323 p)) T_295_16 (by decide) (PM.ta hP 2334 0 8 rfl rfl) (by omega) (by omega) (PM.aP hP 2334 rfl rfl (by omega)) ?_
    refine x_si (ls1 := [some (vR (some 2281)), some (vI p), some (vI 4), some (vI (qDesc P p)), some (vI (P 2334 (P 2323 p)))]) T_295_17 rfl ?_
    refine x_li (z := 4) T_295_19 rfl ?_
    refine x_swIn T_295_20 (by decide) (by decide) rfl ?_
    refine x_ic T_295_83 ?_
    refine x_li (z := qDesc P p) T_295_85 rfl ?_
    refine x_ib (w := (48 + qDesc P p)) T_295_86 (fun h => absurd h.1 (by decide)) (w32_id (by omega) (by omega)) ?_
    refine x_ri T_295_87 ?_
    exact ⟨rfl, rfl⟩
  · skip
    refine CL_in mL_295 rfl ?_
    show WP fb _ 295 0 [some (vR (some 2281)), some (vI p), some (vI 5), none, none] [] σ _
    refine x_lr (z := some 2281) T_295_0 rfl ?_
    refine x_li (z := p) T_295_1 rfl ?_
    refine x_cv2 T_295_2 mN_296 mL_296 (Nat.le_of_ble_eq_true rfl) mO_296 (PM.t hP) (Nat.le_of_ble_eq_true rfl) (m_descriptorsOf hP (by omega)) ?_
    rintro _ σ ⟨rfl, rfl⟩
    refine cI ?_
    refine x_si (ls1 := [some (vR (some 2281)), some (vI p), some (vI 5), some (vI (qDesc P p)), none]) T_295_5 rfl ?_
    refine x_lr (z := some 2281) T_295_6 rfl ?_
    refine x_gR (z := some 2334) T_295_7 F_17_64 (PM.t hP) (PM.r hP 64 2334 rfl) ?_
    refine x_lr (z := some 2281) T_295_10 rfl ?_
    refine x_gR (z := some 2323) T_295_11 F_17_53 (PM.t hP) (PM.r hP 53 2323 rfl) ?_
    refine x_li (z := p) T_295_14 rfl ?_
    have b1 : 0 ≤ P 2323 p ∧ P 2323 p ≤ 7 := IV.a hI 2323 0 8 rfl rfl rfl (by omega) (by omega)
    refine x_alI (z := P 2323 p) T_295_15 (by decide) (PM.ta hP 2323 0 8 rfl rfl) (by omega) (by omega) (PM.aP hP 2323 rfl rfl (by omega)) ?_
    have b2 : 0 ≤ P 2334 (P 2323 p) ∧ P 2334 (P 2323 p) ≤ 8 := IV.a hI 2334 0 8 rfl rfl rfl (by omega) (by omega)
    refine x_alI (z := P 2334 (P 2323 p)) T_295_16 (by decide) (PM.ta hP 2334 0 8 rfl rfl) (by omega) (by omega) (PM.aP hP 2334 rfl rfl (by omega)) ?_
    refine x_si (ls1 := [some (vR (some 2281)), some (vI p), some (vI 5), some (vI (qDesc P p)), some (vI (P 2334 (P 2323 p)))]) T_295_17 rfl ?_
    refine x_li (z := 5) T_295_19 rfl ?_
    refine x_swIn T_295_20 (by decide) (by decide) rfl ?_
    refine x_ic T_295_80 ?_
    refine x_ri T_295_82 ?_
    exact ⟨rfl, rfl⟩
  · skip
    refine CL_in mL_295 rfl ?_
    show WP fb _ 295 0 [some (vR (some 2281)), some (vI p), some (vI 6), none, none] [] σ _
    refine x_lr (z := some 2281) T_295_0 rfl ?_
    refine x_li (z := p) T_295_1 rfl ?_
    refine x_cv2 T_295_2 mN_296 mL_296 (Nat.le_of_ble_eq_true rfl) mO_296 (PM.t hP) (Nat.le_of_ble_eq_true rfl) (m_descriptorsOf hP (by omega)) ?_
    rintro _ σ ⟨rfl, rfl⟩
    refine cI ?_
    refine x_si (ls1 := [some (vR (some 2281)), some (vI p), some (vI 6), some (vI (qDesc P p)), none]) T_295_5 rfl ?_
    refine x_lr (z := some 2281) T_295_6 rfl ?_
    refine x_gR (z := some 2334) T_295_7 F_17_64 (PM.t hP) (PM.r hP 64 2334 rfl) ?_
    refine x_lr (z := some 2281) T_295_10 rfl ?_
    refine x_gR (z := some 2323) T_295_11 F_17_53 (PM.t hP) (PM.r hP 53 2323 rfl) ?_
    refine x_li (z := p) T_295_14 rfl ?_
    have b1 : 0 ≤ P 2323 p ∧ P 2323 p ≤ 7 := IV.a hI 2323 0 8 rfl rfl rfl (by omega) (by omega)
    refine x_alI (z := P 2323 p) T_295_15 (by decide) (PM.ta hP 2323 0 8 rfl rfl) (by omega) (by omega) (PM.aP hP 2323 rfl rfl (by omega)) ?_
    have b2 : 0 ≤ P 2334 (P 2323 p) ∧ P 2334 (P 2323 p) ≤ 8 := IV.a hI 2334 0 8 rfl rfl rfl (by omega) (by omega)
    refine x_alI (z := P 2334 (P 2323 p)) T_295_16 (by decide) (PM.ta hP 2334 0 8 rfl rfl) (by omega) (by omega) (PM.aP hP 2334 rfl rfl (by omega)) ?_
    refine x_si (ls1 := [some (vR (some 2281)), some (vI p), some (vI 6), some (vI (qDesc P p)), some (vI (P 2334 (P 2323 p)))]) T_295_17 rfl ?_
    refine x_li (z := 6) T_295_19 rfl ?_
    refine x_swIn T_295_20 (by decide) (by decide) rfl ?_
    refine x_ic T_295_88 ?_
    refine x_li (z := P 2334 (P 2323 p)) T_295_90 rfl ?_
    refine x_ib (w := (48 + P 2334 (P 2323 p))) T_295_92 (fun h => absurd h.1 (by decide)) (w32_id (by omega) (by omega)) ?_
    refine x_ri T_295_93 ?_
    exact ⟨rfl, rfl⟩
  · skip
    refine CL_in mL_295 rfl ?_
    show WP fb _ 295 0 [some (vR (some 2281)), some (vI p), some (vI 7), none, none] [] σ _
    refine x_lr (z := some 2281) T_295_0 rfl ?_
    refine x_li (z := p) T_295_1 rfl ?_
    refine x_cv2 T_295_2 mN_296 mL_296 (Nat.le_of_ble_eq_true rfl) mO_296 (PM.t hP) (Nat.le_of_ble_eq_true rfl) (m_descriptorsOf hP (by omega)) ?_
    rintro _ σ ⟨rfl, rfl⟩
    refine cI ?_
    refine x_si (ls1 := [some (vR (some 2281)), some (vI p), some (vI 7), some (vI (qDesc P p)), none]) T_295_5 rfl ?_
    refine x_lr (z := some 2281) T_295_6 rfl ?_
    refine x_gR (z := some 2334) T_295_7 F_17_64 (PM.t hP) (PM.r hP 64 2334 rfl) ?_
    refine x_lr (z := some 2281) T_295_10 rfl ?_
    refine x_gR (z := some 2323) T_295_11 F_17_53 (PM.t hP) (PM.r hP 53 2323 rfl) ?_
    refine x_li (z := p) T_295_14 rfl ?_
    have b1 : 0 ≤ P 2323 p ∧ P 2323 p ≤ 7 := IV.a hI 2323 0 8 rfl rfl rfl (by omega) (by omega)
    refine x_alI (z := P 2323 p) T_295_15 (by decide) (PM.ta hP 2323 0 8 rfl rfl) (by omega) (by omega) (PM.aP hP 2323 rfl rfl (by omega)) ?_
    have b2 : 0 ≤ P 2334 (P 2323 p) ∧ P 2334 (P 2323 p) ≤ 8 := IV.a hI 2334 0 8 rfl rfl rfl (by omega) (by omega)
    refine x_alI (z := P 2334 (P 2323 p)) T_295_16 (by decide) (PM.ta hP 2334 0 8 rfl rfl) (by omega) (by omega) (PM.aP hP 2334 rfl rfl (by omega)) ?_
    refine x_si (ls1 := [some (vR (some 2281)), some (vI p), some (vI 7), some (vI (qDesc P p)), some (vI (P 2334 (P 2323 p)))]) T_295_17 rfl ?_
    refine x_li (z := 7) T_295_19 rfl ?_
    refine x_swOut T_295_20 (by decide) ?_
    refine x_li (z := 7) T_295_94 rfl ?_
    refine x_ic T_295_95 ?_
    refine x_ic2 T_295_97 (fun h => absurd (show ¬ (7 : Int) = 7 from h) (by decide)) (fun _ => ?_)
    refine x_ic T_295_100 ?_
    refine x_goto T_295_102 ?_
    refine x_ri T_295_106 ?_
    exact ⟨rfl, rfl⟩
theorem ubyte_i {j : Int} (h : 0 ≤ j ∧ j < 12) : 0 ≤ ubyte j ∧ ubyte j ≤ 255 := by
  have h1 : (List.range 12).all (fun i => decide (0 ≤ ubyte (i : Int) ∧ ubyte (i : Int) ≤ 255)) = true := by decide +kernel
  obtain ⟨i, rfl⟩ := Int.eq_ofNat_of_zero_le h.1
  exact of_decide_eq_true (List.all_eq_true.mp h1 i (List.mem_range.mpr (by omega)))
theorem stL_i {j : Int} (hI : IV false T U P) (hp : 0 ≤ p ∧ p < 8) (hj : 0 ≤ j ∧ j < 8) : 0 ≤ lg (stL P p) j ∧ lg (stL P p) j ≤ 255 := by
  have hd : 0 ≤ qDesc P p ∧ qDesc P p ≤ 8 := by
    have hd := coD_rng (P := P) 8 (8 * p) 0
    have h1 : qDesc P p = coD P 8 (8 * p) 0 := rfl
    omega
  have b1 : 0 ≤ P 2322 p ∧ P 2322 p ≤ 3 := IV.a hI 2322 0 8 rfl rfl rfl (by omega) (by omega)
  have b2 : 0 ≤ P 2323 p ∧ P 2323 p ≤ 7 := IV.a hI 2323 0 8 rfl rfl rfl (by omega) (by omega)
  have b3 : 0 ≤ P 2334 (P 2323 p) ∧ P 2334 (P 2323 p) ≤ 8 := IV.a hI 2334 0 8 rfl rfl rfl (by omega) (by omega)
  have hj8 : j = 0 ∨ j = 1 ∨ j = 2 ∨ j = 3 ∨ j = 4 ∨ j = 5 ∨ j = 6 ∨ j = 7 := by omega
  rcases hj8 with rfl | rfl | rfl | rfl | rfl | rfl | rfl | rfl
  · exact ubyte_i (by omega)
  · exact ubyte_i (by omega)
  · exact ubyte_i (by omega)
  · show (0 : Int) ≤ 32 ∧ (32 : Int) ≤ 255
    decide
  · show 0 ≤ 48 + qDesc P p ∧ 48 + qDesc P p ≤ 255
    omega
  · show (0 : Int) ≤ 32 ∧ (32 : Int) ≤ 255
    decide
  · show 0 ≤ 48 + P 2334 (P 2323 p) ∧ 48 + P 2334 (P 2323 p) ≤ 255
    omega
  · show (0 : Int) ≤ 10 ∧ (10 : Int) ≤ 255
    decide
theorem leb_one {v : Int} (h : 0 ≤ v ∧ v ≤ 255) : leb 1 v = [v] := by
  show [v % 256] = [v]
  rw [Int.emod_eq_of_lt h.1 (by omega)]
theorem rA_seg {f : Int → Int} {o j : Int} {S0 : qR} (hj : 0 ≤ j) (h : 0 ≤ f (o + j) ∧ f (o + j) ≤ 255) : rA (rA S0 (seg f o j.toNat)) (leb 1 (f (o + j))) = rA S0 (seg f o (j + 1).toNat) := by
  rw [rA_rA, leb_one h, show (j + 1).toNat = j.toNat + 1 by omega, seg_snoc, Int.toNat_of_nonneg hj]
theorem m_readStatus_loop {off cnt e : Int} (hI : IV false T U P) (hp : 0 ≤ p ∧ p < 8) (ho : 0 ≤ off ∧ off ≤ 7) (h0 : 0 ≤ S 2281 6 ∧ S 2281 6 ≤ 480) (he : (if cnt < 8 - off then cnt else 8 - off) = e) : ∀ (m : Nat) (j : Int) (σ : hM), j + m = e → 0 ≤ j → PM σ0 P (rA S (seg (lg (stL P p)) off j.toNat)) σ → WP fb (d + 2) 294 3 [some (vR (some 2281)), some (vI p), some (vL off), none, some (vI cnt), some (vI j)] [] σ (rV σ0 P (rA S (seg (lg (stL P p)) off e.toNat))) := by
  intro m
  induction m with
  | zero =>
    intro j σ h1 h2 hP
    by_cases q : cnt ≤ j
    · skip
      refine x_li (z := j) T_294_3 rfl ?_
      refine x_li (z := cnt) T_294_5 rfl ?_
      refine x_ic2 T_294_7 (fun _ => ?_) (fun h => absurd (show cnt ≤ j by omega) h)
      refine x_rv T_294_55 ?_
      exact ⟨rfl, by rw [show e = j by omega]; exact hP⟩
    · have q2 : 8 - off ≤ j := by split at he <;> omega
      refine x_li (z := j) T_294_3 rfl ?_
      refine x_li (z := cnt) T_294_5 rfl ?_
      refine x_ic2 T_294_7 (fun h => absurd (show cnt ≤ j from h) (by omega)) (fun _ => ?_)
      refine x_ll (z := off) T_294_10 rfl ?_
      refine x_lc T_294_11 ?_
      refine x_lc T_294_12 ?_
      refine x_cs3 T_294_15 mN_282 mL_282 (Nat.le_of_ble_eq_true rfl) mK_282 (Nat.le_of_ble_eq_true rfl) (m_in) ?_
      rintro _ σ ⟨rfl, rfl⟩
      refine cI ?_
      refine x_if T_294_18 (fun h => absurd (show (if 0 ≤ off ∧ off ≤ 7 then (1 : Int) else 0) = 0 from h) (by rw [if_pos ⟨by omega, by omega⟩]; decide)) (fun _ => ?_)
      refine x_ll (z := off) T_294_21 rfl ?_
      refine x_li (z := j) T_294_22 rfl ?_
      refine x_i2l T_294_24 ?_
      refine x_lb (w := (off + j)) T_294_25 (fun h => absurd h.1 (by decide)) (w64_id (by omega) (by omega)) ?_
      refine x_lc T_294_26 ?_
      refine x_lif T_294_29 T_294_30 (fun _ => ?_) (fun h => absurd (show 8 ≤ (off + j) by omega) h)
      refine x_rv T_294_55 ?_
      exact ⟨rfl, by rw [show e = j by omega]; exact hP⟩
  | succ m ih =>
    intro j σ h1 h2 hP
    have q1 : j < cnt ∧ off + j < 8 := by split at he <;> omega
    have hb := stL_i hI hp (j := off + j) (by omega)
    have e2 : rA S (seg (lg (stL P p)) off j.toNat) 2281 6 = S 2281 6 + j := rA_zn (by rw [seg_len]; omega) rfl
    refine x_li (z := j) T_294_3 rfl ?_
    refine x_li (z := cnt) T_294_5 rfl ?_
    refine x_ic2 T_294_7 (fun h => absurd (show cnt ≤ j from h) (by omega)) (fun _ => ?_)
    refine x_ll (z := off) T_294_10 rfl ?_
    refine x_lc T_294_11 ?_
    refine x_lc T_294_12 ?_
    refine x_cs3 T_294_15 mN_282 mL_282 (Nat.le_of_ble_eq_true rfl) mK_282 (Nat.le_of_ble_eq_true rfl) (m_in) ?_
    rintro _ σ ⟨rfl, rfl⟩
    refine cI ?_
    refine x_if T_294_18 (fun h => absurd (show (if 0 ≤ off ∧ off ≤ 7 then (1 : Int) else 0) = 0 from h) (by rw [if_pos ⟨by omega, by omega⟩]; decide)) (fun _ => ?_)
    refine x_ll (z := off) T_294_21 rfl ?_
    refine x_li (z := j) T_294_22 rfl ?_
    refine x_i2l T_294_24 ?_
    refine x_lb (w := (off + j)) T_294_25 (fun h => absurd h.1 (by decide)) (w64_id (by omega) (by omega)) ?_
    refine x_lc T_294_26 ?_
    refine x_lif T_294_29 T_294_30 (fun h => absurd (show 8 ≤ (off + j) from h) (by omega)) (fun _ => ?_)
    refine x_lr (z := some 2281) T_294_33 rfl ?_
    refine x_ic T_294_34 ?_
    refine x_lr (z := some 2281) T_294_35 rfl ?_
    refine x_li (z := p) T_294_36 rfl ?_
    refine x_ll (z := off) T_294_37 rfl ?_
    refine x_l2i (w := off) T_294_38 (w32_id (by omega) (by omega)) ?_
    refine x_li (z := j) T_294_39 rfl ?_
    refine x_ib (w := (off + j)) T_294_41 (fun h => absurd h.1 (by decide)) (w32_id (by omega) (by omega)) ?_
    refine x_cv3 T_294_42 mN_295 mL_295 (Nat.le_of_ble_eq_true rfl) mO_295 (PM.t hP) (Nat.le_of_ble_eq_true rfl) (m_statusByte hP hI (by omega) (by omega)) ?_
    rintro _ σ ⟨rfl, rfl⟩
    refine cI ?_
    refine x_i2l T_294_45 ?_
    refine x_cv3 T_294_46 mN_237 mL_237 (Nat.le_of_ble_eq_true rfl) mO_237 (PM.t hP) (Nat.le_of_ble_eq_true rfl) (m_put 1 rfl hP (by decide) e2 (by omega) (by omega)) ?_
    rintro _ σ ⟨rfl, hP⟩
    refine cV ?_
    refine x_inc (w := (j + 1)) (ls1 := [some (vR (some 2281)), some (vI p), some (vL off), none, some (vI cnt), some (vI (j + 1))]) T_294_49 rfl (w32_id (by omega) (by omega)) rfl ?_
    refine x_goto T_294_52 ?_
    rw [rA_seg h2 hb] at hP
    exact ih (j + 1) σ (by omega) (by omega) hP
theorem m_readStatus {off cnt w : Int} (hP : PM σ0 P S σ) (hI : IV false T U P) (hp : 0 ≤ p ∧ p < 8) (hc : 0 ≤ cnt ∧ cnt ≤ 300) (e : S 2281 6 = w) (h0 : 0 ≤ w ∧ w ≤ 480) : CL fb (d + 2) 294 [vR (some 2281), vI p, vL off, vI cnt] σ (rV σ0 P (rA S (part (lg (stL P p)) 8 off cnt))) := by
  subst e
  unfold part
  by_cases ho : 0 ≤ off ∧ off ≤ 7
  · rw [if_pos (by omega)]
    refine CL_in mL_294 rfl ?_
    show WP fb _ 294 0 [some (vR (some 2281)), some (vI p), some (vL off), none, some (vI cnt), none] [] σ _
    refine x_ic T_294_0 ?_
    refine x_si (ls1 := [some (vR (some 2281)), some (vI p), some (vL off), none, some (vI cnt), some (vI 0)]) T_294_1 rfl ?_
    exact m_readStatus_loop hI hp ho h0 rfl (if cnt < 8 - off then cnt else 8 - off).toNat 0 σ (by split <;> omega) (by decide) (by rw [show seg (lg (stL P p)) off (0 : Int).toNat = [] from rfl, rA_nil]; exact hP)
  · have hn : (if 0 ≤ off ∧ off ≤ 8 then seg (lg (stL P p)) off (if cnt < 8 - off then cnt else 8 - off).toNat else []) = [] := by
      split
      · rw [show (if cnt < 8 - off then cnt else 8 - off).toNat = 0 by split <;> omega]
        rfl
      · rfl
    rw [hn, rA_nil]
    refine CL_in mL_294 rfl ?_
    show WP fb _ 294 0 [some (vR (some 2281)), some (vI p), some (vL off), none, some (vI cnt), none] [] σ _
    by_cases hc0 : cnt ≤ 0
    · skip
      refine x_ic T_294_0 ?_
      refine x_si (ls1 := [some (vR (some 2281)), some (vI p), some (vL off), none, some (vI cnt), some (vI 0)]) T_294_1 rfl ?_
      refine x_li (z := 0) T_294_3 rfl ?_
      refine x_li (z := cnt) T_294_5 rfl ?_
      refine x_ic2 T_294_7 (fun _ => ?_) (fun h => absurd (show cnt ≤ 0 by omega) h)
      refine x_rv T_294_55 ?_
      exact ⟨rfl, hP⟩
    · skip
      refine x_ic T_294_0 ?_
      refine x_si (ls1 := [some (vR (some 2281)), some (vI p), some (vL off), none, some (vI cnt), some (vI 0)]) T_294_1 rfl ?_
      refine x_li (z := 0) T_294_3 rfl ?_
      refine x_li (z := cnt) T_294_5 rfl ?_
      refine x_ic2 T_294_7 (fun h => absurd (show cnt ≤ 0 from h) (by omega)) (fun _ => ?_)
      refine x_ll (z := off) T_294_10 rfl ?_
      refine x_lc T_294_11 ?_
      refine x_lc T_294_12 ?_
      refine x_cs3 T_294_15 mN_282 mL_282 (Nat.le_of_ble_eq_true rfl) mK_282 (Nat.le_of_ble_eq_true rfl) (m_in) ?_
      rintro _ σ ⟨rfl, rfl⟩
      refine cI ?_
      refine x_if T_294_18 (fun _ => ?_) (fun h => absurd (show (if 0 ≤ off ∧ off ≤ 7 then (1 : Int) else 0) = 0 by rw [if_neg ho]) h)
      refine x_rv T_294_55 ?_
      exact ⟨rfl, hP⟩
theorem m_readFile_loop {off cnt e i : Int} (hI : IV false T U P) (hi : 64 * s + n = i) (hn : 0 ≤ i ∧ i < 128) (ho : 0 ≤ off ∧ off ≤ P 2297 i) (h0 : 0 ≤ S 2281 6 ∧ S 2281 6 ≤ 20) (hc : 0 ≤ cnt ∧ cnt ≤ 300) (he : (if cnt < P 2297 i - off then cnt else P 2297 i - off) = e) : ∀ (m : Nat) (j : Int) (σ : hM), j + m = e → 0 ≤ j → PM σ0 P (rA S (seg (fun x => P 2300 (600 * i + x)) off j.toNat)) σ → WP fb (d + 1) 292 10 [some (vR (some 2281)), some (vI s), some (vI n), some (vL off), none, some (vI cnt), some (vI i), some (vI j)] [] σ (rV σ0 P (rA S (seg (fun x => P 2300 (600 * i + x)) off e.toNat))) := by
  have bl : 0 ≤ P 2297 i ∧ P 2297 i ≤ 600 := IV.a hI 2297 0 128 rfl rfl rfl (by omega) (by omega)
  intro m
  induction m with
  | zero =>
    intro j σ h1 h2 hP
    by_cases q : cnt ≤ j
    · skip
      refine x_li (z := j) T_292_10 rfl ?_
      refine x_li (z := cnt) T_292_12 rfl ?_
      refine x_ic2 T_292_14 (fun _ => ?_) (fun h => absurd (show cnt ≤ j by omega) h)
      refine x_rv T_292_79 ?_
      exact ⟨rfl, by rw [show e = j by omega]; exact hP⟩
    · have q2 : P 2297 i - off ≤ j := by split at he <;> omega
      refine x_li (z := j) T_292_10 rfl ?_
      refine x_li (z := cnt) T_292_12 rfl ?_
      refine x_ic2 T_292_14 (fun h => absurd (show cnt ≤ j from h) (by omega)) (fun _ => ?_)
      refine x_ll (z := off) T_292_17 rfl ?_
      refine x_lc T_292_18 ?_
      refine x_lr (z := some 2281) T_292_19 rfl ?_
      refine x_gR (z := some 2297) T_292_20 F_17_21 (PM.t hP) (PM.r hP 21 2297 rfl) ?_
      refine x_li (z := i) T_292_23 rfl ?_
      have b1 : 0 ≤ P 2297 i ∧ P 2297 i ≤ 600 := IV.a hI 2297 0 128 rfl rfl rfl (by omega) (by omega)
      refine x_alI (z := P 2297 i) T_292_25 (by decide) (PM.ta hP 2297 0 128 rfl rfl) (by omega) (by omega) (PM.aP hP 2297 rfl rfl (by omega)) ?_
      refine x_i2l T_292_26 ?_
      refine x_cs3 T_292_27 mN_282 mL_282 (Nat.le_of_ble_eq_true rfl) mK_282 (Nat.le_of_ble_eq_true rfl) (m_in) ?_
      rintro _ σ ⟨rfl, rfl⟩
      refine cI ?_
      refine x_if T_292_30 (fun h => absurd (show (if 0 ≤ off ∧ off ≤ (P 2297 i) then (1 : Int) else 0) = 0 from h) (by rw [if_pos ho]; decide)) (fun _ => ?_)
      refine x_ll (z := off) T_292_33 rfl ?_
      refine x_li (z := j) T_292_34 rfl ?_
      refine x_i2l T_292_36 ?_
      refine x_lb (w := (off + j)) T_292_37 (fun h => absurd h.1 (by decide)) (w64_id (by omega) (by omega)) ?_
      refine x_lr (z := some 2281) T_292_38 rfl ?_
      refine x_gR (z := some 2297) T_292_39 F_17_21 (PM.t hP) (PM.r hP 21 2297 rfl) ?_
      refine x_li (z := i) T_292_42 rfl ?_
      refine x_alI (z := P 2297 i) T_292_44 (by decide) (PM.ta hP 2297 0 128 rfl rfl) (by omega) (by omega) (PM.aP hP 2297 rfl rfl (by omega)) ?_
      refine x_i2l T_292_45 ?_
      refine x_lif T_292_46 T_292_47 (fun _ => ?_) (fun h => absurd (show P 2297 i ≤ (off + j) by omega) h)
      refine x_rv T_292_79 ?_
      exact ⟨rfl, by rw [show e = j by omega]; exact hP⟩
  | succ m ih =>
    intro j σ h1 h2 hP
    have q1 : j < cnt ∧ off + j < P 2297 i := by split at he <;> omega
    have hb : 0 ≤ P 2300 (600 * i + (off + j)) ∧ P 2300 (600 * i + (off + j)) ≤ 255 := IV.a hI 2300 0 76800 rfl rfl rfl (by omega) (by omega)
    have e2 : rA S (seg (fun x => P 2300 (600 * i + x)) off j.toNat) 2281 6 = S 2281 6 + j := rA_zn (by rw [seg_len]; omega) rfl
    refine x_li (z := j) T_292_10 rfl ?_
    refine x_li (z := cnt) T_292_12 rfl ?_
    refine x_ic2 T_292_14 (fun h => absurd (show cnt ≤ j from h) (by omega)) (fun _ => ?_)
    refine x_ll (z := off) T_292_17 rfl ?_
    refine x_lc T_292_18 ?_
    refine x_lr (z := some 2281) T_292_19 rfl ?_
    refine x_gR (z := some 2297) T_292_20 F_17_21 (PM.t hP) (PM.r hP 21 2297 rfl) ?_
    refine x_li (z := i) T_292_23 rfl ?_
    have b1 : 0 ≤ P 2297 i ∧ P 2297 i ≤ 600 := IV.a hI 2297 0 128 rfl rfl rfl (by omega) (by omega)
    refine x_alI (z := P 2297 i) T_292_25 (by decide) (PM.ta hP 2297 0 128 rfl rfl) (by omega) (by omega) (PM.aP hP 2297 rfl rfl (by omega)) ?_
    refine x_i2l T_292_26 ?_
    refine x_cs3 T_292_27 mN_282 mL_282 (Nat.le_of_ble_eq_true rfl) mK_282 (Nat.le_of_ble_eq_true rfl) (m_in) ?_
    rintro _ σ ⟨rfl, rfl⟩
    refine cI ?_
    refine x_if T_292_30 (fun h => absurd (show (if 0 ≤ off ∧ off ≤ (P 2297 i) then (1 : Int) else 0) = 0 from h) (by rw [if_pos ho]; decide)) (fun _ => ?_)
    refine x_ll (z := off) T_292_33 rfl ?_
    refine x_li (z := j) T_292_34 rfl ?_
    refine x_i2l T_292_36 ?_
    refine x_lb (w := (off + j)) T_292_37 (fun h => absurd h.1 (by decide)) (w64_id (by omega) (by omega)) ?_
    refine x_lr (z := some 2281) T_292_38 rfl ?_
    refine x_gR (z := some 2297) T_292_39 F_17_21 (PM.t hP) (PM.r hP 21 2297 rfl) ?_
    refine x_li (z := i) T_292_42 rfl ?_
    refine x_alI (z := P 2297 i) T_292_44 (by decide) (PM.ta hP 2297 0 128 rfl rfl) (by omega) (by omega) (PM.aP hP 2297 rfl rfl (by omega)) ?_
    refine x_i2l T_292_45 ?_
    refine x_lif T_292_46 T_292_47 (fun h => absurd (show P 2297 i ≤ (off + j) from h) (by omega)) (fun _ => ?_)
    refine x_lr (z := some 2281) T_292_50 rfl ?_
    refine x_ic T_292_51 ?_
    refine x_lr (z := some 2281) T_292_52 rfl ?_
    refine x_gR (z := some 2300) T_292_53 F_17_24 (PM.t hP) (PM.r hP 24 2300 rfl) ?_
    refine x_ic T_292_56 ?_
    refine x_li (z := i) T_292_59 rfl ?_
    refine x_ib (w := (600 * i)) T_292_61 (fun h => absurd h.1 (by decide)) (w32_id (by omega) (by omega)) ?_
    refine x_ll (z := off) T_292_62 rfl ?_
    refine x_l2i (w := off) T_292_63 (w32_id (by omega) (by omega)) ?_
    refine x_ib (w := ((600 * i) + off)) T_292_64 (fun h => absurd h.1 (by decide)) (w32_id (by omega) (by omega)) ?_
    refine x_li (z := j) T_292_65 rfl ?_
    refine x_ib (w := (600 * i + (off + j))) T_292_67 (fun h => absurd h.1 (by decide)) (by show w32 (600 * i + off + j) = _; rw [Int.add_assoc]; exact w32_id (by omega) (by omega)) ?_
    have b2 : 0 ≤ P 2300 (600 * i + (off + j)) ∧ P 2300 (600 * i + (off + j)) ≤ 255 := IV.a hI 2300 0 76800 rfl rfl rfl (by omega) (by omega)
    refine x_alI (z := P 2300 (600 * i + (off + j))) T_292_68 (by decide) (PM.ta hP 2300 0 76800 rfl rfl) (by omega) (by omega) (PM.aP hP 2300 rfl rfl (by omega)) ?_
    refine x_i2l T_292_69 ?_
    refine x_cv3 T_292_70 mN_237 mL_237 (Nat.le_of_ble_eq_true rfl) mO_237 (PM.t hP) (Nat.le_of_ble_eq_true rfl) (m_put 1 rfl hP (by decide) e2 (by omega) (by omega)) ?_
    rintro _ σ ⟨rfl, hP⟩
    refine cV ?_
    refine x_inc (w := (j + 1)) (ls1 := [some (vR (some 2281)), some (vI s), some (vI n), some (vL off), none, some (vI cnt), some (vI i), some (vI (j + 1))]) T_292_73 rfl (w32_id (by omega) (by omega)) rfl ?_
    refine x_goto T_292_76 ?_
    have e3 := rA_seg (f := fun x => P 2300 (600 * i + x)) (o := off) (S0 := S) h2 hb
    rw [e3] at hP
    exact ih (j + 1) σ (by omega) (by omega) hP
theorem m_readFile {off cnt w : Int} (hP : PM σ0 P S σ) (hI : IV false T U P) (h : 0 ≤ s ∧ s < 2 ∧ 0 ≤ n ∧ n < 64) (hc : 0 ≤ cnt ∧ cnt ≤ 300) (e : S 2281 6 = w) (h0 : 0 ≤ w ∧ w ≤ 20) : CL fb (d + 1) 292 [vR (some 2281), vI s, vI n, vL off, vI cnt] σ (rV σ0 P (rA S (part (fun x => P 2300 (600 * (64 * s + n) + x)) (P 2297 (64 * s + n)) off cnt))) := by
  subst e
  have bl : 0 ≤ P 2297 (64 * s + n) ∧ P 2297 (64 * s + n) ≤ 600 := IV.a hI 2297 0 128 rfl rfl rfl (by omega) (by omega)
  unfold part
  by_cases ho : 0 ≤ off ∧ off ≤ P 2297 (64 * s + n)
  · rw [if_pos ho]
    refine CL_in mL_292 rfl ?_
    show WP fb _ 292 0 [some (vR (some 2281)), some (vI s), some (vI n), some (vL off), none, some (vI cnt), none, none] [] σ _
    refine x_li (z := s) T_292_0 rfl ?_
    refine x_li (z := n) T_292_1 rfl ?_
    refine x_cs2 T_292_2 mN_247 mL_247 (Nat.le_of_ble_eq_true rfl) mK_247 (Nat.le_of_ble_eq_true rfl) (m_place (by omega)) ?_
    rintro _ σ ⟨rfl, rfl⟩
    refine cI ?_
    refine x_si (ls1 := [some (vR (some 2281)), some (vI s), some (vI n), some (vL off), none, some (vI cnt), some (vI (64 * s + n)), none]) T_292_5 rfl ?_
    refine x_ic T_292_7 ?_
    refine x_si (ls1 := [some (vR (some 2281)), some (vI s), some (vI n), some (vL off), none, some (vI cnt), some (vI (64 * s + n)), some (vI 0)]) T_292_8 rfl ?_
    exact m_readFile_loop hI rfl (by omega) ho h0 hc rfl (if cnt < P 2297 (64 * s + n) - off then cnt else P 2297 (64 * s + n) - off).toNat 0 σ (by split <;> omega) (by decide) (by rw [show seg (fun x => P 2300 (600 * (64 * s + n) + x)) off (0 : Int).toNat = [] from rfl, rA_nil]; exact hP)
  · rw [if_neg ho, rA_nil]
    refine CL_in mL_292 rfl ?_
    show WP fb _ 292 0 [some (vR (some 2281)), some (vI s), some (vI n), some (vL off), none, some (vI cnt), none, none] [] σ _
    by_cases hc0 : cnt ≤ 0
    · skip
      refine x_li (z := s) T_292_0 rfl ?_
      refine x_li (z := n) T_292_1 rfl ?_
      refine x_cs2 T_292_2 mN_247 mL_247 (Nat.le_of_ble_eq_true rfl) mK_247 (Nat.le_of_ble_eq_true rfl) (m_place (by omega)) ?_
      rintro _ σ ⟨rfl, rfl⟩
      refine cI ?_
      refine x_si (ls1 := [some (vR (some 2281)), some (vI s), some (vI n), some (vL off), none, some (vI cnt), some (vI (64 * s + n)), none]) T_292_5 rfl ?_
      refine x_ic T_292_7 ?_
      refine x_si (ls1 := [some (vR (some 2281)), some (vI s), some (vI n), some (vL off), none, some (vI cnt), some (vI (64 * s + n)), some (vI 0)]) T_292_8 rfl ?_
      refine x_li (z := 0) T_292_10 rfl ?_
      refine x_li (z := cnt) T_292_12 rfl ?_
      refine x_ic2 T_292_14 (fun _ => ?_) (fun h => absurd (show cnt ≤ 0 by omega) h)
      refine x_rv T_292_79 ?_
      exact ⟨rfl, hP⟩
    · skip
      refine x_li (z := s) T_292_0 rfl ?_
      refine x_li (z := n) T_292_1 rfl ?_
      refine x_cs2 T_292_2 mN_247 mL_247 (Nat.le_of_ble_eq_true rfl) mK_247 (Nat.le_of_ble_eq_true rfl) (m_place (by omega)) ?_
      rintro _ σ ⟨rfl, rfl⟩
      refine cI ?_
      refine x_si (ls1 := [some (vR (some 2281)), some (vI s), some (vI n), some (vL off), none, some (vI cnt), some (vI (64 * s + n)), none]) T_292_5 rfl ?_
      refine x_ic T_292_7 ?_
      refine x_si (ls1 := [some (vR (some 2281)), some (vI s), some (vI n), some (vL off), none, some (vI cnt), some (vI (64 * s + n)), some (vI 0)]) T_292_8 rfl ?_
      refine x_li (z := 0) T_292_10 rfl ?_
      refine x_li (z := cnt) T_292_12 rfl ?_
      refine x_ic2 T_292_14 (fun h => absurd (show cnt ≤ 0 from h) (by omega)) (fun _ => ?_)
      refine x_ll (z := off) T_292_17 rfl ?_
      refine x_lc T_292_18 ?_
      refine x_lr (z := some 2281) T_292_19 rfl ?_
      refine x_gR (z := some 2297) T_292_20 F_17_21 (PM.t hP) (PM.r hP 21 2297 rfl) ?_
      refine x_li (z := (64 * s + n)) T_292_23 rfl ?_
      have b1 : 0 ≤ P 2297 (64 * s + n) ∧ P 2297 (64 * s + n) ≤ 600 := IV.a hI 2297 0 128 rfl rfl rfl (by omega) (by omega)
      refine x_alI (z := P 2297 (64 * s + n)) T_292_25 (by decide) (PM.ta hP 2297 0 128 rfl rfl) (by omega) (by omega) (PM.aP hP 2297 rfl rfl (by omega)) ?_
      refine x_i2l T_292_26 ?_
      refine x_cs3 T_292_27 mN_282 mL_282 (Nat.le_of_ble_eq_true rfl) mK_282 (Nat.le_of_ble_eq_true rfl) (m_in) ?_
      rintro _ σ ⟨rfl, rfl⟩
      refine cI ?_
      refine x_if T_292_30 (fun _ => ?_) (fun h => absurd (show (if 0 ≤ off ∧ off ≤ (P 2297 (64 * s + n)) then (1 : Int) else 0) = 0 by rw [if_neg ho]) h)
      refine x_rv T_292_79 ?_
      exact ⟨rfl, hP⟩
end MREAD
