/-! Processes and groups: who is there, what is free. -/
theorem T_308_21 : hTab 308 21 = some ((0, 0, 1, []), 22) := rfl
theorem T_308_22 : hTab 308 22 = some ((22, 0, Int.ofNat 26, []), 25) := rfl
theorem T_383_0 : hTab 383 0 = some ((0, 0, 0, []), 1) := rfl
theorem T_383_1 : hTab 383 1 = some ((4, 1, 0, []), 2) := rfl
theorem T_383_2 : hTab 383 2 = some ((3, 1, 0, []), 3) := rfl
theorem T_383_3 : hTab 383 3 = some ((0, 0, 8, []), 5) := rfl
theorem T_383_5 : hTab 383 5 = some ((19, 3, Int.ofNat 25, []), 8) := rfl
theorem T_383_8 : hTab 383 8 = some ((3, 0, 2, []), 9) := rfl
theorem T_383_9 : hTab 383 9 = some ((24, 17, Int.ofNat 50, []), 12) := rfl
theorem T_383_12 : hTab 383 12 = some ((3, 1, 0, []), 13) := rfl
theorem T_383_13 : hTab 383 13 = some ((26, 2, 0, []), 14) := rfl
theorem T_383_14 : hTab 383 14 = some ((18, 1, Int.ofNat 19, []), 17) := rfl
theorem T_383_17 : hTab 383 17 = some ((3, 1, 0, []), 18) := rfl
theorem T_383_18 : hTab 383 18 = some ((33, 1, 0, []), 19) := rfl
theorem T_383_19 : hTab 383 19 = some ((5, 1, 1, []), 22) := rfl
theorem T_383_22 : hTab 383 22 = some ((22, 0, Int.ofNat 2, []), 25) := rfl
theorem T_383_25 : hTab 383 25 = some ((0, 0, (-1), []), 26) := rfl
theorem T_383_26 : hTab 383 26 = some ((33, 1, 0, []), 27) := rfl
theorem T_384_0 : hTab 384 0 = some ((0, 0, 0, []), 1) := rfl
theorem T_384_1 : hTab 384 1 = some ((4, 1, 0, []), 2) := rfl
theorem T_384_2 : hTab 384 2 = some ((3, 0, 2, []), 3) := rfl
theorem T_384_3 : hTab 384 3 = some ((3, 1, 0, []), 4) := rfl
theorem T_384_4 : hTab 384 4 = some ((31, 385, 0, []), 7) := rfl
theorem T_384_7 : hTab 384 7 = some ((18, 5, Int.ofNat 16, []), 10) := rfl
theorem T_384_10 : hTab 384 10 = some ((5, 1, 1, []), 13) := rfl
theorem T_384_13 : hTab 384 13 = some ((22, 0, Int.ofNat 2, []), 16) := rfl
theorem T_384_16 : hTab 384 16 = some ((3, 0, 2, []), 17) := rfl
theorem T_384_17 : hTab 384 17 = some ((24, 17, Int.ofNat 64, []), 20) := rfl
theorem T_384_20 : hTab 384 20 = some ((3, 1, 0, []), 21) := rfl
theorem T_384_21 : hTab 384 21 = some ((0, 0, 0, []), 22) := rfl
theorem T_384_22 : hTab 384 22 = some ((27, 0, 0, []), 23) := rfl
theorem T_384_23 : hTab 384 23 = some ((3, 1, 0, []), 24) := rfl
theorem T_384_24 : hTab 384 24 = some ((33, 1, 0, []), 25) := rfl
theorem T_385_0 : hTab 385 0 = some ((0, 0, 0, []), 1) := rfl
theorem T_385_1 : hTab 385 1 = some ((4, 2, 0, []), 2) := rfl
theorem T_385_2 : hTab 385 2 = some ((0, 0, 0, []), 3) := rfl
theorem T_385_3 : hTab 385 3 = some ((4, 3, 0, []), 4) := rfl
theorem T_385_4 : hTab 385 4 = some ((3, 3, 0, []), 5) := rfl
theorem T_385_5 : hTab 385 5 = some ((0, 0, 8, []), 7) := rfl
theorem T_385_7 : hTab 385 7 = some ((19, 3, Int.ofNat 43, []), 10) := rfl
theorem T_385_10 : hTab 385 10 = some ((3, 0, 2, []), 11) := rfl
theorem T_385_11 : hTab 385 11 = some ((24, 17, Int.ofNat 50, []), 14) := rfl
theorem T_385_14 : hTab 385 14 = some ((3, 3, 0, []), 15) := rfl
theorem T_385_15 : hTab 385 15 = some ((26, 2, 0, []), 16) := rfl
theorem T_385_16 : hTab 385 16 = some ((18, 0, Int.ofNat 35, []), 19) := rfl
theorem T_385_19 : hTab 385 19 = some ((3, 0, 2, []), 20) := rfl
theorem T_385_20 : hTab 385 20 = some ((24, 17, Int.ofNat 53, []), 23) := rfl
theorem T_385_23 : hTab 385 23 = some ((3, 3, 0, []), 24) := rfl
theorem T_385_24 : hTab 385 24 = some ((26, 0, 0, []), 25) := rfl
theorem T_385_25 : hTab 385 25 = some ((3, 1, 0, []), 26) := rfl
theorem T_385_26 : hTab 385 26 = some ((19, 1, Int.ofNat 35, []), 29) := rfl
theorem T_385_29 : hTab 385 29 = some ((3, 2, 0, []), 30) := rfl
theorem T_385_30 : hTab 385 30 = some ((0, 0, 1, []), 31) := rfl
theorem T_385_31 : hTab 385 31 = some ((10, 0, 0, []), 32) := rfl
theorem T_385_32 : hTab 385 32 = some ((22, 0, Int.ofNat 36, []), 35) := rfl
theorem T_385_35 : hTab 385 35 = some ((3, 2, 0, []), 36) := rfl
theorem T_385_36 : hTab 385 36 = some ((4, 2, 0, []), 37) := rfl
theorem T_385_37 : hTab 385 37 = some ((5, 3, 1, []), 40) := rfl
theorem T_385_40 : hTab 385 40 = some ((22, 0, Int.ofNat 4, []), 43) := rfl
theorem T_385_43 : hTab 385 43 = some ((3, 2, 0, []), 44) := rfl
theorem T_385_44 : hTab 385 44 = some ((33, 1, 0, []), 45) := rfl
theorem T_407_16 : hTab 407 16 = some ((3, 0, 2, []), 17) := rfl
theorem T_407_17 : hTab 407 17 = some ((24, 17, Int.ofNat 40, []), 20) := rfl
theorem T_407_20 : hTab 407 20 = some ((3, 1, 0, []), 21) := rfl
theorem T_407_21 : hTab 407 21 = some ((26, 0, 0, []), 22) := rfl
theorem T_407_22 : hTab 407 22 = some ((22, 0, Int.ofNat 26, []), 25) := rfl
theorem T_408_0 : hTab 408 0 = some ((3, 0, 2, []), 1) := rfl
theorem T_408_1 : hTab 408 1 = some ((24, 17, Int.ofNat 42, []), 4) := rfl
theorem T_408_4 : hTab 408 4 = some ((33, 1, 0, []), 5) := rfl
theorem mN_383 : hmN 383 = 1 := by decide +kernel
theorem mL_383 : hmL 383 = 2 := by decide +kernel
theorem mK_383 : hmK 383 = 1 := by decide +kernel
theorem mO_383 : hmO 383 = 17 := by decide +kernel
theorem mN_384 : hmN 384 = 1 := by decide +kernel
theorem mL_384 : hmL 384 = 2 := by decide +kernel
theorem mK_384 : hmK 384 = 1 := by decide +kernel
theorem mO_384 : hmO 384 = 17 := by decide +kernel
theorem mN_385 : hmN 385 = 2 := by decide +kernel
theorem mL_385 : hmL 385 = 4 := by decide +kernel
theorem mK_385 : hmK 385 = 1 := by decide +kernel
theorem mO_385 : hmO 385 = 17 := by decide +kernel
def fpR (P : qR) : Nat → Int → Int
  | 0, _ => -1
  | m + 1, k => if P 2320 k = 0 then k else fpR P m (k + 1)
def qFp (P : qR) : Int := fpR P 8 0
/-- how many processes of a group, from k on -/
def qPn (P : qR) (g : Int) : Nat → Int → Int
  | 0, _ => 0
  | m + 1, k => (if ¬ P 2320 k = 0 ∧ P 2323 k = g then 1 else 0) + qPn P g m (k + 1)
def fgR (P : qR) : Nat → Int → Int
  | 0, k => k
  | m + 1, k => if qPn P k 8 0 ≤ 0 then k else fgR P m (k + 1)
def qFg (P : qR) : Int := fgR P 8 0
section MPROC
variable {fb : Bool} {d : Nat} {σ0 σ : hM} {P Q R S S1 S2 : qR} {T U s w g u p k e t z o n N v : Int} {l : List Int} {h : List Ch}
theorem qPn_y {m : Nat} (h : ¬ P 2320 k = 0 ∧ P 2323 k = g) : qPn P g (m + 1) k = 1 + qPn P g m (k + 1) := by
  show (if ¬ P 2320 k = 0 ∧ P 2323 k = g then 1 else 0) + qPn P g m (k + 1) = _
  rw [if_pos h]
theorem qPn_n {m : Nat} (h : ¬ (¬ P 2320 k = 0 ∧ P 2323 k = g)) : qPn P g (m + 1) k = qPn P g m (k + 1) := by
  show (if ¬ P 2320 k = 0 ∧ P 2323 k = g then 1 else 0) + qPn P g m (k + 1) = _
  rw [if_neg h, Int.zero_add]
theorem qPn_rng : ∀ (m : Nat) (k : Int), 0 ≤ qPn P g m k ∧ qPn P g m k ≤ m
  | 0, k => ⟨Int.le_refl _, Int.le_refl _⟩
  | m + 1, k => by
    have := qPn_rng m (k + 1)
    unfold qPn
    split <;> omega
theorem qPn_0 : ∀ (m : Nat) (k : Int), qPn P g m k ≤ 0 → ∀ i, k ≤ i → i < k + m → ¬ (¬ P 2320 i = 0 ∧ P 2323 i = g)
  | 0, k, _, i, h1, h2 => by omega
  | m + 1, k, h, i, h1, h2 => by
    have hr := qPn_rng (P := P) (g := g) m (k + 1)
    unfold qPn at h
    by_cases q : i = k
    · intro c
      rw [← q, if_pos c] at h
      rw [q] at h
      omega
    · refine qPn_0 m (k + 1) ?_ i (by omega) (by omega)
      split at h <;> omega
theorem qPn_1 : ∀ (m : Nat) (k : Int), 0 < qPn P g m k → ∃ i, k ≤ i ∧ i < k + m ∧ ¬ P 2320 i = 0 ∧ P 2323 i = g
  | 0, k, h => by
    have h : (0 : Int) < 0 := h
    omega
  | m + 1, k, h => by
    unfold qPn at h
    by_cases q : ¬ P 2320 k = 0 ∧ P 2323 k = g
    · exact ⟨k, Int.le_refl k, by omega, q⟩
    · rw [if_neg q] at h
      obtain ⟨i, a, b, c⟩ := qPn_1 m (k + 1) (by omega)
      exact ⟨i, by omega, by omega, c⟩
theorem fgR_all : ∀ (m : Nat) (k : Int), k ≤ fgR P m k ∧ fgR P m k ≤ k + m ∧ (fgR P m k < k + m → qPn P (fgR P m k) 8 0 ≤ 0) ∧ ∀ i, k ≤ i → i < fgR P m k → 0 < qPn P i 8 0
  | 0, k => ⟨Int.le_refl k, by show k ≤ k + ((0 : Nat) : Int); omega, fun h => by have h : k < k + ((0 : Nat) : Int) := h; omega, fun i h1 h2 => by have h2 : i < k := h2; omega⟩
  | m + 1, k => by
    unfold fgR
    split
    · rename_i q
      exact ⟨Int.le_refl k, by omega, fun _ => q, fun i h1 h2 => by omega⟩
    · rename_i q
      obtain ⟨a1, a2, a3, a4⟩ := fgR_all m (k + 1)
      refine ⟨by omega, by omega, fun h => a3 (by omega), fun i h1 h2 => ?_⟩
      by_cases e : i = k
      · rw [e]
        omega
      · exact a4 i (by omega) h2
/-- where a process is free, a group is -/
theorem qFg_ok (hp : 0 ≤ p ∧ p < 8) (hf : P 2320 p = 0) : 0 ≤ qFg P ∧ qFg P < 8 ∧ qPn P (qFg P) 8 0 ≤ 0 := by
  obtain ⟨a1, a2, a3, a4⟩ := fgR_all (P := P) 8 0
  have e : fgR P 8 0 = qFg P := rfl
  rw [e] at a1 a2 a3 a4
  by_cases hlt : qFg P < 8
  · exact ⟨a1, hlt, a3 (by omega)⟩
  · exfalso
    refine pigeon (fun i => if P 2320 i = 0 then -1 else P 2323 i) 8 (i := p.toNat) (by omega) ?_ ?_
    · show (if P 2320 (p.toNat : Int) = 0 then -1 else P 2323 (p.toNat : Int)) < 0
      rw [show (p.toNat : Int) = p by omega, if_pos hf]
      decide
    · intro o h0 h1
      have h1 : o < 8 := h1
      obtain ⟨i, b1, b2, b3, b4⟩ := qPn_1 8 0 (a4 o h0 (by omega))
      exact ⟨i.toNat, by omega, by
        show (if P 2320 (i.toNat : Int) = 0 then -1 else P 2323 (i.toNat : Int)) = o
        rw [show (i.toNat : Int) = i by omega, if_neg b3]
        exact b4⟩
theorem m_hasProcess (hP : PM σ0 P S σ) : CL fb (d + 1) 308 [vR (some 2281), vI p] σ (rP (if (0 ≤ p ∧ p ≤ 7) ∧ ¬ P 2320 p = 0 then 1 else 0) σ) := by
  by_cases q : 0 ≤ p ∧ p ≤ 7
  · by_cases q2 : P 2320 p = 0
    · rw [if_neg (fun c => c.2 q2)]
      refine CL_in mL_308 rfl ?_
      show WP fb _ 308 0 [some (vR (some 2281)), some (vI p)] [] σ _
      refine x_li (z := p) T_308_0 rfl ?_
      refine x_i2l T_308_1 ?_
      refine x_lc T_308_2 ?_
      refine x_lc T_308_3 ?_
      refine x_cs3 T_308_6 mN_282 mL_282 (Nat.le_of_ble_eq_true rfl) mK_282 (Nat.le_of_ble_eq_true rfl) (m_in) ?_
      rintro _ σ ⟨rfl, rfl⟩
      refine cI ?_
      refine x_if T_308_9 (fun h => absurd (show (if 0 ≤ p ∧ p ≤ 7 then (1 : Int) else 0) = 0 from h) (by rw [if_pos q]; decide)) (fun _ => ?_)
      refine x_lr (z := some 2281) T_308_12 rfl ?_
      refine x_gR (z := some 2320) T_308_13 F_17_50 (PM.t hP) (PM.r hP 50 2320 rfl) ?_
      refine x_li (z := p) T_308_16 rfl ?_
      refine x_alI (z := P 2320 p) T_308_17 (by decide) (PM.ta hP 2320 2 8 rfl rfl) (by omega) (by omega) (PM.aP hP 2320 rfl rfl (by omega)) ?_
      refine x_if T_308_18 (fun _ => ?_) (fun h => absurd (show P 2320 p = 0 by exact q2) h)
      refine x_ic T_308_25 ?_
      refine x_rz T_308_26 rfl ?_
      exact ⟨rfl, rfl⟩
    · rw [if_pos ⟨q, q2⟩]
      refine CL_in mL_308 rfl ?_
      show WP fb _ 308 0 [some (vR (some 2281)), some (vI p)] [] σ _
      refine x_li (z := p) T_308_0 rfl ?_
      refine x_i2l T_308_1 ?_
      refine x_lc T_308_2 ?_
      refine x_lc T_308_3 ?_
      refine x_cs3 T_308_6 mN_282 mL_282 (Nat.le_of_ble_eq_true rfl) mK_282 (Nat.le_of_ble_eq_true rfl) (m_in) ?_
      rintro _ σ ⟨rfl, rfl⟩
      refine cI ?_
      refine x_if T_308_9 (fun h => absurd (show (if 0 ≤ p ∧ p ≤ 7 then (1 : Int) else 0) = 0 from h) (by rw [if_pos q]; decide)) (fun _ => ?_)
      refine x_lr (z := some 2281) T_308_12 rfl ?_
      refine x_gR (z := some 2320) T_308_13 F_17_50 (PM.t hP) (PM.r hP 50 2320 rfl) ?_
      refine x_li (z := p) T_308_16 rfl ?_
      refine x_alI (z := P 2320 p) T_308_17 (by decide) (PM.ta hP 2320 2 8 rfl rfl) (by omega) (by omega) (PM.aP hP 2320 rfl rfl (by omega)) ?_
      refine x_if T_308_18 (fun h => absurd (show P 2320 p = 0 from h) (by exact q2)) (fun _ => ?_)
      refine x_ic T_308_21 ?_
      refine x_goto T_308_22 ?_
      refine x_rz T_308_26 rfl ?_
      exact ⟨rfl, rfl⟩
  · rw [if_neg (fun c => q c.1)]
    refine CL_in mL_308 rfl ?_
    show WP fb _ 308 0 [some (vR (some 2281)), some (vI p)] [] σ _
    refine x_li (z := p) T_308_0 rfl ?_
    refine x_i2l T_308_1 ?_
    refine x_lc T_308_2 ?_
    refine x_lc T_308_3 ?_
    refine x_cs3 T_308_6 mN_282 mL_282 (Nat.le_of_ble_eq_true rfl) mK_282 (Nat.le_of_ble_eq_true rfl) (m_in) ?_
    rintro _ σ ⟨rfl, rfl⟩
    refine cI ?_
    refine x_if T_308_9 (fun _ => ?_) (fun h => absurd (show (if 0 ≤ p ∧ p ≤ 7 then (1 : Int) else 0) = 0 by rw [if_neg q]) h)
    refine x_ic T_308_25 ?_
    refine x_rz T_308_26 rfl ?_
    exact ⟨rfl, rfl⟩
theorem m_freeProcess (hP : PM σ0 P S σ) : CL fb d 383 [vR (some 2281)] σ (rP (qFp P) σ) := by
  refine CL_in mL_383 rfl ?_
  show WP fb _ 383 0 [some (vR (some 2281)), none] [] σ _
  suffices H : ∀ (m : Nat) (k : Int), k + m = 8 → 0 ≤ k → WP fb d 383 2 [some (vR (some 2281)), some (vI k)] [] σ (rP (fpR P m k) σ) by
    have hgo := H 8 0 (by decide) (by decide)
    refine x_ic T_383_0 ?_
    refine x_si (ls1 := [some (vR (some 2281)), some (vI 0)]) T_383_1 rfl ?_
    exact hgo
  intro m
  induction m with
  | zero =>
    intro k h1 h2
    have h1 : k + ((0 : Nat) : Int) = 8 := h1
    refine x_li (z := k) T_383_2 rfl ?_
    refine x_ic T_383_3 ?_
    refine x_ic2 T_383_5 (fun _ => ?_) (fun h => absurd (show 8 ≤ k by omega) h)
    refine x_ic T_383_25 ?_
    refine x_ri T_383_26 ?_
    exact ⟨rfl, rfl⟩
  | succ m ih =>
    intro k h1 h2
    by_cases q : P 2320 k = 0
    · rw [show fpR P (m + 1) k = k from if_pos q]
      refine x_li (z := k) T_383_2 rfl ?_
      refine x_ic T_383_3 ?_
      refine x_ic2 T_383_5 (fun h => absurd (show 8 ≤ k from h) (by omega)) (fun _ => ?_)
      refine x_lr (z := some 2281) T_383_8 rfl ?_
      refine x_gR (z := some 2320) T_383_9 F_17_50 (PM.t hP) (PM.r hP 50 2320 rfl) ?_
      refine x_li (z := k) T_383_12 rfl ?_
      refine x_alI (z := P 2320 k) T_383_13 (by decide) (PM.ta hP 2320 2 8 rfl rfl) (by omega) (by omega) (PM.aP hP 2320 rfl rfl (by omega)) ?_
      refine x_if T_383_14 (fun h => absurd (show ¬ P 2320 k = 0 from h) (by exact fun c => c q)) (fun _ => ?_)
      refine x_li (z := k) T_383_17 rfl ?_
      refine x_ri T_383_18 ?_
      exact ⟨rfl, rfl⟩
    · rw [show fpR P (m + 1) k = fpR P m (k + 1) from if_neg q]
      have hgo := ih (k + 1) (by omega) (by omega)
      refine x_li (z := k) T_383_2 rfl ?_
      refine x_ic T_383_3 ?_
      refine x_ic2 T_383_5 (fun h => absurd (show 8 ≤ k from h) (by omega)) (fun _ => ?_)
      refine x_lr (z := some 2281) T_383_8 rfl ?_
      refine x_gR (z := some 2320) T_383_9 F_17_50 (PM.t hP) (PM.r hP 50 2320 rfl) ?_
      refine x_li (z := k) T_383_12 rfl ?_
      refine x_alI (z := P 2320 k) T_383_13 (by decide) (PM.ta hP 2320 2 8 rfl rfl) (by omega) (by omega) (PM.aP hP 2320 rfl rfl (by omega)) ?_
      refine x_if T_383_14 (fun _ => ?_) (fun h => absurd (show ¬ P 2320 k = 0 by exact q) h)
      refine x_inc (w := (k + 1)) (ls1 := [some (vR (some 2281)), some (vI (k + 1))]) T_383_19 rfl (w32_id (by omega) (by omega)) rfl ?_
      refine x_goto T_383_22 ?_
      exact hgo
theorem m_processesOf (hP : PM σ0 P S σ) : CL fb d 385 [vR (some 2281), vI g] σ (rP (qPn P g 8 0) σ) := by
  refine CL_in mL_385 rfl ?_
  show WP fb _ 385 0 [some (vR (some 2281)), some (vI g), none, none] [] σ _
  suffices H : ∀ (m : Nat) (k v : Int), k + m = 8 → 0 ≤ k → 0 ≤ v → v ≤ k → WP fb d 385 4 [some (vR (some 2281)), some (vI g), some (vI v), some (vI k)] [] σ (rP (v + qPn P g m k) σ) by
    have hgo := H 8 0 0 (by decide) (by decide) (by decide) (by decide)
    rw [Int.zero_add] at hgo
    refine x_ic T_385_0 ?_
    refine x_si (ls1 := [some (vR (some 2281)), some (vI g), some (vI 0), none]) T_385_1 rfl ?_
    refine x_ic T_385_2 ?_
    refine x_si (ls1 := [some (vR (some 2281)), some (vI g), some (vI 0), some (vI 0)]) T_385_3 rfl ?_
    exact hgo
  intro m
  induction m with
  | zero =>
    intro k v h1 h2 h3 h4
    have h1 : k + ((0 : Nat) : Int) = 8 := h1
    rw [show v + qPn P g 0 k = v by show v + 0 = v; omega]
    refine x_li (z := k) T_385_4 rfl ?_
    refine x_ic T_385_5 ?_
    refine x_ic2 T_385_7 (fun _ => ?_) (fun h => absurd (show 8 ≤ k by omega) h)
    refine x_li (z := v) T_385_43 rfl ?_
    refine x_ri T_385_44 ?_
    exact ⟨rfl, rfl⟩
  | succ m ih =>
    intro k v h1 h2 h3 h4
    by_cases q : P 2320 k = 0
    · rw [qPn_n (m := m) (fun c => c.1 q)]
      have hgo := ih (k + 1) v (by omega) (by omega) h3 (by omega)
      refine x_li (z := k) T_385_4 rfl ?_
      refine x_ic T_385_5 ?_
      refine x_ic2 T_385_7 (fun h => absurd (show 8 ≤ k from h) (by omega)) (fun _ => ?_)
      refine x_lr (z := some 2281) T_385_10 rfl ?_
      refine x_gR (z := some 2320) T_385_11 F_17_50 (PM.t hP) (PM.r hP 50 2320 rfl) ?_
      refine x_li (z := k) T_385_14 rfl ?_
      refine x_alI (z := P 2320 k) T_385_15 (by decide) (PM.ta hP 2320 2 8 rfl rfl) (by omega) (by omega) (PM.aP hP 2320 rfl rfl (by omega)) ?_
      refine x_if T_385_16 (fun _ => ?_) (fun h => absurd (show P 2320 k = 0 by exact q) h)
      refine x_li (z := v) T_385_35 rfl ?_
      refine x_si (ls1 := [some (vR (some 2281)), some (vI g), some (vI v), some (vI k)]) T_385_36 rfl ?_
      refine x_inc (w := (k + 1)) (ls1 := [some (vR (some 2281)), some (vI g), some (vI v), some (vI (k + 1))]) T_385_37 rfl (w32_id (by omega) (by omega)) rfl ?_
      refine x_goto T_385_40 ?_
      exact hgo
    · by_cases q2 : P 2323 k = g
      · rw [qPn_y (m := m) ⟨q, q2⟩, show v + (1 + qPn P g m (k + 1)) = v + 1 + qPn P g m (k + 1) by omega]
        have hgo := ih (k + 1) (v + 1) (by omega) (by omega) (by omega) (by omega)
        refine x_li (z := k) T_385_4 rfl ?_
        refine x_ic T_385_5 ?_
        refine x_ic2 T_385_7 (fun h => absurd (show 8 ≤ k from h) (by omega)) (fun _ => ?_)
        refine x_lr (z := some 2281) T_385_10 rfl ?_
        refine x_gR (z := some 2320) T_385_11 F_17_50 (PM.t hP) (PM.r hP 50 2320 rfl) ?_
        refine x_li (z := k) T_385_14 rfl ?_
        refine x_alI (z := P 2320 k) T_385_15 (by decide) (PM.ta hP 2320 2 8 rfl rfl) (by omega) (by omega) (PM.aP hP 2320 rfl rfl (by omega)) ?_
        refine x_if T_385_16 (fun h => absurd (show P 2320 k = 0 from h) (by exact q)) (fun _ => ?_)
        refine x_lr (z := some 2281) T_385_19 rfl ?_
        refine x_gR (z := some 2323) T_385_20 F_17_53 (PM.t hP) (PM.r hP 53 2323 rfl) ?_
        refine x_li (z := k) T_385_23 rfl ?_
        refine x_alI (z := P 2323 k) T_385_24 (by decide) (PM.ta hP 2323 0 8 rfl rfl) (by omega) (by omega) (PM.aP hP 2323 rfl rfl (by omega)) ?_
        refine x_li (z := g) T_385_25 rfl ?_
        refine x_ic2 T_385_26 (fun h => absurd (show ¬ P 2323 k = g from h) (by exact fun c => c q2)) (fun _ => ?_)
        refine x_li (z := v) T_385_29 rfl ?_
        refine x_ic T_385_30 ?_
        refine x_ib (w := (v + 1)) T_385_31 (fun h => absurd h.1 (by decide)) (w32_id (by omega) (by omega)) ?_
        refine x_goto T_385_32 ?_
        refine x_si (ls1 := [some (vR (some 2281)), some (vI g), some (vI (v + 1)), some (vI k)]) T_385_36 rfl ?_
        refine x_inc (w := (k + 1)) (ls1 := [some (vR (some 2281)), some (vI g), some (vI (v + 1)), some (vI (k + 1))]) T_385_37 rfl (w32_id (by omega) (by omega)) rfl ?_
        refine x_goto T_385_40 ?_
        exact hgo
      · rw [qPn_n (m := m) (fun c => q2 c.2)]
        have hgo := ih (k + 1) v (by omega) (by omega) h3 (by omega)
        refine x_li (z := k) T_385_4 rfl ?_
        refine x_ic T_385_5 ?_
        refine x_ic2 T_385_7 (fun h => absurd (show 8 ≤ k from h) (by omega)) (fun _ => ?_)
        refine x_lr (z := some 2281) T_385_10 rfl ?_
        refine x_gR (z := some 2320) T_385_11 F_17_50 (PM.t hP) (PM.r hP 50 2320 rfl) ?_
        refine x_li (z := k) T_385_14 rfl ?_
        refine x_alI (z := P 2320 k) T_385_15 (by decide) (PM.ta hP 2320 2 8 rfl rfl) (by omega) (by omega) (PM.aP hP 2320 rfl rfl (by omega)) ?_
        refine x_if T_385_16 (fun h => absurd (show P 2320 k = 0 from h) (by exact q)) (fun _ => ?_)
        refine x_lr (z := some 2281) T_385_19 rfl ?_
        refine x_gR (z := some 2323) T_385_20 F_17_53 (PM.t hP) (PM.r hP 53 2323 rfl) ?_
        refine x_li (z := k) T_385_23 rfl ?_
        refine x_alI (z := P 2323 k) T_385_24 (by decide) (PM.ta hP 2323 0 8 rfl rfl) (by omega) (by omega) (PM.aP hP 2323 rfl rfl (by omega)) ?_
        refine x_li (z := g) T_385_25 rfl ?_
        refine x_ic2 T_385_26 (fun _ => ?_) (fun h => absurd (show ¬ P 2323 k = g by exact q2) h)
        refine x_li (z := v) T_385_35 rfl ?_
        refine x_si (ls1 := [some (vR (some 2281)), some (vI g), some (vI v), some (vI k)]) T_385_36 rfl ?_
        refine x_inc (w := (k + 1)) (ls1 := [some (vR (some 2281)), some (vI g), some (vI v), some (vI (k + 1))]) T_385_37 rfl (w32_id (by omega) (by omega)) rfl ?_
        refine x_goto T_385_40 ?_
        exact hgo
theorem m_freeGroup (hP : PM σ0 P S σ) (hp : 0 ≤ p ∧ p < 8) (hf : P 2320 p = 0) : CL fb (d + 1) 384 [vR (some 2281)] σ (fun r σ' => r = some (vI (qFg P)) ∧ PM σ0 (rU P 2334 (qFg P) 0) S σ') := by
  have hok := qFg_ok hp hf
  refine CL_in mL_384 rfl ?_
  show WP fb _ 384 0 [some (vR (some 2281)), none] [] σ _
  suffices H : ∀ (m : Nat) (k : Int), k + m = 8 → 0 ≤ k → k ≤ qFg P → fgR P m k = qFg P → WP fb (d + 1) 384 2 [some (vR (some 2281)), some (vI k)] [] σ (fun r σ' => r = some (vI (qFg P)) ∧ PM σ0 (rU P 2334 (qFg P) 0) S σ') by
    have hgo := H 8 0 (by decide) (by decide) hok.1 rfl
    refine x_ic T_384_0 ?_
    refine x_si (ls1 := [some (vR (some 2281)), some (vI 0)]) T_384_1 rfl ?_
    exact hgo
  intro m
  induction m with
  | zero =>
    intro k h1 h2 h3 h4
    have h4 : k = qFg P := h4
    have h1 : k + ((0 : Nat) : Int) = 8 := h1
    omega
  | succ m ih =>
    intro k h1 h2 h3 h4
    have hpo := fun (σ : hM) (hP : PM σ0 P S σ) => m_processesOf (fb := fb) (d := d) (g := k) hP
    obtain ⟨n, hn⟩ : ∃ n, qPn P k 8 0 = n := ⟨_, rfl⟩
    rw [hn] at hpo
    by_cases q : n ≤ 0
    · rw [show fgR P (m + 1) k = k from if_pos (by rw [hn]; exact q)] at h4
      rw [← h4]
      refine x_lr (z := some 2281) T_384_2 rfl ?_
      refine x_li (z := k) T_384_3 rfl ?_
      refine x_cv2 T_384_4 mN_385 mL_385 (Nat.le_of_ble_eq_true rfl) mO_385 (PM.t hP) (Nat.le_of_ble_eq_true rfl) (hpo σ hP) ?_
      rintro _ σ ⟨rfl, rfl⟩
      refine cI ?_
      refine x_if T_384_7 (fun _ => ?_) (fun h => absurd (show n ≤ 0 by omega) h)
      refine x_lr (z := some 2281) T_384_16 rfl ?_
      refine x_gR (z := some 2334) T_384_17 F_17_64 (PM.t hP) (PM.r hP 64 2334 rfl) ?_
      refine x_li (z := k) T_384_20 rfl ?_
      refine x_ic T_384_21 ?_
      refine y_aIP hP T_384_22 2334 8 rfl rfl rfl (by omega) (by omega) (fun σ hP => ?_)
      refine x_li (z := k) T_384_23 rfl ?_
      refine x_ri T_384_24 ?_
      exact ⟨rfl, hP⟩
    · rw [show fgR P (m + 1) k = fgR P m (k + 1) from if_neg (by rw [hn]; exact q)] at h4
      have hk : k + 1 ≤ qFg P := by
        rw [← h4]
        exact (fgR_all m (k + 1)).1
      have hgo := ih (k + 1) (by omega) (by omega) hk h4
      refine x_lr (z := some 2281) T_384_2 rfl ?_
      refine x_li (z := k) T_384_3 rfl ?_
      refine x_cv2 T_384_4 mN_385 mL_385 (Nat.le_of_ble_eq_true rfl) mO_385 (PM.t hP) (Nat.le_of_ble_eq_true rfl) (hpo σ hP) ?_
      rintro _ σ ⟨rfl, rfl⟩
      refine cI ?_
      refine x_if T_384_7 (fun h => absurd (show n ≤ 0 from h) (by omega)) (fun _ => ?_)
      refine x_inc (w := (k + 1)) (ls1 := [some (vR (some 2281)), some (vI (k + 1))]) T_384_10 rfl (w32_id (by omega) (by omega)) rfl ?_
      refine x_goto T_384_13 ?_
      exact hgo
theorem m_messages (hP : PM σ0 P S σ) : CL fb d 408 [vR (some 2281)] σ (rP (P 2281 42) σ) := by
  refine CL_in mL_408 rfl ?_
  show WP fb _ 408 0 [some (vR (some 2281))] [] σ _
  refine x_lr (z := some 2281) T_408_0 rfl ?_
  refine x_gI (z := P 2281 42) T_408_1 (Or.inl F_17_42) (PM.t hP) (PM.nP hP 2281 42 42 rfl rfl rfl) ?_
  refine x_ri T_408_4 ?_
  exact ⟨rfl, rfl⟩
theorem m_sum (hP : PM σ0 P S σ) : CL fb d 410 [vR (some 2281)] σ (rPL (P 2281 45) σ) := by
  refine CL_in mL_410 rfl ?_
  show WP fb _ 410 0 [some (vR (some 2281))] [] σ _
  refine x_lr (z := some 2281) T_410_0 rfl ?_
  refine x_gL (z := P 2281 45) T_410_1 F_17_45 (PM.t hP) (PM.nP hP 2281 45 45 rfl rfl rfl) ?_
  refine x_rl T_410_4 ?_
  exact ⟨rfl, rfl⟩
theorem m_console (hP : PM σ0 P S σ) (hn : P 2281 41 = n) (h1 : 0 ≤ n ∧ n ≤ 1000) : CL fb (d + 1) 407 [vR (some 2281), vI k] σ (rP (if 0 ≤ k ∧ k ≤ n - 1 then P 2315 k else -1) σ) := by
  by_cases q : 0 ≤ k ∧ k ≤ n - 1
  · rw [if_pos q]
    refine CL_in mL_407 rfl ?_
    show WP fb _ 407 0 [some (vR (some 2281)), some (vI k)] [] σ _
    refine x_li (z := k) T_407_0 rfl ?_
    refine x_i2l T_407_1 ?_
    refine x_lc T_407_2 ?_
    refine x_lr (z := some 2281) T_407_3 rfl ?_
    refine x_gI (z := n) T_407_4 (Or.inl F_17_41) (PM.t hP) (Eq.trans (PM.nP hP 2281 41 41 rfl rfl rfl) hn) ?_
    refine x_ic T_407_7 ?_
    refine x_ib (w := (n - 1)) T_407_8 (fun h => absurd h.1 (by decide)) (w32_id (by omega) (by omega)) ?_
    refine x_i2l T_407_9 ?_
    refine x_cs3 T_407_10 mN_282 mL_282 (Nat.le_of_ble_eq_true rfl) mK_282 (Nat.le_of_ble_eq_true rfl) (m_in) ?_
    rintro _ σ ⟨rfl, rfl⟩
    refine cI ?_
    refine x_if T_407_13 (fun h => absurd (show (if 0 ≤ k ∧ k ≤ (n - 1) then (1 : Int) else 0) = 0 from h) (by rw [if_pos q]; decide)) (fun _ => ?_)
    refine x_lr (z := some 2281) T_407_16 rfl ?_
    refine x_gR (z := some 2315) T_407_17 F_17_40 (PM.t hP) (PM.r hP 40 2315 rfl) ?_
    refine x_li (z := k) T_407_20 rfl ?_
    refine x_alI (z := P 2315 k) T_407_21 (by decide) (PM.ta hP 2315 0 1000 rfl rfl) (by omega) (by omega) (PM.aP hP 2315 rfl rfl (by omega)) ?_
    refine x_goto T_407_22 ?_
    refine x_ri T_407_26 ?_
    exact ⟨rfl, rfl⟩
  · rw [if_neg q]
    refine CL_in mL_407 rfl ?_
    show WP fb _ 407 0 [some (vR (some 2281)), some (vI k)] [] σ _
    refine x_li (z := k) T_407_0 rfl ?_
    refine x_i2l T_407_1 ?_
    refine x_lc T_407_2 ?_
    refine x_lr (z := some 2281) T_407_3 rfl ?_
    refine x_gI (z := n) T_407_4 (Or.inl F_17_41) (PM.t hP) (Eq.trans (PM.nP hP 2281 41 41 rfl rfl rfl) hn) ?_
    refine x_ic T_407_7 ?_
    refine x_ib (w := (n - 1)) T_407_8 (fun h => absurd h.1 (by decide)) (w32_id (by omega) (by omega)) ?_
    refine x_i2l T_407_9 ?_
    refine x_cs3 T_407_10 mN_282 mL_282 (Nat.le_of_ble_eq_true rfl) mK_282 (Nat.le_of_ble_eq_true rfl) (m_in) ?_
    rintro _ σ ⟨rfl, rfl⟩
    refine cI ?_
    refine x_if T_407_13 (fun _ => ?_) (fun h => absurd (show (if 0 ≤ k ∧ k ≤ (n - 1) then (1 : Int) else 0) = 0 by rw [if_neg q]) h)
    refine x_ic T_407_25 ?_
    refine x_ri T_407_26 ?_
    exact ⟨rfl, rfl⟩
end MPROC
