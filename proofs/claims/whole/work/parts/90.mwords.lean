/-! The line and its words; what is told to a process. -/
theorem T_318_0 : hTab 318 0 = some ((3, 0, 2, []), 1) := rfl
theorem T_318_1 : hTab 318 1 = some ((24, 17, Int.ofNat 76, []), 4) := rfl
theorem T_318_4 : hTab 318 4 = some ((3, 1, 0, []), 5) := rfl
theorem T_318_5 : hTab 318 5 = some ((26, 0, 0, []), 6) := rfl
theorem T_318_6 : hTab 318 6 = some ((3, 0, 2, []), 7) := rfl
theorem T_318_7 : hTab 318 7 = some ((24, 17, Int.ofNat 75, []), 10) := rfl
theorem T_318_10 : hTab 318 10 = some ((3, 1, 0, []), 11) := rfl
theorem T_318_11 : hTab 318 11 = some ((26, 0, 0, []), 12) := rfl
theorem T_318_12 : hTab 318 12 = some ((10, 1, 0, []), 13) := rfl
theorem T_318_13 : hTab 318 13 = some ((33, 1, 0, []), 14) := rfl
theorem T_319_0 : hTab 319 0 = some ((3, 0, 2, []), 1) := rfl
theorem T_319_1 : hTab 319 1 = some ((24, 17, Int.ofNat 73, []), 4) := rfl
theorem T_319_4 : hTab 319 4 = some ((3, 0, 2, []), 5) := rfl
theorem T_319_5 : hTab 319 5 = some ((24, 17, Int.ofNat 75, []), 8) := rfl
theorem T_319_8 : hTab 319 8 = some ((3, 1, 0, []), 9) := rfl
theorem T_319_9 : hTab 319 9 = some ((26, 0, 0, []), 10) := rfl
theorem T_319_10 : hTab 319 10 = some ((3, 2, 0, []), 11) := rfl
theorem T_319_11 : hTab 319 11 = some ((10, 0, 0, []), 12) := rfl
theorem T_319_12 : hTab 319 12 = some ((26, 0, 0, []), 13) := rfl
theorem T_319_13 : hTab 319 13 = some ((33, 1, 0, []), 14) := rfl
theorem T_351_0 : hTab 351 0 = some ((3, 0, 2, []), 1) := rfl
theorem T_351_1 : hTab 351 1 = some ((24, 17, Int.ofNat 59, []), 4) := rfl
theorem T_351_4 : hTab 351 4 = some ((3, 1, 0, []), 5) := rfl
theorem T_351_5 : hTab 351 5 = some ((26, 0, 0, []), 6) := rfl
theorem T_351_6 : hTab 351 6 = some ((0, 0, 1000, []), 9) := rfl
theorem T_351_9 : hTab 351 9 = some ((19, 3, Int.ofNat 40, []), 12) := rfl
theorem T_351_12 : hTab 351 12 = some ((3, 0, 2, []), 13) := rfl
theorem T_351_13 : hTab 351 13 = some ((24, 17, Int.ofNat 58, []), 16) := rfl
theorem T_351_16 : hTab 351 16 = some ((0, 0, 1000, []), 19) := rfl
theorem T_351_19 : hTab 351 19 = some ((3, 1, 0, []), 20) := rfl
theorem T_351_20 : hTab 351 20 = some ((10, 2, 0, []), 21) := rfl
theorem T_351_21 : hTab 351 21 = some ((3, 0, 2, []), 22) := rfl
theorem T_351_22 : hTab 351 22 = some ((24, 17, Int.ofNat 59, []), 25) := rfl
theorem T_351_25 : hTab 351 25 = some ((3, 1, 0, []), 26) := rfl
theorem T_351_26 : hTab 351 26 = some ((26, 0, 0, []), 27) := rfl
theorem T_351_27 : hTab 351 27 = some ((10, 0, 0, []), 28) := rfl
theorem T_351_28 : hTab 351 28 = some ((3, 2, 0, []), 29) := rfl
theorem T_351_29 : hTab 351 29 = some ((27, 0, 0, []), 30) := rfl
theorem T_351_30 : hTab 351 30 = some ((3, 0, 2, []), 31) := rfl
theorem T_351_31 : hTab 351 31 = some ((24, 17, Int.ofNat 59, []), 34) := rfl
theorem T_351_34 : hTab 351 34 = some ((3, 1, 0, []), 35) := rfl
theorem T_351_35 : hTab 351 35 = some ((8, 0, 0, []), 36) := rfl
theorem T_351_36 : hTab 351 36 = some ((26, 0, 0, []), 37) := rfl
theorem T_351_37 : hTab 351 37 = some ((0, 0, 1, []), 38) := rfl
theorem T_351_38 : hTab 351 38 = some ((10, 0, 0, []), 39) := rfl
theorem T_351_39 : hTab 351 39 = some ((27, 0, 0, []), 40) := rfl
theorem T_351_40 : hTab 351 40 = some ((33, 0, 0, []), 41) := rfl
theorem T_359_0 : hTab 359 0 = some ((3, 0, 2, []), 1) := rfl
theorem T_359_1 : hTab 359 1 = some ((3, 1, 0, []), 2) := rfl
theorem T_359_2 : hTab 359 2 = some ((31, 318, 0, []), 5) := rfl
theorem T_359_5 : hTab 359 5 = some ((0, 0, 1, []), 6) := rfl
theorem T_359_6 : hTab 359 6 = some ((19, 1, Int.ofNat 42, []), 9) := rfl
theorem T_359_9 : hTab 359 9 = some ((3, 0, 2, []), 10) := rfl
theorem T_359_10 : hTab 359 10 = some ((3, 1, 0, []), 11) := rfl
theorem T_359_11 : hTab 359 11 = some ((0, 0, 0, []), 12) := rfl
theorem T_359_12 : hTab 359 12 = some ((31, 319, 0, []), 15) := rfl
theorem T_359_15 : hTab 359 15 = some ((14, 0, 0, []), 16) := rfl
theorem T_359_16 : hTab 359 16 = some ((1, 0, 48, []), 19) := rfl
theorem T_359_19 : hTab 359 19 = some ((0, 0, 48, []), 21) := rfl
theorem T_359_21 : hTab 359 21 = some ((3, 2, 0, []), 22) := rfl
theorem T_359_22 : hTab 359 22 = some ((10, 0, 0, []), 23) := rfl
theorem T_359_23 : hTab 359 23 = some ((14, 0, 0, []), 24) := rfl
theorem T_359_24 : hTab 359 24 = some ((31, 282, 0, []), 27) := rfl
theorem T_359_27 : hTab 359 27 = some ((18, 0, Int.ofNat 42, []), 30) := rfl
theorem T_359_30 : hTab 359 30 = some ((3, 0, 2, []), 31) := rfl
theorem T_359_31 : hTab 359 31 = some ((3, 1, 0, []), 32) := rfl
theorem T_359_32 : hTab 359 32 = some ((0, 0, 0, []), 33) := rfl
theorem T_359_33 : hTab 359 33 = some ((31, 319, 0, []), 36) := rfl
theorem T_359_36 : hTab 359 36 = some ((0, 0, 48, []), 38) := rfl
theorem T_359_38 : hTab 359 38 = some ((10, 1, 0, []), 39) := rfl
theorem T_359_39 : hTab 359 39 = some ((22, 0, Int.ofNat 43, []), 42) := rfl
theorem T_359_42 : hTab 359 42 = some ((0, 0, (-1), []), 43) := rfl
theorem T_359_43 : hTab 359 43 = some ((33, 1, 0, []), 44) := rfl
theorem F_17_58 : (hFd 17 58).2.2.1 = 4 := rfl
theorem F_17_59 : (hFd 17 59).2.2.1 = 4 := rfl
theorem mN_318 : hmN 318 = 2 := by decide +kernel
theorem mL_318 : hmL 318 = 2 := by decide +kernel
theorem mK_318 : hmK 318 = 1 := by decide +kernel
theorem mO_318 : hmO 318 = 17 := by decide +kernel
theorem mN_319 : hmN 319 = 3 := by decide +kernel
theorem mL_319 : hmL 319 = 3 := by decide +kernel
theorem mK_319 : hmK 319 = 1 := by decide +kernel
theorem mO_319 : hmO 319 = 17 := by decide +kernel
theorem mN_351 : hmN 351 = 3 := by decide +kernel
theorem mL_351 : hmL 351 = 3 := by decide +kernel
theorem mK_351 : hmK 351 = 1 := by decide +kernel
theorem mO_351 : hmO 351 = 17 := by decide +kernel
theorem mN_359 : hmN 359 = 3 := by decide +kernel
theorem mL_359 : hmL 359 = 3 := by decide +kernel
theorem mK_359 : hmK 359 = 1 := by decide +kernel
theorem mO_359 : hmO 359 = 17 := by decide +kernel
/-- one byte more of a process's out, if there is room -/
def gTell (P : qR) (p b : Int) : qR := if P 2329 p < 1000 then rU (rU P 2328 (1000 * p + P 2329 p) b) 2329 p (P 2329 p + 1) else P
def gOut (P : qR) (p : Int) (l : List Int) : qR := l.foldl (fun Q b => gTell Q p b) P
/-- the words of a line -/
def spE (f : Int → Int) (z : Int) : Nat → Int → Int
  | 0, e => e
  | m + 1, e => if e < z ∧ ¬ f e = 32 then spE f z m (e + 1) else e
def spW (f : Int → Int) (z : Int) : Nat → Int → List (Int × Int)
  | 0, _ => []
  | m + 1, k => if z ≤ k then [] else if f k = 32 then spW f z m (k + 1) else (k, spE f z z.toNat k) :: spW f z m (spE f z z.toNat k)
def lnW (l : List Int) : List (Int × Int) := spW (lg l) l.length l.length 0
def lnB (l : List Int) (w : Int) : List Int := seg (lg l) ((lnW l).getD w.toNat (0, 0)).1 (((lnW l).getD w.toNat (0, 0)).2 - ((lnW l).getD w.toNat (0, 0)).1).toNat
/-- a line, cut into words -/
def LN (S : qR) (l : List Int) : Prop := S 2281 74 = (l.length : Int) ∧ l.length ≤ 100 ∧ byt l ∧ (∀ i : Int, 0 ≤ i → i < l.length → S 2343 i = lg l i) ∧ S 2281 77 = ((lnW l).length : Int) ∧ ∀ i : Nat, i < (lnW l).length → S 2344 (i : Int) = ((lnW l).getD i (0, 0)).1 ∧ S 2345 (i : Int) = ((lnW l).getD i (0, 0)).2
section MWORDS
variable {fb : Bool} {d : Nat} {σ0 σ : hM} {P Q R S S1 S2 : qR} {T U s w g u p k e t z o thr pt : Int} {l nm wd : List Int} {h : List Ch} {a f : Int → Int} {x : Int × Int} {c : Ch}
theorem GI_tell {b : Int} (h : GI T U P) (hp : 0 ≤ p ∧ p < 8) (hb : 0 ≤ b ∧ b ≤ 255) : GI T U (gTell P p b) := by
  unfold gTell
  have b1 : 0 ≤ P 2329 p ∧ P 2329 p ≤ 1000 := IV.a h.iv 2329 0 8 rfl rfl rfl (by omega) (by omega)
  split
  · have h1 := GI_one (f := 2328) (j := 1000 * p + P 2329 p) (v := b) (ty := 0) (len := 8000) h rfl hb rfl rfl rfl rfl rfl rfl rfl rfl rfl (by decide) (by decide)
    exact GI_one (f := 2329) (ty := 0) (len := 8) h1 rfl (show 0 ≤ P 2329 p + 1 ∧ P 2329 p + 1 ≤ 1000 by omega) rfl rfl rfl rfl rfl rfl rfl rfl rfl (by decide) (by decide)
  · exact h
theorem GI_out (hp : 0 ≤ p ∧ p < 8) : ∀ (l : List Int) (P : qR), GI T U P → (∀ b ∈ l, 0 ≤ b ∧ b ≤ 255) → GI T U (gOut P p l)
  | [], P, h, _ => h
  | b :: l, P, h, hb => GI_out hp l (gTell P p b) (GI_tell h hp (hb b List.mem_cons_self)) (fun b hm => hb b (List.mem_cons_of_mem _ hm))
theorem gTell_f {b : Int} {f : Nat} (h1 : f ≠ 2328) (h2 : f ≠ 2329) : gTell P p b f k = P f k := by
  unfold gTell
  split
  · rw [rU_f h2, rU_f h1]
  · rfl
theorem gOut_f {f : Nat} (h1 : f ≠ 2328) (h2 : f ≠ 2329) : ∀ (l : List Int) (P : qR), gOut P p l f k = P f k
  | [], P => rfl
  | b :: l, P => (gOut_f h1 h2 l (gTell P p b)).trans (gTell_f h1 h2)
theorem gOut_app {l1 l2 : List Int} : gOut P p (l1 ++ l2) = gOut (gOut P p l1) p l2 := List.foldl_append
theorem m_tell {b : Int} (hP : PM σ0 P S σ) (hI : IV false T U P) (hp : 0 ≤ p ∧ p < 8) : CL fb d 351 [vR (some 2281), vI p, vI b] σ (rV σ0 (gTell P p b) S) := by
  have b1 : 0 ≤ P 2329 p ∧ P 2329 p ≤ 1000 := IV.a hI 2329 0 8 rfl rfl rfl (by omega) (by omega)
  unfold gTell
  by_cases q : P 2329 p < 1000
  · rw [if_pos q]
    refine CL_in mL_351 rfl ?_
    show WP fb _ 351 0 [some (vR (some 2281)), some (vI p), some (vI b)] [] σ _
    refine x_lr (z := some 2281) T_351_0 rfl ?_
    refine x_gR (z := some 2329) T_351_1 F_17_59 (PM.t hP) (PM.r hP 59 2329 rfl) ?_
    refine x_li (z := p) T_351_4 rfl ?_
    refine x_alI (z := P 2329 p) T_351_5 (by decide) (PM.ta hP 2329 0 8 rfl rfl) (by omega) (by omega) (PM.aP hP 2329 rfl rfl (by omega)) ?_
    refine x_ic T_351_6 ?_
    refine x_ic2 T_351_9 (fun h => absurd (show 1000 ≤ P 2329 p from h) (by omega)) (fun _ => ?_)
    refine x_lr (z := some 2281) T_351_12 rfl ?_
    refine x_gR (z := some 2328) T_351_13 F_17_58 (PM.t hP) (PM.r hP 58 2328 rfl) ?_
    refine x_ic T_351_16 ?_
    refine x_li (z := p) T_351_19 rfl ?_
    refine x_ib (w := (1000 * p)) T_351_20 (fun h => absurd h.1 (by decide)) (w32_id (by omega) (by omega)) ?_
    refine x_lr (z := some 2281) T_351_21 rfl ?_
    refine x_gR (z := some 2329) T_351_22 F_17_59 (PM.t hP) (PM.r hP 59 2329 rfl) ?_
    refine x_li (z := p) T_351_25 rfl ?_
    refine x_alI (z := P 2329 p) T_351_26 (by decide) (PM.ta hP 2329 0 8 rfl rfl) (by omega) (by omega) (PM.aP hP 2329 rfl rfl (by omega)) ?_
    refine x_ib (w := ((1000 * p) + P 2329 p)) T_351_27 (fun h => absurd h.1 (by decide)) (w32_id (by omega) (by omega)) ?_
    refine x_li (z := b) T_351_28 rfl ?_
    refine y_aIP hP T_351_29 2328 8000 rfl rfl rfl (by omega) (by omega) (fun σ hP => ?_)
    refine x_lr (z := some 2281) T_351_30 rfl ?_
    refine x_gR (z := some 2329) T_351_31 F_17_59 (PM.t hP) (PM.r hP 59 2329 rfl) ?_
    refine x_li (z := p) T_351_34 rfl ?_
    refine x_dup2 T_351_35 ?_
    refine x_alI (z := P 2329 p) T_351_36 (by decide) (PM.ta hP 2329 0 8 rfl rfl) (by omega) (by omega) (Eq.trans (PM.aP hP 2329 rfl rfl (by omega)) (rU_f (Nat.ne_of_beq_eq_false rfl))) ?_
    refine x_ic T_351_37 ?_
    refine x_ib (w := (P 2329 p + 1)) T_351_38 (fun h => absurd h.1 (by decide)) (w32_id (by omega) (by omega)) ?_
    refine y_aIP hP T_351_39 2329 8 rfl rfl rfl (by omega) (by omega) (fun σ hP => ?_)
    refine x_rv T_351_40 ?_
    exact ⟨rfl, hP⟩
  · rw [if_neg q]
    refine CL_in mL_351 rfl ?_
    show WP fb _ 351 0 [some (vR (some 2281)), some (vI p), some (vI b)] [] σ _
    refine x_lr (z := some 2281) T_351_0 rfl ?_
    refine x_gR (z := some 2329) T_351_1 F_17_59 (PM.t hP) (PM.r hP 59 2329 rfl) ?_
    refine x_li (z := p) T_351_4 rfl ?_
    refine x_alI (z := P 2329 p) T_351_5 (by decide) (PM.ta hP 2329 0 8 rfl rfl) (by omega) (by omega) (PM.aP hP 2329 rfl rfl (by omega)) ?_
    refine x_ic T_351_6 ?_
    refine x_ic2 T_351_9 (fun _ => ?_) (fun h => absurd (show 1000 ≤ P 2329 p by omega) h)
    refine x_rv T_351_40 ?_
    exact ⟨rfl, hP⟩
theorem spE_rng {f : Int → Int} : ∀ (m : Nat) (e : Int), e ≤ spE f z m e ∧ (e ≤ z → spE f z m e ≤ z)
  | 0, e => ⟨Int.le_refl _, fun q => q⟩
  | m + 1, e => by
    unfold spE
    split
    · have := spE_rng (f := f) m (e + 1)
      exact ⟨by omega, fun _ => this.2 (by omega)⟩
    · exact ⟨Int.le_refl _, fun q => q⟩
theorem spE_more {f : Int → Int} : ∀ (m n : Nat) (e : Int), z ≤ e + m → z ≤ e + n → spE f z m e = spE f z n e
  | 0, 0, e, _, _ => rfl
  | 0, n + 1, e, h1, h2 => by
    unfold spE
    rw [if_neg (by omega)]
  | m + 1, 0, e, h1, h2 => by
    unfold spE
    rw [if_neg (by omega)]
  | m + 1, n + 1, e, h1, h2 => by
    unfold spE
    split
    · exact spE_more m n (e + 1) (by omega) (by omega)
    · rfl
theorem spE_step {f : Int → Int} (hk : k < z) (hf : ¬ f k = 32) (h0 : 0 ≤ k) : k + 1 ≤ spE f z z.toNat k := by
  obtain ⟨m, hm⟩ : ∃ m, z.toNat = m + 1 := ⟨z.toNat - 1, by omega⟩
  rw [hm]
  unfold spE
  rw [if_pos ⟨hk, hf⟩]
  exact (spE_rng m (k + 1)).1
theorem spW_ok {f : Int → Int} : ∀ (m : Nat) (k : Int), 0 ≤ k → k ≤ z → (∀ i : Nat, i < (spW f z m k).length → k ≤ ((spW f z m k).getD i (0, 0)).1 ∧ ((spW f z m k).getD i (0, 0)).1 < ((spW f z m k).getD i (0, 0)).2 ∧ ((spW f z m k).getD i (0, 0)).2 ≤ z) ∧ 2 * ((spW f z m k).length : Int) ≤ z - k + 1
  | 0, k, h0, h1 => ⟨fun i hi => absurd hi (Nat.not_lt_zero i), by show 2 * ((0 : Nat) : Int) ≤ _; omega⟩
  | m + 1, k, h0, h1 => by
    unfold spW
    by_cases q : z ≤ k
    · rw [if_pos q]
      exact ⟨fun i hi => absurd hi (Nat.not_lt_zero i), by show 2 * ((0 : Nat) : Int) ≤ _; omega⟩
    · rw [if_neg q]
      by_cases q2 : f k = 32
      · rw [if_pos q2]
        obtain ⟨a1, a2⟩ := spW_ok (f := f) m (k + 1) (by omega) (by omega)
        exact ⟨fun i hi => ⟨by have := (a1 i hi).1; omega, (a1 i hi).2⟩, by omega⟩
      · rw [if_neg q2]
        have e1 := spE_step (z := z) (by omega) q2 h0
        have e2 := (spE_rng (f := f) (z := z) z.toNat k).2 h1
        obtain ⟨e, he⟩ : ∃ e, spE f z z.toNat k = e := ⟨_, rfl⟩
        rw [he] at e1 e2 ⊢
        obtain ⟨a1, a2⟩ := spW_ok (f := f) m e (by omega) e2
        refine ⟨fun i hi => ?_, ?_⟩
        · cases i with
          | zero => exact ⟨Int.le_refl k, by show k < e; omega, e2⟩
          | succ i =>
            have hi2 : i < (spW f z m e).length := Nat.lt_of_succ_lt_succ hi
            have := a1 i hi2
            exact ⟨by show k ≤ ((spW f z m e).getD i (0, 0)).1; omega, this.2⟩
        · show 2 * (((spW f z m e).length + 1 : Nat) : Int) ≤ z - k + 1
          by_cases q3 : e = z
          · have : spW f z m e = [] := by
              cases m with
              | zero => rfl
              | succ m =>
                unfold spW
                rw [if_pos (by omega)]
            rw [this]
            show 2 * ((0 + 1 : Nat) : Int) ≤ _
            omega
          · -- a blank lies there
            have hb : f e = 32 := by
              have hg : ∀ (n : Nat) (j : Int), spE f z n j = e → z ≤ j + n → e < z → f e = 32 := by
                intro n
                induction n with
                | zero => intro j h1 h2 h3; have h1 : j = e := h1; omega
                | succ n ih =>
                  intro j h1 h2 h3
                  unfold spE at h1
                  by_cases c : j < z ∧ ¬ f j = 32
                  · rw [if_pos c] at h1
                    exact ih (j + 1) h1 (by omega) h3
                  · rw [if_neg c] at h1
                    rw [h1] at c
                    exact Classical.byContradiction (fun c2 => c ⟨h3, c2⟩)
              exact hg z.toNat k he (by omega) (by omega)
            cases m with
            | zero => show 2 * ((0 + 1 : Nat) : Int) ≤ _; omega
            | succ m =>
              have e3 : spW f z (m + 1) e = spW f z m (e + 1) := by
                show (if z ≤ e then [] else if f e = 32 then spW f z m (e + 1) else _) = _
                rw [if_neg (by omega), if_pos hb]
              rw [e3]
              have := (spW_ok (f := f) m (e + 1) (by omega) (by omega)).2
              omega
theorem lnW_ok (hl : l.length ≤ 100) : (∀ i : Nat, i < (lnW l).length → 0 ≤ ((lnW l).getD i (0, 0)).1 ∧ ((lnW l).getD i (0, 0)).1 < ((lnW l).getD i (0, 0)).2 ∧ ((lnW l).getD i (0, 0)).2 ≤ (l.length : Int)) ∧ (lnW l).length ≤ 50 := by
  obtain ⟨a1, a2⟩ := spW_ok (z := (l.length : Int)) (f := lg l) l.length 0 (by decide) (by omega)
  exact ⟨a1, by unfold lnW; omega⟩
theorem LN.word (hL : LN S l) (hw : 0 ≤ w ∧ w < ((lnW l).length : Int)) : ∃ b c : Int, S 2344 w = b ∧ S 2345 w = c ∧ 0 ≤ b ∧ b < c ∧ c ≤ (l.length : Int) ∧ c ≤ 100 ∧ lnB l w = seg (lg l) b (c - b).toNat ∧ seg (S 2343) b (c - b).toNat = lnB l w := by
  have h1 := hL.2.2.2.2.2 w.toNat (by omega)
  have h2 := (lnW_ok hL.2.1).1 w.toNat (by omega)
  rw [show ((w.toNat : Nat) : Int) = w by omega] at h1
  have hz := hL.2.1
  refine ⟨_, _, h1.1, h1.2, h2.1, h2.2.1, h2.2.2, by omega, rfl, ?_⟩
  exact seg_eqz (z := (l.length : Int)) (fun i a b => hL.2.2.2.1 i a b) h2.1 (by omega)
theorem lnB_len (hl : l.length ≤ 100) (hw : 0 ≤ w ∧ w < ((lnW l).length : Int)) : 1 ≤ (lnB l w).length ∧ (lnB l w).length ≤ 100 := by
  have h2 := (lnW_ok hl).1 w.toNat (by omega)
  unfold lnB
  rw [seg_len]
  omega
theorem LN.of (hL : LN S l) (h1 : S1 2281 74 = S 2281 74) (h2 : S1 2281 77 = S 2281 77) (h3 : ∀ i, S1 2343 i = S 2343 i) (h4 : ∀ i, S1 2344 i = S 2344 i) (h5 : ∀ i, S1 2345 i = S 2345 i) : LN S1 l := ⟨h1.trans hL.1, hL.2.1, hL.2.2.1, fun i a b => (h3 i).trans (hL.2.2.2.1 i a b), h2.trans hL.2.2.2.2.1, fun i hi => by rw [h4, h5]; exact hL.2.2.2.2.2 i hi⟩
theorem LN.sw (hL : LN S l) (hX : SX swR swN S S1) : LN S1 l := hL.of (hX.1 _ rfl) (hX.1 _ rfl) (fun _ => hX.2 _ _ rfl rfl) (fun _ => hX.2 _ _ rfl rfl) (fun _ => hX.2 _ _ rfl rfl)
theorem m_size (hP : PM σ0 P S σ) (hL : LN S l) (hw : 0 ≤ w ∧ w < ((lnW l).length : Int)) : CL fb d 318 [vR (some 2281), vI w] σ (rP ((lnB l w).length : Int) σ) := by
  obtain ⟨b, c, e1, e2, h1, h2, h3, h4, h5, h6⟩ := hL.word hw
  have hn := (lnW_ok hL.2.1).2
  rw [h5, seg_len, show ((c - b).toNat : Int) = c - b by omega]
  refine CL_in mL_318 rfl ?_
  show WP fb _ 318 0 [some (vR (some 2281)), some (vI w)] [] σ _
  refine x_lr (z := some 2281) T_318_0 rfl ?_
  refine x_gR (z := some 2345) T_318_1 F_17_76 (PM.t hP) (PM.r hP 76 2345 rfl) ?_
  refine x_li (z := w) T_318_4 rfl ?_
  refine x_alI (z := c) T_318_5 (by decide) (PM.ta hP 2345 0 60 rfl rfl) (by omega) (by omega) (Eq.trans (PM.aS hP 2345 rfl rfl (by omega)) e2) ?_
  refine x_lr (z := some 2281) T_318_6 rfl ?_
  refine x_gR (z := some 2344) T_318_7 F_17_75 (PM.t hP) (PM.r hP 75 2344 rfl) ?_
  refine x_li (z := w) T_318_10 rfl ?_
  refine x_alI (z := b) T_318_11 (by decide) (PM.ta hP 2344 0 60 rfl rfl) (by omega) (by omega) (Eq.trans (PM.aS hP 2344 rfl rfl (by omega)) e1) ?_
  refine x_ib (w := (c - b)) T_318_12 (fun h => absurd h.1 (by decide)) (w32_id (by omega) (by omega)) ?_
  refine x_ri T_318_13 ?_
  exact ⟨rfl, rfl⟩
theorem m_sign (hP : PM σ0 P S σ) (hL : LN S l) (hw : 0 ≤ w ∧ w < ((lnW l).length : Int)) (hk : 0 ≤ k ∧ k < ((lnB l w).length : Int)) : CL fb d 319 [vR (some 2281), vI w, vI k] σ (rP (lg (lnB l w) k) σ) := by
  obtain ⟨b, c, e1, e2, h1, h2, h3, h4, h5, h6⟩ := hL.word hw
  have hn := (lnW_ok hL.2.1).2
  have hk2 := hk.2
  rw [h5, seg_len] at hk2
  have hx : S 2343 (b + k) = lg (lnB l w) k := by
    rw [h5, lg_seg _ _ _ _ hk.1 (by omega)]
    exact hL.2.2.2.1 _ (by omega) (by omega)
  refine CL_in mL_319 rfl ?_
  show WP fb _ 319 0 [some (vR (some 2281)), some (vI w), some (vI k)] [] σ _
  refine x_lr (z := some 2281) T_319_0 rfl ?_
  refine x_gR (z := some 2343) T_319_1 F_17_73 (PM.t hP) (PM.r hP 73 2343 rfl) ?_
  refine x_lr (z := some 2281) T_319_4 rfl ?_
  refine x_gR (z := some 2344) T_319_5 F_17_75 (PM.t hP) (PM.r hP 75 2344 rfl) ?_
  refine x_li (z := w) T_319_8 rfl ?_
  refine x_alI (z := b) T_319_9 (by decide) (PM.ta hP 2344 0 60 rfl rfl) (by omega) (by omega) (Eq.trans (PM.aS hP 2344 rfl rfl (by omega)) e1) ?_
  refine x_li (z := k) T_319_10 rfl ?_
  refine x_ib (w := (b + k)) T_319_11 (fun h => absurd h.1 (by decide)) (w32_id (by omega) (by omega)) ?_
  refine x_alI (z := lg (lnB l w) k) T_319_12 (by decide) (PM.ta hP 2343 0 100 rfl rfl) (by omega) (by omega) (Eq.trans (PM.aS hP 2343 rfl rfl (by omega)) hx) ?_
  refine x_ri T_319_13 ?_
  exact ⟨rfl, rfl⟩
/-- a digit; a number of few digits -/
def dgV (wd : List Int) (most : Int) : Int := if wd.length = 1 ∧ 48 ≤ lg wd 0 ∧ lg wd 0 ≤ 48 + most then lg wd 0 - 48 else -1
theorem lnB_b (hL : LN S l) {w k : Int} (hk : 0 ≤ k) : 0 ≤ lg (lnB l w) k ∧ lg (lnB l w) k ≤ 255 := by
  by_cases q : k < ((lnB l w).length : Int)
  · have q2 := q
    unfold lnB at q2 ⊢
    rw [seg_len] at q2
    rw [lg_seg _ _ _ _ hk q2]
    by_cases c : 0 ≤ ((lnW l).getD w.toNat (0, 0)).1
    · exact hL.2.2.1 _ (by omega)
    · by_cases c2 : w.toNat < (lnW l).length
      · exact absurd ((lnW_ok hL.2.1).1 w.toNat c2).1 c
      · rw [List.getD_eq_getElem?_getD, List.getElem?_eq_none (by omega)] at c
        exact absurd (show (0 : Int) ≤ 0 by decide) c
  · rw [lg_out (by omega)]
    decide
theorem m_digit {most : Int} (hP : PM σ0 P S σ) (hL : LN S l) (hw : 0 ≤ w ∧ w < ((lnW l).length : Int)) (hm : 0 ≤ most ∧ most ≤ 9) : CL fb (d + 1) 359 [vR (some 2281), vI w, vI most] σ (rP (dgV (lnB l w) most) σ) := by
  have hz := m_size (fb := fb) (d := d) hP hL hw
  have hlen := lnB_len hL.2.1 hw
  have hb := lnB_b (w := w) hL (k := 0) (by decide)
  unfold dgV
  by_cases q : (lnB l w).length = 1
  · have hs := m_sign (fb := fb) (d := d) hP hL hw (k := 0) (by omega)
    by_cases q2 : 48 ≤ lg (lnB l w) 0 ∧ lg (lnB l w) 0 ≤ 48 + most
    · rw [if_pos ⟨q, q2⟩]
      refine CL_in mL_359 rfl ?_
      show WP fb _ 359 0 [some (vR (some 2281)), some (vI w), some (vI most)] [] σ _
      refine x_lr (z := some 2281) T_359_0 rfl ?_
      refine x_li (z := w) T_359_1 rfl ?_
      refine x_cv2 T_359_2 mN_318 mL_318 (Nat.le_of_ble_eq_true rfl) mO_318 (PM.t hP) (Nat.le_of_ble_eq_true rfl) (hz) ?_
      rintro _ σ ⟨rfl, rfl⟩
      refine cI ?_
      refine x_ic T_359_5 ?_
      refine x_ic2 T_359_6 (fun h => absurd (show ¬ ((lnB l w).length : Int) = 1 from h) (by omega)) (fun _ => ?_)
      refine x_lr (z := some 2281) T_359_9 rfl ?_
      refine x_li (z := w) T_359_10 rfl ?_
      refine x_ic T_359_11 ?_
      refine x_cv3 T_359_12 mN_319 mL_319 (Nat.le_of_ble_eq_true rfl) mO_319 (PM.t hP) (Nat.le_of_ble_eq_true rfl) (hs) ?_
      rintro _ σ ⟨rfl, rfl⟩
      refine cI ?_
      refine x_i2l T_359_15 ?_
      refine x_lc T_359_16 ?_
      refine x_ic T_359_19 ?_
      refine x_li (z := most) T_359_21 rfl ?_
      refine x_ib (w := (48 + most)) T_359_22 (fun h => absurd h.1 (by decide)) (w32_id (by omega) (by omega)) ?_
      refine x_i2l T_359_23 ?_
      refine x_cs3 T_359_24 mN_282 mL_282 (Nat.le_of_ble_eq_true rfl) mK_282 (Nat.le_of_ble_eq_true rfl) (m_in) ?_
      rintro _ σ ⟨rfl, rfl⟩
      refine cI ?_
      refine x_if T_359_27 (fun h => absurd (show (if 48 ≤ (lg (lnB l w) 0) ∧ (lg (lnB l w) 0) ≤ (48 + most) then (1 : Int) else 0) = 0 from h) (by rw [if_pos q2]; decide)) (fun _ => ?_)
      refine x_lr (z := some 2281) T_359_30 rfl ?_
      refine x_li (z := w) T_359_31 rfl ?_
      refine x_ic T_359_32 ?_
      refine x_cv3 T_359_33 mN_319 mL_319 (Nat.le_of_ble_eq_true rfl) mO_319 (PM.t hP) (Nat.le_of_ble_eq_true rfl) (hs) ?_
      rintro _ σ ⟨rfl, rfl⟩
      refine cI ?_
      refine x_ic T_359_36 ?_
      refine x_ib (w := ((lg (lnB l w) 0) - 48)) T_359_38 (fun h => absurd h.1 (by decide)) (w32_id (by omega) (by omega)) ?_
      refine x_goto T_359_39 ?_
      refine x_ri T_359_43 ?_
      exact ⟨rfl, rfl⟩
    · rw [if_neg (fun c => q2 c.2)]
      refine CL_in mL_359 rfl ?_
      show WP fb _ 359 0 [some (vR (some 2281)), some (vI w), some (vI most)] [] σ _
      refine x_lr (z := some 2281) T_359_0 rfl ?_
      refine x_li (z := w) T_359_1 rfl ?_
      refine x_cv2 T_359_2 mN_318 mL_318 (Nat.le_of_ble_eq_true rfl) mO_318 (PM.t hP) (Nat.le_of_ble_eq_true rfl) (hz) ?_
      rintro _ σ ⟨rfl, rfl⟩
      refine cI ?_
      refine x_ic T_359_5 ?_
      refine x_ic2 T_359_6 (fun h => absurd (show ¬ ((lnB l w).length : Int) = 1 from h) (by omega)) (fun _ => ?_)
      refine x_lr (z := some 2281) T_359_9 rfl ?_
      refine x_li (z := w) T_359_10 rfl ?_
      refine x_ic T_359_11 ?_
      refine x_cv3 T_359_12 mN_319 mL_319 (Nat.le_of_ble_eq_true rfl) mO_319 (PM.t hP) (Nat.le_of_ble_eq_true rfl) (hs) ?_
      rintro _ σ ⟨rfl, rfl⟩
      refine cI ?_
      refine x_i2l T_359_15 ?_
      refine x_lc T_359_16 ?_
      refine x_ic T_359_19 ?_
      refine x_li (z := most) T_359_21 rfl ?_
      refine x_ib (w := (48 + most)) T_359_22 (fun h => absurd h.1 (by decide)) (w32_id (by omega) (by omega)) ?_
      refine x_i2l T_359_23 ?_
      refine x_cs3 T_359_24 mN_282 mL_282 (Nat.le_of_ble_eq_true rfl) mK_282 (Nat.le_of_ble_eq_true rfl) (m_in) ?_
      rintro _ σ ⟨rfl, rfl⟩
      refine cI ?_
      refine x_if T_359_27 (fun _ => ?_) (fun h => absurd (show (if 48 ≤ (lg (lnB l w) 0) ∧ (lg (lnB l w) 0) ≤ (48 + most) then (1 : Int) else 0) = 0 by rw [if_neg q2]) h)
      refine x_ic T_359_42 ?_
      refine x_ri T_359_43 ?_
      exact ⟨rfl, rfl⟩
  · rw [if_neg (fun c => q c.1)]
    refine CL_in mL_359 rfl ?_
    show WP fb _ 359 0 [some (vR (some 2281)), some (vI w), some (vI most)] [] σ _
    refine x_lr (z := some 2281) T_359_0 rfl ?_
    refine x_li (z := w) T_359_1 rfl ?_
    refine x_cv2 T_359_2 mN_318 mL_318 (Nat.le_of_ble_eq_true rfl) mO_318 (PM.t hP) (Nat.le_of_ble_eq_true rfl) (hz) ?_
    rintro _ σ ⟨rfl, rfl⟩
    refine cI ?_
    refine x_ic T_359_5 ?_
    refine x_ic2 T_359_6 (fun _ => ?_) (fun h => absurd (show ¬ ((lnB l w).length : Int) = 1 by omega) h)
    refine x_ic T_359_42 ?_
    refine x_ri T_359_43 ?_
    exact ⟨rfl, rfl⟩
def nmV (base : Int) : List Int → Int → Int
  | [], v => v
  | x :: r, v => if 48 ≤ x ∧ x ≤ 47 + base then nmV base r (base * v + x - 48) else -1
/-- the number that a word is, or -1 -/
def nmN (wd : List Int) (base most : Int) : Int := if (wd.length : Int) ≤ most then nmV base wd 0 else -1
theorem nmV_rng {base : Int} (hb : 0 ≤ base ∧ base ≤ 10) : ∀ (r : List Int) (v m : Int), 0 ≤ v → v < m → -1 ≤ nmV base r v ∧ nmV base r v < m * 10 ^ r.length
  | [], v, m, h0, h1 => ⟨by show -1 ≤ v; omega, by show v < m * 10 ^ 0; omega⟩
  | x :: r, v, m, h0, h1 => by
    unfold nmV
    split
    · have hbv : base * v ≤ 10 * v := Int.mul_le_mul_of_nonneg_right hb.2 h0
      have hbv0 : 0 ≤ base * v := Int.mul_nonneg hb.1 h0
      have := nmV_rng hb r (base * v + x - 48) (m * 10) (by omega) (by omega)
      rw [show m * 10 ^ (x :: r).length = m * 10 * 10 ^ r.length by show m * 10 ^ (r.length + 1) = _; rw [Int.pow_succ, Int.mul_comm (10 ^ r.length) 10, Int.mul_assoc]]
      exact this
    · have : (0 : Int) < m * 10 ^ (x :: r).length := Int.mul_pos (by omega) (Int.pow_pos (by decide))
      omega
end MWORDS
