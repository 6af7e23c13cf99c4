/-! The class's shell: the innermost SCRIPT; a SCRIPT's next line. -/
theorem T_109_0 : hTab 109 0 = some ((3, 1, 2, []), 1) := rfl
theorem T_109_1 : hTab 109 1 = some ((24, 16, Int.ofNat 6, []), 4) := rfl
theorem T_109_4 : hTab 109 4 = some ((4, 2, 0, []), 5) := rfl
theorem T_109_5 : hTab 109 5 = some ((3, 2, 0, []), 6) := rfl
theorem T_109_6 : hTab 109 6 = some ((4, 3, 0, []), 7) := rfl
theorem T_109_7 : hTab 109 7 = some ((3, 3, 0, []), 8) := rfl
theorem T_109_8 : hTab 109 8 = some ((3, 1, 2, []), 9) := rfl
theorem T_109_9 : hTab 109 9 = some ((24, 16, Int.ofNat 1, []), 12) := rfl
theorem T_109_12 : hTab 109 12 = some ((31, 28, 0, []), 15) := rfl
theorem T_109_15 : hTab 109 15 = some ((19, 3, Int.ofNat 37, []), 18) := rfl
theorem T_109_18 : hTab 109 18 = some ((3, 1, 2, []), 19) := rfl
theorem T_109_19 : hTab 109 19 = some ((24, 16, Int.ofNat 1, []), 22) := rfl
theorem T_109_22 : hTab 109 22 = some ((3, 3, 0, []), 23) := rfl
theorem T_109_23 : hTab 109 23 = some ((31, 33, 0, []), 26) := rfl
theorem T_109_26 : hTab 109 26 = some ((0, 0, 10, []), 28) := rfl
theorem T_109_28 : hTab 109 28 = some ((19, 0, Int.ofNat 37, []), 31) := rfl
theorem T_109_31 : hTab 109 31 = some ((5, 3, 1, []), 34) := rfl
theorem T_109_34 : hTab 109 34 = some ((22, 0, Int.ofNat 7, []), 37) := rfl
theorem T_109_37 : hTab 109 37 = some ((3, 2, 0, []), 38) := rfl
theorem T_109_38 : hTab 109 38 = some ((3, 1, 2, []), 39) := rfl
theorem T_109_39 : hTab 109 39 = some ((24, 16, Int.ofNat 1, []), 42) := rfl
theorem T_109_42 : hTab 109 42 = some ((31, 28, 0, []), 45) := rfl
theorem T_109_45 : hTab 109 45 = some ((19, 2, Int.ofNat 50, []), 48) := rfl
theorem T_109_48 : hTab 109 48 = some ((0, 0, 0, []), 49) := rfl
theorem T_109_49 : hTab 109 49 = some ((33, 2, 0, []), 50) := rfl
theorem T_109_50 : hTab 109 50 = some ((3, 1, 2, []), 51) := rfl
theorem T_109_51 : hTab 109 51 = some ((3, 3, 0, []), 52) := rfl
theorem T_109_52 : hTab 109 52 = some ((0, 0, 1, []), 53) := rfl
theorem T_109_53 : hTab 109 53 = some ((10, 0, 0, []), 54) := rfl
theorem T_109_54 : hTab 109 54 = some ((25, 16, Int.ofNat 6, []), 57) := rfl
theorem T_109_57 : hTab 109 57 = some ((3, 1, 2, []), 58) := rfl
theorem T_109_58 : hTab 109 58 = some ((3, 1, 2, []), 59) := rfl
theorem T_109_59 : hTab 109 59 = some ((24, 16, Int.ofNat 1, []), 62) := rfl
theorem T_109_62 : hTab 109 62 = some ((3, 2, 0, []), 63) := rfl
theorem T_109_63 : hTab 109 63 = some ((31, 33, 0, []), 66) := rfl
theorem T_109_66 : hTab 109 66 = some ((0, 0, 45, []), 68) := rfl
theorem T_109_68 : hTab 109 68 = some ((19, 1, Int.ofNat 75, []), 71) := rfl
theorem T_109_71 : hTab 109 71 = some ((0, 0, 1, []), 72) := rfl
theorem T_109_72 : hTab 109 72 = some ((22, 0, Int.ofNat 76, []), 75) := rfl
theorem T_109_75 : hTab 109 75 = some ((0, 0, 0, []), 76) := rfl
theorem T_109_76 : hTab 109 76 = some ((25, 16, Int.ofNat 8, []), 79) := rfl
theorem T_109_79 : hTab 109 79 = some ((3, 3, 0, []), 80) := rfl
theorem T_109_80 : hTab 109 80 = some ((3, 2, 0, []), 81) := rfl
theorem T_109_81 : hTab 109 81 = some ((10, 1, 0, []), 82) := rfl
theorem T_109_82 : hTab 109 82 = some ((0, 0, 100, []), 84) := rfl
theorem T_109_84 : hTab 109 84 = some ((19, 5, Int.ofNat 95, []), 87) := rfl
theorem T_109_87 : hTab 109 87 = some ((3, 0, 2, []), 88) := rfl
theorem T_109_88 : hTab 109 88 = some ((0, 0, 18, []), 90) := rfl
theorem T_109_90 : hTab 109 90 = some ((25, 15, Int.ofNat 4, []), 93) := rfl
theorem T_109_93 : hTab 109 93 = some ((0, 0, 1, []), 94) := rfl
theorem T_109_94 : hTab 109 94 = some ((33, 2, 0, []), 95) := rfl
theorem T_109_95 : hTab 109 95 = some ((3, 0, 2, []), 96) := rfl
theorem T_109_96 : hTab 109 96 = some ((24, 15, Int.ofNat 1, []), 99) := rfl
theorem T_109_99 : hTab 109 99 = some ((3, 1, 2, []), 100) := rfl
theorem T_109_100 : hTab 109 100 = some ((24, 16, Int.ofNat 1, []), 103) := rfl
theorem T_109_103 : hTab 109 103 = some ((3, 1, 2, []), 104) := rfl
theorem T_109_104 : hTab 109 104 = some ((24, 16, Int.ofNat 8, []), 107) := rfl
theorem T_109_107 : hTab 109 107 = some ((18, 0, Int.ofNat 116, []), 110) := rfl
theorem T_109_110 : hTab 109 110 = some ((3, 2, 0, []), 111) := rfl
theorem T_109_111 : hTab 109 111 = some ((0, 0, 1, []), 112) := rfl
theorem T_109_112 : hTab 109 112 = some ((10, 0, 0, []), 113) := rfl
theorem T_109_113 : hTab 109 113 = some ((22, 0, Int.ofNat 117, []), 116) := rfl
theorem T_109_116 : hTab 109 116 = some ((3, 2, 0, []), 117) := rfl
theorem T_109_117 : hTab 109 117 = some ((3, 3, 0, []), 118) := rfl
theorem T_109_118 : hTab 109 118 = some ((31, 31, 0, []), 121) := rfl
theorem T_109_121 : hTab 109 121 = some ((7, 0, 0, []), 122) := rfl
theorem T_109_122 : hTab 109 122 = some ((3, 0, 2, []), 123) := rfl
theorem T_109_123 : hTab 109 123 = some ((0, 0, 1, []), 124) := rfl
theorem T_109_124 : hTab 109 124 = some ((25, 15, Int.ofNat 5, []), 127) := rfl
theorem T_109_127 : hTab 109 127 = some ((3, 0, 2, []), 128) := rfl
theorem T_109_128 : hTab 109 128 = some ((0, 0, 1, []), 129) := rfl
theorem T_109_129 : hTab 109 129 = some ((25, 15, Int.ofNat 6, []), 132) := rfl
theorem T_109_132 : hTab 109 132 = some ((0, 0, 1, []), 133) := rfl
theorem T_109_133 : hTab 109 133 = some ((33, 2, 0, []), 134) := rfl
theorem T_110_0 : hTab 110 0 = some ((3, 0, 2, []), 1) := rfl
theorem T_110_1 : hTab 110 1 = some ((24, 15, Int.ofNat 2, []), 4) := rfl
theorem T_110_4 : hTab 110 4 = some ((0, 0, 1, []), 5) := rfl
theorem T_110_5 : hTab 110 5 = some ((10, 1, 0, []), 6) := rfl
theorem T_110_6 : hTab 110 6 = some ((4, 1, 0, []), 7) := rfl
theorem T_110_7 : hTab 110 7 = some ((3, 1, 0, []), 8) := rfl
theorem T_110_8 : hTab 110 8 = some ((18, 2, Int.ofNat 44, []), 11) := rfl
theorem T_110_11 : hTab 110 11 = some ((3, 1, 0, []), 12) := rfl
theorem T_110_12 : hTab 110 12 = some ((0, 0, 12, []), 14) := rfl
theorem T_110_14 : hTab 110 14 = some ((19, 3, Int.ofNat 38, []), 17) := rfl
theorem T_110_17 : hTab 110 17 = some ((3, 0, 2, []), 18) := rfl
theorem T_110_18 : hTab 110 18 = some ((24, 15, Int.ofNat 0, []), 21) := rfl
theorem T_110_21 : hTab 110 21 = some ((3, 1, 0, []), 22) := rfl
theorem T_110_22 : hTab 110 22 = some ((26, 10, 0, []), 23) := rfl
theorem T_110_23 : hTab 110 23 = some ((24, 16, Int.ofNat 5, []), 26) := rfl
theorem T_110_26 : hTab 110 26 = some ((0, 0, 25, []), 28) := rfl
theorem T_110_28 : hTab 110 28 = some ((19, 1, Int.ofNat 38, []), 31) := rfl
theorem T_110_31 : hTab 110 31 = some ((3, 0, 2, []), 32) := rfl
theorem T_110_32 : hTab 110 32 = some ((24, 15, Int.ofNat 0, []), 35) := rfl
theorem T_110_35 : hTab 110 35 = some ((3, 1, 0, []), 36) := rfl
theorem T_110_36 : hTab 110 36 = some ((26, 10, 0, []), 37) := rfl
theorem T_110_37 : hTab 110 37 = some ((33, 4, 0, []), 38) := rfl
theorem T_110_38 : hTab 110 38 = some ((5, 1, (-1), []), 41) := rfl
theorem T_110_41 : hTab 110 41 = some ((22, 0, Int.ofNat 7, []), 44) := rfl
theorem T_110_44 : hTab 110 44 = some ((2, 0, 0, []), 45) := rfl
theorem T_110_45 : hTab 110 45 = some ((33, 4, 0, []), 46) := rfl
theorem F_15_0 : (hFd 15 0).2.2.1 = 4 := rfl
theorem F_15_2 : (hFd 15 2).2.2.1 = 0 := rfl
theorem F_15_4 : (hFd 15 4).2.2.1 = 0 := rfl
theorem F_15_5 : (hFd 15 5).2.2.1 = 2 := rfl
theorem F_15_6 : (hFd 15 6).2.2.1 = 2 := rfl
theorem mN_109 : hmN 109 = 2 := by decide +kernel
theorem mL_109 : hmL 109 = 4 := by decide +kernel
theorem mK_109 : hmK 109 = 1 := by decide +kernel
theorem mO_109 : hmO 109 = 15 := by decide +kernel
theorem mN_110 : hmN 110 = 1 := by decide +kernel
theorem mL_110 : hmL 110 = 2 := by decide +kernel
theorem mK_110 : hmK 110 = 1 := by decide +kernel
theorem mO_110 : hmO 110 = 15 := by decide +kernel
section XSH1
variable {fb : Bool} {d b k n : Nat} {σ0 σ : hM} {W W1 W2 V : qR} {R : rR} {i j x z v e p D pl : Int} {l sc lo : List Int} {a y : Nat}
/-- the command at a depth -/
def cmO (i : Int) : Nat := 2191 + 7 * i.toNat
theorem cm_all : ∀ n < 12, tX (2191 + 7 * n) = some (Sum.inl 16) ∧ tX (2191 + 7 * n + 1) = some (Sum.inl 2) ∧ tX (2191 + 7 * n + 3) = some (Sum.inl 2) := by decide +kernel
theorem cm_al2 : ∀ n < 12, tX (2191 + 7 * n + 2) = some (Sum.inr (1, 100)) ∧ tX (2191 + 7 * n + 4) = some (Sum.inr (1, 600)) := by decide +kernel
theorem cm_al3 : ∀ n < 12, tX (2191 + 7 * n + 5) = some (Sum.inr (0, 100)) ∧ tX (2191 + 7 * n + 6) = some (Sum.inr (0, 100)) := by decide +kernel
theorem cmO_rng (hi : 0 ≤ i ∧ i < 12) : 2191 ≤ cmO i ∧ cmO i + 7 ≤ 2275 := by unfold cmO; omega
theorem cmO_o (hi : 0 ≤ i ∧ i < 12) : tX (cmO i) = some (Sum.inl 16) := (cm_all i.toNat (by omega)).1
theorem cmO_s (hi : 0 ≤ i ∧ i < 12) : SH (cmO i + 1) 100 ∧ SH (cmO i + 3) 600 := ⟨⟨(cm_all i.toNat (by omega)).2.1, ⟨(cm_al2 i.toNat (by omega)).1, by unfold cmO; omega⟩, by decide⟩, ⟨(cm_all i.toNat (by omega)).2.2, ⟨(cm_al2 i.toNat (by omega)).2, by unfold cmO; omega⟩, by decide⟩⟩
theorem cmO_a (hi : 0 ≤ i ∧ i < 12) : isA (cmO i + 5) 0 100 ∧ isA (cmO i + 6) 0 100 := ⟨⟨(cm_al3 i.toNat (by omega)).1, by unfold cmO; omega⟩, ⟨(cm_al3 i.toNat (by omega)).2, by unfold cmO; omega⟩⟩
theorem rA_cmd (hi : 0 ≤ i ∧ i < 12) : rAr 2188 26 12 i.toNat = some (cmO i) := by
  unfold rAr rA1 cmO
  rw [if_pos (by omega), if_neg (by decide), if_neg (fun c => absurd c.1 (by decide)), if_neg (by decide), if_neg (by decide), if_neg (by decide), if_neg (by decide), if_neg (by decide), if_neg (by decide), if_pos rfl]
/-- the innermost command that does a SCRIPT -/
def inS (W : qR) : Nat → Option Nat
  | 0 => none
  | n + 1 => if W (2191 + 7 * n) 2517 = 25 then some (2191 + 7 * n) else inS W n
theorem inner_loop (hP : PX σ0 W R σ) : ∀ (n : Nat) (i : Int), i = (n : Int) - 1 → n ≤ 12 → WP fb d 110 7 [some (vR (some 2187)), some (vI i)] [] σ (rPR (inS W n) σ) := by
  intro n
  induction n with
  | zero =>
    intro i h1 h2
    have h1 : i = ((0 : Nat) : Int) - 1 := h1
    refine x_li (z := i) T_110_7 rfl ?_
    refine x_if T_110_8 (fun _ => ?_) (fun h => absurd (show i < 0 by omega) h)
    refine x_nu T_110_44 ?_
    refine x_rr T_110_45 ?_
    exact ⟨rfl, rfl⟩
  | succ n ih =>
    intro i h1 h2
    have h1 : i = ((n + 1 : Nat) : Int) - 1 := h1
    have ec : cmO i = 2191 + 7 * n := by unfold cmO; omega
    have ho := cmO_o (i := i) ⟨by omega, by omega⟩
    have hr := rA_cmd (i := i) ⟨by omega, by omega⟩
    have eS : inS W (n + 1) = if W (2191 + 7 * n) 2517 = 25 then some (2191 + 7 * n) else inS W n := rfl
    have hgo := ih (i - 1) (by omega) (by omega)
    rw [eS, ← ec]
    obtain ⟨c, hc⟩ : ∃ c, cmO i = c := ⟨_, rfl⟩
    obtain ⟨v, hv⟩ : ∃ v, W c 2517 = v := ⟨_, rfl⟩
    rw [hc] at ho hr ⊢
    rw [hv]
    by_cases q : v = 25
    · rw [if_pos q]
      refine x_li (z := i) T_110_7 rfl ?_
      refine x_if T_110_8 (fun h => absurd (show i < 0 from h) (by omega)) (fun _ => ?_)
      refine x_li (z := i) T_110_11 rfl ?_
      refine x_ic T_110_12 ?_
      refine x_ic2 T_110_14 (fun h => absurd (show 12 ≤ i from h) (by omega)) (fun _ => ?_)
      refine x_lr (z := some 2187) T_110_17 rfl ?_
      refine x_gR (z := some 2188) T_110_18 F_15_0 (hP.o xo_2187) (hP.rc xo_2187 rfl rfl) ?_
      refine x_li (z := i) T_110_21 rfl ?_
      refine x_alR (z := some c) T_110_22 (hP.ta xa_2188) (by decide) (by omega) (by omega) (hP.arc xa_2188 rfl hr) ?_
      refine x_gI (z := v) T_110_23 (Or.inl F_16_5) (hP.o ho) (Eq.trans (hP.gi ho (key := 2517) rfl) hv) ?_
      refine x_ic T_110_26 ?_
      refine x_ic2 T_110_28 (fun h => absurd (show ¬ v = 25 from h) (by omega)) (fun _ => ?_)
      refine x_lr (z := some 2187) T_110_31 rfl ?_
      refine x_gR (z := some 2188) T_110_32 F_15_0 (hP.o xo_2187) (hP.rc xo_2187 rfl rfl) ?_
      refine x_li (z := i) T_110_35 rfl ?_
      refine x_alR (z := some c) T_110_36 (hP.ta xa_2188) (by decide) (by omega) (by omega) (hP.arc xa_2188 rfl hr) ?_
      refine x_rr T_110_37 ?_
      exact ⟨rfl, rfl⟩
    · rw [if_neg q]
      refine x_li (z := i) T_110_7 rfl ?_
      refine x_if T_110_8 (fun h => absurd (show i < 0 from h) (by omega)) (fun _ => ?_)
      refine x_li (z := i) T_110_11 rfl ?_
      refine x_ic T_110_12 ?_
      refine x_ic2 T_110_14 (fun h => absurd (show 12 ≤ i from h) (by omega)) (fun _ => ?_)
      refine x_lr (z := some 2187) T_110_17 rfl ?_
      refine x_gR (z := some 2188) T_110_18 F_15_0 (hP.o xo_2187) (hP.rc xo_2187 rfl rfl) ?_
      refine x_li (z := i) T_110_21 rfl ?_
      refine x_alR (z := some c) T_110_22 (hP.ta xa_2188) (by decide) (by omega) (by omega) (hP.arc xa_2188 rfl hr) ?_
      refine x_gI (z := v) T_110_23 (Or.inl F_16_5) (hP.o ho) (Eq.trans (hP.gi ho (key := 2517) rfl) hv) ?_
      refine x_ic T_110_26 ?_
      refine x_ic2 T_110_28 (fun _ => ?_) (fun h => absurd (show ¬ v = 25 by exact q) h)
      refine x_inc (w := (i + (-1))) (ls1 := [some (vR (some 2187)), some (vI (i + (-1)))]) T_110_38 rfl (w32_id (by omega) (by omega)) rfl ?_
      refine x_goto T_110_41 ?_
      exact hgo
theorem x_inner (hP : PX σ0 W R σ) (hn : n ≤ 12) (hD : W 2187 2482 = (n : Int)) : CL fb d 110 [vR (some 2187)] σ (rPR (inS W n) σ) := by
  obtain ⟨D, hDD⟩ : ∃ D : Int, (n : Int) = D := ⟨_, rfl⟩
  rw [hDD] at hD
  have hgo := inner_loop (fb := fb) (d := d) hP n (D - 1) (by omega) hn
  refine CL_in mL_110 rfl ?_
  show WP fb _ 110 0 [some (vR (some 2187)), none] [] σ _
  refine x_lr (z := some 2187) T_110_0 rfl ?_
  refine x_gI (z := D) T_110_1 (Or.inl F_15_2) (hP.o xo_2187) (Eq.trans (hP.gi xo_2187 (key := 2482) rfl) hD) ?_
  refine x_ic T_110_4 ?_
  refine x_ib (w := D - 1) T_110_5 (fun h => absurd h.1 (by decide)) (show w32 (D - 1) = D - 1 by exact w32_id (by omega) (by omega)) ?_
  refine x_si (ls1 := [some (vR (some 2187)), some (vI (D - 1))]) T_110_6 rfl ?_
  exact hgo
/-- what a line that waits leaves -/
def FSL (k : Nat) (W W2 : qR) : Prop := ∀ (x : Nat) (j : Int), ¬ (x = k ∧ 2517 ≤ j ∧ j ≤ 2520) → ¬ (x = 2187 ∧ 2484 ≤ j ∧ j ≤ 2486) → ¬ (x = 2189 ∧ j = 2065) → ¬ (x = 2190 ∧ j < 2000) → W2 x j = W x j
theorem FSL_rfl : FSL k W W := fun _ _ _ _ _ _ => rfl
theorem FSL_tr (h1 : FSL k W W1) (h2 : FSL k W1 W2) : FSL k W W2 := fun x j a b c e => (h2 x j a b c e).trans (h1 x j a b c e)
theorem FSL_k (hj : 2517 ≤ j ∧ j ≤ 2520) : FSL k W (rU W k j v) := fun x i a _ _ _ => if_neg (fun c => a ⟨c.1, by omega⟩)
theorem FSL_s (hj : 2484 ≤ j ∧ j ≤ 2486) : FSL k W (rU W 2187 j v) := fun x i _ a _ _ => if_neg (fun c => a ⟨c.1, by omega⟩)
theorem FSL_fb (h : FB 2189 W W2) : FSL k W W2 := fun x j _ _ a b => h x j a b
theorem BY.fsl (h : BY W b n l) (hF : FSL k W W2) (hb : b ≠ 2189) : BY W2 b n l := by
  obtain ⟨a1, a2, a3, a4, a5, a6, a7⟩ := h
  exact ⟨a1, a2, a3, (hF _ _ (fun c => by omega) (fun c => by omega) (fun c => hb c.1) (fun c => by omega)).trans a4, a5, a6, fun i i0 i1 => (hF _ _ (fun c => by omega) (fun c => by omega) (fun c => by omega) (fun c => by omega)).trans (a7 i i0 i1)⟩
theorem CMD.fsl {c : Nat} (h : CMD W c l) (hF : FSL k W W2) : CMD W2 c l := by
  obtain ⟨c1, c2, c3, c4, c5, c6⟩ := h
  have g := lnW_ok c4.2.2.2.2.1
  have := g.2
  refine ⟨c1, c2, c3, c4.fsl hF (by omega), (hF _ _ (fun c => by omega) (fun c => by omega) (fun c => by omega) (fun c => by omega)).trans c5, fun i hi => ?_⟩
  exact ⟨(hF _ _ (fun c => by omega) (fun c => by omega) (fun c => by omega) (fun c => by omega)).trans (c6 i hi).1, (hF _ _ (fun c => by omega) (fun c => by omega) (fun c => by omega) (fun c => by omega)).trans (c6 i hi).2⟩
theorem nl_find (hP : PX σ0 W R σ) (ho : tX k = some (Sum.inl 16)) (hB : BY W (k + 3) 600 sc) (hz : (sc.length : Int) = z) {Q : Option AV → hM → Prop} (hQ : WP fb (d + 1) 109 37 [some (vR (some 2187)), some (vR (some k)), some (vI pl), some (vI (lnE sc pl))] [] σ Q) : ∀ (m : Nat) (e : Int), z ≤ e + m → 0 ≤ e → e ≤ 1000 → neE sc m e = lnE sc pl → WP fb (d + 1) 109 7 [some (vR (some 2187)), some (vR (some k)), some (vI pl), some (vI e)] [] σ Q := by
  have hsz := x_size (fb := fb) (d := d) hP hB hz
  have h3 : tX (k + 3) = some (Sum.inl 2) := hB.1
  have hz6 := hB.2.2.2.2.1
  intro m
  induction m with
  | zero =>
    intro e h1 h2 h4 h5
    have h5 : e = lnE sc pl := h5
    rw [← h5] at hQ
    refine x_li (z := e) T_109_7 rfl ?_
    refine x_lr (z := some k) T_109_8 rfl ?_
    refine x_gR (z := some (k + 3)) T_109_9 F_16_1 (hP.o ho) (hP.rc ho rfl rfl) ?_
    refine x_cv1 T_109_12 mN_28 mL_28 (Nat.le_of_ble_eq_true rfl) mO_28 (hP.o h3) (Nat.le_of_ble_eq_true rfl) (hsz) ?_
    rintro _ σ ⟨rfl, rfl⟩
    refine cI ?_
    refine x_ic2 T_109_15 (fun _ => ?_) (fun h => absurd (show z ≤ e by omega) h)
    exact hQ
  | succ m ih =>
    intro e h1 h2 h4 h5
    have h5 : (if e < (sc.length : Int) ∧ ¬ lg sc e = 10 then neE sc m (e + 1) else e) = lnE sc pl := h5
    rw [hz] at h5
    by_cases q1 : e < z
    rotate_left
    · rw [if_neg (fun c => q1 c.1)] at h5
      rw [← h5] at hQ
      refine x_li (z := e) T_109_7 rfl ?_
      refine x_lr (z := some k) T_109_8 rfl ?_
      refine x_gR (z := some (k + 3)) T_109_9 F_16_1 (hP.o ho) (hP.rc ho rfl rfl) ?_
      refine x_cv1 T_109_12 mN_28 mL_28 (Nat.le_of_ble_eq_true rfl) mO_28 (hP.o h3) (Nat.le_of_ble_eq_true rfl) (hsz) ?_
      rintro _ σ ⟨rfl, rfl⟩
      refine cI ?_
      refine x_ic2 T_109_15 (fun _ => ?_) (fun h => absurd (show z ≤ e by omega) h)
      exact hQ
    have hat := x_at (fb := fb) (d := d) (i := e) hP hB
    rw [if_pos ⟨h2, by omega⟩] at hat
    obtain ⟨u, hu⟩ : ∃ u, lg sc e = u := ⟨_, rfl⟩
    rw [hu] at hat h5
    by_cases q2 : u = 10
    · rw [if_neg (fun c => c.2 q2)] at h5
      rw [← h5] at hQ
      refine x_li (z := e) T_109_7 rfl ?_
      refine x_lr (z := some k) T_109_8 rfl ?_
      refine x_gR (z := some (k + 3)) T_109_9 F_16_1 (hP.o ho) (hP.rc ho rfl rfl) ?_
      refine x_cv1 T_109_12 mN_28 mL_28 (Nat.le_of_ble_eq_true rfl) mO_28 (hP.o h3) (Nat.le_of_ble_eq_true rfl) (hsz) ?_
      rintro _ σ ⟨rfl, rfl⟩
      refine cI ?_
      refine x_ic2 T_109_15 (fun h => absurd (show z ≤ e from h) (by omega)) (fun _ => ?_)
      refine x_lr (z := some k) T_109_18 rfl ?_
      refine x_gR (z := some (k + 3)) T_109_19 F_16_1 (hP.o ho) (hP.rc ho rfl rfl) ?_
      refine x_li (z := e) T_109_22 rfl ?_
      refine x_cv2 T_109_23 mN_33 mL_33 (Nat.le_of_ble_eq_true rfl) mO_33 (hP.o h3) (Nat.le_of_ble_eq_true rfl) (hat) ?_
      rintro _ σ ⟨rfl, rfl⟩
      refine cI ?_
      refine x_ic T_109_26 ?_
      refine x_ic2 T_109_28 (fun _ => ?_) (fun h => absurd (show u = 10 by exact q2) h)
      exact hQ
    · rw [if_pos ⟨q1, q2⟩] at h5
      have hgo := ih (e + 1) (by omega) (by omega) (by omega) h5
      refine x_li (z := e) T_109_7 rfl ?_
      refine x_lr (z := some k) T_109_8 rfl ?_
      refine x_gR (z := some (k + 3)) T_109_9 F_16_1 (hP.o ho) (hP.rc ho rfl rfl) ?_
      refine x_cv1 T_109_12 mN_28 mL_28 (Nat.le_of_ble_eq_true rfl) mO_28 (hP.o h3) (Nat.le_of_ble_eq_true rfl) (hsz) ?_
      rintro _ σ ⟨rfl, rfl⟩
      refine cI ?_
      refine x_ic2 T_109_15 (fun h => absurd (show z ≤ e from h) (by omega)) (fun _ => ?_)
      refine x_lr (z := some k) T_109_18 rfl ?_
      refine x_gR (z := some (k + 3)) T_109_19 F_16_1 (hP.o ho) (hP.rc ho rfl rfl) ?_
      refine x_li (z := e) T_109_22 rfl ?_
      refine x_cv2 T_109_23 mN_33 mL_33 (Nat.le_of_ble_eq_true rfl) mO_33 (hP.o h3) (Nat.le_of_ble_eq_true rfl) (hat) ?_
      rintro _ σ ⟨rfl, rfl⟩
      refine cI ?_
      refine x_ic T_109_26 ?_
      refine x_ic2 T_109_28 (fun h => absurd (show u = 10 from h) (by exact q2)) (fun _ => ?_)
      refine x_inc (w := (e + 1)) (ls1 := [some (vR (some 2187)), some (vR (some k)), some (vI pl), some (vI (e + 1))]) T_109_31 rfl (w32_id (by omega) (by omega)) rfl ?_
      refine x_goto T_109_34 ?_
      exact hgo
/-- what a SCRIPT's next line comes to -/
def NLX (σ0 : hM) (W : qR) (R : rR) (k : Nat) (sc : List Int) (pl : Int) : Option AV → hM → Prop := fun r σ' => r = some (vI 1) ∧ ∃ V, PX σ0 V R σ' ∧ FSL k W V ∧ V k 2517 = W k 2517 ∧ V k 2519 = W k 2519 ∧ V k 2518 = lnE sc pl + 1 ∧ V k 2520 = lnM sc pl ∧ (100 < lnE sc pl - pl → V 2187 2484 = 18 ∧ V 2187 2485 = W 2187 2485) ∧ (¬ 100 < lnE sc pl - pl → V 2187 2484 = W 2187 2484 ∧ V 2187 2485 = 1 ∧ V 2187 2486 = 1 ∧ BY V 2189 100 (lnT sc pl))
theorem x_nextLine (hP : PX σ0 W R σ) (ho : tX k = some (Sum.inl 16)) (hk : 2191 ≤ k) (hB : BY W (k + 3) 600 sc) (hn : W k 2518 = pl) (hp : 0 ≤ pl ∧ pl < (sc.length : Int)) : CL fb (d + 2) 109 [vR (some 2187), vR (some k)] σ (NLX σ0 W R k sc pl) := by
  have h3 : tX (k + 3) = some (Sum.inl 2) := hB.1
  have hz6 := hB.2.2.2.2.1
  have hW : SH 2189 100 := ⟨by decide +kernel, xa_2190, by decide⟩
  obtain ⟨z, hz⟩ : ∃ z : Int, (sc.length : Int) = z := ⟨_, rfl⟩
  rw [hz] at hp
  have her : pl ≤ lnE sc pl ∧ lnE sc pl ≤ z := by
    have := neE_rng (sc := sc) sc.length pl
    exact ⟨this.1, by have := this.2 (by omega); unfold lnE; omega⟩
  have hsz := x_size (fb := fb) (d := d + 1) hP hB hz
  have hfind := fun (hQ : _) => nl_find (fb := fb) (d := d + 1) (Q := NLX σ0 W R k sc pl) hP ho hB hz hQ sc.length pl (by omega) hp.1 (by omega) rfl
  obtain ⟨mu, hmu⟩ : ∃ u, lnM sc pl = u := ⟨_, rfl⟩
  obtain ⟨u, hu⟩ : ∃ u, lg sc pl = u := ⟨_, rfl⟩
  have hme : mu = if u = 45 then 1 else 0 := by
    rw [← hmu]
    unfold lnM
    rw [hu]
    by_cases c : u = 45
    · have : pl < lnE sc pl := by
        unfold lnE
        have e1 : neE sc sc.length pl = neE sc (sc.length - 1) (pl + 1) := by
          obtain ⟨m, hm⟩ : ∃ m, sc.length = m + 1 := ⟨sc.length - 1, by omega⟩
          rw [hm, Nat.add_sub_cancel]
          show (if pl < (sc.length : Int) ∧ ¬ lg sc pl = 10 then neE sc m (pl + 1) else pl) = _
          rw [if_pos ⟨by omega, by omega⟩]
        rw [e1]
        have := (neE_rng (sc := sc) (sc.length - 1) (pl + 1)).1
        omega
      rw [if_pos ⟨this, c⟩, if_pos c]
    · rw [if_neg (fun h => c h.2), if_neg c]
  have hlT : lnT sc pl = seg (lg sc) (pl + mu) (lnE sc pl - (pl + mu)).toNat := by rw [← hmu]; rfl
  unfold NLX at hfind ⊢
  rw [hmu] at hfind ⊢
  obtain ⟨e, hE⟩ : ∃ e, lnE sc pl = e := ⟨_, rfl⟩
  rw [hE] at her hfind hlT ⊢
  obtain ⟨W1, hW1⟩ : ∃ q, rU W k 2518 (e + 1) = q := ⟨_, rfl⟩
  have hF1 : FSL k W W1 := by
    rw [← hW1]
    exact FSL_k ⟨by decide, by decide⟩
  have hB1 := hB.fsl hF1 (by omega)
  have hat := fun (σ : hM) (hP : PX σ0 W1 R σ) => x_at (fb := fb) (d := d + 1) (i := pl) hP hB1
  rw [if_pos ⟨hp.1, by omega⟩, hu] at hat
  obtain ⟨W2, hW2⟩ : ∃ q, rU W1 k 2520 mu = q := ⟨_, rfl⟩
  have hF2 : FSL k W W2 := by
    rw [← hW2]
    exact FSL_tr hF1 (FSL_k ⟨by decide, by decide⟩)
  have hB2 := hB.fsl hF2 (by omega)
  have hmu2 : W2 k 2520 = mu := by rw [← hW2]; exact rU_s
  have hn2 : W2 k 2518 = e + 1 := by rw [← hW2, rU_j (by decide), ← hW1]; exact rU_s
  have hd2 : W2 k 2517 = W k 2517 ∧ W2 k 2519 = W k 2519 := by
    rw [← hW2, ← hW1]
    exact ⟨by rw [rU_j (by decide), rU_j (by decide)], by rw [rU_j (by decide), rU_j (by decide)]⟩
  have hs2 : ∀ j : Int, W2 2187 j = W 2187 j := fun j => by rw [← hW2, rU_f (by omega), ← hW1, rU_f (by omega)]
  have hta : ∀ (s : Int) (σ : hM), s = pl + mu → ¬ 100 < e - pl → PX σ0 W2 R σ → CL fb (d + 1) 31 [vR (some 2189), vR (some (k + 3)), vI s, vI e] σ (XB σ0 W2 R 2189 100 (lnT sc pl) (some (vI 1))) := fun s σ hs hq hP => by
    have hm2 : mu = 0 ∨ mu = 1 := by
      rw [hme]
      split
      · exact Or.inr rfl
      · exact Or.inl rfl
    have h := x_take0 (fb := fb) (d := d) (s := s) (e := e) hP hW hB2 (by omega) (by omega) (by omega)
    rw [hs, ← hlT, List.take_of_length_le (by rw [hlT, seg_len]; omega), if_pos (by omega)] at h
    rw [hs]
    exact h
  have h79 : ∀ σ : hM, PX σ0 W2 R σ → WP fb (d + 2) 109 79 [some (vR (some 2187)), some (vR (some k)), some (vI pl), some (vI e)] [] σ (fun r σ' => r = some (vI 1) ∧ ∃ V, PX σ0 V R σ' ∧ FSL k W V ∧ V k 2517 = W k 2517 ∧ V k 2519 = W k 2519 ∧ V k 2518 = e + 1 ∧ V k 2520 = mu ∧ (100 < e - pl → V 2187 2484 = 18 ∧ V 2187 2485 = W 2187 2485) ∧ (¬ 100 < e - pl → V 2187 2484 = W 2187 2484 ∧ V 2187 2485 = 1 ∧ V 2187 2486 = 1 ∧ BY V 2189 100 (lnT sc pl))) := fun σ hP => by
    by_cases q : 100 < e - pl
    · have hfin : FSL k W (rU W2 2187 2484 18) ∧ (rU W2 2187 2484 18) k 2517 = W k 2517 ∧ (rU W2 2187 2484 18) k 2519 = W k 2519 ∧ (rU W2 2187 2484 18) k 2518 = e + 1 ∧ (rU W2 2187 2484 18) k 2520 = mu := by
        refine ⟨FSL_tr hF2 (FSL_s ⟨by decide, by decide⟩), ?_, ?_, ?_, ?_⟩
        · rw [rU_f (by omega)]
          exact hd2.1
        · rw [rU_f (by omega)]
          exact hd2.2
        · rw [rU_f (by omega)]
          exact hn2
        · rw [rU_f (by omega)]
          exact hmu2
      refine x_li (z := e) T_109_79 rfl ?_
      refine x_li (z := pl) T_109_80 rfl ?_
      refine x_ib (w := (e - pl)) T_109_81 (fun h => absurd h.1 (by decide)) (w32_id (by omega) (by omega)) ?_
      refine x_ic T_109_82 ?_
      refine x_ic2 T_109_84 (fun h => absurd (show (e - pl) ≤ 100 from h) (by omega)) (fun _ => ?_)
      refine x_lr (z := some 2187) T_109_87 rfl ?_
      refine x_ic T_109_88 ?_
      refine z_pI hP T_109_90 F_15_4 xo_2187 (key := 2484) rfl (fun σ hP => ?_)
      refine x_ic T_109_93 ?_
      refine x_rz T_109_94 rfl ?_
      exact ⟨rfl, _, hP, hfin.1, hfin.2.1, hfin.2.2.1, hfin.2.2.2.1, hfin.2.2.2.2, fun _ => ⟨rU_s, (rU_j (by decide)).trans (hs2 _)⟩, fun c => absurd q c⟩
    · have hfin : ∀ V : qR, FB 2189 W2 V → BY V 2189 100 (lnT sc pl) → FSL k W (rU (rU V 2187 2485 1) 2187 2486 1) ∧ (rU (rU V 2187 2485 1) 2187 2486 1) k 2517 = W k 2517 ∧ (rU (rU V 2187 2485 1) 2187 2486 1) k 2519 = W k 2519 ∧ (rU (rU V 2187 2485 1) 2187 2486 1) k 2518 = e + 1 ∧ (rU (rU V 2187 2485 1) 2187 2486 1) k 2520 = mu ∧ (rU (rU V 2187 2485 1) 2187 2486 1) 2187 2484 = W 2187 2484 ∧ (rU (rU V 2187 2485 1) 2187 2486 1) 2187 2485 = 1 ∧ BY (rU (rU V 2187 2485 1) 2187 2486 1) 2189 100 (lnT sc pl) := fun V hF hB3 => by
        refine ⟨FSL_tr (FSL_tr (FSL_tr hF2 (FSL_fb hF)) (FSL_s ⟨by decide, by decide⟩)) (FSL_s ⟨by decide, by decide⟩), ?_, ?_, ?_, ?_, ?_, ?_, ?_⟩
        · rw [rU_f (by omega), rU_f (by omega)]
          exact (hF.of (by omega) (by decide)).trans hd2.1
        · rw [rU_f (by omega), rU_f (by omega)]
          exact (hF.of (by omega) (by decide)).trans hd2.2
        · rw [rU_f (by omega), rU_f (by omega)]
          exact (hF.of (by omega) (by decide)).trans hn2
        · rw [rU_f (by omega), rU_f (by omega)]
          exact (hF.of (by omega) (by decide)).trans hmu2
        · rw [rU_j (by decide), rU_j (by decide)]
          exact (hF.of (by decide) (by decide)).trans (hs2 _)
        · rw [rU_j (by decide)]
          exact rU_s
        · exact (hB3.key (by decide) (by decide)).key (by decide) (by decide)
      by_cases qm : mu = 0
      · have ht := fun (σ : hM) (hP : PX σ0 W2 R σ) => hta pl σ (by omega) q hP
        refine x_li (z := e) T_109_79 rfl ?_
        refine x_li (z := pl) T_109_80 rfl ?_
        refine x_ib (w := (e - pl)) T_109_81 (fun h => absurd h.1 (by decide)) (w32_id (by omega) (by omega)) ?_
        refine x_ic T_109_82 ?_
        refine x_ic2 T_109_84 (fun _ => ?_) (fun h => absurd (show (e - pl) ≤ 100 by omega) h)
        refine x_lr (z := some 2187) T_109_95 rfl ?_
        refine x_gR (z := some 2189) T_109_96 F_15_1 (hP.o xo_2187) (hP.rc xo_2187 rfl rfl) ?_
        refine x_lr (z := some k) T_109_99 rfl ?_
        refine x_gR (z := some (k + 3)) T_109_100 F_16_1 (hP.o ho) (hP.rc ho rfl rfl) ?_
        refine x_lr (z := some k) T_109_103 rfl ?_
        refine x_gI (z := mu) T_109_104 (Or.inr (Or.inl F_16_8)) (hP.o ho) (Eq.trans (hP.gi ho (key := 2520) rfl) hmu2) ?_
        refine x_if T_109_107 (fun _ => ?_) (fun h => absurd (show mu = 0 by exact qm) h)
        refine x_li (z := pl) T_109_116 rfl ?_
        refine x_li (z := e) T_109_117 rfl ?_
        refine x_cv4 T_109_118 mN_31 mL_31 (Nat.le_of_ble_eq_true rfl) mO_31 (hP.o xo_2189) (Nat.le_of_ble_eq_true rfl) (ht σ hP) ?_
        clear hP
        rintro _ σ ⟨rfl, V, hP, hB3, hFV⟩
        obtain ⟨f1, f2, f3, f4, f5, f6, f7, f8⟩ := hfin V hFV hB3
        refine cI ?_
        refine x_popI T_109_121 ?_
        refine x_lr (z := some 2187) T_109_122 rfl ?_
        refine x_ic T_109_123 ?_
        refine z_pZ hP T_109_124 F_15_5 rfl xo_2187 (key := 2485) rfl (fun σ hP => ?_)
        refine x_lr (z := some 2187) T_109_127 rfl ?_
        refine x_ic T_109_128 ?_
        refine z_pZ hP T_109_129 F_15_6 rfl xo_2187 (key := 2486) rfl (fun σ hP => ?_)
        refine x_ic T_109_132 ?_
        refine x_rz T_109_133 rfl ?_
        exact ⟨rfl, _, hP, f1, f2, f3, f4, f5, fun c => absurd c q, fun _ => ⟨f6, f7, rU_s, f8⟩⟩
      · have qm1 : mu = 1 := by
          by_cases c : u = 45
          · rw [hme, if_pos c]
          · exact absurd (by rw [hme, if_neg c]) qm
        have ht := fun (σ : hM) (hP : PX σ0 W2 R σ) => hta (pl + 1) σ (by omega) q hP
        refine x_li (z := e) T_109_79 rfl ?_
        refine x_li (z := pl) T_109_80 rfl ?_
        refine x_ib (w := (e - pl)) T_109_81 (fun h => absurd h.1 (by decide)) (w32_id (by omega) (by omega)) ?_
        refine x_ic T_109_82 ?_
        refine x_ic2 T_109_84 (fun _ => ?_) (fun h => absurd (show (e - pl) ≤ 100 by omega) h)
        refine x_lr (z := some 2187) T_109_95 rfl ?_
        refine x_gR (z := some 2189) T_109_96 F_15_1 (hP.o xo_2187) (hP.rc xo_2187 rfl rfl) ?_
        refine x_lr (z := some k) T_109_99 rfl ?_
        refine x_gR (z := some (k + 3)) T_109_100 F_16_1 (hP.o ho) (hP.rc ho rfl rfl) ?_
        refine x_lr (z := some k) T_109_103 rfl ?_
        refine x_gI (z := mu) T_109_104 (Or.inr (Or.inl F_16_8)) (hP.o ho) (Eq.trans (hP.gi ho (key := 2520) rfl) hmu2) ?_
        refine x_if T_109_107 (fun h => absurd (show mu = 0 from h) (by exact qm)) (fun _ => ?_)
        refine x_li (z := pl) T_109_110 rfl ?_
        refine x_ic T_109_111 ?_
        refine x_ib (w := (pl + 1)) T_109_112 (fun h => absurd h.1 (by decide)) (w32_id (by omega) (by omega)) ?_
        refine x_goto T_109_113 ?_
        refine x_li (z := e) T_109_117 rfl ?_
        refine x_cv4 T_109_118 mN_31 mL_31 (Nat.le_of_ble_eq_true rfl) mO_31 (hP.o xo_2189) (Nat.le_of_ble_eq_true rfl) (ht σ hP) ?_
        clear hP
        rintro _ σ ⟨rfl, V, hP, hB3, hFV⟩
        obtain ⟨f1, f2, f3, f4, f5, f6, f7, f8⟩ := hfin V hFV hB3
        refine cI ?_
        refine x_popI T_109_121 ?_
        refine x_lr (z := some 2187) T_109_122 rfl ?_
        refine x_ic T_109_123 ?_
        refine z_pZ hP T_109_124 F_15_5 rfl xo_2187 (key := 2485) rfl (fun σ hP => ?_)
        refine x_lr (z := some 2187) T_109_127 rfl ?_
        refine x_ic T_109_128 ?_
        refine z_pZ hP T_109_129 F_15_6 rfl xo_2187 (key := 2486) rfl (fun σ hP => ?_)
        refine x_ic T_109_132 ?_
        refine x_rz T_109_133 rfl ?_
        exact ⟨rfl, _, hP, f1, f2, f3, f4, f5, fun c => absurd c q, fun _ => ⟨f6, f7, rU_s, f8⟩⟩
  by_cases c : u = 45
  · rw [if_pos c] at hme
    have hgo : ∀ σ : hM, PX σ0 (rU (rU W k 2518 (e + 1)) k 2520 1) R σ → PX σ0 W2 R σ := fun σ hP => by
      rw [← hW2, ← hW1, hme]
      exact hP
    have h37 : WP fb (d + 2) 109 37 [some (vR (some 2187)), some (vR (some k)), some (vI pl), some (vI e)] [] σ (fun r σ' => r = some (vI 1) ∧ ∃ V, PX σ0 V R σ' ∧ FSL k W V ∧ V k 2517 = W k 2517 ∧ V k 2519 = W k 2519 ∧ V k 2518 = e + 1 ∧ V k 2520 = mu ∧ (100 < e - pl → V 2187 2484 = 18 ∧ V 2187 2485 = W 2187 2485) ∧ (¬ 100 < e - pl → V 2187 2484 = W 2187 2484 ∧ V 2187 2485 = 1 ∧ V 2187 2486 = 1 ∧ BY V 2189 100 (lnT sc pl))) := by
      refine x_li (z := pl) T_109_37 rfl ?_
      refine x_lr (z := some k) T_109_38 rfl ?_
      refine x_gR (z := some (k + 3)) T_109_39 F_16_1 (hP.o ho) (hP.rc ho rfl rfl) ?_
      refine x_cv1 T_109_42 mN_28 mL_28 (Nat.le_of_ble_eq_true rfl) mO_28 (hP.o h3) (Nat.le_of_ble_eq_true rfl) (hsz) ?_
      rintro _ σ ⟨rfl, rfl⟩
      refine cI ?_
      refine x_ic2 T_109_45 (fun _ => ?_) (fun h => absurd (show pl < z by omega) h)
      refine x_lr (z := some k) T_109_50 rfl ?_
      refine x_li (z := e) T_109_51 rfl ?_
      refine x_ic T_109_52 ?_
      refine x_ib (w := (e + 1)) T_109_53 (fun h => absurd h.1 (by decide)) (w32_id (by omega) (by omega)) ?_
      refine z_pI hP T_109_54 F_16_6 ho (key := 2518) rfl (fun σ hP => ?_)
      refine x_lr (z := some k) T_109_57 rfl ?_
      refine x_lr (z := some k) T_109_58 rfl ?_
      refine x_gR (z := some (k + 3)) T_109_59 F_16_1 (hP.o ho) (hP.rc ho rfl rfl) ?_
      refine x_li (z := pl) T_109_62 rfl ?_
      refine x_cv2 T_109_63 mN_33 mL_33 (Nat.le_of_ble_eq_true rfl) mO_33 (hP.o h3) (Nat.le_of_ble_eq_true rfl) (hat σ (hW1 ▸ hP)) ?_
      rintro _ σ ⟨rfl, rfl⟩
      refine cI ?_
      refine x_ic T_109_66 ?_
      refine x_ic2 T_109_68 (fun h => absurd (show ¬ u = 45 from h) (by omega)) (fun _ => ?_)
      refine x_ic T_109_71 ?_
      refine x_goto T_109_72 ?_
      refine z_pZ hP T_109_76 F_16_8 rfl ho (key := 2520) rfl (fun σ hP => ?_)
      exact h79 σ (hgo σ hP)
    refine CL_in mL_109 rfl ?_
    show WP fb _ 109 0 [some (vR (some 2187)), some (vR (some k)), none, none] [] σ _
    refine x_lr (z := some k) T_109_0 rfl ?_
    refine x_gI (z := pl) T_109_1 (Or.inl F_16_6) (hP.o ho) (Eq.trans (hP.gi ho (key := 2518) rfl) hn) ?_
    refine x_si (ls1 := [some (vR (some 2187)), some (vR (some k)), some (vI pl), none]) T_109_4 rfl ?_
    refine x_li (z := pl) T_109_5 rfl ?_
    refine x_si (ls1 := [some (vR (some 2187)), some (vR (some k)), some (vI pl), some (vI pl)]) T_109_6 rfl ?_
    exact hfind h37
  · rw [if_neg c] at hme
    have hgo : ∀ σ : hM, PX σ0 (rU (rU W k 2518 (e + 1)) k 2520 0) R σ → PX σ0 W2 R σ := fun σ hP => by
      rw [← hW2, ← hW1, hme]
      exact hP
    have h37 : WP fb (d + 2) 109 37 [some (vR (some 2187)), some (vR (some k)), some (vI pl), some (vI e)] [] σ (fun r σ' => r = some (vI 1) ∧ ∃ V, PX σ0 V R σ' ∧ FSL k W V ∧ V k 2517 = W k 2517 ∧ V k 2519 = W k 2519 ∧ V k 2518 = e + 1 ∧ V k 2520 = mu ∧ (100 < e - pl → V 2187 2484 = 18 ∧ V 2187 2485 = W 2187 2485) ∧ (¬ 100 < e - pl → V 2187 2484 = W 2187 2484 ∧ V 2187 2485 = 1 ∧ V 2187 2486 = 1 ∧ BY V 2189 100 (lnT sc pl))) := by
      refine x_li (z := pl) T_109_37 rfl ?_
      refine x_lr (z := some k) T_109_38 rfl ?_
      refine x_gR (z := some (k + 3)) T_109_39 F_16_1 (hP.o ho) (hP.rc ho rfl rfl) ?_
      refine x_cv1 T_109_42 mN_28 mL_28 (Nat.le_of_ble_eq_true rfl) mO_28 (hP.o h3) (Nat.le_of_ble_eq_true rfl) (hsz) ?_
      rintro _ σ ⟨rfl, rfl⟩
      refine cI ?_
      refine x_ic2 T_109_45 (fun _ => ?_) (fun h => absurd (show pl < z by omega) h)
      refine x_lr (z := some k) T_109_50 rfl ?_
      refine x_li (z := e) T_109_51 rfl ?_
      refine x_ic T_109_52 ?_
      refine x_ib (w := (e + 1)) T_109_53 (fun h => absurd h.1 (by decide)) (w32_id (by omega) (by omega)) ?_
      refine z_pI hP T_109_54 F_16_6 ho (key := 2518) rfl (fun σ hP => ?_)
      refine x_lr (z := some k) T_109_57 rfl ?_
      refine x_lr (z := some k) T_109_58 rfl ?_
      refine x_gR (z := some (k + 3)) T_109_59 F_16_1 (hP.o ho) (hP.rc ho rfl rfl) ?_
      refine x_li (z := pl) T_109_62 rfl ?_
      refine x_cv2 T_109_63 mN_33 mL_33 (Nat.le_of_ble_eq_true rfl) mO_33 (hP.o h3) (Nat.le_of_ble_eq_true rfl) (hat σ (hW1 ▸ hP)) ?_
      rintro _ σ ⟨rfl, rfl⟩
      refine cI ?_
      refine x_ic T_109_66 ?_
      refine x_ic2 T_109_68 (fun _ => ?_) (fun h => absurd (show ¬ u = 45 by exact c) h)
      refine x_ic T_109_75 ?_
      refine z_pZ hP T_109_76 F_16_8 rfl ho (key := 2520) rfl (fun σ hP => ?_)
      exact h79 σ (hgo σ hP)
    refine CL_in mL_109 rfl ?_
    show WP fb _ 109 0 [some (vR (some 2187)), some (vR (some k)), none, none] [] σ _
    refine x_lr (z := some k) T_109_0 rfl ?_
    refine x_gI (z := pl) T_109_1 (Or.inl F_16_6) (hP.o ho) (Eq.trans (hP.gi ho (key := 2518) rfl) hn) ?_
    refine x_si (ls1 := [some (vR (some 2187)), some (vR (some k)), some (vI pl), none]) T_109_4 rfl ?_
    refine x_li (z := pl) T_109_5 rfl ?_
    refine x_si (ls1 := [some (vR (some 2187)), some (vR (some k)), some (vI pl), some (vI pl)]) T_109_6 rfl ?_
    exact hfind h37
theorem x_nextLine0 (hP : PX σ0 W R σ) (ho : tX k = some (Sum.inl 16)) (hB : BY W (k + 3) 600 sc) (hn : W k 2518 = pl) (hp : 0 ≤ pl ∧ pl ≤ 1000) (hq : (sc.length : Int) ≤ pl) : CL fb (d + 2) 109 [vR (some 2187), vR (some k)] σ (rP 0 σ) := by
  have h3 : tX (k + 3) = some (Sum.inl 2) := hB.1
  obtain ⟨z, hz⟩ : ∃ z : Int, (sc.length : Int) = z := ⟨_, rfl⟩
  have hsz := x_size (fb := fb) (d := d + 1) hP hB hz
  refine CL_in mL_109 rfl ?_
  show WP fb _ 109 0 [some (vR (some 2187)), some (vR (some k)), none, none] [] σ _
  refine x_lr (z := some k) T_109_0 rfl ?_
  refine x_gI (z := pl) T_109_1 (Or.inl F_16_6) (hP.o ho) (Eq.trans (hP.gi ho (key := 2518) rfl) hn) ?_
  refine x_si (ls1 := [some (vR (some 2187)), some (vR (some k)), some (vI pl), none]) T_109_4 rfl ?_
  refine x_li (z := pl) T_109_5 rfl ?_
  refine x_si (ls1 := [some (vR (some 2187)), some (vR (some k)), some (vI pl), some (vI pl)]) T_109_6 rfl ?_
  refine x_li (z := pl) T_109_7 rfl ?_
  refine x_lr (z := some k) T_109_8 rfl ?_
  refine x_gR (z := some (k + 3)) T_109_9 F_16_1 (hP.o ho) (hP.rc ho rfl rfl) ?_
  refine x_cv1 T_109_12 mN_28 mL_28 (Nat.le_of_ble_eq_true rfl) mO_28 (hP.o h3) (Nat.le_of_ble_eq_true rfl) (hsz) ?_
  rintro _ σ ⟨rfl, rfl⟩
  refine cI ?_
  refine x_ic2 T_109_15 (fun _ => ?_) (fun h => absurd (show z ≤ pl by omega) h)
  refine x_li (z := pl) T_109_37 rfl ?_
  refine x_lr (z := some k) T_109_38 rfl ?_
  refine x_gR (z := some (k + 3)) T_109_39 F_16_1 (hP.o ho) (hP.rc ho rfl rfl) ?_
  refine x_cv1 T_109_42 mN_28 mL_28 (Nat.le_of_ble_eq_true rfl) mO_28 (hP.o h3) (Nat.le_of_ble_eq_true rfl) (hsz) ?_
  rintro _ σ ⟨rfl, rfl⟩
  refine cI ?_
  refine x_ic2 T_109_45 (fun h => absurd (show pl < z from h) (by omega)) (fun _ => ?_)
  refine x_ic T_109_48 ?_
  refine x_rz T_109_49 rfl ?_
  exact ⟨rfl, rfl⟩
end XSH1
