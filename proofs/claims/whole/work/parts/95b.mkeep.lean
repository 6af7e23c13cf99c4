/-! Openings: there is one for each descriptor that is free; open, create, write, chmod. -/
theorem T_394_0 : hTab 394 0 = some ((0, 0, 0, []), 1) := rfl
theorem T_394_1 : hTab 394 1 = some ((4, 2, 0, []), 2) := rfl
theorem T_394_2 : hTab 394 2 = some ((3, 0, 2, []), 3) := rfl
theorem T_394_3 : hTab 394 3 = some ((24, 17, Int.ofNat 60, []), 6) := rfl
theorem T_394_6 : hTab 394 6 = some ((3, 2, 0, []), 7) := rfl
theorem T_394_7 : hTab 394 7 = some ((26, 2, 0, []), 8) := rfl
theorem T_394_8 : hTab 394 8 = some ((18, 0, Int.ofNat 17, []), 11) := rfl
theorem T_394_11 : hTab 394 11 = some ((5, 2, 1, []), 14) := rfl
theorem T_394_14 : hTab 394 14 = some ((22, 0, Int.ofNat 2, []), 17) := rfl
theorem T_394_17 : hTab 394 17 = some ((3, 0, 2, []), 18) := rfl
theorem T_394_18 : hTab 394 18 = some ((3, 1, 0, []), 19) := rfl
theorem T_394_19 : hTab 394 19 = some ((31, 393, 0, []), 22) := rfl
theorem T_394_22 : hTab 394 22 = some ((4, 3, 0, []), 23) := rfl
theorem T_394_23 : hTab 394 23 = some ((3, 0, 2, []), 24) := rfl
theorem T_394_24 : hTab 394 24 = some ((6, 0, 0, []), 25) := rfl
theorem T_394_25 : hTab 394 25 = some ((24, 17, Int.ofNat 91, []), 28) := rfl
theorem T_394_28 : hTab 394 28 = some ((0, 0, 1, []), 29) := rfl
theorem T_394_29 : hTab 394 29 = some ((10, 1, 0, []), 30) := rfl
theorem T_394_30 : hTab 394 30 = some ((25, 17, Int.ofNat 91, []), 33) := rfl
theorem T_394_33 : hTab 394 33 = some ((3, 0, 2, []), 34) := rfl
theorem T_394_34 : hTab 394 34 = some ((24, 17, Int.ofNat 60, []), 37) := rfl
theorem T_394_37 : hTab 394 37 = some ((3, 2, 0, []), 38) := rfl
theorem T_394_38 : hTab 394 38 = some ((0, 0, 1, []), 39) := rfl
theorem T_394_39 : hTab 394 39 = some ((27, 2, 0, []), 40) := rfl
theorem T_394_40 : hTab 394 40 = some ((3, 0, 2, []), 41) := rfl
theorem T_394_41 : hTab 394 41 = some ((24, 17, Int.ofNat 61, []), 44) := rfl
theorem T_394_44 : hTab 394 44 = some ((3, 2, 0, []), 45) := rfl
theorem T_394_45 : hTab 394 45 = some ((3, 0, 2, []), 46) := rfl
theorem T_394_46 : hTab 394 46 = some ((24, 17, Int.ofNat 86, []), 49) := rfl
theorem T_394_49 : hTab 394 49 = some ((3, 0, 2, []), 50) := rfl
theorem T_394_50 : hTab 394 50 = some ((24, 17, Int.ofNat 91, []), 53) := rfl
theorem T_394_53 : hTab 394 53 = some ((26, 0, 0, []), 54) := rfl
theorem T_394_54 : hTab 394 54 = some ((27, 0, 0, []), 55) := rfl
theorem T_394_55 : hTab 394 55 = some ((3, 0, 2, []), 56) := rfl
theorem T_394_56 : hTab 394 56 = some ((24, 17, Int.ofNat 62, []), 59) := rfl
theorem T_394_59 : hTab 394 59 = some ((3, 2, 0, []), 60) := rfl
theorem T_394_60 : hTab 394 60 = some ((3, 0, 2, []), 61) := rfl
theorem T_394_61 : hTab 394 61 = some ((24, 17, Int.ofNat 87, []), 64) := rfl
theorem T_394_64 : hTab 394 64 = some ((3, 0, 2, []), 65) := rfl
theorem T_394_65 : hTab 394 65 = some ((24, 17, Int.ofNat 91, []), 68) := rfl
theorem T_394_68 : hTab 394 68 = some ((26, 0, 0, []), 69) := rfl
theorem T_394_69 : hTab 394 69 = some ((27, 0, 0, []), 70) := rfl
theorem T_394_70 : hTab 394 70 = some ((3, 0, 2, []), 71) := rfl
theorem T_394_71 : hTab 394 71 = some ((24, 17, Int.ofNat 63, []), 74) := rfl
theorem T_394_74 : hTab 394 74 = some ((3, 2, 0, []), 75) := rfl
theorem T_394_75 : hTab 394 75 = some ((0, 0, 0, []), 76) := rfl
theorem T_394_76 : hTab 394 76 = some ((27, 0, 0, []), 77) := rfl
theorem T_394_77 : hTab 394 77 = some ((3, 0, 2, []), 78) := rfl
theorem T_394_78 : hTab 394 78 = some ((24, 17, Int.ofNat 57, []), 81) := rfl
theorem T_394_81 : hTab 394 81 = some ((0, 0, 8, []), 83) := rfl
theorem T_394_83 : hTab 394 83 = some ((3, 1, 0, []), 84) := rfl
theorem T_394_84 : hTab 394 84 = some ((10, 2, 0, []), 85) := rfl
theorem T_394_85 : hTab 394 85 = some ((3, 3, 0, []), 86) := rfl
theorem T_394_86 : hTab 394 86 = some ((10, 0, 0, []), 87) := rfl
theorem T_394_87 : hTab 394 87 = some ((3, 2, 0, []), 88) := rfl
theorem T_394_88 : hTab 394 88 = some ((27, 0, 0, []), 89) := rfl
theorem T_394_89 : hTab 394 89 = some ((3, 0, 2, []), 90) := rfl
theorem T_394_90 : hTab 394 90 = some ((3, 1, 0, []), 91) := rfl
theorem T_394_91 : hTab 394 91 = some ((0, 0, 48, []), 93) := rfl
theorem T_394_93 : hTab 394 93 = some ((3, 3, 0, []), 94) := rfl
theorem T_394_94 : hTab 394 94 = some ((10, 0, 0, []), 95) := rfl
theorem T_394_95 : hTab 394 95 = some ((31, 351, 0, []), 98) := rfl
theorem T_394_98 : hTab 394 98 = some ((3, 0, 2, []), 99) := rfl
theorem T_394_99 : hTab 394 99 = some ((3, 1, 0, []), 100) := rfl
theorem T_394_100 : hTab 394 100 = some ((0, 0, 10, []), 102) := rfl
theorem T_394_102 : hTab 394 102 = some ((31, 351, 0, []), 105) := rfl
theorem T_394_105 : hTab 394 105 = some ((33, 0, 0, []), 106) := rfl
theorem mN_394 : hmN 394 = 2 := by decide +kernel
theorem mL_394 : hmL 394 = 4 := by decide +kernel
theorem mK_394 : hmK 394 = 1 := by decide +kernel
theorem mO_394 : hmO 394 = 17 := by decide +kernel
def imF (g : Int → Int) (o : Int) : Nat → Int
  | 0 => 0
  | n + 1 => if g (n : Int) = o then 1 else imF g o n
def cntP (g : Int → Int) : Nat → Int
  | 0 => 0
  | n + 1 => cntP g n + if 0 ≤ g (n : Int) then 1 else 0
section PIGEON
theorem imF_rng (g : Int → Int) (o : Int) : ∀ n : Nat, 0 ≤ imF g o n ∧ imF g o n ≤ 1
  | 0 => ⟨Int.le_refl _, by show (0 : Int) ≤ 1; decide⟩
  | n + 1 => by
    unfold imF
    split
    · decide
    · exact imF_rng g o n
theorem imF_sum (g : Int → Int) (N : Nat) : ∀ n : Nat, sm (fun o => imF g o n) 0 N ≤ cntP g n
  | 0 => by
    show sm (fun _ => (0 : Int)) 0 N ≤ 0
    rw [sm_const, Int.zero_mul]
    exact Int.le_refl _
  | n + 1 => by
    have ih := imF_sum g N n
    unfold cntP
    by_cases q : 0 ≤ g (n : Int) ∧ g (n : Int) < N
    · have e := sm_one (f := fun o => imF g o (n + 1)) (g := fun o => imF g o n) (k := g (n : Int)) N 0 q.1 (by omega) (fun i hi => by
        show (if g (n : Int) = i then (1 : Int) else imF g i n) = imF g i n
        rw [if_neg (fun c => hi c.symm)])
      have r1 := imF_rng g (g (n : Int)) (n + 1)
      have r2 := imF_rng g (g (n : Int)) n
      rw [if_pos q.1, e]
      have : (fun o => imF g o (n + 1)) (g (n : Int)) - (fun o => imF g o n) (g (n : Int)) ≤ 1 := by
        show imF g (g (n : Int)) (n + 1) - imF g (g (n : Int)) n ≤ 1
        omega
      omega
    · have e := sm_congr (f := fun o => imF g o (n + 1)) (g := fun o => imF g o n) N 0 (fun i h1 h2 => by
        show (if g (n : Int) = i then (1 : Int) else imF g i n) = imF g i n
        rw [if_neg (fun c => q (by omega))])
      rw [e]
      split <;> omega
theorem cntP_le (g : Int → Int) : ∀ n : Nat, cntP g n ≤ n
  | 0 => Int.le_refl _
  | n + 1 => by
    have := cntP_le g n
    unfold cntP
    split <;> omega
theorem cntP_lt (g : Int → Int) {i : Nat} (hi : g (i : Int) < 0) : ∀ n : Nat, i < n → cntP g n ≤ n - 1
  | 0, h => absurd h (Nat.not_lt_zero i)
  | n + 1, h => by
    unfold cntP
    by_cases q : i = n
    · subst q
      have := cntP_le g i
      rw [if_neg (by omega)]
      omega
    · have := cntP_lt g hi n (by omega)
      split <;> omega
theorem imF_hit (g : Int → Int) {o : Int} : ∀ (n : Nat) (i : Nat), i < n → g (i : Int) = o → imF g o n = 1
  | 0, i, h, _ => absurd h (Nat.not_lt_zero i)
  | n + 1, i, h, e => by
    unfold imF
    by_cases q : i = n
    · subst q
      rw [if_pos e]
    · split
      · rfl
      · exact imF_hit g n i (by omega) e
/-- as many names as things, and one thing without: a name is left -/
theorem pigeon (g : Int → Int) (n : Nat) {i : Nat} (hi : i < n) (hn : g (i : Int) < 0) : ¬ ∀ o : Int, 0 ≤ o → o < n → ∃ j : Nat, j < n ∧ g (j : Int) = o := fun hall => by
  have h1 := imF_sum g n n
  have h2 := cntP_lt g hn n hi
  have h3 := sm_le (f := fun _ => 1) (g := fun o => imF g o n) n 0 (fun o a b => by
    obtain ⟨j, hj, e⟩ := hall o a (by omega)
    show (1 : Int) ≤ imF g o n
    rw [imF_hit g n j hj e]
    exact Int.le_refl _)
  rw [sm_const] at h3
  omega
end PIGEON
/-- openings and descriptors belong together -/
def GO (P : qR) : Prop := (∀ i : Int, 0 ≤ i → i < 64 → ¬ P 2320 (i / 8) = 0 → 0 ≤ P 2327 i → P 2330 (P 2327 i) = 1) ∧ ∀ o : Int, 0 ≤ o → o < 64 → ¬ P 2330 o = 0 → ∃ i : Nat, i < 64 ∧ ¬ P 2320 ((i : Int) / 8) = 0 ∧ P 2327 (i : Int) = o
def frR (P : qR) : Nat → Int → Int
  | 0, k => k
  | m + 1, k => if P 2330 k = 0 then k else frR P m (k + 1)
def qFo (P : qR) : Int := frR P 64 0
def gKeep (P : qR) (p : Int) (c : Ch) : qR := gTell (gTell (rU (rU (rU (rU (rU P 2330 (qFo P) 1) 2331 (qFo P) c.1) 2332 (qFo P) c.2.1) 2333 (qFo P) 0) 2327 (8 * p + qFd P p) (qFo P)) p (48 + qFd P p)) p 10
section MKEEP
variable {fb : Bool} {d : Nat} {σ0 σ : hM} {P Q R S S1 S2 : qR} {T U s w g u p k e t z o thr pt : Int} {l nm wd A : List Int} {h : List Ch} {a f : Int → Int} {x : Int × Int} {c : Ch}
theorem frR_all : ∀ (m : Nat) (k : Int), k ≤ frR P m k ∧ frR P m k ≤ k + m ∧ (frR P m k < k + m → P 2330 (frR P m k) = 0) ∧ ∀ i, k ≤ i → i < frR P m k → ¬ P 2330 i = 0
  | 0, k => ⟨Int.le_refl k, by show k ≤ k + ((0 : Nat) : Int); omega, fun h => by have h : k < k + ((0 : Nat) : Int) := h; omega, fun i h1 h2 => by have h2 : i < k := h2; omega⟩
  | m + 1, k => by
    unfold frR
    split
    · rename_i q
      exact ⟨Int.le_refl k, by omega, fun _ => q, fun i h1 h2 => by omega⟩
    · rename_i q
      obtain ⟨a1, a2, a3, a4⟩ := frR_all m (k + 1)
      refine ⟨by omega, by omega, fun h => a3 (by omega), fun i h1 h2 => ?_⟩
      by_cases e : i = k
      · rw [e]
        exact q
      · exact a4 i (by omega) h2
theorem qFo_ok (hG : GO P) (hp : 0 ≤ p ∧ p < 8) (hf : 0 ≤ qFd P p) : 0 ≤ qFo P ∧ qFo P < 64 ∧ P 2330 (qFo P) = 0 := by
  obtain ⟨a1, a2, a3, a4⟩ := frR_all (P := P) 64 0
  have e : frR P 64 0 = qFo P := rfl
  rw [e] at a1 a2 a3 a4
  rcases fdR_rng (P := P) (p := p) 8 0 with q | ⟨q1, q2, q3⟩
  · have : qFd P p = -1 := q
    omega
  · have e2 : fdR P p 8 0 = qFd P p := rfl
    rw [e2] at q1 q2 q3
    by_cases hlt : qFo P < 64
    · exact ⟨a1, hlt, a3 (by omega)⟩
    · exfalso
      refine pigeon (fun i => if P 2320 (i / 8) = 0 then -1 else P 2327 i) 64 (i := (8 * p + qFd P p).toNat) (by omega) ?_ ?_
      · show (if P 2320 (((8 * p + qFd P p).toNat : Int) / 8) = 0 then -1 else P 2327 ((8 * p + qFd P p).toNat : Int)) < 0
        rw [show ((8 * p + qFd P p).toNat : Int) = 8 * p + qFd P p by omega]
        split <;> omega
      · intro o h0 h1
        have h1 : o < 64 := h1
        obtain ⟨i, hi, g1, g2⟩ := hG.2 o h0 h1 (a4 o h0 (by omega))
        exact ⟨i, hi, by show (if P 2320 ((i : Int) / 8) = 0 then -1 else P 2327 (i : Int)) = o; rw [if_neg g1]; exact g2⟩
theorem m_keep_loop (hP : PM σ0 P S σ) (hq : 0 ≤ qFo P ∧ qFo P < 64) {Q : Option AV → hM → Prop} (hQ : WP fb d 394 17 [some (vR (some 2281)), some (vI p), some (vI (qFo P)), none] [] σ Q) : ∀ (m : Nat) (k : Int), k + m = 64 → 0 ≤ k → k ≤ qFo P → frR P m k = qFo P → WP fb d 394 2 [some (vR (some 2281)), some (vI p), some (vI k), none] [] σ Q := by
  intro m
  induction m with
  | zero =>
    intro k h1 h2 h3 h4
    have h4 : k = qFo P := h4
    omega
  | succ m ih =>
    intro k h1 h2 h3 h4
    by_cases q : P 2330 k = 0
    · rw [show frR P (m + 1) k = k from if_pos q] at h4
      rw [← h4] at hQ
      refine x_lr (z := some 2281) T_394_2 rfl ?_
      refine x_gR (z := some 2330) T_394_3 F_17_60 (PM.t hP) (PM.r hP 60 2330 rfl) ?_
      refine x_li (z := k) T_394_6 rfl ?_
      refine x_alI (z := P 2330 k) T_394_7 (by decide) (PM.ta hP 2330 2 64 rfl rfl) (by omega) (by omega) (PM.aP hP 2330 rfl rfl (by omega)) ?_
      refine x_if T_394_8 (fun _ => ?_) (fun h => absurd (show P 2330 k = 0 by exact q) h)
      exact hQ
    · rw [show frR P (m + 1) k = frR P m (k + 1) from if_neg q] at h4
      have hk : k + 1 ≤ qFo P := by
        rw [← h4]
        exact (frR_all m (k + 1)).1
      have hgo := ih (k + 1) (by omega) (by omega) hk h4
      refine x_lr (z := some 2281) T_394_2 rfl ?_
      refine x_gR (z := some 2330) T_394_3 F_17_60 (PM.t hP) (PM.r hP 60 2330 rfl) ?_
      refine x_li (z := k) T_394_6 rfl ?_
      refine x_alI (z := P 2330 k) T_394_7 (by decide) (PM.ta hP 2330 2 64 rfl rfl) (by omega) (by omega) (PM.aP hP 2330 rfl rfl (by omega)) ?_
      refine x_if T_394_8 (fun h => absurd (show P 2330 k = 0 from h) (by exact q)) (fun _ => ?_)
      refine x_inc (w := (k + 1)) (ls1 := [some (vR (some 2281)), some (vI p), some (vI (k + 1)), none]) T_394_11 rfl (w32_id (by omega) (by omega)) rfl ?_
      refine x_goto T_394_14 ?_
      exact hgo
theorem m_keep (hP : PM σ0 P S σ) (hK : KS T U P S l [c]) (hG : GO P) (hp : 0 ≤ p ∧ p < 8) (hf : 0 ≤ qFd P p) (hU : 0 ≤ U) : CL fb (d + 1) 394 [vR (some 2281), vI p] σ (fun r σ' => ∃ S2 : qR, r = none ∧ PM σ0 (gKeep P p c) S2 σ' ∧ KS T U (gKeep P p c) S2 l [] ∧ SX scR scN S S2) := by
  obtain ⟨hGI, hPT, hJ, hh, hL⟩ := hK
  have hq := qFo_ok hG hp hf
  have hfd : qFd P p < 8 := by
    rcases fdR_rng (P := P) (p := p) 8 0 with q | ⟨q1, q2, q3⟩
    · have : qFd P p = -1 := q
      omega
    · have e2 : fdR P p 8 0 = qFd P p := rfl
      rw [e2] at q2
      omega
  obtain ⟨g1, g2, g3, g4, g5, g6, g7⟩ := HS.last (h := []) hh
  obtain ⟨c1, c2, -⟩ := HS.ch (h := []) hJ hh
  have hh3 := hh.less (j := 0) (Nat.zero_le _)
  have hfr := fun (σ : hM) (hP : PM σ0 P S σ) => m_freeDescriptor (fb := fb) (d := d) (p := p) hP hp
  obtain ⟨P1, hP1⟩ : ∃ P1, rU (rU (rU (rU (rU P 2330 (qFo P) 1) 2331 (qFo P) c.1) 2332 (qFo P) c.2.1) 2333 (qFo P) 0) 2327 (8 * p + qFd P p) (qFo P) = P1 := ⟨_, rfl⟩
  have hGK : gKeep P p c = gTell (gTell P1 p (48 + qFd P p)) p 10 := by unfold gKeep; rw [hP1]
  rw [hGK]
  have hG1 : GI T U P1 := by
    rw [← hP1]
    refine GI_one (f := 2327) (ty := 0) (len := 64) (GI_one (f := 2333) (ty := 0) (len := 64) (GI_one (f := 2332) (ty := 0) (len := 64) (GI_one (f := 2331) (ty := 0) (len := 64) (GI_one (f := 2330) (ty := 2) (len := 64) hGI rfl (show (0 : Int) ≤ 1 ∧ (1 : Int) ≤ 1 by decide) rfl rfl rfl rfl rfl rfl rfl rfl rfl (by decide) (by decide)) rfl c1 rfl rfl rfl rfl rfl rfl rfl rfl rfl (by decide) (by decide)) rfl c2 rfl rfl rfl rfl rfl rfl rfl rfl rfl (by decide) (by decide)) rfl (show (0 : Int) ≤ 0 ∧ (0 : Int) ≤ U from ⟨Int.le_refl _, hU⟩) rfl rfl rfl rfl rfl rfl rfl rfl rfl (by decide) (by decide)) rfl (show -1 ≤ qFo P ∧ qFo P ≤ 63 by omega) rfl rfl rfl rfl rfl rfl rfl rfl rfl (by decide) (by decide)
  have hPT1 : PTS P1 := by
    rw [← hP1]
    exact hPT.row (fun _ => (rU_f (by decide)).trans ((rU_f (by decide)).trans ((rU_f (by decide)).trans ((rU_f (by decide)).trans (rU_f (by decide)))))) (fun _ => (rU_f (by decide)).trans ((rU_f (by decide)).trans ((rU_f (by decide)).trans ((rU_f (by decide)).trans (rU_f (by decide))))))
  have hG2 : GI T U (gTell P1 p (48 + qFd P p)) := GI_tell hG1 hp (by omega)
  have hG3 : GI T U (gTell (gTell P1 p (48 + qFd P p)) p 10) := GI_tell hG2 hp (by decide)
  have hPT3 : PTS (gTell (gTell P1 p (48 + qFd P p)) p 10) := hPT1.row (fun _ => (gTell_f (by decide) (by decide)).trans (gTell_f (by decide) (by decide))) (fun _ => (gTell_f (by decide) (by decide)).trans (gTell_f (by decide) (by decide)))
  have hJ3 : IV true T U (rU S 2281 91 0) := hJ.uN 91 91 rfl (by show (0 : Int) ≤ 0 ∧ (0 : Int) ≤ 64; decide)
  have hL3 : LN (rU S 2281 91 0) l := hL.of (rU_k (by decide)) (rU_k (by decide)) (fun _ => rU_f (by decide)) (fun _ => rU_f (by decide)) (fun _ => rU_f (by decide))
  obtain ⟨o, ho⟩ : ∃ o, qFo P = o := ⟨_, rfl⟩
  obtain ⟨dd, hdd⟩ : ∃ dd, qFd P p = dd := ⟨_, rfl⟩
  refine CL_in mL_394 rfl ?_
  show WP fb _ 394 0 [some (vR (some 2281)), some (vI p), none, none] [] σ _
  refine x_ic T_394_0 ?_
  refine x_si (ls1 := [some (vR (some 2281)), some (vI p), some (vI 0), none]) T_394_1 rfl ?_
  refine m_keep_loop (d := d + 1) hP ⟨hq.1, hq.2.1⟩ ?_ 64 0 (by decide) (by decide) hq.1 rfl
  rw [hdd] at hf hfd hP1 hGK hG2 hG3 hPT3 hfr ⊢
  rw [ho] at hq hP1 ⊢
  have ht1 := fun (σ : hM) (hP : PM σ0 P1 (rU S 2281 91 0) σ) => m_tell (fb := fb) (d := d) (b := 48 + dd) hP hG1.iv hp
  have ht2 := fun (σ : hM) (hP : PM σ0 (gTell P1 p (48 + dd)) (rU S 2281 91 0) σ) => m_tell (fb := fb) (d := d) (b := 10) hP hG2.iv hp
  refine x_lr (z := some 2281) T_394_17 rfl ?_
  refine x_li (z := p) T_394_18 rfl ?_
  refine x_cv2 T_394_19 mN_393 mL_393 (Nat.le_of_ble_eq_true rfl) mO_393 (PM.t hP) (Nat.le_of_ble_eq_true rfl) (hfr σ hP) ?_
  rintro _ σ ⟨rfl, rfl⟩
  refine cI ?_
  refine x_si (ls1 := [some (vR (some 2281)), some (vI p), some (vI o), some (vI dd)]) T_394_22 rfl ?_
  refine x_lr (z := some 2281) T_394_23 rfl ?_
  refine x_dupR T_394_24 ?_
  refine x_gI (z := 1) T_394_25 (Or.inl F_17_91) (PM.t hP) (Eq.trans (PM.nS hP 2281 91 91 rfl rfl rfl) g1) ?_
  refine x_ic T_394_28 ?_
  refine x_ib (w := 0) T_394_29 (fun h => absurd h.1 (by decide)) (by decide) ?_
  refine y_pIS hP T_394_30 F_17_91 91 rfl rfl (fun σ hP => ?_)
  refine x_lr (z := some 2281) T_394_33 rfl ?_
  refine x_gR (z := some 2330) T_394_34 F_17_60 (PM.t hP) (PM.r hP 60 2330 rfl) ?_
  refine x_li (z := o) T_394_37 rfl ?_
  refine x_ic T_394_38 ?_
  refine y_aZP hP T_394_39 rfl 2330 64 rfl rfl rfl (by omega) (by omega) (fun σ hP => ?_)
  refine x_lr (z := some 2281) T_394_40 rfl ?_
  refine x_gR (z := some 2331) T_394_41 F_17_61 (PM.t hP) (PM.r hP 61 2331 rfl) ?_
  refine x_li (z := o) T_394_44 rfl ?_
  refine x_lr (z := some 2281) T_394_45 rfl ?_
  refine x_gR (z := some 2350) T_394_46 F_17_86 (PM.t hP) (PM.r hP 86 2350 rfl) ?_
  refine x_lr (z := some 2281) T_394_49 rfl ?_
  refine x_gI (z := 0) T_394_50 (Or.inl F_17_91) (PM.t hP) (Eq.trans (PM.nS hP 2281 91 91 rfl rfl rfl) rU_s) ?_
  refine x_alI (z := c.1) T_394_53 (by decide) (PM.ta hP 2350 0 64 rfl rfl) (by omega) (by omega) (Eq.trans (Eq.trans (PM.aS hP 2350 rfl rfl (by omega)) (rU_f (Nat.ne_of_beq_eq_false rfl))) g3) ?_
  refine y_aIP hP T_394_54 2331 64 rfl rfl rfl (by omega) (by omega) (fun σ hP => ?_)
  refine x_lr (z := some 2281) T_394_55 rfl ?_
  refine x_gR (z := some 2332) T_394_56 F_17_62 (PM.t hP) (PM.r hP 62 2332 rfl) ?_
  refine x_li (z := o) T_394_59 rfl ?_
  refine x_lr (z := some 2281) T_394_60 rfl ?_
  refine x_gR (z := some 2351) T_394_61 F_17_87 (PM.t hP) (PM.r hP 87 2351 rfl) ?_
  refine x_lr (z := some 2281) T_394_64 rfl ?_
  refine x_gI (z := 0) T_394_65 (Or.inl F_17_91) (PM.t hP) (Eq.trans (PM.nS hP 2281 91 91 rfl rfl rfl) rU_s) ?_
  refine x_alI (z := c.2.1) T_394_68 (by decide) (PM.ta hP 2351 0 64 rfl rfl) (by omega) (by omega) (Eq.trans (Eq.trans (PM.aS hP 2351 rfl rfl (by omega)) (rU_f (Nat.ne_of_beq_eq_false rfl))) g4) ?_
  refine y_aIP hP T_394_69 2332 64 rfl rfl rfl (by omega) (by omega) (fun σ hP => ?_)
  refine x_lr (z := some 2281) T_394_70 rfl ?_
  refine x_gR (z := some 2333) T_394_71 F_17_63 (PM.t hP) (PM.r hP 63 2333 rfl) ?_
  refine x_li (z := o) T_394_74 rfl ?_
  refine x_ic T_394_75 ?_
  refine y_aIP hP T_394_76 2333 64 rfl rfl rfl (by omega) (by omega) (fun σ hP => ?_)
  refine x_lr (z := some 2281) T_394_77 rfl ?_
  refine x_gR (z := some 2327) T_394_78 F_17_57 (PM.t hP) (PM.r hP 57 2327 rfl) ?_
  refine x_ic T_394_81 ?_
  refine x_li (z := p) T_394_83 rfl ?_
  refine x_ib (w := (8 * p)) T_394_84 (fun h => absurd h.1 (by decide)) (w32_id (by omega) (by omega)) ?_
  refine x_li (z := dd) T_394_85 rfl ?_
  refine x_ib (w := ((8 * p) + dd)) T_394_86 (fun h => absurd h.1 (by decide)) (w32_id (by omega) (by omega)) ?_
  refine x_li (z := o) T_394_87 rfl ?_
  refine y_aIP hP T_394_88 2327 64 rfl rfl rfl (by omega) (by omega) (fun σ hP => ?_)
  rw [hP1] at hP
  refine x_lr (z := some 2281) T_394_89 rfl ?_
  refine x_li (z := p) T_394_90 rfl ?_
  refine x_ic T_394_91 ?_
  refine x_li (z := dd) T_394_93 rfl ?_
  refine x_ib (w := (48 + dd)) T_394_94 (fun h => absurd h.1 (by decide)) (w32_id (by omega) (by omega)) ?_
  refine x_cv3 T_394_95 mN_351 mL_351 (Nat.le_of_ble_eq_true rfl) mO_351 (PM.t hP) (Nat.le_of_ble_eq_true rfl) (ht1 σ hP) ?_
  clear hP
  rintro _ σ ⟨rfl, hP⟩
  refine cV ?_
  refine x_lr (z := some 2281) T_394_98 rfl ?_
  refine x_li (z := p) T_394_99 rfl ?_
  refine x_ic T_394_100 ?_
  refine x_cv3 T_394_102 mN_351 mL_351 (Nat.le_of_ble_eq_true rfl) mO_351 (PM.t hP) (Nat.le_of_ble_eq_true rfl) (ht2 σ hP) ?_
  clear hP
  rintro _ σ ⟨rfl, hP⟩
  refine cV ?_
  refine x_rv T_394_105 ?_
  exact ⟨_, rfl, hP, ⟨hG3, hPT3, hJ3, hh3, hL3⟩, SX_un SX_rfl rfl⟩
end MKEEP
