/-! The class's servers: their fids, found by number, free, the least, counted. -/
theorem T_39_8 : hTab 39 8 = some ((0, 0, 48, []), 10) := rfl
theorem T_39_39 : hTab 39 39 = some ((3, 0, 2, []), 40) := rfl
theorem T_39_40 : hTab 39 40 = some ((24, 7, Int.ofNat 3, []), 43) := rfl
theorem T_39_43 : hTab 39 43 = some ((3, 5, 0, []), 45) := rfl
theorem T_39_45 : hTab 39 45 = some ((26, 10, 0, []), 46) := rfl
theorem T_39_46 : hTab 39 46 = some ((24, 9, Int.ofNat 1, []), 49) := rfl
theorem T_39_49 : hTab 39 49 = some ((3, 2, 1, []), 50) := rfl
theorem T_39_50 : hTab 39 50 = some ((17, 0, 0, []), 51) := rfl
theorem T_39_51 : hTab 39 51 = some ((18, 1, Int.ofNat 62, []), 54) := rfl
theorem T_39_54 : hTab 39 54 = some ((3, 0, 2, []), 55) := rfl
theorem T_39_55 : hTab 39 55 = some ((24, 7, Int.ofNat 3, []), 58) := rfl
theorem T_39_58 : hTab 39 58 = some ((3, 5, 0, []), 60) := rfl
theorem T_39_60 : hTab 39 60 = some ((26, 10, 0, []), 61) := rfl
theorem T_39_61 : hTab 39 61 = some ((33, 4, 0, []), 62) := rfl
theorem T_41_0 : hTab 41 0 = some ((3, 0, 2, []), 1) := rfl
theorem T_41_1 : hTab 41 1 = some ((24, 7, Int.ofNat 11, []), 4) := rfl
theorem T_41_4 : hTab 41 4 = some ((18, 1, Int.ofNat 11, []), 7) := rfl
theorem T_41_7 : hTab 41 7 = some ((0, 0, 0, []), 8) := rfl
theorem T_41_8 : hTab 41 8 = some ((22, 0, Int.ofNat 13, []), 11) := rfl
theorem T_41_11 : hTab 41 11 = some ((0, 0, 48, []), 13) := rfl
theorem T_41_13 : hTab 41 13 = some ((4, 1, 0, []), 14) := rfl
theorem T_41_14 : hTab 41 14 = some ((2, 0, 0, []), 15) := rfl
theorem T_41_15 : hTab 41 15 = some ((4, 2, 2, []), 16) := rfl
theorem T_41_16 : hTab 41 16 = some ((3, 1, 0, []), 17) := rfl
theorem T_41_17 : hTab 41 17 = some ((4, 3, 0, []), 18) := rfl
theorem T_41_18 : hTab 41 18 = some ((3, 3, 0, []), 19) := rfl
theorem T_41_19 : hTab 41 19 = some ((3, 1, 0, []), 20) := rfl
theorem T_41_20 : hTab 41 20 = some ((0, 0, 48, []), 22) := rfl
theorem T_41_22 : hTab 41 22 = some ((10, 0, 0, []), 23) := rfl
theorem T_41_23 : hTab 41 23 = some ((19, 3, Int.ofNat 72, []), 26) := rfl
theorem T_41_26 : hTab 41 26 = some ((3, 0, 2, []), 27) := rfl
theorem T_41_27 : hTab 41 27 = some ((24, 7, Int.ofNat 3, []), 30) := rfl
theorem T_41_30 : hTab 41 30 = some ((3, 3, 0, []), 31) := rfl
theorem T_41_31 : hTab 41 31 = some ((26, 10, 0, []), 32) := rfl
theorem T_41_32 : hTab 41 32 = some ((24, 9, Int.ofNat 0, []), 35) := rfl
theorem T_41_35 : hTab 41 35 = some ((18, 0, Int.ofNat 66, []), 38) := rfl
theorem T_41_38 : hTab 41 38 = some ((3, 2, 2, []), 39) := rfl
theorem T_41_39 : hTab 41 39 = some ((20, 0, Int.ofNat 59, []), 42) := rfl
theorem T_41_42 : hTab 41 42 = some ((3, 0, 2, []), 43) := rfl
theorem T_41_43 : hTab 41 43 = some ((24, 7, Int.ofNat 3, []), 46) := rfl
theorem T_41_46 : hTab 41 46 = some ((3, 3, 0, []), 47) := rfl
theorem T_41_47 : hTab 41 47 = some ((26, 10, 0, []), 48) := rfl
theorem T_41_48 : hTab 41 48 = some ((24, 9, Int.ofNat 1, []), 51) := rfl
theorem T_41_51 : hTab 41 51 = some ((3, 2, 2, []), 52) := rfl
theorem T_41_52 : hTab 41 52 = some ((24, 9, Int.ofNat 1, []), 55) := rfl
theorem T_41_55 : hTab 41 55 = some ((17, 0, 0, []), 56) := rfl
theorem T_41_56 : hTab 41 56 = some ((18, 3, Int.ofNat 66, []), 59) := rfl
theorem T_41_59 : hTab 41 59 = some ((3, 0, 2, []), 60) := rfl
theorem T_41_60 : hTab 41 60 = some ((24, 7, Int.ofNat 3, []), 63) := rfl
theorem T_41_63 : hTab 41 63 = some ((3, 3, 0, []), 64) := rfl
theorem T_41_64 : hTab 41 64 = some ((26, 10, 0, []), 65) := rfl
theorem T_41_65 : hTab 41 65 = some ((4, 2, 2, []), 66) := rfl
theorem T_41_66 : hTab 41 66 = some ((5, 3, 1, []), 69) := rfl
theorem T_41_69 : hTab 41 69 = some ((22, 0, Int.ofNat 18, []), 72) := rfl
theorem T_41_72 : hTab 41 72 = some ((3, 2, 2, []), 73) := rfl
theorem T_41_73 : hTab 41 73 = some ((33, 4, 0, []), 74) := rfl
theorem T_50_0 : hTab 50 0 = some ((3, 0, 2, []), 1) := rfl
theorem T_50_1 : hTab 50 1 = some ((24, 7, Int.ofNat 11, []), 4) := rfl
theorem T_50_4 : hTab 50 4 = some ((18, 1, Int.ofNat 11, []), 7) := rfl
theorem T_50_7 : hTab 50 7 = some ((0, 0, 0, []), 8) := rfl
theorem T_50_8 : hTab 50 8 = some ((22, 0, Int.ofNat 13, []), 11) := rfl
theorem T_50_11 : hTab 50 11 = some ((0, 0, 48, []), 13) := rfl
theorem T_50_13 : hTab 50 13 = some ((4, 1, 0, []), 14) := rfl
theorem T_50_14 : hTab 50 14 = some ((3, 1, 0, []), 15) := rfl
theorem T_50_15 : hTab 50 15 = some ((4, 2, 0, []), 16) := rfl
theorem T_50_16 : hTab 50 16 = some ((3, 2, 0, []), 17) := rfl
theorem T_50_17 : hTab 50 17 = some ((3, 1, 0, []), 18) := rfl
theorem T_50_18 : hTab 50 18 = some ((0, 0, 48, []), 20) := rfl
theorem T_50_20 : hTab 50 20 = some ((10, 0, 0, []), 21) := rfl
theorem T_50_21 : hTab 50 21 = some ((19, 3, Int.ofNat 49, []), 24) := rfl
theorem T_50_24 : hTab 50 24 = some ((3, 0, 2, []), 25) := rfl
theorem T_50_25 : hTab 50 25 = some ((24, 7, Int.ofNat 3, []), 28) := rfl
theorem T_50_28 : hTab 50 28 = some ((3, 2, 0, []), 29) := rfl
theorem T_50_29 : hTab 50 29 = some ((26, 10, 0, []), 30) := rfl
theorem T_50_30 : hTab 50 30 = some ((24, 9, Int.ofNat 0, []), 33) := rfl
theorem T_50_33 : hTab 50 33 = some ((18, 1, Int.ofNat 43, []), 36) := rfl
theorem T_50_36 : hTab 50 36 = some ((3, 0, 2, []), 37) := rfl
theorem T_50_37 : hTab 50 37 = some ((24, 7, Int.ofNat 3, []), 40) := rfl
theorem T_50_40 : hTab 50 40 = some ((3, 2, 0, []), 41) := rfl
theorem T_50_41 : hTab 50 41 = some ((26, 10, 0, []), 42) := rfl
theorem T_50_42 : hTab 50 42 = some ((33, 4, 0, []), 43) := rfl
theorem T_50_43 : hTab 50 43 = some ((5, 2, 1, []), 46) := rfl
theorem T_50_46 : hTab 50 46 = some ((22, 0, Int.ofNat 16, []), 49) := rfl
theorem T_50_49 : hTab 50 49 = some ((2, 0, 0, []), 50) := rfl
theorem T_50_50 : hTab 50 50 = some ((33, 4, 0, []), 51) := rfl
theorem F_7_11 : (hFd 7 11).2.2.1 = 0 := rfl
theorem F_9_1 : (hFd 9 1).2.2.1 = 3 := rfl
theorem mN_41 : hmN 41 = 1 := by decide +kernel
theorem mL_41 : hmL 41 = 4 := by decide +kernel
theorem mK_41 : hmK 41 = 1 := by decide +kernel
theorem mO_41 : hmO 41 = 7 := by decide +kernel
theorem mN_50 : hmN 50 = 1 := by decide +kernel
theorem mL_50 : hmL 50 = 3 := by decide +kernel
theorem mK_50 : hmK 50 = 1 := by decide +kernel
theorem mO_50 : hmO 50 = 7 := by decide +kernel
/-- the server s stands at S -/
def VS (S : Nat) (s : Int) : Prop := (0 ≤ s ∧ s < 3) ∧ S = 1293 + 294 * s.toNat
/-- the reference's fid k of a server as the class's object -/
def fdA (S : Nat) (s k : Int) : Option Nat := if k < 0 then none else some (S + 198 + (k - 96 * s).toNat)
/-- which fids are used, and by which numbers -/
def FU (W P : qR) (S : Nat) (s : Int) : Prop := ∀ i : Int, 0 ≤ i → i < 96 → W (S + 198 + i.toNat) 2288 = P 2304 (96 * s + i) ∧ (¬ P 2304 (96 * s + i) = 0 → W (S + 198 + i.toNat) 2289 = P 2305 (96 * s + i))
abbrev rPR (x : Option Nat) (σ : hM) : Option AV → hM → Prop := fun r σ' => r = some (vR x) ∧ σ' = σ
section XFID
variable {fb : Bool} {d S : Nat} {σ0 σ : hM} {W W0 W1 W2 P : qR} {R : rR} {i k x z v s e w c f : Int}
theorem VS.cases (h : VS S s) : (s = 0 ∧ S = 1293) ∨ (s = 1 ∧ S = 1587) ∨ (s = 2 ∧ S = 1881) := by
  obtain ⟨⟨h1, h2⟩, h3⟩ := h
  omega
theorem VS.o (h : VS S s) : tX S = some (Sum.inl 7) := by
  rcases h.cases with ⟨-, rfl⟩ | ⟨-, rfl⟩ | ⟨-, rfl⟩ <;> decide +kernel
theorem VS.an (h : VS S s) : isA (S + 1) 18 64 := by
  rcases h.cases with ⟨-, rfl⟩ | ⟨-, rfl⟩ | ⟨-, rfl⟩ <;> exact ⟨by decide +kernel, by decide⟩
theorem VS.af (h : VS S s) : isA (S + 2) 19 96 := by
  rcases h.cases with ⟨-, rfl⟩ | ⟨-, rfl⟩ | ⟨-, rfl⟩ <;> exact ⟨by decide +kernel, by decide⟩
theorem VS.am (h : VS S s) : isA (S + 3) 0 2 := by
  rcases h.cases with ⟨-, rfl⟩ | ⟨-, rfl⟩ | ⟨-, rfl⟩ <;> exact ⟨by decide +kernel, by decide⟩
theorem VS.fd (h : VS S s) (hi : 0 ≤ i ∧ i < 96) : tX (S + 198 + i.toNat) = some (Sum.inl 9) := by
  have := tX_fid s.toNat (by have := h.1; omega) i.toNat (by omega)
  rw [show S + 198 + i.toNat = 1491 + 294 * s.toNat + i.toNat by have := h.2; omega]
  exact this
theorem VS.fa (h : VS S s) (hi : 0 ≤ i ∧ i < 96) : rAr (S + 2) 19 96 i.toNat = some (S + 198 + i.toNat) := by
  unfold rAr
  rw [if_pos (by omega), if_pos rfl]
theorem VS.fma (h : VS S s) : mutA (S + 2) 19 96 = false := rfl
theorem fdA_k (hk : 0 ≤ i) : fdA S s (96 * s + i) = if 96 * s + i < 0 then none else some (S + 198 + i.toNat) := by
  unfold fdA
  rw [show 96 * s + i - 96 * s = i by omega]
theorem fdA_p (hs : VS S s) (hk : 0 ≤ i) : fdA S s (96 * s + i) = some (S + 198 + i.toNat) := by
  rw [fdA_k hk, if_neg (by have := hs.1; omega)]
theorem x_find_loop (hP : PX σ0 W R σ) (hS : VS S s) (hF : FU W P S s) (hc : c = 0 ∨ c = 1) : ∀ (m : Nat) (i : Int), i + m = 48 * c + 48 → 48 * c ≤ i → WP fb d 39 16 [some (vR (some S)), some (vI z), some (vL v), none, some (vI (48 * c)), some (vI i)] [] σ (rPR (fdA S s (fiFid P v m (96 * s + i))) σ) := by
  have hO := hS.o
  have hA := hS.af
  intro m
  induction m with
  | zero =>
    intro i h1 h2
    have h1 : i + ((0 : Nat) : Int) = 48 * c + 48 := h1
    obtain ⟨u, hu⟩ : ∃ u, 48 * c = u := ⟨_, rfl⟩
    rw [hu] at h1 h2 ⊢
    rw [show fdA S s (fiFid P v 0 (96 * s + i)) = none from rfl]
    refine x_li (z := i) T_39_16 rfl ?_
    refine x_li (z := u) T_39_18 rfl ?_
    refine x_ic T_39_20 ?_
    refine x_ib (w := (u + 48)) T_39_22 (fun h => absurd h.1 (by decide)) (w32_id (by omega) (by omega)) ?_
    refine x_ic2 T_39_23 (fun _ => ?_) (fun h => absurd (show (u + 48) ≤ i by omega) h)
    refine x_nu T_39_68 ?_
    refine x_rr T_39_69 ?_
    exact ⟨rfl, rfl⟩
  | succ m ih =>
    intro i h1 h2
    obtain ⟨u, hu⟩ : ∃ u, 48 * c = u := ⟨_, rfl⟩
    have hgo := ih (i + 1) (by omega) (by omega)
    rw [hu] at h1 h2 hgo ⊢
    rw [show 96 * s + (i + 1) = 96 * s + i + 1 by omega] at hgo
    have ef : fiFid P v (m + 1) (96 * s + i) = if ¬ P 2304 (96 * s + i) = 0 ∧ P 2305 (96 * s + i) = v then 96 * s + i else fiFid P v m (96 * s + i + 1) := rfl
    rw [ef]
    obtain ⟨e1, e2⟩ := hF i (by omega) (by omega)
    have hf := hS.fd (i := i) ⟨by omega, by omega⟩
    have ha := hS.fa (i := i) ⟨by omega, by omega⟩
    obtain ⟨y, hy⟩ : ∃ y, P 2304 (96 * s + i) = y := ⟨_, rfl⟩
    obtain ⟨nu0, hnu⟩ : ∃ y, P 2305 (96 * s + i) = y := ⟨_, rfl⟩
    rw [hy] at e1 e2 ⊢
    rw [hnu] at e2 ⊢
    by_cases q1 : y = 0
    · rw [if_neg (fun c => c.1 q1)]
      refine x_li (z := i) T_39_16 rfl ?_
      refine x_li (z := u) T_39_18 rfl ?_
      refine x_ic T_39_20 ?_
      refine x_ib (w := (u + 48)) T_39_22 (fun h => absurd h.1 (by decide)) (w32_id (by omega) (by omega)) ?_
      refine x_ic2 T_39_23 (fun h => absurd (show (u + 48) ≤ i from h) (by omega)) (fun _ => ?_)
      refine x_lr (z := some S) T_39_26 rfl ?_
      refine x_gR (z := some (S + 2)) T_39_27 F_7_3 (hP.o hO) (hP.rc hO rfl rfl) ?_
      refine x_li (z := i) T_39_30 rfl ?_
      refine x_alR (z := some (S + 198 + i.toNat)) T_39_32 (hP.ta hA) (by decide) (by omega) (by omega) (hP.arc hA rfl ha) ?_
      refine x_gI (z := y) T_39_33 (Or.inr (Or.inl F_9_0)) (hP.o hf) (Eq.trans (hP.gi hf (key := 2288) rfl) e1) ?_
      refine x_if T_39_36 (fun _ => ?_) (fun h => absurd (show y = 0 by omega) h)
      refine x_inc (w := (i + 1)) (ls1 := [some (vR (some S)), some (vI z), some (vL v), none, some (vI u), some (vI (i + 1))]) T_39_62 rfl (w32_id (by omega) (by omega)) rfl ?_
      refine x_goto T_39_65 ?_
      exact hgo
    · have e2 := e2 q1
      by_cases q2 : nu0 = v
      · rw [if_pos ⟨q1, q2⟩, fdA_p hS (by omega)]
        refine x_li (z := i) T_39_16 rfl ?_
        refine x_li (z := u) T_39_18 rfl ?_
        refine x_ic T_39_20 ?_
        refine x_ib (w := (u + 48)) T_39_22 (fun h => absurd h.1 (by decide)) (w32_id (by omega) (by omega)) ?_
        refine x_ic2 T_39_23 (fun h => absurd (show (u + 48) ≤ i from h) (by omega)) (fun _ => ?_)
        refine x_lr (z := some S) T_39_26 rfl ?_
        refine x_gR (z := some (S + 2)) T_39_27 F_7_3 (hP.o hO) (hP.rc hO rfl rfl) ?_
        refine x_li (z := i) T_39_30 rfl ?_
        refine x_alR (z := some (S + 198 + i.toNat)) T_39_32 (hP.ta hA) (by decide) (by omega) (by omega) (hP.arc hA rfl ha) ?_
        refine x_gI (z := y) T_39_33 (Or.inr (Or.inl F_9_0)) (hP.o hf) (Eq.trans (hP.gi hf (key := 2288) rfl) e1) ?_
        refine x_if T_39_36 (fun h => absurd (show y = 0 from h) (by omega)) (fun _ => ?_)
        refine x_lr (z := some S) T_39_39 rfl ?_
        refine x_gR (z := some (S + 2)) T_39_40 F_7_3 (hP.o hO) (hP.rc hO rfl rfl) ?_
        refine x_li (z := i) T_39_43 rfl ?_
        refine x_alR (z := some (S + 198 + i.toNat)) T_39_45 (hP.ta hA) (by decide) (by omega) (by omega) (hP.arc hA rfl ha) ?_
        refine x_gL (z := nu0) T_39_46 F_9_1 (hP.o hf) (Eq.trans (hP.gi hf (key := 2289) rfl) e2) ?_
        refine x_ll (z := v) T_39_49 rfl ?_
        refine x_lif T_39_50 T_39_51 (fun h => absurd (show ¬ nu0 = v from h) (by omega)) (fun _ => ?_)
        refine x_lr (z := some S) T_39_54 rfl ?_
        refine x_gR (z := some (S + 2)) T_39_55 F_7_3 (hP.o hO) (hP.rc hO rfl rfl) ?_
        refine x_li (z := i) T_39_58 rfl ?_
        refine x_alR (z := some (S + 198 + i.toNat)) T_39_60 (hP.ta hA) (by decide) (by omega) (by omega) (hP.arc hA rfl ha) ?_
        refine x_rr T_39_61 ?_
        exact ⟨rfl, rfl⟩
      · rw [if_neg (fun c => q2 c.2)]
        refine x_li (z := i) T_39_16 rfl ?_
        refine x_li (z := u) T_39_18 rfl ?_
        refine x_ic T_39_20 ?_
        refine x_ib (w := (u + 48)) T_39_22 (fun h => absurd h.1 (by decide)) (w32_id (by omega) (by omega)) ?_
        refine x_ic2 T_39_23 (fun h => absurd (show (u + 48) ≤ i from h) (by omega)) (fun _ => ?_)
        refine x_lr (z := some S) T_39_26 rfl ?_
        refine x_gR (z := some (S + 2)) T_39_27 F_7_3 (hP.o hO) (hP.rc hO rfl rfl) ?_
        refine x_li (z := i) T_39_30 rfl ?_
        refine x_alR (z := some (S + 198 + i.toNat)) T_39_32 (hP.ta hA) (by decide) (by omega) (by omega) (hP.arc hA rfl ha) ?_
        refine x_gI (z := y) T_39_33 (Or.inr (Or.inl F_9_0)) (hP.o hf) (Eq.trans (hP.gi hf (key := 2288) rfl) e1) ?_
        refine x_if T_39_36 (fun h => absurd (show y = 0 from h) (by omega)) (fun _ => ?_)
        refine x_lr (z := some S) T_39_39 rfl ?_
        refine x_gR (z := some (S + 2)) T_39_40 F_7_3 (hP.o hO) (hP.rc hO rfl rfl) ?_
        refine x_li (z := i) T_39_43 rfl ?_
        refine x_alR (z := some (S + 198 + i.toNat)) T_39_45 (hP.ta hA) (by decide) (by omega) (by omega) (hP.arc hA rfl ha) ?_
        refine x_gL (z := nu0) T_39_46 F_9_1 (hP.o hf) (Eq.trans (hP.gi hf (key := 2289) rfl) e2) ?_
        refine x_ll (z := v) T_39_49 rfl ?_
        refine x_lif T_39_50 T_39_51 (fun _ => ?_) (fun h => absurd (show ¬ nu0 = v by omega) h)
        refine x_inc (w := (i + 1)) (ls1 := [some (vR (some S)), some (vI z), some (vL v), none, some (vI u), some (vI (i + 1))]) T_39_62 rfl (w32_id (by omega) (by omega)) rfl ?_
        refine x_goto T_39_65 ?_
        exact hgo
theorem x_find (hP : PX σ0 W R σ) (hS : VS S s) (hF : FU W P S s) (hc : c = 0 ∨ c = 1) : CL fb d 39 [vR (some S), vI c, vL v] σ (rPR (fdA S s (qFid P s c v)) σ) := by
  have hgo := x_find_loop (fb := fb) (d := d) (z := c) (v := v) hP hS hF hc 48 (48 * c) (by omega) (Int.le_refl _)
  rw [show fiFid P v 48 (96 * s + 48 * c) = qFid P s c v by unfold qFid; congr 1; omega] at hgo
  rcases hc with rfl | rfl
  · skip
    refine CL_in mL_39 rfl ?_
    show WP fb _ 39 0 [some (vR (some S)), some (vI 0), some (vL v), none, none, none] [] σ _
    refine x_li (z := 0) T_39_0 rfl ?_
    refine x_if T_39_1 (fun h => absurd (show ¬ (0 : Int) = 0 from h) (by decide)) (fun _ => ?_)
    refine x_ic T_39_4 ?_
    refine x_goto T_39_5 ?_
    refine x_si (ls1 := [some (vR (some S)), some (vI 0), some (vL v), none, some (vI 0), none]) T_39_10 rfl ?_
    refine x_li (z := 0) T_39_12 rfl ?_
    refine x_si (ls1 := [some (vR (some S)), some (vI 0), some (vL v), none, some (vI 0), some (vI 0)]) T_39_14 rfl ?_
    exact hgo
  · skip
    refine CL_in mL_39 rfl ?_
    show WP fb _ 39 0 [some (vR (some S)), some (vI 1), some (vL v), none, none, none] [] σ _
    refine x_li (z := 1) T_39_0 rfl ?_
    refine x_if T_39_1 (fun _ => ?_) (fun h => absurd (show ¬ (1 : Int) = 0 by decide) h)
    refine x_ic T_39_8 ?_
    refine x_si (ls1 := [some (vR (some S)), some (vI 1), some (vL v), none, some (vI 48), none]) T_39_10 rfl ?_
    refine x_li (z := 48) T_39_12 rfl ?_
    refine x_si (ls1 := [some (vR (some S)), some (vI 1), some (vL v), none, some (vI 48), some (vI 48)]) T_39_14 rfl ?_
    exact hgo
theorem x_spare_loop (hP : PX σ0 W R σ) (hS : VS S s) (hF : FU W P S s) (hc : c = 0 ∨ c = 1) : ∀ (m : Nat) (i : Int), i + m = 48 * c + 48 → 48 * c ≤ i → WP fb d 50 16 [some (vR (some S)), some (vI (48 * c)), some (vI i)] [] σ (rPR (fdA S s (frFid P m (96 * s + i))) σ) := by
  have hO := hS.o
  have hA := hS.af
  intro m
  induction m with
  | zero =>
    intro i h1 h2
    have h1 : i + ((0 : Nat) : Int) = 48 * c + 48 := h1
    obtain ⟨u, hu⟩ : ∃ u, 48 * c = u := ⟨_, rfl⟩
    rw [hu] at h1 h2 ⊢
    rw [show fdA S s (frFid P 0 (96 * s + i)) = none from rfl]
    refine x_li (z := i) T_50_16 rfl ?_
    refine x_li (z := u) T_50_17 rfl ?_
    refine x_ic T_50_18 ?_
    refine x_ib (w := (u + 48)) T_50_20 (fun h => absurd h.1 (by decide)) (w32_id (by omega) (by omega)) ?_
    refine x_ic2 T_50_21 (fun _ => ?_) (fun h => absurd (show (u + 48) ≤ i by omega) h)
    refine x_nu T_50_49 ?_
    refine x_rr T_50_50 ?_
    exact ⟨rfl, rfl⟩
  | succ m ih =>
    intro i h1 h2
    obtain ⟨u, hu⟩ : ∃ u, 48 * c = u := ⟨_, rfl⟩
    have hgo := ih (i + 1) (by omega) (by omega)
    rw [hu] at h1 h2 hgo ⊢
    rw [show 96 * s + (i + 1) = 96 * s + i + 1 by omega] at hgo
    have ef : frFid P (m + 1) (96 * s + i) = if P 2304 (96 * s + i) = 0 then 96 * s + i else frFid P m (96 * s + i + 1) := rfl
    rw [ef]
    have e1 := (hF i (by omega) (by omega)).1
    have hf := hS.fd (i := i) ⟨by omega, by omega⟩
    have ha := hS.fa (i := i) ⟨by omega, by omega⟩
    obtain ⟨y, hy⟩ : ∃ y, P 2304 (96 * s + i) = y := ⟨_, rfl⟩
    rw [hy] at e1 ⊢
    by_cases q1 : y = 0
    · rw [if_pos q1, fdA_p hS (by omega)]
      refine x_li (z := i) T_50_16 rfl ?_
      refine x_li (z := u) T_50_17 rfl ?_
      refine x_ic T_50_18 ?_
      refine x_ib (w := (u + 48)) T_50_20 (fun h => absurd h.1 (by decide)) (w32_id (by omega) (by omega)) ?_
      refine x_ic2 T_50_21 (fun h => absurd (show (u + 48) ≤ i from h) (by omega)) (fun _ => ?_)
      refine x_lr (z := some S) T_50_24 rfl ?_
      refine x_gR (z := some (S + 2)) T_50_25 F_7_3 (hP.o hO) (hP.rc hO rfl rfl) ?_
      refine x_li (z := i) T_50_28 rfl ?_
      refine x_alR (z := some (S + 198 + i.toNat)) T_50_29 (hP.ta hA) (by decide) (by omega) (by omega) (hP.arc hA rfl ha) ?_
      refine x_gI (z := y) T_50_30 (Or.inr (Or.inl F_9_0)) (hP.o hf) (Eq.trans (hP.gi hf (key := 2288) rfl) e1) ?_
      refine x_if T_50_33 (fun h => absurd (show ¬ y = 0 from h) (by omega)) (fun _ => ?_)
      refine x_lr (z := some S) T_50_36 rfl ?_
      refine x_gR (z := some (S + 2)) T_50_37 F_7_3 (hP.o hO) (hP.rc hO rfl rfl) ?_
      refine x_li (z := i) T_50_40 rfl ?_
      refine x_alR (z := some (S + 198 + i.toNat)) T_50_41 (hP.ta hA) (by decide) (by omega) (by omega) (hP.arc hA rfl ha) ?_
      refine x_rr T_50_42 ?_
      exact ⟨rfl, rfl⟩
    · rw [if_neg q1]
      refine x_li (z := i) T_50_16 rfl ?_
      refine x_li (z := u) T_50_17 rfl ?_
      refine x_ic T_50_18 ?_
      refine x_ib (w := (u + 48)) T_50_20 (fun h => absurd h.1 (by decide)) (w32_id (by omega) (by omega)) ?_
      refine x_ic2 T_50_21 (fun h => absurd (show (u + 48) ≤ i from h) (by omega)) (fun _ => ?_)
      refine x_lr (z := some S) T_50_24 rfl ?_
      refine x_gR (z := some (S + 2)) T_50_25 F_7_3 (hP.o hO) (hP.rc hO rfl rfl) ?_
      refine x_li (z := i) T_50_28 rfl ?_
      refine x_alR (z := some (S + 198 + i.toNat)) T_50_29 (hP.ta hA) (by decide) (by omega) (by omega) (hP.arc hA rfl ha) ?_
      refine x_gI (z := y) T_50_30 (Or.inr (Or.inl F_9_0)) (hP.o hf) (Eq.trans (hP.gi hf (key := 2288) rfl) e1) ?_
      refine x_if T_50_33 (fun _ => ?_) (fun h => absurd (show ¬ y = 0 by omega) h)
      refine x_inc (w := (i + 1)) (ls1 := [some (vR (some S)), some (vI u), some (vI (i + 1))]) T_50_43 rfl (w32_id (by omega) (by omega)) rfl ?_
      refine x_goto T_50_46 ?_
      exact hgo
theorem x_spareFid (hP : PX σ0 W R σ) (hS : VS S s) (hF : FU W P S s) (hc : c = 0 ∨ c = 1) (hcn : W S 2235 = c) : CL fb d 50 [vR (some S)] σ (rPR (fdA S s (qFree P s c)) σ) := by
  have hO := hS.o
  have hgo := x_spare_loop (fb := fb) (d := d) hP hS hF hc 48 (48 * c) (by omega) (Int.le_refl _)
  rw [show frFid P 48 (96 * s + 48 * c) = qFree P s c by unfold qFree; congr 1; omega] at hgo
  rcases hc with rfl | rfl
  · skip
    refine CL_in mL_50 rfl ?_
    show WP fb _ 50 0 [some (vR (some S)), none, none] [] σ _
    refine x_lr (z := some S) T_50_0 rfl ?_
    refine x_gI (z := 0) T_50_1 (Or.inl F_7_11) (hP.o hO) (Eq.trans (hP.gi hO (key := 2235) rfl) hcn) ?_
    refine x_if T_50_4 (fun h => absurd (show ¬ (0 : Int) = 0 from h) (by decide)) (fun _ => ?_)
    refine x_ic T_50_7 ?_
    refine x_goto T_50_8 ?_
    refine x_si (ls1 := [some (vR (some S)), some (vI 0), none]) T_50_13 rfl ?_
    refine x_li (z := 0) T_50_14 rfl ?_
    refine x_si (ls1 := [some (vR (some S)), some (vI 0), some (vI 0)]) T_50_15 rfl ?_
    exact hgo
  · skip
    refine CL_in mL_50 rfl ?_
    show WP fb _ 50 0 [some (vR (some S)), none, none] [] σ _
    refine x_lr (z := some S) T_50_0 rfl ?_
    refine x_gI (z := 1) T_50_1 (Or.inl F_7_11) (hP.o hO) (Eq.trans (hP.gi hO (key := 2235) rfl) hcn) ?_
    refine x_if T_50_4 (fun _ => ?_) (fun h => absurd (show ¬ (1 : Int) = 0 by decide) h)
    refine x_ic T_50_11 ?_
    refine x_si (ls1 := [some (vR (some S)), some (vI 48), none]) T_50_13 rfl ?_
    refine x_li (z := 48) T_50_14 rfl ?_
    refine x_si (ls1 := [some (vR (some S)), some (vI 48), some (vI 48)]) T_50_15 rfl ?_
    exact hgo
theorem x_least_loop (hP : PX σ0 W R σ) (hS : VS S s) (hF : FU W P S s) (hc : c = 0 ∨ c = 1) : ∀ (m : Nat) (i f : Int), i + m = 48 * c + 48 → 48 * c ≤ i → (f = -1 ∨ (96 * s + 48 * c ≤ f ∧ f < 96 * s + i ∧ ¬ P 2304 f = 0)) → WP fb d 41 18 [some (vR (some S)), some (vI (48 * c)), some (vR (fdA S s f)), some (vI i)] [] σ (rPR (fdA S s (lsF P m (96 * s + i) f)) σ) := by
  have hO := hS.o
  have hA := hS.af
  have hsr := hS.1
  intro m
  induction m with
  | zero =>
    intro i f h1 h2 hf0
    have h1 : i + ((0 : Nat) : Int) = 48 * c + 48 := h1
    obtain ⟨u, hu⟩ : ∃ u, 48 * c = u := ⟨_, rfl⟩
    rw [hu] at h1 h2 ⊢
    rw [show lsF P 0 (96 * s + i) f = f from rfl]
    obtain ⟨r, hr⟩ : ∃ r, fdA S s f = r := ⟨_, rfl⟩
    rw [hr]
    refine x_li (z := i) T_41_18 rfl ?_
    refine x_li (z := u) T_41_19 rfl ?_
    refine x_ic T_41_20 ?_
    refine x_ib (w := (u + 48)) T_41_22 (fun h => absurd h.1 (by decide)) (w32_id (by omega) (by omega)) ?_
    refine x_ic2 T_41_23 (fun _ => ?_) (fun h => absurd (show (u + 48) ≤ i by omega) h)
    refine x_lr (z := r) T_41_72 rfl ?_
    refine x_rr T_41_73 ?_
    exact ⟨rfl, rfl⟩
  | succ m ih =>
    intro i f h1 h2 hf0
    have hgo := fun f hf => ih (i + 1) f (by omega) (by omega) hf
    obtain ⟨u, hu⟩ : ∃ u, 48 * c = u := ⟨_, rfl⟩
    rw [hu] at h1 h2 hgo hf0 ⊢
    rw [show 96 * s + (i + 1) = 96 * s + i + 1 by omega] at hgo
    have ef : lsF P (m + 1) (96 * s + i) f = lsF P m (96 * s + i + 1) (if ¬ P 2304 (96 * s + i) = 0 ∧ (f < 0 ∨ P 2305 (96 * s + i) < P 2305 f) then 96 * s + i else f) := rfl
    rw [ef]
    obtain ⟨e1, e2⟩ := hF i (by omega) (by omega)
    have hf := hS.fd (i := i) ⟨by omega, by omega⟩
    have ha := hS.fa (i := i) ⟨by omega, by omega⟩
    obtain ⟨y, hy⟩ : ∃ y, P 2304 (96 * s + i) = y := ⟨_, rfl⟩
    obtain ⟨nu0, hnu⟩ : ∃ y, P 2305 (96 * s + i) = y := ⟨_, rfl⟩
    have keep := hgo f (by omega)
    have take := fun q : ¬ y = 0 => hgo (96 * s + i) (Or.inr ⟨by omega, by omega, by rw [hy]; exact q⟩)
    rw [fdA_p hS (by omega)] at take
    rw [hy] at e1 e2 ⊢
    rw [hnu] at e2 ⊢
    by_cases q1 : y = 0
    · rw [if_neg (fun c => c.1 q1)]
      obtain ⟨r, hr⟩ : ∃ r, fdA S s f = r := ⟨_, rfl⟩
      rw [hr] at keep ⊢
      refine x_li (z := i) T_41_18 rfl ?_
      refine x_li (z := u) T_41_19 rfl ?_
      refine x_ic T_41_20 ?_
      refine x_ib (w := (u + 48)) T_41_22 (fun h => absurd h.1 (by decide)) (w32_id (by omega) (by omega)) ?_
      refine x_ic2 T_41_23 (fun h => absurd (show (u + 48) ≤ i from h) (by omega)) (fun _ => ?_)
      refine x_lr (z := some S) T_41_26 rfl ?_
      refine x_gR (z := some (S + 2)) T_41_27 F_7_3 (hP.o hO) (hP.rc hO rfl rfl) ?_
      refine x_li (z := i) T_41_30 rfl ?_
      refine x_alR (z := some (S + 198 + i.toNat)) T_41_31 (hP.ta hA) (by decide) (by omega) (by omega) (hP.arc hA rfl ha) ?_
      refine x_gI (z := y) T_41_32 (Or.inr (Or.inl F_9_0)) (hP.o hf) (Eq.trans (hP.gi hf (key := 2288) rfl) e1) ?_
      refine x_if T_41_35 (fun _ => ?_) (fun h => absurd (show y = 0 by omega) h)
      refine x_inc (w := (i + 1)) (ls1 := [some (vR (some S)), some (vI u), some (vR r), some (vI (i + 1))]) T_41_66 rfl (w32_id (by omega) (by omega)) rfl ?_
      refine x_goto T_41_69 ?_
      exact keep
    · have e2 := e2 q1
      have take := take q1
      rcases hf0 with rfl | ⟨f1, f2, f3⟩
      · rw [if_pos ⟨q1, Or.inl (by decide)⟩, show fdA S s (-1) = none from rfl]
        refine x_li (z := i) T_41_18 rfl ?_
        refine x_li (z := u) T_41_19 rfl ?_
        refine x_ic T_41_20 ?_
        refine x_ib (w := (u + 48)) T_41_22 (fun h => absurd h.1 (by decide)) (w32_id (by omega) (by omega)) ?_
        refine x_ic2 T_41_23 (fun h => absurd (show (u + 48) ≤ i from h) (by omega)) (fun _ => ?_)
        refine x_lr (z := some S) T_41_26 rfl ?_
        refine x_gR (z := some (S + 2)) T_41_27 F_7_3 (hP.o hO) (hP.rc hO rfl rfl) ?_
        refine x_li (z := i) T_41_30 rfl ?_
        refine x_alR (z := some (S + 198 + i.toNat)) T_41_31 (hP.ta hA) (by decide) (by omega) (by omega) (hP.arc hA rfl ha) ?_
        refine x_gI (z := y) T_41_32 (Or.inr (Or.inl F_9_0)) (hP.o hf) (Eq.trans (hP.gi hf (key := 2288) rfl) e1) ?_
        refine x_if T_41_35 (fun h => absurd (show y = 0 from h) (by omega)) (fun _ => ?_)
        refine x_lr (z := none) T_41_38 rfl ?_
        refine x_nul T_41_39 (fun _ => ?_) (fun a0 h0 => absurd h0 (by simp))
        refine x_lr (z := some S) T_41_59 rfl ?_
        refine x_gR (z := some (S + 2)) T_41_60 F_7_3 (hP.o hO) (hP.rc hO rfl rfl) ?_
        refine x_li (z := i) T_41_63 rfl ?_
        refine x_alR (z := some (S + 198 + i.toNat)) T_41_64 (hP.ta hA) (by decide) (by omega) (by omega) (hP.arc hA rfl ha) ?_
        refine x_sr (ls1 := [some (vR (some S)), some (vI u), some (vR (some (S + 198 + i.toNat))), some (vI i)]) T_41_65 rfl ?_
        refine x_inc (w := (i + 1)) (ls1 := [some (vR (some S)), some (vI u), some (vR (some (S + 198 + i.toNat))), some (vI (i + 1))]) T_41_66 rfl (w32_id (by omega) (by omega)) rfl ?_
        refine x_goto T_41_69 ?_
        exact take
      · obtain ⟨j, hj⟩ : ∃ j, f - 96 * s = j := ⟨_, rfl⟩
        have hfj : f = 96 * s + j := by omega
        have e3 := (hF j (by omega) (by omega)).2
        rw [← hfj] at e3
        have e3 := e3 f3
        obtain ⟨nf, hnf⟩ : ∃ y, P 2305 f = y := ⟨_, rfl⟩
        rw [hnf] at e3 ⊢
        have hfo := hS.fd (i := j) ⟨by omega, by omega⟩
        have efa : fdA S s f = some (S + 198 + j.toNat) := by rw [hfj]; exact fdA_p hS (by omega)
        rw [efa] at keep
        rw [efa]
        by_cases q2 : nu0 < nf
        · rw [if_pos ⟨q1, Or.inr q2⟩]
          refine x_li (z := i) T_41_18 rfl ?_
          refine x_li (z := u) T_41_19 rfl ?_
          refine x_ic T_41_20 ?_
          refine x_ib (w := (u + 48)) T_41_22 (fun h => absurd h.1 (by decide)) (w32_id (by omega) (by omega)) ?_
          refine x_ic2 T_41_23 (fun h => absurd (show (u + 48) ≤ i from h) (by omega)) (fun _ => ?_)
          refine x_lr (z := some S) T_41_26 rfl ?_
          refine x_gR (z := some (S + 2)) T_41_27 F_7_3 (hP.o hO) (hP.rc hO rfl rfl) ?_
          refine x_li (z := i) T_41_30 rfl ?_
          refine x_alR (z := some (S + 198 + i.toNat)) T_41_31 (hP.ta hA) (by decide) (by omega) (by omega) (hP.arc hA rfl ha) ?_
          refine x_gI (z := y) T_41_32 (Or.inr (Or.inl F_9_0)) (hP.o hf) (Eq.trans (hP.gi hf (key := 2288) rfl) e1) ?_
          refine x_if T_41_35 (fun h => absurd (show y = 0 from h) (by omega)) (fun _ => ?_)
          refine x_lr (z := some (S + 198 + j.toNat)) T_41_38 rfl ?_
          refine x_nul T_41_39 (fun h0 => absurd h0 (by simp)) (fun _ _ => ?_)
          refine x_lr (z := some S) T_41_42 rfl ?_
          refine x_gR (z := some (S + 2)) T_41_43 F_7_3 (hP.o hO) (hP.rc hO rfl rfl) ?_
          refine x_li (z := i) T_41_46 rfl ?_
          refine x_alR (z := some (S + 198 + i.toNat)) T_41_47 (hP.ta hA) (by decide) (by omega) (by omega) (hP.arc hA rfl ha) ?_
          refine x_gL (z := nu0) T_41_48 F_9_1 (hP.o hf) (Eq.trans (hP.gi hf (key := 2289) rfl) e2) ?_
          refine x_lr (z := some (S + 198 + j.toNat)) T_41_51 rfl ?_
          refine x_gL (z := nf) T_41_52 F_9_1 (hP.o hfo) (Eq.trans (hP.gi hfo (key := 2289) rfl) e3) ?_
          refine x_lif T_41_55 T_41_56 (fun h => absurd (show nf ≤ nu0 from h) (by omega)) (fun _ => ?_)
          refine x_lr (z := some S) T_41_59 rfl ?_
          refine x_gR (z := some (S + 2)) T_41_60 F_7_3 (hP.o hO) (hP.rc hO rfl rfl) ?_
          refine x_li (z := i) T_41_63 rfl ?_
          refine x_alR (z := some (S + 198 + i.toNat)) T_41_64 (hP.ta hA) (by decide) (by omega) (by omega) (hP.arc hA rfl ha) ?_
          refine x_sr (ls1 := [some (vR (some S)), some (vI u), some (vR (some (S + 198 + i.toNat))), some (vI i)]) T_41_65 rfl ?_
          refine x_inc (w := (i + 1)) (ls1 := [some (vR (some S)), some (vI u), some (vR (some (S + 198 + i.toNat))), some (vI (i + 1))]) T_41_66 rfl (w32_id (by omega) (by omega)) rfl ?_
          refine x_goto T_41_69 ?_
          exact take
        · rw [if_neg (fun c => by omega)]
          refine x_li (z := i) T_41_18 rfl ?_
          refine x_li (z := u) T_41_19 rfl ?_
          refine x_ic T_41_20 ?_
          refine x_ib (w := (u + 48)) T_41_22 (fun h => absurd h.1 (by decide)) (w32_id (by omega) (by omega)) ?_
          refine x_ic2 T_41_23 (fun h => absurd (show (u + 48) ≤ i from h) (by omega)) (fun _ => ?_)
          refine x_lr (z := some S) T_41_26 rfl ?_
          refine x_gR (z := some (S + 2)) T_41_27 F_7_3 (hP.o hO) (hP.rc hO rfl rfl) ?_
          refine x_li (z := i) T_41_30 rfl ?_
          refine x_alR (z := some (S + 198 + i.toNat)) T_41_31 (hP.ta hA) (by decide) (by omega) (by omega) (hP.arc hA rfl ha) ?_
          refine x_gI (z := y) T_41_32 (Or.inr (Or.inl F_9_0)) (hP.o hf) (Eq.trans (hP.gi hf (key := 2288) rfl) e1) ?_
          refine x_if T_41_35 (fun h => absurd (show y = 0 from h) (by omega)) (fun _ => ?_)
          refine x_lr (z := some (S + 198 + j.toNat)) T_41_38 rfl ?_
          refine x_nul T_41_39 (fun h0 => absurd h0 (by simp)) (fun _ _ => ?_)
          refine x_lr (z := some S) T_41_42 rfl ?_
          refine x_gR (z := some (S + 2)) T_41_43 F_7_3 (hP.o hO) (hP.rc hO rfl rfl) ?_
          refine x_li (z := i) T_41_46 rfl ?_
          refine x_alR (z := some (S + 198 + i.toNat)) T_41_47 (hP.ta hA) (by decide) (by omega) (by omega) (hP.arc hA rfl ha) ?_
          refine x_gL (z := nu0) T_41_48 F_9_1 (hP.o hf) (Eq.trans (hP.gi hf (key := 2289) rfl) e2) ?_
          refine x_lr (z := some (S + 198 + j.toNat)) T_41_51 rfl ?_
          refine x_gL (z := nf) T_41_52 F_9_1 (hP.o hfo) (Eq.trans (hP.gi hfo (key := 2289) rfl) e3) ?_
          refine x_lif T_41_55 T_41_56 (fun _ => ?_) (fun h => absurd (show nf ≤ nu0 by omega) h)
          refine x_inc (w := (i + 1)) (ls1 := [some (vR (some S)), some (vI u), some (vR (some (S + 198 + j.toNat))), some (vI (i + 1))]) T_41_66 rfl (w32_id (by omega) (by omega)) rfl ?_
          refine x_goto T_41_69 ?_
          exact keep
theorem x_leastFid (hP : PX σ0 W R σ) (hS : VS S s) (hF : FU W P S s) (hc : c = 0 ∨ c = 1) (hcn : W S 2235 = c) : CL fb d 41 [vR (some S)] σ (rPR (fdA S s (qLeast P s c)) σ) := by
  have hO := hS.o
  have hgo := x_least_loop (fb := fb) (d := d) hP hS hF hc 48 (48 * c) (-1) (by omega) (Int.le_refl _) (Or.inl rfl)
  rw [show lsF P 48 (96 * s + 48 * c) (-1) = qLeast P s c by unfold qLeast; congr 1; omega, show fdA S s (-1) = none from rfl] at hgo
  rcases hc with rfl | rfl
  · skip
    refine CL_in mL_41 rfl ?_
    show WP fb _ 41 0 [some (vR (some S)), none, none, none] [] σ _
    refine x_lr (z := some S) T_41_0 rfl ?_
    refine x_gI (z := 0) T_41_1 (Or.inl F_7_11) (hP.o hO) (Eq.trans (hP.gi hO (key := 2235) rfl) hcn) ?_
    refine x_if T_41_4 (fun h => absurd (show ¬ (0 : Int) = 0 from h) (by decide)) (fun _ => ?_)
    refine x_ic T_41_7 ?_
    refine x_goto T_41_8 ?_
    refine x_si (ls1 := [some (vR (some S)), some (vI 0), none, none]) T_41_13 rfl ?_
    refine x_nu T_41_14 ?_
    refine x_sr (ls1 := [some (vR (some S)), some (vI 0), some (vR none), none]) T_41_15 rfl ?_
    refine x_li (z := 0) T_41_16 rfl ?_
    refine x_si (ls1 := [some (vR (some S)), some (vI 0), some (vR none), some (vI 0)]) T_41_17 rfl ?_
    exact hgo
  · skip
    refine CL_in mL_41 rfl ?_
    show WP fb _ 41 0 [some (vR (some S)), none, none, none] [] σ _
    refine x_lr (z := some S) T_41_0 rfl ?_
    refine x_gI (z := 1) T_41_1 (Or.inl F_7_11) (hP.o hO) (Eq.trans (hP.gi hO (key := 2235) rfl) hcn) ?_
    refine x_if T_41_4 (fun _ => ?_) (fun h => absurd (show ¬ (1 : Int) = 0 by decide) h)
    refine x_ic T_41_11 ?_
    refine x_si (ls1 := [some (vR (some S)), some (vI 48), none, none]) T_41_13 rfl ?_
    refine x_nu T_41_14 ?_
    refine x_sr (ls1 := [some (vR (some S)), some (vI 48), some (vR none), none]) T_41_15 rfl ?_
    refine x_li (z := 48) T_41_16 rfl ?_
    refine x_si (ls1 := [some (vR (some S)), some (vI 48), some (vR none), some (vI 48)]) T_41_17 rfl ?_
    exact hgo
end XFID
