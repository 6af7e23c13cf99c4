/-! The class's commands: a line is cut into words. -/
theorem T_112_0 : hTab 112 0 = some ((3, 0, 2, []), 1) := rfl
theorem T_112_1 : hTab 112 1 = some ((0, 0, 0, []), 2) := rfl
theorem T_112_2 : hTab 112 2 = some ((25, 16, Int.ofNat 4, []), 5) := rfl
theorem T_112_5 : hTab 112 5 = some ((3, 0, 2, []), 6) := rfl
theorem T_112_6 : hTab 112 6 = some ((0, 0, 0, []), 7) := rfl
theorem T_112_7 : hTab 112 7 = some ((25, 16, Int.ofNat 5, []), 10) := rfl
theorem T_112_10 : hTab 112 10 = some ((3, 0, 2, []), 11) := rfl
theorem T_112_11 : hTab 112 11 = some ((0, 0, 0, []), 12) := rfl
theorem T_112_12 : hTab 112 12 = some ((25, 16, Int.ofNat 8, []), 15) := rfl
theorem T_112_15 : hTab 112 15 = some ((0, 0, 0, []), 16) := rfl
theorem T_112_16 : hTab 112 16 = some ((4, 1, 0, []), 17) := rfl
theorem T_112_17 : hTab 112 17 = some ((0, 0, 0, []), 18) := rfl
theorem T_112_18 : hTab 112 18 = some ((4, 2, 0, []), 19) := rfl
theorem T_112_19 : hTab 112 19 = some ((3, 2, 0, []), 20) := rfl
theorem T_112_20 : hTab 112 20 = some ((3, 0, 2, []), 21) := rfl
theorem T_112_21 : hTab 112 21 = some ((24, 16, Int.ofNat 0, []), 24) := rfl
theorem T_112_24 : hTab 112 24 = some ((31, 28, 0, []), 27) := rfl
theorem T_112_27 : hTab 112 27 = some ((19, 4, Int.ofNat 114, []), 30) := rfl
theorem T_112_30 : hTab 112 30 = some ((3, 2, 0, []), 31) := rfl
theorem T_112_31 : hTab 112 31 = some ((3, 0, 2, []), 32) := rfl
theorem T_112_32 : hTab 112 32 = some ((24, 16, Int.ofNat 0, []), 35) := rfl
theorem T_112_35 : hTab 112 35 = some ((31, 28, 0, []), 38) := rfl
theorem T_112_38 : hTab 112 38 = some ((19, 3, Int.ofNat 57, []), 41) := rfl
theorem T_112_41 : hTab 112 41 = some ((3, 0, 2, []), 42) := rfl
theorem T_112_42 : hTab 112 42 = some ((24, 16, Int.ofNat 0, []), 45) := rfl
theorem T_112_45 : hTab 112 45 = some ((3, 2, 0, []), 46) := rfl
theorem T_112_46 : hTab 112 46 = some ((31, 33, 0, []), 49) := rfl
theorem T_112_49 : hTab 112 49 = some ((0, 0, 32, []), 51) := rfl
theorem T_112_51 : hTab 112 51 = some ((19, 0, Int.ofNat 57, []), 54) := rfl
theorem T_112_54 : hTab 112 54 = some ((22, 0, Int.ofNat 108, []), 57) := rfl
theorem T_112_57 : hTab 112 57 = some ((3, 2, 0, []), 58) := rfl
theorem T_112_58 : hTab 112 58 = some ((3, 1, 0, []), 59) := rfl
theorem T_112_59 : hTab 112 59 = some ((19, 5, Int.ofNat 104, []), 62) := rfl
theorem T_112_62 : hTab 112 62 = some ((3, 0, 2, []), 63) := rfl
theorem T_112_63 : hTab 112 63 = some ((24, 16, Int.ofNat 4, []), 66) := rfl
theorem T_112_66 : hTab 112 66 = some ((3, 0, 2, []), 67) := rfl
theorem T_112_67 : hTab 112 67 = some ((24, 16, Int.ofNat 2, []), 70) := rfl
theorem T_112_70 : hTab 112 70 = some ((28, 0, 0, []), 71) := rfl
theorem T_112_71 : hTab 112 71 = some ((19, 3, Int.ofNat 104, []), 74) := rfl
theorem T_112_74 : hTab 112 74 = some ((3, 0, 2, []), 75) := rfl
theorem T_112_75 : hTab 112 75 = some ((24, 16, Int.ofNat 2, []), 78) := rfl
theorem T_112_78 : hTab 112 78 = some ((3, 0, 2, []), 79) := rfl
theorem T_112_79 : hTab 112 79 = some ((24, 16, Int.ofNat 4, []), 82) := rfl
theorem T_112_82 : hTab 112 82 = some ((3, 1, 0, []), 83) := rfl
theorem T_112_83 : hTab 112 83 = some ((27, 0, 0, []), 84) := rfl
theorem T_112_84 : hTab 112 84 = some ((3, 0, 2, []), 85) := rfl
theorem T_112_85 : hTab 112 85 = some ((24, 16, Int.ofNat 3, []), 88) := rfl
theorem T_112_88 : hTab 112 88 = some ((3, 0, 2, []), 89) := rfl
theorem T_112_89 : hTab 112 89 = some ((24, 16, Int.ofNat 4, []), 92) := rfl
theorem T_112_92 : hTab 112 92 = some ((3, 2, 0, []), 93) := rfl
theorem T_112_93 : hTab 112 93 = some ((27, 0, 0, []), 94) := rfl
theorem T_112_94 : hTab 112 94 = some ((3, 0, 2, []), 95) := rfl
theorem T_112_95 : hTab 112 95 = some ((6, 0, 0, []), 96) := rfl
theorem T_112_96 : hTab 112 96 = some ((24, 16, Int.ofNat 4, []), 99) := rfl
theorem T_112_99 : hTab 112 99 = some ((0, 0, 1, []), 100) := rfl
theorem T_112_100 : hTab 112 100 = some ((10, 0, 0, []), 101) := rfl
theorem T_112_101 : hTab 112 101 = some ((25, 16, Int.ofNat 4, []), 104) := rfl
theorem T_112_104 : hTab 112 104 = some ((3, 2, 0, []), 105) := rfl
theorem T_112_105 : hTab 112 105 = some ((0, 0, 1, []), 106) := rfl
theorem T_112_106 : hTab 112 106 = some ((10, 0, 0, []), 107) := rfl
theorem T_112_107 : hTab 112 107 = some ((4, 1, 0, []), 108) := rfl
theorem T_112_108 : hTab 112 108 = some ((5, 2, 1, []), 111) := rfl
theorem T_112_111 : hTab 112 111 = some ((22, 0, Int.ofNat 19, []), 114) := rfl
theorem T_112_114 : hTab 112 114 = some ((33, 0, 0, []), 115) := rfl
theorem F_16_5 : (hFd 16 5).2.2.1 = 0 := rfl
theorem F_16_8 : (hFd 16 8).2.2.1 = 2 := rfl
theorem mN_112 : hmN 112 = 1 := by decide +kernel
theorem mL_112 : hmL 112 = 3 := by decide +kernel
theorem mK_112 : hmK 112 = 1 := by decide +kernel
theorem mO_112 : hmO 112 = 16 := by decide +kernel
/-- words that were cut -/
def WQ (W : qR) (a : Nat) (ws : List (Int × Int)) : Prop := W a 2516 = (ws.length : Int) ∧ ∀ i : Nat, i < ws.length → W (a + 5) (i : Int) = (ws.getD i (0, 0)).1 ∧ W (a + 6) (i : Int) = (ws.getD i (0, 0)).2
/-- only a command's words are written -/
def WF (a : Nat) (W W2 : qR) : Prop := ∀ (x : Nat) (k : Int), ¬ (x = a ∧ (k = 2516 ∨ k = 2517 ∨ k = 2520)) → ¬ (x = a + 5 ∧ k < 2000) → ¬ (x = a + 6 ∧ k < 2000) → W2 x k = W x k
section XSPL
variable {fb : Bool} {d a : Nat} {σ0 σ : hM} {W W0 W1 W2 W3 : qR} {R : rR} {i z v s e k : Int} {l : List Int} {ws : List (Int × Int)} {f : Int → Int}
theorem WQ.push (h : WQ W a ws) : WQ (rU (rU (rU W (a + 5) (ws.length : Int) s) (a + 6) (ws.length : Int) e) a 2516 ((ws.length : Int) + 1)) a (ws ++ [(s, e)]) := by
  refine ⟨by rw [rU_s, List.length_append]; rfl, fun i hi => ?_⟩
  rw [List.length_append] at hi
  have hi : i < ws.length + 1 := hi
  by_cases q : i = ws.length
  · subst q
    rw [gD2]
    refine ⟨?_, ?_⟩
    · rw [rU_f (by omega), rU_f (by omega), rU_s]
    · rw [rU_f (by omega), rU_s]
  · have g := h.2 i (by omega)
    rw [gD1 (by omega)]
    refine ⟨?_, ?_⟩
    · rw [rU_f (by omega), rU_f (by omega), rU_k (by omega)]
      exact g.1
    · rw [rU_f (by omega), rU_k (by omega), rU_f (by omega)]
      exact g.2
theorem WF_rfl : WF a W W := fun _ _ _ _ _ => rfl
theorem WF_tr (h1 : WF a W W1) (h2 : WF a W1 W2) : WF a W W2 := fun x k p q r => (h2 x k p q r).trans (h1 x k p q r)
theorem WF_push (h : i < 2000) : WF a W (rU (rU (rU W (a + 5) i s) (a + 6) i e) a 2516 v) := fun x k p q r => by
  show (if x = a ∧ k = 2516 then v else if x = a + 6 ∧ k = i then e else if x = a + 5 ∧ k = i then s else W x k) = _
  rw [if_neg (fun c => p ⟨c.1, Or.inl c.2⟩), if_neg (fun c => r ⟨c.1, by omega⟩), if_neg (fun c => q ⟨c.1, by omega⟩)]
theorem WF_u (h : k = 2516 ∨ k = 2517 ∨ k = 2520) : WF a W (rU W a k v) := fun x j p _ _ => if_neg (fun c => p ⟨c.1, by rw [c.2]; exact h⟩)
theorem WF.text {n : Nat} (h : WF a W W2) (hB : BY W (a + 1) n l) : BY W2 (a + 1) n l := by
  obtain ⟨a1, a2, a3, a4, a5, a6, a7⟩ := hB
  exact ⟨a1, a2, a3, (h _ _ (by omega) (by omega) (by omega)).trans a4, a5, a6, fun i i0 i1 => (h _ _ (by omega) (by omega) (by omega)).trans (a7 i i0 i1)⟩
theorem spE_at : ∀ (n m : Nat) (k : Int), k + n = i → (∀ j : Int, k ≤ j → j < i → ¬ f j = 32) → i ≤ z → (i = z ∨ f i = 32) → n ≤ m → spE f z m k = i
  | 0, 0, k, h, _, _, _, _ => by show k = i; omega
  | 0, m + 1, k, h, _, _, h2, _ => by
    show (if k < z ∧ ¬ f k = 32 then spE f z m (k + 1) else k) = i
    have e : k = i := by omega
    rw [e, if_neg (fun c => by
      rcases h2 with h2 | h2
      · omega
      · exact c.2 h2)]
  | n + 1, 0, k, h, _, _, _, hm => by omega
  | n + 1, m + 1, k, h, h1, h0, h2, hm => by
    show (if k < z ∧ ¬ f k = 32 then spE f z m (k + 1) else k) = i
    rw [if_pos ⟨by omega, h1 k (Int.le_refl k) (by omega)⟩]
    exact spE_at n m (k + 1) (by omega) (fun j j0 j1 => h1 j (by omega) j1) h0 h2 (by omega)
theorem spW_more : ∀ (M1 M2 : Nat) (k : Int), z ≤ k + M1 → z ≤ k + M2 → 0 ≤ k → spW f z M1 k = spW f z M2 k
  | 0, 0, _, _, _, _ => rfl
  | 0, M2 + 1, k, h, _, _ => (if_pos (show z ≤ k by omega)).symm
  | M1 + 1, 0, k, _, h, _ => if_pos (show z ≤ k by omega)
  | M1 + 1, M2 + 1, k, h1, h2, h0 => by
    show (if z ≤ k then [] else if f k = 32 then spW f z M1 (k + 1) else (k, spE f z z.toNat k) :: spW f z M1 (spE f z z.toNat k)) = (if z ≤ k then [] else if f k = 32 then spW f z M2 (k + 1) else (k, spE f z z.toNat k) :: spW f z M2 (spE f z z.toNat k))
    by_cases q : z ≤ k
    · rw [if_pos q, if_pos q]
    · rw [if_neg q, if_neg q]
      by_cases q2 : f k = 32
      · rw [if_pos q2, if_pos q2]
        exact spW_more M1 M2 _ (by omega) (by omega) (by omega)
      · rw [if_neg q2, if_neg q2]
        have := spE_step (z := z) (f := f) (by omega) q2 h0
        rw [spW_more M1 M2 (spE f z z.toNat k) (by omega) (by omega) (by omega)]
theorem sp_loop (ho : tX a = some (Sum.inl 16)) (hA5 : isA (a + 5) 0 100) (hA6 : isA (a + 6) 0 100) (hz : (l.length : Int) = z) (hz2 : z ≤ 100) {L : List (Int × Int)} : ∀ (m : Nat) (i k : Int) (ws : List (Int × Int)) (W2 : qR) (σ : hM), i + m = z + 1 → 0 ≤ k → k ≤ i ∧ (i ≤ z ∨ z < k) → (∀ j : Int, k ≤ j → j < i → ¬ lg l j = 32) → 2 * (ws.length : Int) ≤ k → PX σ0 W2 R σ → BY W2 (a + 1) 100 l → WQ W2 a ws → WF a W W2 → (∀ M : Nat, z ≤ k + M → ws ++ spW (lg l) z M k = L) → WP fb (d + 1) 112 19 [some (vR (some a)), some (vI k), some (vI i)] [] σ (fun r σ' => r = none ∧ ∃ W3, PX σ0 W3 R σ' ∧ BY W3 (a + 1) 100 l ∧ WQ W3 a L ∧ WF a W W3) := by
  intro m
  induction m with
  | zero =>
    intro i k ws W2 σ h1 h2 h3 h4 h5 hP hB hN hF hL
    have h1 : i + ((0 : Nat) : Int) = z + 1 := h1
    have hsz := x_size (fb := fb) (d := d) hP hB hz
    have e : ws = L := by
      have := hL 0 (by omega)
      rw [← this]
      exact (List.append_nil _).symm
    subst e
    refine x_li (z := i) T_112_19 rfl ?_
    refine x_lr (z := some a) T_112_20 rfl ?_
    refine x_gR (z := some (a + 1)) T_112_21 F_16_0 (hP.o ho) (hP.rc ho rfl rfl) ?_
    refine x_cv1 T_112_24 mN_28 mL_28 (Nat.le_of_ble_eq_true rfl) mO_28 (hP.o hB.1) (Nat.le_of_ble_eq_true rfl) (hsz) ?_
    rintro _ σ ⟨rfl, rfl⟩
    refine cI ?_
    refine x_ic2 T_112_27 (fun _ => ?_) (fun h => absurd (show z < i by omega) h)
    refine x_rv T_112_114 ?_
    exact ⟨rfl, W2, hP, hB, hN, hF⟩
  | succ m ih =>
    intro i k ws W2 σ h1 h2 h3 h4 h5 hP hB hN hF hL
    have h1 : i + ((m + 1 : Nat) : Int) = z + 1 := h1
    have hsz := x_size (fb := fb) (d := d) hP hB hz
    have hat := x_at (fb := fb) (d := d) (i := i) hP hB
    have hn0 := hN.1
    obtain ⟨n, hn⟩ : ∃ q : Int, (ws.length : Int) = q := ⟨_, rfl⟩
    have hpu := hN.push (s := k) (e := i)
    rw [hn] at hn0 hpu
    have hgoA : (i = z ∨ lg l i = 32) → k < i → ∀ (σ : hM) (W3 : qR), PX σ0 W3 R σ → WQ W3 a (ws ++ [(k, i)]) → WF a W2 W3 → WP fb (d + 1) 112 19 [some (vR (some a)), some (vI (i + 1)), some (vI (i + 1))] [] σ (fun r σ' => r = none ∧ ∃ W3, PX σ0 W3 R σ' ∧ BY W3 (a + 1) 100 l ∧ WQ W3 a L ∧ WF a W W3) := fun hi hki σ W3 hP hN3 hF3 => by
      refine ih (i + 1) (i + 1) _ W3 σ (by omega) (by omega) (by omega) (fun j a b => by omega) (by rw [List.length_append]; show 2 * ((ws.length + 1 : Nat) : Int) ≤ _; omega) hP (hF3.text hB) hN3 (WF_tr hF hF3) (fun M hM => ?_)
      have e0 := hL (z.toNat + 2) (by omega)
      have hse : spE (lg l) z z.toNat k = i := spE_at (i - k).toNat z.toNat k (by omega) h4 (by omega) hi (by omega)
      have e1 : spW (lg l) z (z.toNat + 2) k = (k, i) :: spW (lg l) z (z.toNat + 1) i := by
        rw [show spW (lg l) z (z.toNat + 2) k = if z ≤ k then [] else if lg l k = 32 then spW (lg l) z (z.toNat + 1) (k + 1) else (k, spE (lg l) z z.toNat k) :: spW (lg l) z (z.toNat + 1) (spE (lg l) z z.toNat k) from rfl, if_neg (by omega), if_neg (h4 k (Int.le_refl k) hki), hse]
      have e2 : spW (lg l) z (z.toNat + 1) i = spW (lg l) z M (i + 1) := by
        rcases hi with hi | hi
        · rw [show spW (lg l) z (z.toNat + 1) i = if z ≤ i then [] else if lg l i = 32 then spW (lg l) z z.toNat (i + 1) else (i, spE (lg l) z z.toNat i) :: spW (lg l) z z.toNat (spE (lg l) z z.toNat i) from rfl, if_pos (by omega)]
          exact spW_more 0 M (i + 1) (by omega) hM (by omega)
        · by_cases qz : z ≤ i
          · rw [show spW (lg l) z (z.toNat + 1) i = if z ≤ i then [] else if lg l i = 32 then spW (lg l) z z.toNat (i + 1) else (i, spE (lg l) z z.toNat i) :: spW (lg l) z z.toNat (spE (lg l) z z.toNat i) from rfl, if_pos qz]
            exact spW_more 0 M (i + 1) (by omega) hM (by omega)
          · rw [show spW (lg l) z (z.toNat + 1) i = if z ≤ i then [] else if lg l i = 32 then spW (lg l) z z.toNat (i + 1) else (i, spE (lg l) z z.toNat i) :: spW (lg l) z z.toNat (spE (lg l) z z.toNat i) from rfl, if_neg qz, if_pos hi]
            exact spW_more z.toNat M (i + 1) (by omega) hM (by omega)
      rw [List.append_assoc, ← e2]
      rw [e1] at e0
      exact e0
    have hgoB : (i = z ∨ lg l i = 32) → ¬ k < i → WP fb (d + 1) 112 19 [some (vR (some a)), some (vI (i + 1)), some (vI (i + 1))] [] σ (fun r σ' => r = none ∧ ∃ W3, PX σ0 W3 R σ' ∧ BY W3 (a + 1) 100 l ∧ WQ W3 a L ∧ WF a W W3) := fun hi hki => by
      have hk : k = i := by omega
      refine ih (i + 1) (i + 1) ws W2 σ (by omega) (by omega) (by omega) (fun j a b => by omega) (by omega) hP hB hN hF (fun M hM => ?_)
      have e0 := hL (z.toNat + 1) (by omega)
      rw [hk] at e0
      have e2 : spW (lg l) z (z.toNat + 1) i = spW (lg l) z M (i + 1) := by
        by_cases qz : z ≤ i
        · rw [show spW (lg l) z (z.toNat + 1) i = if z ≤ i then [] else if lg l i = 32 then spW (lg l) z z.toNat (i + 1) else (i, spE (lg l) z z.toNat i) :: spW (lg l) z z.toNat (spE (lg l) z z.toNat i) from rfl, if_pos qz]
          exact spW_more 0 M (i + 1) (by omega) hM (by omega)
        · rw [show spW (lg l) z (z.toNat + 1) i = if z ≤ i then [] else if lg l i = 32 then spW (lg l) z z.toNat (i + 1) else (i, spE (lg l) z z.toNat i) :: spW (lg l) z z.toNat (spE (lg l) z z.toNat i) from rfl, if_neg qz, if_pos (hi.resolve_left (by omega))]
          exact spW_more z.toNat M (i + 1) (by omega) hM (by omega)
      rw [← e2]
      exact e0
    by_cases q : i = z
    · by_cases qk : k < i
      · have hg := hgoA (Or.inl q) qk
        refine x_li (z := i) T_112_19 rfl ?_
        refine x_lr (z := some a) T_112_20 rfl ?_
        refine x_gR (z := some (a + 1)) T_112_21 F_16_0 (hP.o ho) (hP.rc ho rfl rfl) ?_
        refine x_cv1 T_112_24 mN_28 mL_28 (Nat.le_of_ble_eq_true rfl) mO_28 (hP.o hB.1) (Nat.le_of_ble_eq_true rfl) (hsz) ?_
        rintro _ σ ⟨rfl, rfl⟩
        refine cI ?_
        refine x_ic2 T_112_27 (fun h => absurd (show z < i from h) (by omega)) (fun _ => ?_)
        refine x_li (z := i) T_112_30 rfl ?_
        refine x_lr (z := some a) T_112_31 rfl ?_
        refine x_gR (z := some (a + 1)) T_112_32 F_16_0 (hP.o ho) (hP.rc ho rfl rfl) ?_
        refine x_cv1 T_112_35 mN_28 mL_28 (Nat.le_of_ble_eq_true rfl) mO_28 (hP.o hB.1) (Nat.le_of_ble_eq_true rfl) (hsz) ?_
        rintro _ σ ⟨rfl, rfl⟩
        refine cI ?_
        refine x_ic2 T_112_38 (fun _ => ?_) (fun h => absurd (show z ≤ i by omega) h)
        refine x_li (z := i) T_112_57 rfl ?_
        refine x_li (z := k) T_112_58 rfl ?_
        refine x_ic2 T_112_59 (fun h => absurd (show i ≤ k from h) (by omega)) (fun _ => ?_)
        refine x_lr (z := some a) T_112_62 rfl ?_
        refine x_gI (z := n) T_112_63 (Or.inl F_16_4) (hP.o ho) (Eq.trans (hP.gi ho (key := 2516) rfl) hn0) ?_
        refine x_lr (z := some a) T_112_66 rfl ?_
        refine x_gR (z := some (a + 5)) T_112_67 F_16_2 (hP.o ho) (hP.rc ho rfl rfl) ?_
        refine x_len T_112_70 (hP.ta hA5) ?_
        refine x_ic2 T_112_71 (fun h => absurd (show 100 ≤ n from h) (by omega)) (fun _ => ?_)
        refine x_lr (z := some a) T_112_74 rfl ?_
        refine x_gR (z := some (a + 5)) T_112_75 F_16_2 (hP.o ho) (hP.rc ho rfl rfl) ?_
        refine x_lr (z := some a) T_112_78 rfl ?_
        refine x_gI (z := n) T_112_79 (Or.inl F_16_4) (hP.o ho) (Eq.trans (hP.gi ho (key := 2516) rfl) hn0) ?_
        refine x_li (z := k) T_112_82 rfl ?_
        refine z_aI hP T_112_83 hA5 (by omega) (by omega) (fun σ hP => ?_)
        refine x_lr (z := some a) T_112_84 rfl ?_
        refine x_gR (z := some (a + 6)) T_112_85 F_16_3 (hP.o ho) (hP.rc ho rfl rfl) ?_
        refine x_lr (z := some a) T_112_88 rfl ?_
        refine x_gI (z := n) T_112_89 (Or.inl F_16_4) (hP.o ho) (Eq.trans (Eq.trans (hP.gi ho (key := 2516) rfl) (rU_j (by omega))) hn0) ?_
        refine x_li (z := i) T_112_92 rfl ?_
        refine z_aI hP T_112_93 hA6 (by omega) (by omega) (fun σ hP => ?_)
        refine x_lr (z := some a) T_112_94 rfl ?_
        refine x_dupR T_112_95 ?_
        refine x_gI (z := n) T_112_96 (Or.inl F_16_4) (hP.o ho) (Eq.trans (Eq.trans (hP.gi ho (key := 2516) rfl) (Eq.trans (rU_j (by omega)) (rU_j (by omega)))) hn0) ?_
        refine x_ic T_112_99 ?_
        refine x_ib (w := (n + 1)) T_112_100 (fun h => absurd h.1 (by decide)) (w32_id (by omega) (by omega)) ?_
        refine z_pI hP T_112_101 F_16_4 ho (key := 2516) rfl (fun σ hP => ?_)
        refine x_li (z := i) T_112_104 rfl ?_
        refine x_ic T_112_105 ?_
        refine x_ib (w := (i + 1)) T_112_106 (fun h => absurd h.1 (by decide)) (w32_id (by omega) (by omega)) ?_
        refine x_si (ls1 := [some (vR (some a)), some (vI (i + 1)), some (vI i)]) T_112_107 rfl ?_
        refine x_inc (w := (i + 1)) (ls1 := [some (vR (some a)), some (vI (i + 1)), some (vI (i + 1))]) T_112_108 rfl (w32_id (by omega) (by omega)) rfl ?_
        refine x_goto T_112_111 ?_
        exact hg σ _ hP hpu (WF_push (by omega))
      · have hg := hgoB (Or.inl q) qk
        refine x_li (z := i) T_112_19 rfl ?_
        refine x_lr (z := some a) T_112_20 rfl ?_
        refine x_gR (z := some (a + 1)) T_112_21 F_16_0 (hP.o ho) (hP.rc ho rfl rfl) ?_
        refine x_cv1 T_112_24 mN_28 mL_28 (Nat.le_of_ble_eq_true rfl) mO_28 (hP.o hB.1) (Nat.le_of_ble_eq_true rfl) (hsz) ?_
        rintro _ σ ⟨rfl, rfl⟩
        refine cI ?_
        refine x_ic2 T_112_27 (fun h => absurd (show z < i from h) (by omega)) (fun _ => ?_)
        refine x_li (z := i) T_112_30 rfl ?_
        refine x_lr (z := some a) T_112_31 rfl ?_
        refine x_gR (z := some (a + 1)) T_112_32 F_16_0 (hP.o ho) (hP.rc ho rfl rfl) ?_
        refine x_cv1 T_112_35 mN_28 mL_28 (Nat.le_of_ble_eq_true rfl) mO_28 (hP.o hB.1) (Nat.le_of_ble_eq_true rfl) (hsz) ?_
        rintro _ σ ⟨rfl, rfl⟩
        refine cI ?_
        refine x_ic2 T_112_38 (fun _ => ?_) (fun h => absurd (show z ≤ i by omega) h)
        refine x_li (z := i) T_112_57 rfl ?_
        refine x_li (z := k) T_112_58 rfl ?_
        refine x_ic2 T_112_59 (fun _ => ?_) (fun h => absurd (show i ≤ k by omega) h)
        refine x_li (z := i) T_112_104 rfl ?_
        refine x_ic T_112_105 ?_
        refine x_ib (w := (i + 1)) T_112_106 (fun h => absurd h.1 (by decide)) (w32_id (by omega) (by omega)) ?_
        refine x_si (ls1 := [some (vR (some a)), some (vI (i + 1)), some (vI i)]) T_112_107 rfl ?_
        refine x_inc (w := (i + 1)) (ls1 := [some (vR (some a)), some (vI (i + 1)), some (vI (i + 1))]) T_112_108 rfl (w32_id (by omega) (by omega)) rfl ?_
        refine x_goto T_112_111 ?_
        exact hg
    · rw [if_pos ⟨by omega, by omega⟩] at hat
      by_cases q2 : lg l i = 32
      · by_cases qk : k < i
        · have hg := hgoA (Or.inr q2) qk
          refine x_li (z := i) T_112_19 rfl ?_
          refine x_lr (z := some a) T_112_20 rfl ?_
          refine x_gR (z := some (a + 1)) T_112_21 F_16_0 (hP.o ho) (hP.rc ho rfl rfl) ?_
          refine x_cv1 T_112_24 mN_28 mL_28 (Nat.le_of_ble_eq_true rfl) mO_28 (hP.o hB.1) (Nat.le_of_ble_eq_true rfl) (hsz) ?_
          rintro _ σ ⟨rfl, rfl⟩
          refine cI ?_
          refine x_ic2 T_112_27 (fun h => absurd (show z < i from h) (by omega)) (fun _ => ?_)
          refine x_li (z := i) T_112_30 rfl ?_
          refine x_lr (z := some a) T_112_31 rfl ?_
          refine x_gR (z := some (a + 1)) T_112_32 F_16_0 (hP.o ho) (hP.rc ho rfl rfl) ?_
          refine x_cv1 T_112_35 mN_28 mL_28 (Nat.le_of_ble_eq_true rfl) mO_28 (hP.o hB.1) (Nat.le_of_ble_eq_true rfl) (hsz) ?_
          rintro _ σ ⟨rfl, rfl⟩
          refine cI ?_
          refine x_ic2 T_112_38 (fun h => absurd (show z ≤ i from h) (by omega)) (fun _ => ?_)
          refine x_lr (z := some a) T_112_41 rfl ?_
          refine x_gR (z := some (a + 1)) T_112_42 F_16_0 (hP.o ho) (hP.rc ho rfl rfl) ?_
          refine x_li (z := i) T_112_45 rfl ?_
          refine x_cv2 T_112_46 mN_33 mL_33 (Nat.le_of_ble_eq_true rfl) mO_33 (hP.o hB.1) (Nat.le_of_ble_eq_true rfl) (hat) ?_
          rintro _ σ ⟨rfl, rfl⟩
          refine cI ?_
          refine x_ic T_112_49 ?_
          refine x_ic2 T_112_51 (fun _ => ?_) (fun h => absurd (show (lg l i) = 32 by omega) h)
          refine x_li (z := i) T_112_57 rfl ?_
          refine x_li (z := k) T_112_58 rfl ?_
          refine x_ic2 T_112_59 (fun h => absurd (show i ≤ k from h) (by omega)) (fun _ => ?_)
          refine x_lr (z := some a) T_112_62 rfl ?_
          refine x_gI (z := n) T_112_63 (Or.inl F_16_4) (hP.o ho) (Eq.trans (hP.gi ho (key := 2516) rfl) hn0) ?_
          refine x_lr (z := some a) T_112_66 rfl ?_
          refine x_gR (z := some (a + 5)) T_112_67 F_16_2 (hP.o ho) (hP.rc ho rfl rfl) ?_
          refine x_len T_112_70 (hP.ta hA5) ?_
          refine x_ic2 T_112_71 (fun h => absurd (show 100 ≤ n from h) (by omega)) (fun _ => ?_)
          refine x_lr (z := some a) T_112_74 rfl ?_
          refine x_gR (z := some (a + 5)) T_112_75 F_16_2 (hP.o ho) (hP.rc ho rfl rfl) ?_
          refine x_lr (z := some a) T_112_78 rfl ?_
          refine x_gI (z := n) T_112_79 (Or.inl F_16_4) (hP.o ho) (Eq.trans (hP.gi ho (key := 2516) rfl) hn0) ?_
          refine x_li (z := k) T_112_82 rfl ?_
          refine z_aI hP T_112_83 hA5 (by omega) (by omega) (fun σ hP => ?_)
          refine x_lr (z := some a) T_112_84 rfl ?_
          refine x_gR (z := some (a + 6)) T_112_85 F_16_3 (hP.o ho) (hP.rc ho rfl rfl) ?_
          refine x_lr (z := some a) T_112_88 rfl ?_
          refine x_gI (z := n) T_112_89 (Or.inl F_16_4) (hP.o ho) (Eq.trans (Eq.trans (hP.gi ho (key := 2516) rfl) (rU_j (by omega))) hn0) ?_
          refine x_li (z := i) T_112_92 rfl ?_
          refine z_aI hP T_112_93 hA6 (by omega) (by omega) (fun σ hP => ?_)
          refine x_lr (z := some a) T_112_94 rfl ?_
          refine x_dupR T_112_95 ?_
          refine x_gI (z := n) T_112_96 (Or.inl F_16_4) (hP.o ho) (Eq.trans (Eq.trans (hP.gi ho (key := 2516) rfl) (Eq.trans (rU_j (by omega)) (rU_j (by omega)))) hn0) ?_
          refine x_ic T_112_99 ?_
          refine x_ib (w := (n + 1)) T_112_100 (fun h => absurd h.1 (by decide)) (w32_id (by omega) (by omega)) ?_
          refine z_pI hP T_112_101 F_16_4 ho (key := 2516) rfl (fun σ hP => ?_)
          refine x_li (z := i) T_112_104 rfl ?_
          refine x_ic T_112_105 ?_
          refine x_ib (w := (i + 1)) T_112_106 (fun h => absurd h.1 (by decide)) (w32_id (by omega) (by omega)) ?_
          refine x_si (ls1 := [some (vR (some a)), some (vI (i + 1)), some (vI i)]) T_112_107 rfl ?_
          refine x_inc (w := (i + 1)) (ls1 := [some (vR (some a)), some (vI (i + 1)), some (vI (i + 1))]) T_112_108 rfl (w32_id (by omega) (by omega)) rfl ?_
          refine x_goto T_112_111 ?_
          exact hg σ _ hP hpu (WF_push (by omega))
        · have hg := hgoB (Or.inr q2) qk
          refine x_li (z := i) T_112_19 rfl ?_
          refine x_lr (z := some a) T_112_20 rfl ?_
          refine x_gR (z := some (a + 1)) T_112_21 F_16_0 (hP.o ho) (hP.rc ho rfl rfl) ?_
          refine x_cv1 T_112_24 mN_28 mL_28 (Nat.le_of_ble_eq_true rfl) mO_28 (hP.o hB.1) (Nat.le_of_ble_eq_true rfl) (hsz) ?_
          rintro _ σ ⟨rfl, rfl⟩
          refine cI ?_
          refine x_ic2 T_112_27 (fun h => absurd (show z < i from h) (by omega)) (fun _ => ?_)
          refine x_li (z := i) T_112_30 rfl ?_
          refine x_lr (z := some a) T_112_31 rfl ?_
          refine x_gR (z := some (a + 1)) T_112_32 F_16_0 (hP.o ho) (hP.rc ho rfl rfl) ?_
          refine x_cv1 T_112_35 mN_28 mL_28 (Nat.le_of_ble_eq_true rfl) mO_28 (hP.o hB.1) (Nat.le_of_ble_eq_true rfl) (hsz) ?_
          rintro _ σ ⟨rfl, rfl⟩
          refine cI ?_
          refine x_ic2 T_112_38 (fun h => absurd (show z ≤ i from h) (by omega)) (fun _ => ?_)
          refine x_lr (z := some a) T_112_41 rfl ?_
          refine x_gR (z := some (a + 1)) T_112_42 F_16_0 (hP.o ho) (hP.rc ho rfl rfl) ?_
          refine x_li (z := i) T_112_45 rfl ?_
          refine x_cv2 T_112_46 mN_33 mL_33 (Nat.le_of_ble_eq_true rfl) mO_33 (hP.o hB.1) (Nat.le_of_ble_eq_true rfl) (hat) ?_
          rintro _ σ ⟨rfl, rfl⟩
          refine cI ?_
          refine x_ic T_112_49 ?_
          refine x_ic2 T_112_51 (fun _ => ?_) (fun h => absurd (show (lg l i) = 32 by omega) h)
          refine x_li (z := i) T_112_57 rfl ?_
          refine x_li (z := k) T_112_58 rfl ?_
          refine x_ic2 T_112_59 (fun _ => ?_) (fun h => absurd (show i ≤ k by omega) h)
          refine x_li (z := i) T_112_104 rfl ?_
          refine x_ic T_112_105 ?_
          refine x_ib (w := (i + 1)) T_112_106 (fun h => absurd h.1 (by decide)) (w32_id (by omega) (by omega)) ?_
          refine x_si (ls1 := [some (vR (some a)), some (vI (i + 1)), some (vI i)]) T_112_107 rfl ?_
          refine x_inc (w := (i + 1)) (ls1 := [some (vR (some a)), some (vI (i + 1)), some (vI (i + 1))]) T_112_108 rfl (w32_id (by omega) (by omega)) rfl ?_
          refine x_goto T_112_111 ?_
          exact hg
      · have hg := ih (i + 1) k ws W2 σ (by omega) h2 (by omega) (fun j a b => by
          by_cases qj : j = i
          · rw [qj]; exact q2
          · exact h4 j a (by omega)) h5 hP hB hN hF hL
        refine x_li (z := i) T_112_19 rfl ?_
        refine x_lr (z := some a) T_112_20 rfl ?_
        refine x_gR (z := some (a + 1)) T_112_21 F_16_0 (hP.o ho) (hP.rc ho rfl rfl) ?_
        refine x_cv1 T_112_24 mN_28 mL_28 (Nat.le_of_ble_eq_true rfl) mO_28 (hP.o hB.1) (Nat.le_of_ble_eq_true rfl) (hsz) ?_
        rintro _ σ ⟨rfl, rfl⟩
        refine cI ?_
        refine x_ic2 T_112_27 (fun h => absurd (show z < i from h) (by omega)) (fun _ => ?_)
        refine x_li (z := i) T_112_30 rfl ?_
        refine x_lr (z := some a) T_112_31 rfl ?_
        refine x_gR (z := some (a + 1)) T_112_32 F_16_0 (hP.o ho) (hP.rc ho rfl rfl) ?_
        refine x_cv1 T_112_35 mN_28 mL_28 (Nat.le_of_ble_eq_true rfl) mO_28 (hP.o hB.1) (Nat.le_of_ble_eq_true rfl) (hsz) ?_
        rintro _ σ ⟨rfl, rfl⟩
        refine cI ?_
        refine x_ic2 T_112_38 (fun h => absurd (show z ≤ i from h) (by omega)) (fun _ => ?_)
        refine x_lr (z := some a) T_112_41 rfl ?_
        refine x_gR (z := some (a + 1)) T_112_42 F_16_0 (hP.o ho) (hP.rc ho rfl rfl) ?_
        refine x_li (z := i) T_112_45 rfl ?_
        refine x_cv2 T_112_46 mN_33 mL_33 (Nat.le_of_ble_eq_true rfl) mO_33 (hP.o hB.1) (Nat.le_of_ble_eq_true rfl) (hat) ?_
        rintro _ σ ⟨rfl, rfl⟩
        refine cI ?_
        refine x_ic T_112_49 ?_
        refine x_ic2 T_112_51 (fun h => absurd (show (lg l i) = 32 from h) (by omega)) (fun _ => ?_)
        refine x_goto T_112_54 ?_
        refine x_inc (w := (i + 1)) (ls1 := [some (vR (some a)), some (vI k), some (vI (i + 1))]) T_112_108 rfl (w32_id (by omega) (by omega)) rfl ?_
        refine x_goto T_112_111 ?_
        exact hg
/-- a command's text is cut -/
theorem x_split (hP : PX σ0 W R σ) (ho : tX a = some (Sum.inl 16)) (hA5 : isA (a + 5) 0 100) (hA6 : isA (a + 6) 0 100) (ha : 2191 ≤ a ∧ a < 2275) (hB : BY W (a + 1) 100 l) : CL fb (d + 1) 112 [vR (some a)] σ (fun r σ' => r = none ∧ ∃ W2, PX σ0 W2 R σ' ∧ CMD W2 a l ∧ WF a W W2) := by
  have hl := hB.2.2.2.2.1
  have hF0 : WF a W (rU (rU (rU W a 2516 0) a 2517 0) a 2520 0) := WF_tr (WF_tr (WF_u (Or.inl rfl)) (WF_u (Or.inr (Or.inl rfl)))) (WF_u (Or.inr (Or.inr rfl)))
  have hgo := fun (σ : hM) (hP : PX σ0 (rU (rU (rU W a 2516 0) a 2517 0) a 2520 0) R σ) => (sp_loop (fb := fb) (d := d) (W := W) ho hA5 hA6 rfl (by omega) (L := lnW l) (l.length + 1) 0 0 [] _ σ (by omega) (by decide) (by omega) (fun j a b => by omega) (by decide) hP (hF0.text hB) ⟨(rU_j (by decide)).trans ((rU_j (by decide)).trans rU_s), fun i hi => absurd hi (Nat.not_lt_zero i)⟩ hF0 (fun M hM => by rw [List.nil_append]; exact spW_more M l.length 0 hM (by omega) (by decide))).mono (Q := fun r σ' => r = none ∧ ∃ W2, PX σ0 W2 R σ' ∧ CMD W2 a l ∧ WF a W W2) (fun r σ' h => by
    obtain ⟨rfl, W3, g1, g2, g3, g4⟩ := h
    exact ⟨rfl, W3, g1, ⟨ho, ⟨hA5, hA6⟩, ha, g2, g3⟩, g4⟩)
  refine CL_in mL_112 rfl ?_
  show WP fb _ 112 0 [some (vR (some a)), none, none] [] σ _
  refine x_lr (z := some a) T_112_0 rfl ?_
  refine x_ic T_112_1 ?_
  refine z_pI hP T_112_2 F_16_4 ho (key := 2516) rfl (fun σ hP => ?_)
  refine x_lr (z := some a) T_112_5 rfl ?_
  refine x_ic T_112_6 ?_
  refine z_pI hP T_112_7 F_16_5 ho (key := 2517) rfl (fun σ hP => ?_)
  refine x_lr (z := some a) T_112_10 rfl ?_
  refine x_ic T_112_11 ?_
  refine z_pZ hP T_112_12 F_16_8 rfl ho (key := 2520) rfl (fun σ hP => ?_)
  refine x_ic T_112_15 ?_
  refine x_si (ls1 := [some (vR (some a)), some (vI 0), none]) T_112_16 rfl ?_
  refine x_ic T_112_17 ?_
  refine x_si (ls1 := [some (vR (some a)), some (vI 0), some (vI 0)]) T_112_18 rfl ?_
  exact hgo σ hP
end XSPL
