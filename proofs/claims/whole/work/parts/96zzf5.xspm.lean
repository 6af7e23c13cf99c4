/-! The class's commands: a line is cut into words; what it does is not yet begun. -/
/-- only a command's words are written -/
def WG (a : Nat) (W W2 : qR) : Prop := ∀ (x : Nat) (k : Int), ¬ (x = a ∧ k = 2516) → ¬ (x = a + 5 ∧ k < 2000) → ¬ (x = a + 6 ∧ k < 2000) → W2 x k = W x k
section XSPM
variable {fb : Bool} {d a : Nat} {σ0 σ : hM} {W W0 W1 W2 W3 : qR} {R : rR} {i z v s e k : Int} {l : List Int} {ws : List (Int × Int)} {f : Int → Int}
theorem WG_rfl : WG a W W := fun _ _ _ _ _ => rfl
theorem WG_tr (h1 : WG a W W1) (h2 : WG a W1 W2) : WG a W W2 := fun x k p q r => (h2 x k p q r).trans (h1 x k p q r)
theorem WG_push (h : i < 2000) : WG a W (rU (rU (rU W (a + 5) i s) (a + 6) i e) a 2516 v) := fun x k p q r => by
  show (if x = a ∧ k = 2516 then v else if x = a + 6 ∧ k = i then e else if x = a + 5 ∧ k = i then s else W x k) = _
  rw [if_neg p, if_neg (fun c => r ⟨c.1, by omega⟩), if_neg (fun c => q ⟨c.1, by omega⟩)]
theorem WG.text {n : Nat} (h : WG a W W2) (hB : BY W (a + 1) n l) : BY W2 (a + 1) n l := by
  obtain ⟨a1, a2, a3, a4, a5, a6, a7⟩ := hB
  exact ⟨a1, a2, a3, (h _ _ (by omega) (by omega) (by omega)).trans a4, a5, a6, fun i i0 i1 => (h _ _ (by omega) (by omega) (by omega)).trans (a7 i i0 i1)⟩
theorem sp_loopS (ho : tX a = some (Sum.inl 16)) (hA5 : isA (a + 5) 0 100) (hA6 : isA (a + 6) 0 100) (hz : (l.length : Int) = z) (hz2 : z ≤ 100) {L : List (Int × Int)} : ∀ (m : Nat) (i k : Int) (ws : List (Int × Int)) (W2 : qR) (σ : hM), i + m = z + 1 → 0 ≤ k → k ≤ i ∧ (i ≤ z ∨ z < k) → (∀ j : Int, k ≤ j → j < i → ¬ lg l j = 32) → 2 * (ws.length : Int) ≤ k → PX σ0 W2 R σ → BY W2 (a + 1) 100 l → WQ W2 a ws → WG a W W2 → (∀ M : Nat, z ≤ k + M → ws ++ spW (lg l) z M k = L) → WP fb (d + 1) 112 19 [some (vR (some a)), some (vI k), some (vI i)] [] σ (fun r σ' => r = none ∧ ∃ W3, PX σ0 W3 R σ' ∧ BY W3 (a + 1) 100 l ∧ WQ W3 a L ∧ WG a W W3) := by
  intro m
  induction m with
  | zero =>
    intro i k ws W2 σ h1 h2 h3 h4 h5 hP hB hN hF hL
    have h1 : i + ((0 : Nat) : Int) = z + 1 := h1
    have hsz := x_size (fb := fb) (d := d) hP hB hz
    have e : ws = L := by
      have := hL 0 (by omega)
      rw [← this]
      exact (List.append_nil _).symm
    subst e
    refine x_li (z := i) T_112_19 rfl ?_
    refine x_lr (z := some a) T_112_20 rfl ?_
    refine x_gR (z := some (a + 1)) T_112_21 F_16_0 (hP.o ho) (hP.rc ho rfl rfl) ?_
    refine x_cv1 T_112_24 mN_28 mL_28 (Nat.le_of_ble_eq_true rfl) mO_28 (hP.o hB.1) (Nat.le_of_ble_eq_true rfl) (hsz) ?_
    rintro _ σ ⟨rfl, rfl⟩
    refine cI ?_
    refine x_ic2 T_112_27 (fun _ => ?_) (fun h => absurd (show z < i by omega) h)
    refine x_rv T_112_114 ?_
    exact ⟨rfl, W2, hP, hB, hN, hF⟩
  | succ m ih =>
    intro i k ws W2 σ h1 h2 h3 h4 h5 hP hB hN hF hL
    have h1 : i + ((m + 1 : Nat) : Int) = z + 1 := h1
    have hsz := x_size (fb := fb) (d := d) hP hB hz
    have hat := x_at (fb := fb) (d := d) (i := i) hP hB
    have hn0 := hN.1
    obtain ⟨n, hn⟩ : ∃ q : Int, (ws.length : Int) = q := ⟨_, rfl⟩
    have hpu := hN.push (s := k) (e := i)
    rw [hn] at hn0 hpu
    have hgoA : (i = z ∨ lg l i = 32) → k < i → ∀ (σ : hM) (W3 : qR), PX σ0 W3 R σ → WQ W3 a (ws ++ [(k, i)]) → WG a W2 W3 → WP fb (d + 1) 112 19 [some (vR (some a)), some (vI (i + 1)), some (vI (i + 1))] [] σ (fun r σ' => r = none ∧ ∃ W3, PX σ0 W3 R σ' ∧ BY W3 (a + 1) 100 l ∧ WQ W3 a L ∧ WG a W W3) := fun hi hki σ W3 hP hN3 hF3 => by
      refine ih (i + 1) (i + 1) _ W3 σ (by omega) (by omega) (by omega) (fun j a b => by omega) (by rw [List.length_append]; show 2 * ((ws.length + 1 : Nat) : Int) ≤ _; omega) hP (hF3.text hB) hN3 (WG_tr hF hF3) (fun M hM => ?_)
      have e0 := hL (z.toNat + 2) (by omega)
      have hse : spE (lg l) z z.toNat k = i := spE_at (i - k).toNat z.toNat k (by omega) h4 (by omega) hi (by omega)
      have e1 : spW (lg l) z (z.toNat + 2) k = (k, i) :: spW (lg l) z (z.toNat + 1) i := by
        rw [show spW (lg l) z (z.toNat + 2) k = if z ≤ k then [] else if lg l k = 32 then spW (lg l) z (z.toNat + 1) (k + 1) else (k, spE (lg l) z z.toNat k) :: spW (lg l) z (z.toNat + 1) (spE (lg l) z z.toNat k) from rfl, if_neg (by omega), if_neg (h4 k (Int.le_refl k) hki), hse]
      have e2 : spW (lg l) z (z.toNat + 1) i = spW (lg l) z M (i + 1) := by
        rcases hi with hi | hi
        · rw [show spW (lg l) z (z.toNat + 1) i = if z ≤ i then [] else if lg l i = 32 then spW (lg l) z z.toNat (i + 1) else (i, spE (lg l) z z.toNat i) :: spW (lg l) z z.toNat (spE (lg l) z z.toNat i) from rfl, if_pos (by omega)]
          exact spW_more 0 M (i + 1) (by omega) hM (by omega)
        · by_cases qz : z ≤ i
          · rw [show spW (lg l) z (z.toNat + 1) i = if z ≤ i then [] else if lg l i = 32 then spW (lg l) z z.toNat (i + 1) else (i, spE (lg l) z z.toNat i) :: spW (lg l) z z.toNat (spE (lg l) z z.toNat i) from rfl, if_pos qz]
            exact spW_more 0 M (i + 1) (by omega) hM (by omega)
          · rw [show spW (lg l) z (z.toNat + 1) i = if z ≤ i then [] else if lg l i = 32 then spW (lg l) z z.toNat (i + 1) else (i, spE (lg l) z z.toNat i) :: spW (lg l) z z.toNat (spE (lg l) z z.toNat i) from rfl, if_neg qz, if_pos hi]
            exact spW_more z.toNat M (i + 1) (by omega) hM (by omega)
      rw [List.append_assoc, ← e2]
      rw [e1] at e0
      exact e0
    have hgoB : (i = z ∨ lg l i = 32) → ¬ k < i → WP fb (d + 1) 112 19 [some (vR (some a)), some (vI (i + 1)), some (vI (i + 1))] [] σ (fun r σ' => r = none ∧ ∃ W3, PX σ0 W3 R σ' ∧ BY W3 (a + 1) 100 l ∧ WQ W3 a L ∧ WG a W W3) := fun hi hki => by
      have hk : k = i := by omega
      refine ih (i + 1) (i + 1) ws W2 σ (by omega) (by omega) (by omega) (fun j a b => by omega) (by omega) hP hB hN hF (fun M hM => ?_)
      have e0 := hL (z.toNat + 1) (by omega)
      rw [hk] at e0
      have e2 : spW (lg l) z (z.toNat + 1) i = spW (lg l) z M (i + 1) := by
        by_cases qz : z ≤ i
        · rw [show spW (lg l) z (z.toNat + 1) i = if z ≤ i then [] else if lg l i = 32 then spW (lg l) z z.toNat (i + 1) else (i, spE (lg l) z z.toNat i) :: spW (lg l) z z.toNat (spE (lg l) z z.toNat i) from rfl, if_pos qz]
          exact spW_more 0 M (i + 1) (by omega) hM (by omega)
        · rw [show spW (lg l) z (z.toNat + 1) i = if z ≤ i then [] else if lg l i = 32 then spW (lg l) z z.toNat (i + 1) else (i, spE (lg l) z z.toNat i) :: spW (lg l) z z.toNat (spE (lg l) z z.toNat i) from rfl, if_neg qz, if_pos (hi.resolve_left (by omega))]
          exact spW_more z.toNat M (i + 1) (by omega) hM (by omega)
      rw [← e2]
      exact e0
    by_cases q : i = z
    · by_cases qk : k < i
      · have hg := hgoA (Or.inl q) qk
        refine x_li (z := i) T_112_19 rfl ?_
        refine x_lr (z := some a) T_112_20 rfl ?_
        refine x_gR (z := some (a + 1)) T_112_21 F_16_0 (hP.o ho) (hP.rc ho rfl rfl) ?_
        refine x_cv1 T_112_24 mN_28 mL_28 (Nat.le_of_ble_eq_true rfl) mO_28 (hP.o hB.1) (Nat.le_of_ble_eq_true rfl) (hsz) ?_
        rintro _ σ ⟨rfl, rfl⟩
        refine cI ?_
        refine x_ic2 T_112_27 (fun h => absurd (show z < i from h) (by omega)) (fun _ => ?_)
        refine x_li (z := i) T_112_30 rfl ?_
        refine x_lr (z := some a) T_112_31 rfl ?_
        refine x_gR (z := some (a + 1)) T_112_32 F_16_0 (hP.o ho) (hP.rc ho rfl rfl) ?_
        refine x_cv1 T_112_35 mN_28 mL_28 (Nat.le_of_ble_eq_true rfl) mO_28 (hP.o hB.1) (Nat.le_of_ble_eq_true rfl) (hsz) ?_
        rintro _ σ ⟨rfl, rfl⟩
        refine cI ?_
        refine x_ic2 T_112_38 (fun _ => ?_) (fun h => absurd (show z ≤ i by omega) h)
        refine x_li (z := i) T_112_57 rfl ?_
        refine x_li (z := k) T_112_58 rfl ?_
        refine x_ic2 T_112_59 (fun h => absurd (show i ≤ k from h) (by omega)) (fun _ => ?_)
        refine x_lr (z := some a) T_112_62 rfl ?_
        refine x_gI (z := n) T_112_63 (Or.inl F_16_4) (hP.o ho) (Eq.trans (hP.gi ho (key := 2516) rfl) hn0) ?_
        refine x_lr (z := some a) T_112_66 rfl ?_
        refine x_gR (z := some (a + 5)) T_112_67 F_16_2 (hP.o ho) (hP.rc ho rfl rfl) ?_
        refine x_len T_112_70 (hP.ta hA5) ?_
        refine x_ic2 T_112_71 (fun h => absurd (show 100 ≤ n from h) (by omega)) (fun _ => ?_)
        refine x_lr (z := some a) T_112_74 rfl ?_
        refine x_gR (z := some (a + 5)) T_112_75 F_16_2 (hP.o ho) (hP.rc ho rfl rfl) ?_
        refine x_lr (z := some a) T_112_78 rfl ?_
        refine x_gI (z := n) T_112_79 (Or.inl F_16_4) (hP.o ho) (Eq.trans (hP.gi ho (key := 2516) rfl) hn0) ?_
        refine x_li (z := k) T_112_82 rfl ?_
        refine z_aI hP T_112_83 hA5 (by omega) (by omega) (fun σ hP => ?_)
        refine x_lr (z := some a) T_112_84 rfl ?_
        refine x_gR (z := some (a + 6)) T_112_85 F_16_3 (hP.o ho) (hP.rc ho rfl rfl) ?_
        refine x_lr (z := some a) T_112_88 rfl ?_
        refine x_gI (z := n) T_112_89 (Or.inl F_16_4) (hP.o ho) (Eq.trans (Eq.trans (hP.gi ho (key := 2516) rfl) (rU_j (by omega))) hn0) ?_
        refine x_li (z := i) T_112_92 rfl ?_
        refine z_aI hP T_112_93 hA6 (by omega) (by omega) (fun σ hP => ?_)
        refine x_lr (z := some a) T_112_94 rfl ?_
        refine x_dupR T_112_95 ?_
        refine x_gI (z := n) T_112_96 (Or.inl F_16_4) (hP.o ho) (Eq.trans (Eq.trans (hP.gi ho (key := 2516) rfl) (Eq.trans (rU_j (by omega)) (rU_j (by omega)))) hn0) ?_
        refine x_ic T_112_99 ?_
        refine x_ib (w := (n + 1)) T_112_100 (fun h => absurd h.1 (by decide)) (w32_id (by omega) (by omega)) ?_
        refine z_pI hP T_112_101 F_16_4 ho (key := 2516) rfl (fun σ hP => ?_)
        refine x_li (z := i) T_112_104 rfl ?_
        refine x_ic T_112_105 ?_
        refine x_ib (w := (i + 1)) T_112_106 (fun h => absurd h.1 (by decide)) (w32_id (by omega) (by omega)) ?_
        refine x_si (ls1 := [some (vR (some a)), some (vI (i + 1)), some (vI i)]) T_112_107 rfl ?_
        refine x_inc (w := (i + 1)) (ls1 := [some (vR (some a)), some (vI (i + 1)), some (vI (i + 1))]) T_112_108 rfl (w32_id (by omega) (by omega)) rfl ?_
        refine x_goto T_112_111 ?_
        exact hg σ _ hP hpu (WG_push (by omega))
      · have hg := hgoB (Or.inl q) qk
        refine x_li (z := i) T_112_19 rfl ?_
        refine x_lr (z := some a) T_112_20 rfl ?_
        refine x_gR (z := some (a + 1)) T_112_21 F_16_0 (hP.o ho) (hP.rc ho rfl rfl) ?_
        refine x_cv1 T_112_24 mN_28 mL_28 (Nat.le_of_ble_eq_true rfl) mO_28 (hP.o hB.1) (Nat.le_of_ble_eq_true rfl) (hsz) ?_
        rintro _ σ ⟨rfl, rfl⟩
        refine cI ?_
        refine x_ic2 T_112_27 (fun h => absurd (show z < i from h) (by omega)) (fun _ => ?_)
        refine x_li (z := i) T_112_30 rfl ?_
        refine x_lr (z := some a) T_112_31 rfl ?_
        refine x_gR (z := some (a + 1)) T_112_32 F_16_0 (hP.o ho) (hP.rc ho rfl rfl) ?_
        refine x_cv1 T_112_35 mN_28 mL_28 (Nat.le_of_ble_eq_true rfl) mO_28 (hP.o hB.1) (Nat.le_of_ble_eq_true rfl) (hsz) ?_
        rintro _ σ ⟨rfl, rfl⟩
        refine cI ?_
        refine x_ic2 T_112_38 (fun _ => ?_) (fun h => absurd (show z ≤ i by omega) h)
        refine x_li (z := i) T_112_57 rfl ?_
        refine x_li (z := k) T_112_58 rfl ?_
        refine x_ic2 T_112_59 (fun _ => ?_) (fun h => absurd (show i ≤ k by omega) h)
        refine x_li (z := i) T_112_104 rfl ?_
        refine x_ic T_112_105 ?_
        refine x_ib (w := (i + 1)) T_112_106 (fun h => absurd h.1 (by decide)) (w32_id (by omega) (by omega)) ?_
        refine x_si (ls1 := [some (vR (some a)), some (vI (i + 1)), some (vI i)]) T_112_107 rfl ?_
        refine x_inc (w := (i + 1)) (ls1 := [some (vR (some a)), some (vI (i + 1)), some (vI (i + 1))]) T_112_108 rfl (w32_id (by omega) (by omega)) rfl ?_
        refine x_goto T_112_111 ?_
        exact hg
    · rw [if_pos ⟨by omega, by omega⟩] at hat
      by_cases q2 : lg l i = 32
      · by_cases qk : k < i
        · have hg := hgoA (Or.inr q2) qk
          refine x_li (z := i) T_112_19 rfl ?_
          refine x_lr (z := some a) T_112_20 rfl ?_
          refine x_gR (z := some (a + 1)) T_112_21 F_16_0 (hP.o ho) (hP.rc ho rfl rfl) ?_
          refine x_cv1 T_112_24 mN_28 mL_28 (Nat.le_of_ble_eq_true rfl) mO_28 (hP.o hB.1) (Nat.le_of_ble_eq_true rfl) (hsz) ?_
          rintro _ σ ⟨rfl, rfl⟩
          refine cI ?_
          refine x_ic2 T_112_27 (fun h => absurd (show z < i from h) (by omega)) (fun _ => ?_)
          refine x_li (z := i) T_112_30 rfl ?_
          refine x_lr (z := some a) T_112_31 rfl ?_
          refine x_gR (z := some (a + 1)) T_112_32 F_16_0 (hP.o ho) (hP.rc ho rfl rfl) ?_
          refine x_cv1 T_112_35 mN_28 mL_28 (Nat.le_of_ble_eq_true rfl) mO_28 (hP.o hB.1) (Nat.le_of_ble_eq_true rfl) (hsz) ?_
          rintro _ σ ⟨rfl, rfl⟩
          refine cI ?_
          refine x_ic2 T_112_38 (fun h => absurd (show z ≤ i from h) (by omega)) (fun _ => ?_)
          refine x_lr (z := some a) T_112_41 rfl ?_
          refine x_gR (z := some (a + 1)) T_112_42 F_16_0 (hP.o ho) (hP.rc ho rfl rfl) ?_
          refine x_li (z := i) T_112_45 rfl ?_
          refine x_cv2 T_112_46 mN_33 mL_33 (Nat.le_of_ble_eq_true rfl) mO_33 (hP.o hB.1) (Nat.le_of_ble_eq_true rfl) (hat) ?_
          rintro _ σ ⟨rfl, rfl⟩
          refine cI ?_
          refine x_ic T_112_49 ?_
          refine x_ic2 T_112_51 (fun _ => ?_) (fun h => absurd (show (lg l i) = 32 by omega) h)
          refine x_li (z := i) T_112_57 rfl ?_
          refine x_li (z := k) T_112_58 rfl ?_
          refine x_ic2 T_112_59 (fun h => absurd (show i ≤ k from h) (by omega)) (fun _ => ?_)
          refine x_lr (z := some a) T_112_62 rfl ?_
          refine x_gI (z := n) T_112_63 (Or.inl F_16_4) (hP.o ho) (Eq.trans (hP.gi ho (key := 2516) rfl) hn0) ?_
          refine x_lr (z := some a) T_112_66 rfl ?_
          refine x_gR (z := some (a + 5)) T_112_67 F_16_2 (hP.o ho) (hP.rc ho rfl rfl) ?_
          refine x_len T_112_70 (hP.ta hA5) ?_
          refine x_ic2 T_112_71 (fun h => absurd (show 100 ≤ n from h) (by omega)) (fun _ => ?_)
          refine x_lr (z := some a) T_112_74 rfl ?_
          refine x_gR (z := some (a + 5)) T_112_75 F_16_2 (hP.o ho) (hP.rc ho rfl rfl) ?_
          refine x_lr (z := some a) T_112_78 rfl ?_
          refine x_gI (z := n) T_112_79 (Or.inl F_16_4) (hP.o ho) (Eq.trans (hP.gi ho (key := 2516) rfl) hn0) ?_
          refine x_li (z := k) T_112_82 rfl ?_
          refine z_aI hP T_112_83 hA5 (by omega) (by omega) (fun σ hP => ?_)
          refine x_lr (z := some a) T_112_84 rfl ?_
          refine x_gR (z := some (a + 6)) T_112_85 F_16_3 (hP.o ho) (hP.rc ho rfl rfl) ?_
          refine x_lr (z := some a) T_112_88 rfl ?_
          refine x_gI (z := n) T_112_89 (Or.inl F_16_4) (hP.o ho) (Eq.trans (Eq.trans (hP.gi ho (key := 2516) rfl) (rU_j (by omega))) hn0) ?_
          refine x_li (z := i) T_112_92 rfl ?_
          refine z_aI hP T_112_93 hA6 (by omega) (by omega) (fun σ hP => ?_)
          refine x_lr (z := some a) T_112_94 rfl ?_
          refine x_dupR T_112_95 ?_
          refine x_gI (z := n) T_112_96 (Or.inl F_16_4) (hP.o ho) (Eq.trans (Eq.trans (hP.gi ho (key := 2516) rfl) (Eq.trans (rU_j (by omega)) (rU_j (by omega)))) hn0) ?_
          refine x_ic T_112_99 ?_
          refine x_ib (w := (n + 1)) T_112_100 (fun h => absurd h.1 (by decide)) (w32_id (by omega) (by omega)) ?_
          refine z_pI hP T_112_101 F_16_4 ho (key := 2516) rfl (fun σ hP => ?_)
          refine x_li (z := i) T_112_104 rfl ?_
          refine x_ic T_112_105 ?_
          refine x_ib (w := (i + 1)) T_112_106 (fun h => absurd h.1 (by decide)) (w32_id (by omega) (by omega)) ?_
          refine x_si (ls1 := [some (vR (some a)), some (vI (i + 1)), some (vI i)]) T_112_107 rfl ?_
          refine x_inc (w := (i + 1)) (ls1 := [some (vR (some a)), some (vI (i + 1)), some (vI (i + 1))]) T_112_108 rfl (w32_id (by omega) (by omega)) rfl ?_
          refine x_goto T_112_111 ?_
          exact hg σ _ hP hpu (WG_push (by omega))
        · have hg := hgoB (Or.inr q2) qk
          refine x_li (z := i) T_112_19 rfl ?_
          refine x_lr (z := some a) T_112_20 rfl ?_
          refine x_gR (z := some (a + 1)) T_112_21 F_16_0 (hP.o ho) (hP.rc ho rfl rfl) ?_
          refine x_cv1 T_112_24 mN_28 mL_28 (Nat.le_of_ble_eq_true rfl) mO_28 (hP.o hB.1) (Nat.le_of_ble_eq_true rfl) (hsz) ?_
          rintro _ σ ⟨rfl, rfl⟩
          refine cI ?_
          refine x_ic2 T_112_27 (fun h => absurd (show z < i from h) (by omega)) (fun _ => ?_)
          refine x_li (z := i) T_112_30 rfl ?_
          refine x_lr (z := some a) T_112_31 rfl ?_
          refine x_gR (z := some (a + 1)) T_112_32 F_16_0 (hP.o ho) (hP.rc ho rfl rfl) ?_
          refine x_cv1 T_112_35 mN_28 mL_28 (Nat.le_of_ble_eq_true rfl) mO_28 (hP.o hB.1) (Nat.le_of_ble_eq_true rfl) (hsz) ?_
          rintro _ σ ⟨rfl, rfl⟩
          refine cI ?_
          refine x_ic2 T_112_38 (fun h => absurd (show z ≤ i from h) (by omega)) (fun _ => ?_)
          refine x_lr (z := some a) T_112_41 rfl ?_
          refine x_gR (z := some (a + 1)) T_112_42 F_16_0 (hP.o ho) (hP.rc ho rfl rfl) ?_
          refine x_li (z := i) T_112_45 rfl ?_
          refine x_cv2 T_112_46 mN_33 mL_33 (Nat.le_of_ble_eq_true rfl) mO_33 (hP.o hB.1) (Nat.le_of_ble_eq_true rfl) (hat) ?_
          rintro _ σ ⟨rfl, rfl⟩
          refine cI ?_
          refine x_ic T_112_49 ?_
          refine x_ic2 T_112_51 (fun _ => ?_) (fun h => absurd (show (lg l i) = 32 by omega) h)
          refine x_li (z := i) T_112_57 rfl ?_
          refine x_li (z := k) T_112_58 rfl ?_
          refine x_ic2 T_112_59 (fun _ => ?_) (fun h => absurd (show i ≤ k by omega) h)
          refine x_li (z := i) T_112_104 rfl ?_
          refine x_ic T_112_105 ?_
          refine x_ib (w := (i + 1)) T_112_106 (fun h => absurd h.1 (by decide)) (w32_id (by omega) (by omega)) ?_
          refine x_si (ls1 := [some (vR (some a)), some (vI (i + 1)), some (vI i)]) T_112_107 rfl ?_
          refine x_inc (w := (i + 1)) (ls1 := [some (vR (some a)), some (vI (i + 1)), some (vI (i + 1))]) T_112_108 rfl (w32_id (by omega) (by omega)) rfl ?_
          refine x_goto T_112_111 ?_
          exact hg
      · have hg := ih (i + 1) k ws W2 σ (by omega) h2 (by omega) (fun j a b => by
          by_cases qj : j = i
          · rw [qj]; exact q2
          · exact h4 j a (by omega)) h5 hP hB hN hF hL
        refine x_li (z := i) T_112_19 rfl ?_
        refine x_lr (z := some a) T_112_20 rfl ?_
        refine x_gR (z := some (a + 1)) T_112_21 F_16_0 (hP.o ho) (hP.rc ho rfl rfl) ?_
        refine x_cv1 T_112_24 mN_28 mL_28 (Nat.le_of_ble_eq_true rfl) mO_28 (hP.o hB.1) (Nat.le_of_ble_eq_true rfl) (hsz) ?_
        rintro _ σ ⟨rfl, rfl⟩
        refine cI ?_
        refine x_ic2 T_112_27 (fun h => absurd (show z < i from h) (by omega)) (fun _ => ?_)
        refine x_li (z := i) T_112_30 rfl ?_
        refine x_lr (z := some a) T_112_31 rfl ?_
        refine x_gR (z := some (a + 1)) T_112_32 F_16_0 (hP.o ho) (hP.rc ho rfl rfl) ?_
        refine x_cv1 T_112_35 mN_28 mL_28 (Nat.le_of_ble_eq_true rfl) mO_28 (hP.o hB.1) (Nat.le_of_ble_eq_true rfl) (hsz) ?_
        rintro _ σ ⟨rfl, rfl⟩
        refine cI ?_
        refine x_ic2 T_112_38 (fun h => absurd (show z ≤ i from h) (by omega)) (fun _ => ?_)
        refine x_lr (z := some a) T_112_41 rfl ?_
        refine x_gR (z := some (a + 1)) T_112_42 F_16_0 (hP.o ho) (hP.rc ho rfl rfl) ?_
        refine x_li (z := i) T_112_45 rfl ?_
        refine x_cv2 T_112_46 mN_33 mL_33 (Nat.le_of_ble_eq_true rfl) mO_33 (hP.o hB.1) (Nat.le_of_ble_eq_true rfl) (hat) ?_
        rintro _ σ ⟨rfl, rfl⟩
        refine cI ?_
        refine x_ic T_112_49 ?_
        refine x_ic2 T_112_51 (fun h => absurd (show (lg l i) = 32 from h) (by omega)) (fun _ => ?_)
        refine x_goto T_112_54 ?_
        refine x_inc (w := (i + 1)) (ls1 := [some (vR (some a)), some (vI k), some (vI (i + 1))]) T_112_108 rfl (w32_id (by omega) (by omega)) rfl ?_
        refine x_goto T_112_111 ?_
        exact hg
/-- a command's text is cut -/
theorem x_splitS (hP : PX σ0 W R σ) (ho : tX a = some (Sum.inl 16)) (hA5 : isA (a + 5) 0 100) (hA6 : isA (a + 6) 0 100) (ha : 2191 ≤ a ∧ a < 2275) (hB : BY W (a + 1) 100 l) : CL fb (d + 1) 112 [vR (some a)] σ (fun r σ' => r = none ∧ ∃ W2, PX σ0 W2 R σ' ∧ CMD W2 a l ∧ WG a (rU (rU (rU W a 2516 0) a 2517 0) a 2520 0) W2) := by
  have hl := hB.2.2.2.2.1
  have hB0 : BY (rU (rU (rU W a 2516 0) a 2517 0) a 2520 0) (a + 1) 100 l := ((hB.key (by decide) (by decide)).key (by decide) (by decide)).key (by decide) (by decide)
  have hgo := fun (σ : hM) (hP : PX σ0 (rU (rU (rU W a 2516 0) a 2517 0) a 2520 0) R σ) => (sp_loopS (fb := fb) (d := d) (W := rU (rU (rU W a 2516 0) a 2517 0) a 2520 0) ho hA5 hA6 rfl (by omega) (L := lnW l) (l.length + 1) 0 0 [] _ σ (by omega) (by decide) (by omega) (fun j a b => by omega) (by decide) hP hB0 ⟨(rU_j (by decide)).trans ((rU_j (by decide)).trans rU_s), fun i hi => absurd hi (Nat.not_lt_zero i)⟩ WG_rfl (fun M hM => by rw [List.nil_append]; exact spW_more M l.length 0 hM (by omega) (by decide))).mono (Q := fun r σ' => r = none ∧ ∃ W2, PX σ0 W2 R σ' ∧ CMD W2 a l ∧ WG a (rU (rU (rU W a 2516 0) a 2517 0) a 2520 0) W2) (fun r σ' h => by
    obtain ⟨rfl, W3, g1, g2, g3, g4⟩ := h
    exact ⟨rfl, W3, g1, ⟨ho, ⟨hA5, hA6⟩, ha, g2, g3⟩, g4⟩)
  refine CL_in mL_112 rfl ?_
  show WP fb _ 112 0 [some (vR (some a)), none, none] [] σ _
  refine x_lr (z := some a) T_112_0 rfl ?_
  refine x_ic T_112_1 ?_
  refine z_pI hP T_112_2 F_16_4 ho (key := 2516) rfl (fun σ hP => ?_)
  refine x_lr (z := some a) T_112_5 rfl ?_
  refine x_ic T_112_6 ?_
  refine z_pI hP T_112_7 F_16_5 ho (key := 2517) rfl (fun σ hP => ?_)
  refine x_lr (z := some a) T_112_10 rfl ?_
  refine x_ic T_112_11 ?_
  refine z_pZ hP T_112_12 F_16_8 rfl ho (key := 2520) rfl (fun σ hP => ?_)
  refine x_ic T_112_15 ?_
  refine x_si (ls1 := [some (vR (some a)), some (vI 0), none]) T_112_16 rfl ?_
  refine x_ic T_112_17 ?_
  refine x_si (ls1 := [some (vR (some a)), some (vI 0), some (vI 0)]) T_112_18 rfl ?_
  exact hgo σ hP
/-- a command is anew: its words, and nothing that it does -/
theorem WG.new (h : WG a (rU (rU (rU W a 2516 0) a 2517 0) a 2520 0) W2) : W2 a 2517 = 0 ∧ W2 a 2520 = 0 ∧ ∀ (x : Nat) (k : Int), ¬ (x = a ∧ (k = 2516 ∨ k = 2517 ∨ k = 2520)) → ¬ (x = a + 5 ∧ k < 2000) → ¬ (x = a + 6 ∧ k < 2000) → W2 x k = W x k := by
  refine ⟨?_, ?_, fun x k p q r => ?_⟩
  · rw [h _ _ (by omega) (by omega) (by omega), rU_j (by decide)]
    exact rU_s
  · rw [h _ _ (by omega) (by omega) (by omega)]
    exact rU_s
  · rw [h x k (fun c => p ⟨c.1, Or.inl c.2⟩) q r]
    show (if x = a ∧ k = 2520 then 0 else if x = a ∧ k = 2517 then 0 else if x = a ∧ k = 2516 then 0 else W x k) = _
    rw [if_neg (fun c => p ⟨c.1, Or.inr (Or.inr c.2)⟩), if_neg (fun c => p ⟨c.1, Or.inr (Or.inl c.2)⟩), if_neg (fun c => p ⟨c.1, Or.inl c.2⟩)]
end XSPM
