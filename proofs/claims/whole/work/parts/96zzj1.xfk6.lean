/-! The class's processes: one follows another. -/
theorem T_192_0 : hTab 192 0 = some ((3, 0, 2, []), 1) := rfl
theorem T_192_1 : hTab 192 1 = some ((24, 6, Int.ofNat 1, []), 4) := rfl
theorem T_192_4 : hTab 192 4 = some ((3, 1, 2, []), 5) := rfl
theorem T_192_5 : hTab 192 5 = some ((24, 6, Int.ofNat 1, []), 8) := rfl
theorem T_192_8 : hTab 192 8 = some ((0, 0, 0, []), 9) := rfl
theorem T_192_9 : hTab 192 9 = some ((3, 1, 2, []), 10) := rfl
theorem T_192_10 : hTab 192 10 = some ((24, 6, Int.ofNat 1, []), 13) := rfl
theorem T_192_13 : hTab 192 13 = some ((31, 28, 0, []), 16) := rfl
theorem T_192_16 : hTab 192 16 = some ((31, 31, 0, []), 19) := rfl
theorem T_192_19 : hTab 192 19 = some ((7, 0, 0, []), 20) := rfl
theorem T_192_20 : hTab 192 20 = some ((0, 0, 0, []), 21) := rfl
theorem T_192_21 : hTab 192 21 = some ((4, 2, 0, []), 22) := rfl
theorem T_192_22 : hTab 192 22 = some ((3, 2, 0, []), 23) := rfl
theorem T_192_23 : hTab 192 23 = some ((0, 0, 26, []), 25) := rfl
theorem T_192_25 : hTab 192 25 = some ((19, 3, Int.ofNat 60, []), 28) := rfl
theorem T_192_28 : hTab 192 28 = some ((3, 0, 2, []), 29) := rfl
theorem T_192_29 : hTab 192 29 = some ((24, 6, Int.ofNat 3, []), 32) := rfl
theorem T_192_32 : hTab 192 32 = some ((3, 2, 0, []), 33) := rfl
theorem T_192_33 : hTab 192 33 = some ((26, 10, 0, []), 34) := rfl
theorem T_192_34 : hTab 192 34 = some ((3, 1, 2, []), 35) := rfl
theorem T_192_35 : hTab 192 35 = some ((24, 6, Int.ofNat 3, []), 38) := rfl
theorem T_192_38 : hTab 192 38 = some ((3, 2, 0, []), 39) := rfl
theorem T_192_39 : hTab 192 39 = some ((26, 10, 0, []), 40) := rfl
theorem T_192_40 : hTab 192 40 = some ((0, 0, 0, []), 41) := rfl
theorem T_192_41 : hTab 192 41 = some ((3, 1, 2, []), 42) := rfl
theorem T_192_42 : hTab 192 42 = some ((24, 6, Int.ofNat 3, []), 45) := rfl
theorem T_192_45 : hTab 192 45 = some ((3, 2, 0, []), 46) := rfl
theorem T_192_46 : hTab 192 46 = some ((26, 10, 0, []), 47) := rfl
theorem T_192_47 : hTab 192 47 = some ((31, 28, 0, []), 50) := rfl
theorem T_192_50 : hTab 192 50 = some ((31, 32, 0, []), 53) := rfl
theorem T_192_53 : hTab 192 53 = some ((7, 0, 0, []), 54) := rfl
theorem T_192_54 : hTab 192 54 = some ((5, 2, 1, []), 57) := rfl
theorem T_192_57 : hTab 192 57 = some ((22, 0, Int.ofNat 22, []), 60) := rfl
theorem T_192_60 : hTab 192 60 = some ((0, 0, 0, []), 61) := rfl
theorem T_192_61 : hTab 192 61 = some ((4, 2, 0, []), 62) := rfl
theorem T_192_62 : hTab 192 62 = some ((3, 2, 0, []), 63) := rfl
theorem T_192_63 : hTab 192 63 = some ((0, 0, 8, []), 65) := rfl
theorem T_192_65 : hTab 192 65 = some ((19, 3, Int.ofNat 110, []), 68) := rfl
theorem T_192_68 : hTab 192 68 = some ((3, 0, 2, []), 69) := rfl
theorem T_192_69 : hTab 192 69 = some ((24, 6, Int.ofNat 4, []), 72) := rfl
theorem T_192_72 : hTab 192 72 = some ((3, 2, 0, []), 73) := rfl
theorem T_192_73 : hTab 192 73 = some ((3, 1, 2, []), 74) := rfl
theorem T_192_74 : hTab 192 74 = some ((24, 6, Int.ofNat 4, []), 77) := rfl
theorem T_192_77 : hTab 192 77 = some ((3, 2, 0, []), 78) := rfl
theorem T_192_78 : hTab 192 78 = some ((26, 10, 0, []), 79) := rfl
theorem T_192_79 : hTab 192 79 = some ((27, 10, 0, []), 80) := rfl
theorem T_192_80 : hTab 192 80 = some ((3, 0, 2, []), 81) := rfl
theorem T_192_81 : hTab 192 81 = some ((24, 6, Int.ofNat 4, []), 84) := rfl
theorem T_192_84 : hTab 192 84 = some ((3, 2, 0, []), 85) := rfl
theorem T_192_85 : hTab 192 85 = some ((26, 10, 0, []), 86) := rfl
theorem T_192_86 : hTab 192 86 = some ((20, 0, Int.ofNat 104, []), 89) := rfl
theorem T_192_89 : hTab 192 89 = some ((3, 0, 2, []), 90) := rfl
theorem T_192_90 : hTab 192 90 = some ((24, 6, Int.ofNat 4, []), 93) := rfl
theorem T_192_93 : hTab 192 93 = some ((3, 2, 0, []), 94) := rfl
theorem T_192_94 : hTab 192 94 = some ((26, 10, 0, []), 95) := rfl
theorem T_192_95 : hTab 192 95 = some ((6, 0, 0, []), 96) := rfl
theorem T_192_96 : hTab 192 96 = some ((24, 5, Int.ofNat 7, []), 99) := rfl
theorem T_192_99 : hTab 192 99 = some ((0, 0, 1, []), 100) := rfl
theorem T_192_100 : hTab 192 100 = some ((10, 0, 0, []), 101) := rfl
theorem T_192_101 : hTab 192 101 = some ((25, 5, Int.ofNat 7, []), 104) := rfl
theorem T_192_104 : hTab 192 104 = some ((5, 2, 1, []), 107) := rfl
theorem T_192_107 : hTab 192 107 = some ((22, 0, Int.ofNat 62, []), 110) := rfl
theorem T_192_110 : hTab 192 110 = some ((33, 0, 0, []), 111) := rfl
theorem mN_192 : hmN 192 = 2 := by decide +kernel
theorem mL_192 : hmL 192 = 3 := by decide +kernel
theorem mK_192 : hmK 192 = 1 := by decide +kernel
theorem mO_192 : hmO 192 = 6 := by decide +kernel
section XFK6
variable {fb : Bool} {d b c n a0 a1 a : Nat} {σ0 σ : hM} {W W0 W1 W2 V P P0 Q B X : qR} {R R0 R1 R2 V3 : rR} {i j k x y t z v s e w g u p q pt o K T U N C : Int} {l l0 lo dl dq : List Int} {vl : Int → List Int}
theorem seg_lg : seg (lg l) 0 l.length = l := seg_eq.mpr ⟨rfl, fun i _ _ => by rw [Int.zero_add]⟩
theorem usR_rng : ∀ (m : Nat) (k n : Int), n ≤ usR P x m k n ∧ usR P x m k n ≤ n + m
  | 0, k, n => ⟨Int.le_refl n, by show n ≤ n + ((0 : Nat) : Int); omega⟩
  | m + 1, k, n => by
    have e : usR P x (m + 1) k n = usR P x m (k + 1) (if ¬ P 2320 (k / 8) = 0 ∧ P 2327 k = x then n + 1 else n) := rfl
    have := usR_rng m (k + 1) (if ¬ P 2320 (k / 8) = 0 ∧ P 2327 k = x then n + 1 else n)
    rw [e]
    split at this <;> split <;> omega
/-- one row of descriptors is as another's -/
theorem qU_step (hq : 0 ≤ q ∧ q < 8) (hd : 0 ≤ y ∧ y < 8) (h0 : Q 2327 (8 * q + y) = -1) (hl : ¬ Q 2320 q = 0) (ho : 0 ≤ o) : qUsers (rU Q 2327 (8 * q + y) v) o = qUsers Q o + (if v = o then 1 else 0) := by
  have e := usR_set (P := Q) (Q := rU Q 2327 (8 * q + y) v) (x := o) (a := 8 * q + y) 64 0 (fun i _ _ hi => by rw [rU_f (by decide), rU_k hi]) (by omega) (by omega)
  unfold qUsers
  rw [e, h0, if_neg (fun c => by omega), rU_s, rU_f (by decide), show (8 * q + y) / 8 = q by omega]
  by_cases c : v = o
  · rw [if_pos ⟨hl, c⟩, if_pos c]
    omega
  · rw [if_neg (fun c2 => c c2.2), if_neg c]
    omega
theorem fol_open (hp : 0 ≤ p ∧ p < 8) (hq : 0 ≤ q ∧ q < 8) (hpq : p ≠ q) (hl : ¬ Q 2320 q = 0) (hm1 : ∀ k : Int, 0 ≤ k → k < 8 → Q 2327 (8 * q + k) = -1) (hop : ∀ k : Int, 0 ≤ k → k < 8 → R0 (prO p + 6) k = (if Q 2327 (8 * p + k) < 0 then none else some (1229 + (Q 2327 (8 * p + k)).toNat)) ∧ -1 ≤ Q 2327 (8 * p + k) ∧ Q 2327 (8 * p + k) ≤ 63) {Qf : Option AV → hM → Prop} : ∀ (m : Nat) (i : Int) (σ : hM) (W : qR) (R : rR), i + m = 8 → 0 ≤ i → PX σ0 W R σ → (∀ k : Int, 0 ≤ k → k < i → R (prO q + 6) k = R0 (prO p + 6) k) → (∀ (x : Nat) (k : Int), ¬ (x = prO q + 6 ∧ 0 ≤ k ∧ k < 8) → R x k = R0 x k) → (∀ o : Int, 0 ≤ o → o < 64 → W (1229 + o.toNat) 2167 = qUsers (rW Q 2327 (8 * q) (seg (Q 2327) (8 * p) i.toNat)) o) → (∀ (x : Nat) (k : Int), ¬ (1229 ≤ x ∧ x < 1293 ∧ k = 2167) → W x k = W0 x k) → (∀ (σ : hM) (W : qR) (R : rR), PX σ0 W R σ → (∀ k : Int, 0 ≤ k → k < 8 → R (prO q + 6) k = R0 (prO p + 6) k) → (∀ (x : Nat) (k : Int), ¬ (x = prO q + 6 ∧ 0 ≤ k ∧ k < 8) → R x k = R0 x k) → (∀ o : Int, 0 ≤ o → o < 64 → W (1229 + o.toNat) 2167 = qUsers (gFo2 Q p q) o) → (∀ (x : Nat) (k : Int), ¬ (1229 ≤ x ∧ x < 1293 ∧ k = 2167) → W x k = W0 x k) → Qf none σ) → WP fb (d + 2) 192 62 [some (vR (some (prO q))), some (vR (some (prO p))), some (vI i)] [] σ Qf := by
  have hqo := prO_o hq
  have hpo := prO_o hp
  have hqA := (prO_a hq).1
  have hpA := (prO_a hp).1
  have hrq := prO_rng hq
  have hrp := prO_rng hp
  have hdis : prO q ≠ prO p := fun c => hpq (by unfold prO at c; omega)
  have hdis6 : prO q + 6 ≠ prO p + 6 := by omega
  have hmq : mutA (prO q + 6) 15 8 = true := rfl
  have hmp : mutA (prO p + 6) 15 8 = true := rfl
  intro m
  induction m with
  | zero =>
    intro i σ W R h1 h2 hP hR1 hR2 hU hW hc
    have h1 : i + ((0 : Nat) : Int) = 8 := h1
    have hi : i = 8 := by omega
    subst hi
    have hgo := hc σ W R hP hR1 hR2 hU hW
    obtain ⟨a, ha⟩ : ∃ a, prO q = a := ⟨_, rfl⟩
    obtain ⟨b, hb⟩ : ∃ b, prO p = b := ⟨_, rfl⟩
    rw [ha] at hqo ⊢
    rw [hb] at hpo ⊢
    refine x_li (z := 8) T_192_62 rfl ?_
    refine x_ic T_192_63 ?_
    refine x_ic2 T_192_65 (fun _ => ?_) (fun h => absurd (show 8 ≤ (8 : Int) by decide) h)
    refine x_rv T_192_110 ?_
    exact hgo
  | succ m ih =>
    intro i σ W R h1 h2 hP hR1 hR2 hU hW hc
    have h1 : i + ((m : Int) + 1) = 8 := by omega
    obtain ⟨o1, o2, o3⟩ := hop i h2 (by omega)
    have hbr : R (prO p + 6) i = R0 (prO p + 6) i := hR2 _ _ (fun c => hdis6 c.1.symm)
    obtain ⟨v, hv⟩ : ∃ v, Q 2327 (8 * p + i) = v := ⟨_, rfl⟩
    rw [hv] at o1 o2 o3
    have eS : rW Q 2327 (8 * q) (seg (Q 2327) (8 * p) (i + 1).toNat) = rU (rW Q 2327 (8 * q) (seg (Q 2327) (8 * p) i.toNat)) 2327 (8 * q + i) v := by
      rw [← rW_segs h2, hv]
    have hm1' : rW Q 2327 (8 * q) (seg (Q 2327) (8 * p) i.toNat) 2327 (8 * q + i) = -1 := by
      rw [rW_o (by rw [seg_len]; omega)]
      exact hm1 i h2 (by omega)
    have hl' : ¬ rW Q 2327 (8 * q) (seg (Q 2327) (8 * p) i.toNat) 2320 q = 0 := by rw [rW_f (by decide)]; exact hl
    have hstep := fun (o : Int) (ho : 0 ≤ o) => qU_step (v := v) (o := o) hq ⟨h2, by omega⟩ hm1' hl' ho
    have hgo := fun (σ : hM) (W2 : qR) (r : Option Nat) (hr : r = R0 (prO p + 6) i) (hP : PX σ0 W2 (oU R (prO q + 6) i r) σ) (hU2 : ∀ o : Int, 0 ≤ o → o < 64 → W2 (1229 + o.toNat) 2167 = qUsers (rW Q 2327 (8 * q) (seg (Q 2327) (8 * p) (i + 1).toNat)) o) (hW2 : ∀ (x : Nat) (k : Int), ¬ (1229 ≤ x ∧ x < 1293 ∧ k = 2167) → W2 x k = W0 x k) => ih (i + 1) σ W2 _ (by omega) (by omega) hP (fun k k0 k1 => by
      by_cases c : k = i
      · rw [c, ← hr]
        exact if_pos ⟨rfl, rfl⟩
      · exact (if_neg (fun c2 => c c2.2)).trans (hR1 k k0 (by omega))) (fun x k hx => (if_neg (fun c => hx ⟨c.1, by omega, by omega⟩)).trans (hR2 x k hx)) hU2 hW2 hc
    obtain ⟨a, ha⟩ : ∃ a, prO q = a := ⟨_, rfl⟩
    obtain ⟨b, hb⟩ : ∃ b, prO p = b := ⟨_, rfl⟩
    by_cases q1 : v < 0
    · rw [if_pos q1] at o1
      have hbr := hbr.trans o1
      have hgo := fun (σ : hM) (hP : PX σ0 W (oU R (prO q + 6) i none) σ) => hgo σ W none o1.symm hP (fun o o0 o4 => by rw [eS, hstep o o0, if_neg (by omega), Int.add_zero]; exact hU o o0 o4) hW
      simp only [ha] at hqo hqA hmq hgo
      rw [hb] at hpo hpA hmp hbr
      simp only [hb] at hgo
      rw [ha, hb]
      have hat : oU R (a + 6) i none (a + 6) i = none := if_pos ⟨rfl, rfl⟩
      refine x_li (z := i) T_192_62 rfl ?_
      refine x_ic T_192_63 ?_
      refine x_ic2 T_192_65 (fun h => absurd (show 8 ≤ i from h) (by omega)) (fun _ => ?_)
      refine x_lr (z := some a) T_192_68 rfl ?_
      refine x_gR (z := some (a + 6)) T_192_69 F_6_4 (hP.o hqo) (hP.rc hqo rfl rfl) ?_
      refine x_li (z := i) T_192_72 rfl ?_
      refine x_lr (z := some b) T_192_73 rfl ?_
      refine x_gR (z := some (b + 6)) T_192_74 F_6_4 (hP.o hpo) (hP.rc hpo rfl rfl) ?_
      refine x_li (z := i) T_192_77 rfl ?_
      refine x_alR (z := none) T_192_78 (hP.ta hpA) (by decide) (by omega) (by omega) (Eq.trans (hP.arm hpA hmp (by omega)) hbr) ?_
      refine z_aR hP T_192_79 (by decide) (fun _ e => by cases e) hmq hqA (by omega) (by omega) (fun σ hP => ?_)
      refine x_lr (z := some a) T_192_80 rfl ?_
      refine x_gR (z := some (a + 6)) T_192_81 F_6_4 (hP.o hqo) (hP.rc hqo rfl rfl) ?_
      refine x_li (z := i) T_192_84 rfl ?_
      refine x_alR (z := none) T_192_85 (hP.ta hqA) (by decide) (by omega) (by omega) (Eq.trans (Eq.trans (hP.arm hqA hmq (by omega)) oU_s) rfl) ?_
      refine x_nul T_192_86 (fun _ => ?_) (fun a0 h0 => absurd h0 (by simp))
      refine x_inc (w := (i + 1)) (ls1 := [some (vR (some a)), some (vR (some b)), some (vI (i + 1))]) T_192_104 rfl (w32_id (by omega) (by omega)) rfl ?_
      refine x_goto T_192_107 ?_
      exact hgo σ hP
    · rw [if_neg q1] at o1
      have hbr := hbr.trans o1
      have hv63 : 0 ≤ v ∧ v < 64 := by omega
      have hoo := tX_opn v.toNat (by omega)
      have hu := hU v hv63.1 hv63.2
      have hur := usR_rng (P := rW Q 2327 (8 * q) (seg (Q 2327) (8 * p) i.toNat)) (x := v) 64 0 0
      obtain ⟨nu, hnu⟩ : ∃ nu, qUsers (rW Q 2327 (8 * q) (seg (Q 2327) (8 * p) i.toNat)) v = nu := ⟨_, rfl⟩
      rw [hnu] at hu
      have hnr : 0 ≤ nu ∧ nu ≤ 64 := by
        rw [← hnu]
        have h64 : ((64 : Nat) : Int) = 64 := rfl
        unfold qUsers
        omega
      have hgo := fun (σ : hM) (hP : PX σ0 (rU W (1229 + v.toNat) 2167 (nu + 1)) (oU R (prO q + 6) i (some (1229 + v.toNat))) σ) => hgo σ _ (some (1229 + v.toNat)) o1.symm hP (fun o o0 o4 => by
        rw [eS, hstep o o0]
        by_cases c : v = o
        · subst c
          rw [if_pos rfl, rU_s, hnu]
        · rw [if_neg c, Int.add_zero, rU_f (by omega)]
          exact hU o o0 o4) (fun x k hx => (if_neg (fun c => hx ⟨by omega, by omega, c.2⟩)).trans (hW x k hx))
      obtain ⟨oo, hoe⟩ : ∃ oo, 1229 + v.toNat = oo := ⟨_, rfl⟩
      rw [hoe] at hoo hu hbr
      simp only [hoe] at hgo
      simp only [ha] at hqo hqA hmq hgo
      rw [hb] at hpo hpA hmp hbr
      simp only [hb] at hgo
      rw [ha, hb]
      have hat : oU R (a + 6) i (some oo) (a + 6) i = some oo := if_pos ⟨rfl, rfl⟩
      refine x_li (z := i) T_192_62 rfl ?_
      refine x_ic T_192_63 ?_
      refine x_ic2 T_192_65 (fun h => absurd (show 8 ≤ i from h) (by omega)) (fun _ => ?_)
      refine x_lr (z := some a) T_192_68 rfl ?_
      refine x_gR (z := some (a + 6)) T_192_69 F_6_4 (hP.o hqo) (hP.rc hqo rfl rfl) ?_
      refine x_li (z := i) T_192_72 rfl ?_
      refine x_lr (z := some b) T_192_73 rfl ?_
      refine x_gR (z := some (b + 6)) T_192_74 F_6_4 (hP.o hpo) (hP.rc hpo rfl rfl) ?_
      refine x_li (z := i) T_192_77 rfl ?_
      refine x_alR (z := some oo) T_192_78 (hP.ta hpA) (by decide) (by omega) (by omega) (Eq.trans (hP.arm hpA hmp (by omega)) hbr) ?_
      refine z_aR hP T_192_79 (by decide) (fun _ e => by cases e; exact hoo) hmq hqA (by omega) (by omega) (fun σ hP => ?_)
      refine x_lr (z := some a) T_192_80 rfl ?_
      refine x_gR (z := some (a + 6)) T_192_81 F_6_4 (hP.o hqo) (hP.rc hqo rfl rfl) ?_
      refine x_li (z := i) T_192_84 rfl ?_
      refine x_alR (z := some oo) T_192_85 (hP.ta hqA) (by decide) (by omega) (by omega) (Eq.trans (Eq.trans (hP.arm hqA hmq (by omega)) oU_s) rfl) ?_
      refine x_nul T_192_86 (fun h0 => absurd h0 (by simp)) (fun _ _ => ?_)
      refine x_lr (z := some a) T_192_89 rfl ?_
      refine x_gR (z := some (a + 6)) T_192_90 F_6_4 (hP.o hqo) (hP.rc hqo rfl rfl) ?_
      refine x_li (z := i) T_192_93 rfl ?_
      refine x_alR (z := some oo) T_192_94 (hP.ta hqA) (by decide) (by omega) (by omega) (Eq.trans (Eq.trans (hP.arm hqA hmq (by omega)) oU_s) rfl) ?_
      refine x_dupR T_192_95 ?_
      refine x_gI (z := nu) T_192_96 (Or.inl F_5_7) (hP.o hoo) (Eq.trans (hP.gi hoo (key := 2167) rfl) hu) ?_
      refine x_ic T_192_99 ?_
      refine x_ib (w := (nu + 1)) T_192_100 (fun h => absurd h.1 (by decide)) (w32_id (by omega) (by omega)) ?_
      refine z_pI hP T_192_101 F_5_7 hoo (key := 2167) rfl (fun σ hP => ?_)
      refine x_inc (w := (i + 1)) (ls1 := [some (vR (some a)), some (vR (some b)), some (vI (i + 1))]) T_192_104 rfl (w32_id (by omega) (by omega)) rfl ?_
      refine x_goto T_192_107 ?_
      exact hgo σ hP
theorem fol_vars (hp : 0 ≤ p ∧ p < 8) (hq : 0 ≤ q ∧ q < 8) (hpq : p ≠ q) {Qf : Option AV → hM → Prop} : ∀ (m : Nat) (i : Int) (σ : hM) (W : qR), i + m = 26 → 0 ≤ i → PX σ0 W R σ → (∀ x : Int, 0 ≤ x → x < 26 → BY W (prO p + 7 + 2 * x.toNat) 20 (vl x)) → (∀ x : Int, 0 ≤ x → x < i → BY W (prO q + 7 + 2 * x.toNat) 20 (vl x)) → (∀ x : Int, i ≤ x → x < 26 → BY W (prO q + 7 + 2 * x.toNat) 20 []) → (∀ (x : Nat) (k : Int), ¬ (prO q + 7 ≤ x ∧ x < prO q + 59) → W x k = W0 x k) → (∀ (σ : hM) (W : qR), PX σ0 W R σ → (∀ x : Int, 0 ≤ x → x < 26 → BY W (prO q + 7 + 2 * x.toNat) 20 (vl x)) → (∀ (x : Nat) (k : Int), ¬ (prO q + 7 ≤ x ∧ x < prO q + 59) → W x k = W0 x k) → WP fb (d + 2) 192 60 [some (vR (some (prO q))), some (vR (some (prO p))), some (vI 26)] [] σ Qf) → WP fb (d + 2) 192 22 [some (vR (some (prO q))), some (vR (some (prO p))), some (vI i)] [] σ Qf := by
  have hqo := prO_o hq
  have hpo := prO_o hp
  have hqA := (prO_a hq).2
  have hpA := (prO_a hp).2
  have hrq := prO_rng hq
  have hrp := prO_rng hp
  have hdis : prO q + 59 ≤ prO p ∨ prO p + 59 ≤ prO q := by
    unfold prO
    rcases Nat.lt_trichotomy q.toNat p.toNat with c | c | c
    · exact Or.inl (by omega)
    · exact absurd (show p = q by omega) hpq
    · exact Or.inr (by omega)
  intro m
  induction m with
  | zero =>
    intro i σ W h1 h2 hP hS hD hE hW hc
    have h1 : i + ((0 : Nat) : Int) = 26 := h1
    have hi : i = 26 := by omega
    subst hi
    have hgo := hc σ W hP hD hW
    obtain ⟨a, ha⟩ : ∃ a, prO q = a := ⟨_, rfl⟩
    obtain ⟨b, hb⟩ : ∃ b, prO p = b := ⟨_, rfl⟩
    rw [ha] at hqo
    rw [hb] at hpo
    rw [ha, hb] at hgo ⊢
    refine x_li (z := 26) T_192_22 rfl ?_
    refine x_ic T_192_23 ?_
    refine x_ic2 T_192_25 (fun _ => ?_) (fun h => absurd (show 26 ≤ (26 : Int) by decide) h)
    exact hgo
  | succ m ih =>
    intro i σ W h1 h2 hP hS hD hE hW hc
    have h1 : i + ((m : Int) + 1) = 26 := by omega
    have hs := hS i h2 (by omega)
    have he := hE i (Int.le_refl i) (by omega)
    obtain ⟨n, hn⟩ : ∃ n : Int, ((vl i).length : Int) = n := ⟨_, rfl⟩
    have hl20 : (vl i).length ≤ 20 := hs.2.2.2.2.1
    have hsz := x_size (fb := fb) (d := d + 1) hP hs hn
    have had := x_addAll (fb := fb) (d := d + 1) (s := 0) (e := n) hP he hs (by omega) (Or.inr (Int.le_refl 0)) (by omega)
    rw [List.nil_append, show (n - 0).toNat = (vl i).length by omega, seg_lg, List.take_of_length_le hl20, show ([] : List Int).length = 0 from rfl, if_pos (by omega)] at had
    have hrq2 := rA_var (x := i) hq ⟨h2, by omega⟩
    have hrp2 := rA_var (x := i) hp ⟨h2, by omega⟩
    have hgo := fun (σ : hM) (W2 : qR) (hP : PX σ0 W2 R σ) (hB : BY W2 (prO q + 7 + 2 * i.toNat) 20 (vl i)) (hF : FB (prO q + 7 + 2 * i.toNat) W W2) => ih (i + 1) σ W2 (by omega) (by omega) hP (fun x x0 x1 => hF.by (hS x x0 x1) (by omega)) (fun x x0 x1 => by
      by_cases c : x = i
      · rw [c]; exact hB
      · exact hF.by (hD x x0 (by omega)) (by omega)) (fun x x0 x1 => hF.by (hE x (by omega) x1) (by omega)) (fun x k hx => (hF x k (by omega) (by omega)).trans (hW x k hx)) hc
    have hvo : tX (prO q + 7 + 2 * i.toNat) = some (Sum.inl 2) := he.1
    have hwo : tX (prO p + 7 + 2 * i.toNat) = some (Sum.inl 2) := hs.1
    obtain ⟨va, hva⟩ : ∃ va, prO q + 7 + 2 * i.toNat = va := ⟨_, rfl⟩
    obtain ⟨vb, hvb⟩ : ∃ vb, prO p + 7 + 2 * i.toNat = vb := ⟨_, rfl⟩
    obtain ⟨a, ha⟩ : ∃ a, prO q = a := ⟨_, rfl⟩
    obtain ⟨b, hb⟩ : ∃ b, prO p = b := ⟨_, rfl⟩
    simp only [hva] at hrq2 had hgo hvo
    simp only [hvb] at hrp2 had hsz hwo
    simp only [ha] at hqo hqA hrq2 hgo
    simp only [hb] at hpo hpA hrp2 hgo
    simp only [ha, hb]
    refine x_li (z := i) T_192_22 rfl ?_
    refine x_ic T_192_23 ?_
    refine x_ic2 T_192_25 (fun h => absurd (show 26 ≤ i from h) (by omega)) (fun _ => ?_)
    refine x_lr (z := some a) T_192_28 rfl ?_
    refine x_gR (z := some (a + 5)) T_192_29 F_6_3 (hP.o hqo) (hP.rc hqo rfl rfl) ?_
    refine x_li (z := i) T_192_32 rfl ?_
    refine x_alR (z := some va) T_192_33 (hP.ta hqA) (by decide) (by omega) (by omega) (hP.arc hqA rfl hrq2) ?_
    refine x_lr (z := some b) T_192_34 rfl ?_
    refine x_gR (z := some (b + 5)) T_192_35 F_6_3 (hP.o hpo) (hP.rc hpo rfl rfl) ?_
    refine x_li (z := i) T_192_38 rfl ?_
    refine x_alR (z := some vb) T_192_39 (hP.ta hpA) (by decide) (by omega) (by omega) (hP.arc hpA rfl hrp2) ?_
    refine x_ic T_192_40 ?_
    refine x_lr (z := some b) T_192_41 rfl ?_
    refine x_gR (z := some (b + 5)) T_192_42 F_6_3 (hP.o hpo) (hP.rc hpo rfl rfl) ?_
    refine x_li (z := i) T_192_45 rfl ?_
    refine x_alR (z := some vb) T_192_46 (hP.ta hpA) (by decide) (by omega) (by omega) (hP.arc hpA rfl hrp2) ?_
    refine x_cv1 T_192_47 mN_28 mL_28 (Nat.le_of_ble_eq_true rfl) mO_28 (hP.o hwo) (Nat.le_of_ble_eq_true rfl) (hsz) ?_
    rintro _ σ ⟨rfl, rfl⟩
    refine cI ?_
    refine x_cv4 T_192_50 mN_32 mL_32 (Nat.le_of_ble_eq_true rfl) mO_32 (hP.o hvo) (Nat.le_of_ble_eq_true rfl) (had) ?_
    clear hP had
    rintro _ σ ⟨rfl, V2, hP, hB2, hF2⟩
    refine cI ?_
    refine x_popI T_192_53 ?_
    refine x_inc (w := (i + 1)) (ls1 := [some (vR (some a)), some (vR (some b)), some (vI (i + 1))]) T_192_54 rfl (w32_id (by omega) (by omega)) rfl ?_
    refine x_goto T_192_57 ?_
    exact hgo σ V2 hP hB2 hF2
theorem x_follow (hP : PX σ0 W R σ) (hp : 0 ≤ p ∧ p < 8) (hq : 0 ≤ q ∧ q < 8) (hpq : p ≠ q) (hB1 : BY W (prO p + 1) 60 dl) (hB2 : BY W (prO q + 1) 60 dq) (hV1 : ∀ x : Int, 0 ≤ x → x < 26 → BY W (prO p + 7 + 2 * x.toNat) 20 (vl x)) (hV2 : ∀ x : Int, 0 ≤ x → x < 26 → BY W (prO q + 7 + 2 * x.toNat) 20 []) (hl : ¬ Q 2320 q = 0) (hm1 : ∀ k : Int, 0 ≤ k → k < 8 → Q 2327 (8 * q + k) = -1) (hop : ∀ k : Int, 0 ≤ k → k < 8 → R (prO p + 6) k = (if Q 2327 (8 * p + k) < 0 then none else some (1229 + (Q 2327 (8 * p + k)).toNat)) ∧ -1 ≤ Q 2327 (8 * p + k) ∧ Q 2327 (8 * p + k) ≤ 63) (hU : ∀ o : Int, 0 ≤ o → o < 64 → W (1229 + o.toNat) 2167 = qUsers Q o) : CL fb (d + 2) 192 [vR (some (prO q)), vR (some (prO p))] σ (fun r σ' => r = none ∧ ∃ W2 R2, PX σ0 W2 R2 σ' ∧ BY W2 (prO q + 1) 60 dl ∧ (∀ x : Int, 0 ≤ x → x < 26 → BY W2 (prO q + 7 + 2 * x.toNat) 20 (vl x)) ∧ (∀ k : Int, 0 ≤ k → k < 8 → R2 (prO q + 6) k = R (prO p + 6) k) ∧ (∀ (x : Nat) (k : Int), ¬ (x = prO q + 6 ∧ 0 ≤ k ∧ k < 8) → R2 x k = R x k) ∧ (∀ o : Int, 0 ≤ o → o < 64 → W2 (1229 + o.toNat) 2167 = qUsers (gFo2 Q p q) o) ∧ ∀ (x : Nat) (k : Int), ¬ (1229 ≤ x ∧ x < 1293 ∧ k = 2167) → ¬ (prO q + 7 ≤ x ∧ x < prO q + 59) → ¬ (prO q + 1 ≤ x ∧ x < prO q + 3) → W2 x k = W x k) := by
  have hqo := prO_o hq
  have hpo := prO_o hp
  have hrq := prO_rng hq
  have hrp := prO_rng hp
  have hdis : prO q + 59 ≤ prO p ∨ prO p + 59 ≤ prO q := by
    unfold prO
    rcases Nat.lt_trichotomy q.toNat p.toNat with c | c | c
    · exact Or.inl (by omega)
    · exact absurd (show p = q by omega) hpq
    · exact Or.inr (by omega)
  obtain ⟨n, hn⟩ : ∃ n : Int, (dl.length : Int) = n := ⟨_, rfl⟩
  have hl60 : dl.length ≤ 60 := hB1.2.2.2.2.1
  have hsz := x_size (fb := fb) (d := d + 1) hP hB1 hn
  have htk := x_take (fb := fb) (d := d) (s := 0) (e := n) hP hB2 hB1 (by omega) (Or.inr (Int.le_refl 0)) (by omega)
  rw [show (n - 0).toNat = dl.length by omega, seg_lg, List.take_of_length_le hl60, if_pos hl60] at htk
  have h22 := fun (σ : hM) (V : qR) (hP : PX σ0 V R σ) (hB : BY V (prO q + 1) 60 dl) (hF : FB (prO q + 1) W V) => (show WP fb (d + 2) 192 22 [some (vR (some (prO q))), some (vR (some (prO p))), some (vI 0)] [] σ (fun r σ' => r = none ∧ ∃ W2 R2, PX σ0 W2 R2 σ' ∧ BY W2 (prO q + 1) 60 dl ∧ (∀ x : Int, 0 ≤ x → x < 26 → BY W2 (prO q + 7 + 2 * x.toNat) 20 (vl x)) ∧ (∀ k : Int, 0 ≤ k → k < 8 → R2 (prO q + 6) k = R (prO p + 6) k) ∧ (∀ (x : Nat) (k : Int), ¬ (x = prO q + 6 ∧ 0 ≤ k ∧ k < 8) → R2 x k = R x k) ∧ (∀ o : Int, 0 ≤ o → o < 64 → W2 (1229 + o.toNat) 2167 = qUsers (gFo2 Q p q) o) ∧ ∀ (x : Nat) (k : Int), ¬ (1229 ≤ x ∧ x < 1293 ∧ k = 2167) → ¬ (prO q + 7 ≤ x ∧ x < prO q + 59) → ¬ (prO q + 1 ≤ x ∧ x < prO q + 3) → W2 x k = W x k) from by
    refine fol_vars (d := d) (W0 := V) hp hq hpq 26 0 σ V (by decide) (Int.le_refl 0) hP (fun x x0 x1 => hF.by (hV1 x x0 x1) (by omega)) (fun x x0 x1 => by omega) (fun x x0 x1 => hF.by (hV2 x x0 x1) (by omega)) (fun _ _ _ => rfl) (fun σ V2 hP hD hW2 => ?_)
    have hlo := fol_open (fb := fb) (d := d) (σ0 := σ0) (W0 := V2) (R0 := R) (Q := Q) (Qf := fun r σ' => r = none ∧ ∃ W2 R2, PX σ0 W2 R2 σ' ∧ BY W2 (prO q + 1) 60 dl ∧ (∀ x : Int, 0 ≤ x → x < 26 → BY W2 (prO q + 7 + 2 * x.toNat) 20 (vl x)) ∧ (∀ k : Int, 0 ≤ k → k < 8 → R2 (prO q + 6) k = R (prO p + 6) k) ∧ (∀ (x : Nat) (k : Int), ¬ (x = prO q + 6 ∧ 0 ≤ k ∧ k < 8) → R2 x k = R x k) ∧ (∀ o : Int, 0 ≤ o → o < 64 → W2 (1229 + o.toNat) 2167 = qUsers (gFo2 Q p q) o) ∧ ∀ (x : Nat) (k : Int), ¬ (1229 ≤ x ∧ x < 1293 ∧ k = 2167) → ¬ (prO q + 7 ≤ x ∧ x < prO q + 59) → ¬ (prO q + 1 ≤ x ∧ x < prO q + 3) → W2 x k = W x k) hp hq hpq hl hm1 hop 8 0 σ V2 R (by decide) (Int.le_refl 0) hP (fun k k0 k1 => by omega) (fun _ _ _ => rfl) (fun o o0 o1 => by
        rw [show seg (Q 2327) (8 * p) (0 : Int).toNat = [] from rfl, rW_nil, hW2 _ _ (by omega), hF _ _ (by omega) (by omega)]
        exact hU o o0 o1) (fun _ _ _ => rfl) (fun σ W9 R9 g1 g2 g3 g4 g5 => by
        have hw : ∀ (x : Nat) (k : Int), prO q ≤ x → x < prO q + 59 → W9 x k = V2 x k := fun x k a b => g5 x k (by omega)
        have hby : ∀ {b n : Nat} {l : List Int}, BY V2 b n l → prO q ≤ b → b + 1 < prO q + 59 → BY W9 b n l := fun {b n l} h h0 h1 => by
          obtain ⟨a1, a2, a3, a4, a5, a6, a7⟩ := h
          exact ⟨a1, a2, a3, (hw _ _ h0 (by omega)).trans a4, a5, a6, fun i i0 i1 => (hw _ _ (by omega) h1).trans (a7 i i0 i1)⟩
        have hBq : BY V2 (prO q + 1) 60 dl := by
          obtain ⟨a1, a2, a3, a4, a5, a6, a7⟩ := hB
          exact ⟨a1, a2, a3, (hW2 _ _ (by omega)).trans a4, a5, a6, fun i i0 i1 => (hW2 _ _ (by omega)).trans (a7 i i0 i1)⟩
        exact ⟨rfl, W9, R9, g1, hby hBq (by omega) (by omega), fun x x0 x1 => hby (hD x x0 x1) (by omega) (by omega), g2, g3, g4, fun x k c1 c2 c3 => (g5 x k c1).trans ((hW2 x k c2).trans (hF x k (by omega) (by omega)))⟩)
    obtain ⟨a, ha⟩ : ∃ a, prO q = a := ⟨_, rfl⟩
    obtain ⟨b, hb⟩ : ∃ b, prO p = b := ⟨_, rfl⟩
    rw [ha] at hqo
    rw [hb] at hpo
    simp only [ha, hb] at hlo ⊢
    refine x_ic T_192_60 ?_
    refine x_si (ls1 := [some (vR (some a)), some (vR (some b)), some (vI 0)]) T_192_61 rfl ?_
    exact hlo
    )
  obtain ⟨a, ha⟩ : ∃ a, prO q = a := ⟨_, rfl⟩
  obtain ⟨b, hb⟩ : ∃ b, prO p = b := ⟨_, rfl⟩
  have hq1 : tX (prO q + 1) = some (Sum.inl 2) := hB2.1
  have hp1 : tX (prO p + 1) = some (Sum.inl 2) := hB1.1
  rw [ha] at hqo htk hq1
  rw [hb] at hpo htk hsz hp1
  simp only [ha, hb] at h22 ⊢
  refine CL_in mL_192 rfl ?_
  show WP fb _ 192 0 [some (vR (some a)), some (vR (some b)), none] [] σ _
  refine x_lr (z := some a) T_192_0 rfl ?_
  refine x_gR (z := some (a + 1)) T_192_1 F_6_1 (hP.o hqo) (hP.rc hqo rfl rfl) ?_
  refine x_lr (z := some b) T_192_4 rfl ?_
  refine x_gR (z := some (b + 1)) T_192_5 F_6_1 (hP.o hpo) (hP.rc hpo rfl rfl) ?_
  refine x_ic T_192_8 ?_
  refine x_lr (z := some b) T_192_9 rfl ?_
  refine x_gR (z := some (b + 1)) T_192_10 F_6_1 (hP.o hpo) (hP.rc hpo rfl rfl) ?_
  refine x_cv1 T_192_13 mN_28 mL_28 (Nat.le_of_ble_eq_true rfl) mO_28 (hP.o hp1) (Nat.le_of_ble_eq_true rfl) (hsz) ?_
  rintro _ σ ⟨rfl, rfl⟩
  refine cI ?_
  refine x_cv4 T_192_16 mN_31 mL_31 (Nat.le_of_ble_eq_true rfl) mO_31 (hP.o hq1) (Nat.le_of_ble_eq_true rfl) (htk) ?_
  clear hP htk
  rintro _ σ ⟨rfl, V, hP, hB9, hF9⟩
  refine cI ?_
  refine x_popI T_192_19 ?_
  refine x_ic T_192_20 ?_
  refine x_si (ls1 := [some (vR (some a)), some (vR (some b)), some (vI 0)]) T_192_21 rfl ?_
  exact h22 σ V hP hB9 hF9
end XFK6
