/-! The class's servers: a file goes; fids that stood there stand nowhere. -/
theorem T_46_2 : hTab 46 2 = some ((3, 2, 0, []), 3) := rfl
theorem T_46_3 : hTab 46 3 = some ((3, 0, 2, []), 4) := rfl
theorem T_46_4 : hTab 46 4 = some ((24, 7, Int.ofNat 3, []), 7) := rfl
theorem T_46_7 : hTab 46 7 = some ((28, 0, 0, []), 8) := rfl
theorem T_46_8 : hTab 46 8 = some ((19, 3, Int.ofNat 40, []), 11) := rfl
theorem T_46_11 : hTab 46 11 = some ((3, 0, 2, []), 12) := rfl
theorem T_46_12 : hTab 46 12 = some ((24, 7, Int.ofNat 3, []), 15) := rfl
theorem T_46_15 : hTab 46 15 = some ((3, 2, 0, []), 16) := rfl
theorem T_46_16 : hTab 46 16 = some ((26, 10, 0, []), 17) := rfl
theorem T_46_17 : hTab 46 17 = some ((24, 9, Int.ofNat 3, []), 20) := rfl
theorem T_46_20 : hTab 46 20 = some ((3, 1, 2, []), 21) := rfl
theorem T_46_21 : hTab 46 21 = some ((21, 1, Int.ofNat 34, []), 24) := rfl
theorem T_46_24 : hTab 46 24 = some ((3, 0, 2, []), 25) := rfl
theorem T_46_25 : hTab 46 25 = some ((24, 7, Int.ofNat 3, []), 28) := rfl
theorem T_46_28 : hTab 46 28 = some ((3, 2, 0, []), 29) := rfl
theorem T_46_29 : hTab 46 29 = some ((26, 10, 0, []), 30) := rfl
theorem T_46_30 : hTab 46 30 = some ((2, 0, 0, []), 31) := rfl
theorem T_46_31 : hTab 46 31 = some ((25, 9, Int.ofNat 3, []), 34) := rfl
theorem T_46_34 : hTab 46 34 = some ((5, 2, 1, []), 37) := rfl
theorem T_46_37 : hTab 46 37 = some ((22, 0, Int.ofNat 2, []), 40) := rfl
theorem mN_46 : hmN 46 = 2 := by decide +kernel
theorem mL_46 : hmL 46 = 4 := by decide +kernel
theorem mK_46 : hmK 46 = 1 := by decide +kernel
theorem mO_46 : hmO 46 = 7 := by decide +kernel
/-- references of the first i fids, without those to b -/
def gnR (R : rR) (S b i : Nat) : rR := fun x k => if k = 2291 ∧ (S + 198 ≤ x ∧ x < S + 198 + i) ∧ R x k = some b then none else R x k
section XTAK
variable {fb : Bool} {d S a b : Nat} {σ0 σ : hM} {W W0 W1 W2 P : qR} {R R2 : rR} {i k x z v s e w c f u y n p T U : Int} {l l2 ord : List Int} {t : Nat → Nat} {r : Option Nat}
theorem gnR_0 : gnR R S b 0 = R := by
  funext x k
  exact if_neg (fun c => by omega)
theorem gnR_at {i : Nat} : gnR R S b i (S + 198 + i) 2291 = R (S + 198 + i) 2291 := if_neg (fun c => by omega)
theorem gnR_y {i : Nat} (h : R (S + 198 + i) 2291 = some b) : oU (gnR R S b i) (S + 198 + i) 2291 none = gnR R S b (i + 1) := by
  funext x k
  unfold oU gnR
  by_cases q : x = S + 198 + i ∧ k = 2291
  · obtain ⟨rfl, rfl⟩ := q
    rw [if_pos ⟨rfl, rfl⟩, if_pos ⟨rfl, ⟨by omega, by omega⟩, h⟩]
  · rw [if_neg q]
    by_cases q2 : k = 2291 ∧ (S + 198 ≤ x ∧ x < S + 198 + i) ∧ R x k = some b
    · rw [if_pos q2, if_pos ⟨q2.1, ⟨q2.2.1.1, by omega⟩, q2.2.2⟩]
    · rw [if_neg q2, if_neg (fun c => q2 ⟨c.1, ⟨c.2.1.1, by
        have := c.2.1.2
        have hne : x ≠ S + 198 + i := fun e => q ⟨e, c.1⟩
        omega⟩, c.2.2⟩)]
theorem gnR_n {i : Nat} (h : R (S + 198 + i) 2291 ≠ some b) : gnR R S b i = gnR R S b (i + 1) := by
  funext x k
  unfold gnR
  by_cases q2 : k = 2291 ∧ (S + 198 ≤ x ∧ x < S + 198 + i) ∧ R x k = some b
  · rw [if_pos q2, if_pos ⟨q2.1, ⟨q2.2.1.1, by omega⟩, q2.2.2⟩]
  · rw [if_neg q2, if_neg (fun c => by
      by_cases e : x = S + 198 + i
      · rw [e, c.1] at c
        exact h c.2.2
      · exact q2 ⟨c.1, ⟨c.2.1.1, by omega⟩, c.2.2⟩)]
theorem x_gone_loop (hS : VS S s) (hb : tX b = some (Sum.inl 8)) (hg : ∀ i : Int, 0 ≤ i → i < 96 → ∀ b2, R (S + 198 + i.toNat) 2291 = some b2 → 128 ≤ b2) {Q : Option AV → hM → Prop} (hQ : ∀ σ : hM, PX σ0 W (gnR R S b 96) σ → WP fb d 46 40 [some (vR (some S)), some (vR (some b)), some (vI 96), none] [] σ Q) : ∀ (m : Nat) (i : Int) (σ : hM), i + m = 96 → 0 ≤ i → PX σ0 W (gnR R S b i.toNat) σ → WP fb d 46 2 [some (vR (some S)), some (vR (some b)), some (vI i), none] [] σ Q := by
  have hO := hS.o
  have hA := hS.af
  intro m
  induction m with
  | zero =>
    intro i σ h1 h2 hP
    have hi : i = 96 := by omega
    subst hi
    have hgo := hQ σ hP
    refine x_li (z := 96) T_46_2 rfl ?_
    refine x_lr (z := some S) T_46_3 rfl ?_
    refine x_gR (z := some (S + 2)) T_46_4 F_7_3 (hP.o hO) (hP.rc hO rfl rfl) ?_
    refine x_len T_46_7 (hP.ta hA) ?_
    refine x_ic2 T_46_8 (fun _ => ?_) (fun h => absurd (show 96 ≤ (96 : Int) by decide) h)
    exact hgo
  | succ m ih =>
    intro i σ h1 h2 hP
    have hf := hS.fd (i := i) ⟨by omega, by omega⟩
    have ha := hS.fa (i := i) ⟨by omega, by omega⟩
    have hat := gnR_at (R := R) (S := S) (b := b) (i := i.toNat)
    have hy := gnR_y (R := R) (S := S) (b := b) (i := i.toNat)
    have hn := gnR_n (R := R) (S := S) (b := b) (i := i.toNat)
    have hg0 := hg i h2 (by omega)
    rw [show i.toNat + 1 = (i + 1).toNat by omega] at hy hn
    have hgo := fun (σ : hM) => ih (i + 1) σ (by omega) (by omega)
    obtain ⟨fo, hfo⟩ : ∃ fo, S + 198 + i.toNat = fo := ⟨_, rfl⟩
    rw [hfo] at hf ha hat hy hn hg0
    obtain ⟨r, hr⟩ : ∃ r, R fo 2291 = r := ⟨_, rfl⟩
    rw [hr] at hat hy hn hg0
    have hge : hK ≤ r.getD hK := by
      cases r with
      | none => exact Nat.le_refl _
      | some b2 => exact hg0 b2 rfl
    obtain ⟨R1, hR1⟩ : ∃ R1, gnR R S b i.toNat = R1 := ⟨_, rfl⟩
    rw [hR1] at hat hy hn hP
    by_cases q : r = some b
    · subst q
      have hgo := fun (σ : hM) (hP : PX σ0 W (oU R1 fo 2291 none) σ) => hgo σ (by rw [← hy rfl]; exact hP)
      refine x_li (z := i) T_46_2 rfl ?_
      refine x_lr (z := some S) T_46_3 rfl ?_
      refine x_gR (z := some (S + 2)) T_46_4 F_7_3 (hP.o hO) (hP.rc hO rfl rfl) ?_
      refine x_len T_46_7 (hP.ta hA) ?_
      refine x_ic2 T_46_8 (fun h => absurd (show 96 ≤ i from h) (by omega)) (fun _ => ?_)
      refine x_lr (z := some S) T_46_11 rfl ?_
      refine x_gR (z := some (S + 2)) T_46_12 F_7_3 (hP.o hO) (hP.rc hO rfl rfl) ?_
      refine x_li (z := i) T_46_15 rfl ?_
      refine x_alR (z := some fo) T_46_16 (hP.ta hA) (by decide) (by omega) (by omega) (hP.arc hA rfl ha) ?_
      refine x_gR (z := some b) T_46_17 F_9_3 (hP.o hf) (Eq.trans (hP.rm hf rfl (key := 2291) rfl) hat) ?_
      refine x_lr (z := some b) T_46_20 rfl ?_
      refine x_ane T_46_21 (tX_o hb).1 (tX_o hb).1 (fun h0 => absurd h0 (by exact fun c => c rfl)) (fun _ => ?_)
      refine x_lr (z := some S) T_46_24 rfl ?_
      refine x_gR (z := some (S + 2)) T_46_25 F_7_3 (hP.o hO) (hP.rc hO rfl rfl) ?_
      refine x_li (z := i) T_46_28 rfl ?_
      refine x_alR (z := some fo) T_46_29 (hP.ta hA) (by decide) (by omega) (by omega) (hP.arc hA rfl ha) ?_
      refine x_nu T_46_30 ?_
      refine z_pR hP T_46_31 F_9_3 rfl hf (key := 2291) rfl (fun σ hP => ?_)
      refine x_inc (w := (i + 1)) (ls1 := [some (vR (some S)), some (vR (some b)), some (vI (i + 1)), none]) T_46_34 rfl (w32_id (by omega) (by omega)) rfl ?_
      refine x_goto T_46_37 ?_
      exact hgo σ hP
    · have hgo := hgo σ (by rw [← hn q]; exact hP)
      refine x_li (z := i) T_46_2 rfl ?_
      refine x_lr (z := some S) T_46_3 rfl ?_
      refine x_gR (z := some (S + 2)) T_46_4 F_7_3 (hP.o hO) (hP.rc hO rfl rfl) ?_
      refine x_len T_46_7 (hP.ta hA) ?_
      refine x_ic2 T_46_8 (fun h => absurd (show 96 ≤ i from h) (by omega)) (fun _ => ?_)
      refine x_lr (z := some S) T_46_11 rfl ?_
      refine x_gR (z := some (S + 2)) T_46_12 F_7_3 (hP.o hO) (hP.rc hO rfl rfl) ?_
      refine x_li (z := i) T_46_15 rfl ?_
      refine x_alR (z := some fo) T_46_16 (hP.ta hA) (by decide) (by omega) (by omega) (hP.arc hA rfl ha) ?_
      refine x_gR (z := r) T_46_17 F_9_3 (hP.o hf) (Eq.trans (hP.rm hf rfl (key := 2291) rfl) hat) ?_
      refine x_lr (z := some b) T_46_20 rfl ?_
      refine x_ane T_46_21 (tX_o hb).1 hge (fun _ => ?_) (fun h0 => absurd h0 (by exact q))
      refine x_inc (w := (i + 1)) (ls1 := [some (vR (some S)), some (vR (some b)), some (vI (i + 1)), none]) T_46_34 rfl (w32_id (by omega) (by omega)) rfl ?_
      refine x_goto T_46_37 ?_
      exact hgo
end XTAK
