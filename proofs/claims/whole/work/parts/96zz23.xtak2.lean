/-! The class's servers: behind a file that goes, the others move down. -/
theorem T_46_44 : hTab 46 44 = some ((3, 3, 0, []), 45) := rfl
theorem T_46_45 : hTab 46 45 = some ((3, 0, 2, []), 46) := rfl
theorem T_46_46 : hTab 46 46 = some ((24, 7, Int.ofNat 6, []), 49) := rfl
theorem T_46_49 : hTab 46 49 = some ((19, 3, Int.ofNat 83, []), 52) := rfl
theorem T_46_52 : hTab 46 52 = some ((3, 0, 2, []), 53) := rfl
theorem T_46_53 : hTab 46 53 = some ((24, 7, Int.ofNat 2, []), 56) := rfl
theorem T_46_56 : hTab 46 56 = some ((3, 3, 0, []), 57) := rfl
theorem T_46_57 : hTab 46 57 = some ((26, 10, 0, []), 58) := rfl
theorem T_46_58 : hTab 46 58 = some ((3, 1, 2, []), 59) := rfl
theorem T_46_59 : hTab 46 59 = some ((21, 0, Int.ofNat 77, []), 62) := rfl
theorem T_46_62 : hTab 46 62 = some ((3, 0, 2, []), 63) := rfl
theorem T_46_63 : hTab 46 63 = some ((24, 7, Int.ofNat 2, []), 66) := rfl
theorem T_46_66 : hTab 46 66 = some ((3, 2, 0, []), 67) := rfl
theorem T_46_67 : hTab 46 67 = some ((3, 0, 2, []), 68) := rfl
theorem T_46_68 : hTab 46 68 = some ((24, 7, Int.ofNat 2, []), 71) := rfl
theorem T_46_71 : hTab 46 71 = some ((3, 3, 0, []), 72) := rfl
theorem T_46_72 : hTab 46 72 = some ((26, 10, 0, []), 73) := rfl
theorem T_46_73 : hTab 46 73 = some ((27, 10, 0, []), 74) := rfl
theorem T_46_74 : hTab 46 74 = some ((5, 2, 1, []), 77) := rfl
theorem T_46_77 : hTab 46 77 = some ((5, 3, 1, []), 80) := rfl
theorem T_46_80 : hTab 46 80 = some ((22, 0, Int.ofNat 44, []), 83) := rfl
/-- the places from p on, up to before i, have what stood one place further -/
def mvR (R : rR) (S : Nat) (p i : Int) : rR := fun x k => if x = S + 1 ∧ p ≤ k ∧ k + 1 < i then R x (k + 1) else R x k
section XTAK2
variable {fb : Bool} {d S a b : Nat} {σ0 σ : hM} {W W0 W1 W2 P : qR} {R R2 : rR} {i j k x z v s e w c f u y n p T U C : Int} {l l2 ord : List Int} {t : Nat → Nat} {r : Option Nat}
theorem mvR_0 (hp : 0 ≤ p) : mvR R S p 0 = R := by
  funext x k
  exact if_neg (fun c => by omega)
theorem mvR_le (h : i ≤ p + 1) : mvR R S p i = R := by
  funext x k
  exact if_neg (fun c => by omega)
theorem mvR_at : mvR R S p i (S + 1) i = R (S + 1) i := if_neg (fun c => by omega)
theorem mvR_step (h : p < i) : oU (mvR R S p i) (S + 1) (i - 1) (R (S + 1) i) = mvR R S p (i + 1) := by
  funext x k
  unfold oU mvR
  by_cases q : x = S + 1 ∧ k = i - 1
  · rw [if_pos q, if_pos ⟨q.1, by omega, by omega⟩, q.1, q.2, show i - 1 + 1 = i by omega]
  · rw [if_neg q]
    by_cases q2 : x = S + 1 ∧ p ≤ k ∧ k + 1 < i
    · rw [if_pos q2, if_pos ⟨q2.1, q2.2.1, by omega⟩]
    · rw [if_neg q2, if_neg (fun c => q2 ⟨c.1, c.2.1, by
        have hne : k ≠ i - 1 := fun e => q ⟨c.1, e⟩
        omega⟩)]
theorem oU_self : oU R a k (R a k) = R := by
  funext x j
  unfold oU
  split
  · rename_i q
    rw [q.1, q.2]
  · rfl
theorem x_move_loop (hS : VS S s) (hcn : W S 2230 = C) (hC : C ≤ 64) (ht : ∀ i, i < 64 → t i < 64) (hinj : ∀ i j, i < 64 → j < 64 → t i = t j → i = j) (hN : ∀ i : Int, 0 ≤ i → i < 64 → R (S + 1) i = some (S + 6 + 3 * t i.toNat)) (hp : 0 ≤ p ∧ p < C) (hb : S + 6 + 3 * t p.toNat = b) {Q : Option AV → hM → Prop} (hQ : ∀ σ : hM, PX σ0 W (mvR R S p C) σ → WP fb d 46 83 [some (vR (some S)), some (vR (some b)), some (vI (C - 1)), some (vI C)] [] σ Q) : ∀ (m : Nat) (i j : Int) (σ : hM), i + m = C → 0 ≤ i → j = (if i ≤ p then i else i - 1) → PX σ0 W (mvR R S p i) σ → WP fb d 46 44 [some (vR (some S)), some (vR (some b)), some (vI j), some (vI i)] [] σ Q := by
  have hO := hS.o
  have hA := hS.an
  have hbo : tX b = some (Sum.inl 8) := by
    rw [← hb]
    exact hS.nd (ht _ (by omega))
  intro m
  induction m with
  | zero =>
    intro i j σ h1 h2 hj hP
    have h1 : i + ((0 : Nat) : Int) = C := h1
    have hi : i = C := by omega
    subst hi
    rw [if_neg (by omega)] at hj
    subst hj
    have hgo := hQ σ hP
    refine x_li (z := i) T_46_44 rfl ?_
    refine x_lr (z := some S) T_46_45 rfl ?_
    refine x_gI (z := i) T_46_46 (Or.inl F_7_6) (hP.o hO) (Eq.trans (hP.gi hO (key := 2230) rfl) hcn) ?_
    refine x_ic2 T_46_49 (fun _ => ?_) (fun h => absurd (show i ≤ i by omega) h)
    exact hgo
  | succ m ih =>
    intro i j σ h1 h2 hj hP
    have hgo := fun j (σ : hM) => ih (i + 1) j σ (by omega) (by omega)
    have hni := hN i h2 (by omega)
    have hat := (mvR_at (R := R) (S := S) (p := p) (i := i)).trans hni
    have hno := hS.nd (j := t i.toNat) (ht _ (by omega))
    have hst := mvR_step (R := R) (S := S) (p := p) (i := i)
    rw [hni] at hst
    have hne : i ≠ p → S + 6 + 3 * t i.toNat ≠ b := fun q e => q (by
      have := hinj i.toNat p.toNat (by omega) (by omega) (by omega)
      omega)
    have heq : i = p → S + 6 + 3 * t i.toNat = b := fun q => by rw [q]; exact hb
    obtain ⟨na, hna⟩ : ∃ na, S + 6 + 3 * t i.toNat = na := ⟨_, rfl⟩
    rw [hna] at hni hat hno hst hne heq
    by_cases q : i = p
    · have hnb := heq q
      subst hnb
      have hgo := hgo j σ (by rw [if_neg (by omega)]; rw [if_pos (by omega)] at hj; omega) (by rw [mvR_le (by omega)]; rw [mvR_le (by omega)] at hP; exact hP)
      refine x_li (z := i) T_46_44 rfl ?_
      refine x_lr (z := some S) T_46_45 rfl ?_
      refine x_gI (z := C) T_46_46 (Or.inl F_7_6) (hP.o hO) (Eq.trans (hP.gi hO (key := 2230) rfl) hcn) ?_
      refine x_ic2 T_46_49 (fun h => absurd (show C ≤ i from h) (by omega)) (fun _ => ?_)
      refine x_lr (z := some S) T_46_52 rfl ?_
      refine x_gR (z := some (S + 1)) T_46_53 F_7_2 (hP.o hO) (hP.rc hO rfl rfl) ?_
      refine x_li (z := i) T_46_56 rfl ?_
      refine x_alR (z := some na) T_46_57 (hP.ta hA) (by decide) (by omega) (by omega) (Eq.trans (hP.arm hA rfl (by omega)) hat) ?_
      refine x_lr (z := some na) T_46_58 rfl ?_
      refine x_aeq T_46_59 (tX_o hno).1 (tX_o hno).1 (fun _ => ?_) (fun h0 => absurd h0 (by exact fun c => c rfl))
      refine x_inc (w := (i + 1)) (ls1 := [some (vR (some S)), some (vR (some na)), some (vI j), some (vI (i + 1))]) T_46_77 rfl (w32_id (by omega) (by omega)) rfl ?_
      refine x_goto T_46_80 ?_
      exact hgo
    · have hnb := hne q
      have hput : oU (mvR R S p i) (S + 1) j (some na) = mvR R S p (i + 1) := by
        by_cases q2 : i ≤ p
        · rw [if_pos q2] at hj
          rw [hj, mvR_le (by omega), mvR_le (by omega), ← hni]
          exact oU_self
        · rw [if_neg q2] at hj
          rw [hj]
          exact hst (by omega)
      have hgo := fun (σ : hM) (hP : PX σ0 W (oU (mvR R S p i) (S + 1) j (some na)) σ) => hgo (j + 1) σ (by split at hj <;> split <;> omega) (by rw [← hput]; exact hP)
      have hj0 : 0 ≤ j ∧ j < 64 := by split at hj <;> omega
      refine x_li (z := i) T_46_44 rfl ?_
      refine x_lr (z := some S) T_46_45 rfl ?_
      refine x_gI (z := C) T_46_46 (Or.inl F_7_6) (hP.o hO) (Eq.trans (hP.gi hO (key := 2230) rfl) hcn) ?_
      refine x_ic2 T_46_49 (fun h => absurd (show C ≤ i from h) (by omega)) (fun _ => ?_)
      refine x_lr (z := some S) T_46_52 rfl ?_
      refine x_gR (z := some (S + 1)) T_46_53 F_7_2 (hP.o hO) (hP.rc hO rfl rfl) ?_
      refine x_li (z := i) T_46_56 rfl ?_
      refine x_alR (z := some na) T_46_57 (hP.ta hA) (by decide) (by omega) (by omega) (Eq.trans (hP.arm hA rfl (by omega)) hat) ?_
      refine x_lr (z := some b) T_46_58 rfl ?_
      refine x_aeq T_46_59 (tX_o hbo).1 (tX_o hno).1 (fun h0 => absurd h0 (by exact fun c => hnb (Option.some.inj c))) (fun _ => ?_)
      refine x_lr (z := some S) T_46_62 rfl ?_
      refine x_gR (z := some (S + 1)) T_46_63 F_7_2 (hP.o hO) (hP.rc hO rfl rfl) ?_
      refine x_li (z := j) T_46_66 rfl ?_
      refine x_lr (z := some S) T_46_67 rfl ?_
      refine x_gR (z := some (S + 1)) T_46_68 F_7_2 (hP.o hO) (hP.rc hO rfl rfl) ?_
      refine x_li (z := i) T_46_71 rfl ?_
      refine x_alR (z := some na) T_46_72 (hP.ta hA) (by decide) (by omega) (by omega) (Eq.trans (hP.arm hA rfl (by omega)) hat) ?_
      refine z_aR hP T_46_73 (by decide) (fun _ e => by cases e; exact hno) rfl hA (by omega) (by omega) (fun σ hP => ?_)
      refine x_inc (w := (j + 1)) (ls1 := [some (vR (some S)), some (vR (some b)), some (vI (j + 1)), some (vI i)]) T_46_74 rfl (w32_id (by omega) (by omega)) rfl ?_
      refine x_inc (w := (i + 1)) (ls1 := [some (vR (some S)), some (vR (some b)), some (vI (j + 1)), some (vI (i + 1))]) T_46_77 rfl (w32_id (by omega) (by omega)) rfl ?_
      refine x_goto T_46_80 ?_
      exact hgo σ hP
end XTAK2
