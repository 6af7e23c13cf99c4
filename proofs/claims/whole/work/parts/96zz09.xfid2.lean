/-! The class's servers: fids counted, the least number that is not used. -/
theorem T_34_0 : hTab 34 0 = some ((3, 1, 0, []), 1) := rfl
theorem T_34_1 : hTab 34 1 = some ((18, 1, Int.ofNat 13, []), 4) := rfl
theorem T_34_4 : hTab 34 4 = some ((3, 0, 2, []), 5) := rfl
theorem T_34_5 : hTab 34 5 = some ((24, 7, Int.ofNat 4, []), 8) := rfl
theorem T_34_8 : hTab 34 8 = some ((0, 0, 0, []), 9) := rfl
theorem T_34_9 : hTab 34 9 = some ((26, 0, 0, []), 10) := rfl
theorem T_34_10 : hTab 34 10 = some ((22, 0, Int.ofNat 19, []), 13) := rfl
theorem T_34_13 : hTab 34 13 = some ((3, 0, 2, []), 14) := rfl
theorem T_34_14 : hTab 34 14 = some ((24, 7, Int.ofNat 4, []), 17) := rfl
theorem T_34_17 : hTab 34 17 = some ((0, 0, 1, []), 18) := rfl
theorem T_34_18 : hTab 34 18 = some ((26, 0, 0, []), 19) := rfl
theorem T_34_19 : hTab 34 19 = some ((33, 1, 0, []), 20) := rfl
theorem T_124_0 : hTab 124 0 = some ((1, 0, 0, []), 1) := rfl
theorem T_124_1 : hTab 124 1 = some ((4, 1, 1, []), 2) := rfl
theorem T_124_2 : hTab 124 2 = some ((0, 0, 0, []), 3) := rfl
theorem T_124_3 : hTab 124 3 = some ((4, 3, 0, []), 4) := rfl
theorem T_124_4 : hTab 124 4 = some ((3, 3, 0, []), 5) := rfl
theorem T_124_5 : hTab 124 5 = some ((0, 0, 48, []), 7) := rfl
theorem T_124_7 : hTab 124 7 = some ((19, 3, Int.ofNat 43, []), 10) := rfl
theorem T_124_10 : hTab 124 10 = some ((3, 0, 2, []), 11) := rfl
theorem T_124_11 : hTab 124 11 = some ((24, 7, Int.ofNat 3, []), 14) := rfl
theorem T_124_14 : hTab 124 14 = some ((3, 3, 0, []), 15) := rfl
theorem T_124_15 : hTab 124 15 = some ((26, 10, 0, []), 16) := rfl
theorem T_124_16 : hTab 124 16 = some ((24, 9, Int.ofNat 0, []), 19) := rfl
theorem T_124_19 : hTab 124 19 = some ((18, 0, Int.ofNat 37, []), 22) := rfl
theorem T_124_22 : hTab 124 22 = some ((3, 1, 1, []), 23) := rfl
theorem T_124_23 : hTab 124 23 = some ((1, 0, 1, []), 24) := rfl
theorem T_124_24 : hTab 124 24 = some ((3, 0, 2, []), 25) := rfl
theorem T_124_25 : hTab 124 25 = some ((24, 7, Int.ofNat 3, []), 28) := rfl
theorem T_124_28 : hTab 124 28 = some ((3, 3, 0, []), 29) := rfl
theorem T_124_29 : hTab 124 29 = some ((26, 10, 0, []), 30) := rfl
theorem T_124_30 : hTab 124 30 = some ((24, 9, Int.ofNat 1, []), 33) := rfl
theorem T_124_33 : hTab 124 33 = some ((15, 0, 0, []), 34) := rfl
theorem T_124_34 : hTab 124 34 = some ((12, 0, 0, []), 35) := rfl
theorem T_124_35 : hTab 124 35 = some ((11, 6, 0, []), 36) := rfl
theorem T_124_36 : hTab 124 36 = some ((4, 1, 1, []), 37) := rfl
theorem T_124_37 : hTab 124 37 = some ((5, 3, 1, []), 40) := rfl
theorem T_124_40 : hTab 124 40 = some ((22, 0, Int.ofNat 4, []), 43) := rfl
theorem T_124_43 : hTab 124 43 = some ((0, 0, 0, []), 44) := rfl
theorem T_124_44 : hTab 124 44 = some ((4, 3, 0, []), 45) := rfl
theorem T_124_45 : hTab 124 45 = some ((3, 3, 0, []), 46) := rfl
theorem T_124_46 : hTab 124 46 = some ((0, 0, 48, []), 48) := rfl
theorem T_124_48 : hTab 124 48 = some ((19, 3, Int.ofNat 69, []), 51) := rfl
theorem T_124_51 : hTab 124 51 = some ((3, 1, 1, []), 52) := rfl
theorem T_124_52 : hTab 124 52 = some ((3, 3, 0, []), 53) := rfl
theorem T_124_53 : hTab 124 53 = some ((12, 1, 0, []), 54) := rfl
theorem T_124_54 : hTab 124 54 = some ((1, 0, 1, []), 55) := rfl
theorem T_124_55 : hTab 124 55 = some ((11, 5, 0, []), 56) := rfl
theorem T_124_56 : hTab 124 56 = some ((1, 0, 0, []), 57) := rfl
theorem T_124_57 : hTab 124 57 = some ((17, 0, 0, []), 58) := rfl
theorem T_124_58 : hTab 124 58 = some ((18, 1, Int.ofNat 63, []), 61) := rfl
theorem T_124_61 : hTab 124 61 = some ((3, 3, 0, []), 62) := rfl
theorem T_124_62 : hTab 124 62 = some ((33, 1, 0, []), 63) := rfl
theorem T_124_63 : hTab 124 63 = some ((5, 3, 1, []), 66) := rfl
theorem T_124_66 : hTab 124 66 = some ((22, 0, Int.ofNat 45, []), 69) := rfl
theorem T_124_69 : hTab 124 69 = some ((0, 0, (-1), []), 70) := rfl
theorem T_124_70 : hTab 124 70 = some ((33, 1, 0, []), 71) := rfl
theorem T_225_0 : hTab 225 0 = some ((0, 0, 0, []), 1) := rfl
theorem T_225_1 : hTab 225 1 = some ((4, 2, 0, []), 2) := rfl
theorem T_225_2 : hTab 225 2 = some ((3, 1, 0, []), 3) := rfl
theorem T_225_3 : hTab 225 3 = some ((0, 0, 48, []), 5) := rfl
theorem T_225_5 : hTab 225 5 = some ((10, 2, 0, []), 6) := rfl
theorem T_225_6 : hTab 225 6 = some ((4, 3, 0, []), 7) := rfl
theorem T_225_7 : hTab 225 7 = some ((3, 3, 0, []), 8) := rfl
theorem T_225_8 : hTab 225 8 = some ((3, 1, 0, []), 9) := rfl
theorem T_225_9 : hTab 225 9 = some ((0, 0, 1, []), 10) := rfl
theorem T_225_10 : hTab 225 10 = some ((10, 0, 0, []), 11) := rfl
theorem T_225_11 : hTab 225 11 = some ((0, 0, 48, []), 13) := rfl
theorem T_225_13 : hTab 225 13 = some ((10, 2, 0, []), 14) := rfl
theorem T_225_14 : hTab 225 14 = some ((19, 3, Int.ofNat 51, []), 17) := rfl
theorem T_225_17 : hTab 225 17 = some ((3, 3, 0, []), 18) := rfl
theorem T_225_18 : hTab 225 18 = some ((18, 2, Int.ofNat 45, []), 21) := rfl
theorem T_225_21 : hTab 225 21 = some ((3, 3, 0, []), 22) := rfl
theorem T_225_22 : hTab 225 22 = some ((3, 0, 2, []), 23) := rfl
theorem T_225_23 : hTab 225 23 = some ((24, 7, Int.ofNat 3, []), 26) := rfl
theorem T_225_26 : hTab 225 26 = some ((28, 0, 0, []), 27) := rfl
theorem T_225_27 : hTab 225 27 = some ((19, 3, Int.ofNat 45, []), 30) := rfl
theorem T_225_30 : hTab 225 30 = some ((3, 0, 2, []), 31) := rfl
theorem T_225_31 : hTab 225 31 = some ((24, 7, Int.ofNat 3, []), 34) := rfl
theorem T_225_34 : hTab 225 34 = some ((3, 3, 0, []), 35) := rfl
theorem T_225_35 : hTab 225 35 = some ((26, 10, 0, []), 36) := rfl
theorem T_225_36 : hTab 225 36 = some ((24, 9, Int.ofNat 0, []), 39) := rfl
theorem T_225_39 : hTab 225 39 = some ((18, 0, Int.ofNat 45, []), 42) := rfl
theorem T_225_42 : hTab 225 42 = some ((5, 2, 1, []), 45) := rfl
theorem T_225_45 : hTab 225 45 = some ((5, 3, 1, []), 48) := rfl
theorem T_225_48 : hTab 225 48 = some ((22, 0, Int.ofNat 7, []), 51) := rfl
theorem T_225_51 : hTab 225 51 = some ((3, 2, 0, []), 52) := rfl
theorem T_225_52 : hTab 225 52 = some ((33, 1, 0, []), 53) := rfl
theorem F_7_4 : (hFd 7 4).2.2.1 = 4 := rfl
theorem mN_34 : hmN 34 = 2 := by decide +kernel
theorem mL_34 : hmL 34 = 2 := by decide +kernel
theorem mK_34 : hmK 34 = 1 := by decide +kernel
theorem mO_34 : hmO 34 = 7 := by decide +kernel
theorem mN_124 : hmN 124 = 1 := by decide +kernel
theorem mL_124 : hmL 124 = 4 := by decide +kernel
theorem mK_124 : hmK 124 = 1 := by decide +kernel
theorem mO_124 : hmO 124 = 7 := by decide +kernel
theorem mN_225 : hmN 225 = 2 := by decide +kernel
theorem mL_225 : hmL 225 = 4 := by decide +kernel
theorem mK_225 : hmK 225 = 1 := by decide +kernel
theorem mO_225 : hmO 225 = 7 := by decide +kernel
/-- whether a kernel's fid of the first k has a number -/
def hasN (P : qR) (s : Int) (n : Int) : Nat → Prop
  | 0 => False
  | k + 1 => hasN P s n k ∨ (¬ P 2304 (96 * s + (k : Int)) = 0 ∧ P 2305 (96 * s + (k : Int)) = n)
section XFID2
variable {fb : Bool} {d S : Nat} {σ0 σ : hM} {W W0 W1 W2 P : qR} {R : rR} {i k x z v s e w c f T U : Int}
theorem x_count_loop (hP : PX σ0 W R σ) (hS : VS S s) (hF : FU W P S s) (hc : c = 0 ∨ c = 1) : ∀ (m : Nat) (i v : Int), i + m = 48 * c + 48 → 48 * c ≤ i → 0 ≤ v → v ≤ i → WP fb d 225 7 [some (vR (some S)), some (vI c), some (vI v), some (vI i)] [] σ (rP (coFid P m (96 * s + i) v) σ) := by
  have hO := hS.o
  have hA := hS.af
  intro m
  induction m with
  | zero =>
    intro i v h1 h2 h3 h4
    have h1 : i + ((0 : Nat) : Int) = 48 * c + 48 := h1
    rw [show coFid P 0 (96 * s + i) v = v from rfl]
    refine x_li (z := i) T_225_7 rfl ?_
    refine x_li (z := c) T_225_8 rfl ?_
    refine x_ic T_225_9 ?_
    refine x_ib (w := (c + 1)) T_225_10 (fun h => absurd h.1 (by decide)) (w32_id (by omega) (by omega)) ?_
    refine x_ic T_225_11 ?_
    refine x_ib (w := ((c + 1) * 48)) T_225_13 (fun h => absurd h.1 (by decide)) (w32_id (by omega) (by omega)) ?_
    refine x_ic2 T_225_14 (fun _ => ?_) (fun h => absurd (show ((c + 1) * 48) ≤ i by omega) h)
    refine x_li (z := v) T_225_51 rfl ?_
    refine x_ri T_225_52 ?_
    exact ⟨rfl, rfl⟩
  | succ m ih =>
    intro i v h1 h2 h3 h4
    have hgo := fun v h3 h4 => ih (i + 1) v (by omega) (by omega) h3 h4
    rw [show 96 * s + (i + 1) = 96 * s + i + 1 by omega] at hgo
    have ef : coFid P (m + 1) (96 * s + i) v = coFid P m (96 * s + i + 1) (if P 2304 (96 * s + i) = 0 then v else v + 1) := rfl
    rw [ef]
    have e1 := (hF i (by omega) (by omega)).1
    have hf := hS.fd (i := i) ⟨by omega, by omega⟩
    have ha := hS.fa (i := i) ⟨by omega, by omega⟩
    obtain ⟨y, hy⟩ : ∃ y, P 2304 (96 * s + i) = y := ⟨_, rfl⟩
    rw [hy] at e1 ⊢
    by_cases q1 : y = 0
    · rw [if_pos q1]
      have hgo := hgo v h3 (by omega)
      refine x_li (z := i) T_225_7 rfl ?_
      refine x_li (z := c) T_225_8 rfl ?_
      refine x_ic T_225_9 ?_
      refine x_ib (w := (c + 1)) T_225_10 (fun h => absurd h.1 (by decide)) (w32_id (by omega) (by omega)) ?_
      refine x_ic T_225_11 ?_
      refine x_ib (w := ((c + 1) * 48)) T_225_13 (fun h => absurd h.1 (by decide)) (w32_id (by omega) (by omega)) ?_
      refine x_ic2 T_225_14 (fun h => absurd (show ((c + 1) * 48) ≤ i from h) (by omega)) (fun _ => ?_)
      refine x_li (z := i) T_225_17 rfl ?_
      refine x_if T_225_18 (fun h => absurd (show i < 0 from h) (by omega)) (fun _ => ?_)
      refine x_li (z := i) T_225_21 rfl ?_
      refine x_lr (z := some S) T_225_22 rfl ?_
      refine x_gR (z := some (S + 2)) T_225_23 F_7_3 (hP.o hO) (hP.rc hO rfl rfl) ?_
      refine x_len T_225_26 (hP.ta hA) ?_
      refine x_ic2 T_225_27 (fun h => absurd (show 96 ≤ i from h) (by omega)) (fun _ => ?_)
      refine x_lr (z := some S) T_225_30 rfl ?_
      refine x_gR (z := some (S + 2)) T_225_31 F_7_3 (hP.o hO) (hP.rc hO rfl rfl) ?_
      refine x_li (z := i) T_225_34 rfl ?_
      refine x_alR (z := some (S + 198 + i.toNat)) T_225_35 (hP.ta hA) (by decide) (by omega) (by omega) (hP.arc hA rfl ha) ?_
      refine x_gI (z := y) T_225_36 (Or.inr (Or.inl F_9_0)) (hP.o hf) (Eq.trans (hP.gi hf (key := 2288) rfl) e1) ?_
      refine x_if T_225_39 (fun _ => ?_) (fun h => absurd (show y = 0 by omega) h)
      refine x_inc (w := (i + 1)) (ls1 := [some (vR (some S)), some (vI c), some (vI v), some (vI (i + 1))]) T_225_45 rfl (w32_id (by omega) (by omega)) rfl ?_
      refine x_goto T_225_48 ?_
      exact hgo
    · rw [if_neg q1]
      have hgo := hgo (v + 1) (by omega) (by omega)
      refine x_li (z := i) T_225_7 rfl ?_
      refine x_li (z := c) T_225_8 rfl ?_
      refine x_ic T_225_9 ?_
      refine x_ib (w := (c + 1)) T_225_10 (fun h => absurd h.1 (by decide)) (w32_id (by omega) (by omega)) ?_
      refine x_ic T_225_11 ?_
      refine x_ib (w := ((c + 1) * 48)) T_225_13 (fun h => absurd h.1 (by decide)) (w32_id (by omega) (by omega)) ?_
      refine x_ic2 T_225_14 (fun h => absurd (show ((c + 1) * 48) ≤ i from h) (by omega)) (fun _ => ?_)
      refine x_li (z := i) T_225_17 rfl ?_
      refine x_if T_225_18 (fun h => absurd (show i < 0 from h) (by omega)) (fun _ => ?_)
      refine x_li (z := i) T_225_21 rfl ?_
      refine x_lr (z := some S) T_225_22 rfl ?_
      refine x_gR (z := some (S + 2)) T_225_23 F_7_3 (hP.o hO) (hP.rc hO rfl rfl) ?_
      refine x_len T_225_26 (hP.ta hA) ?_
      refine x_ic2 T_225_27 (fun h => absurd (show 96 ≤ i from h) (by omega)) (fun _ => ?_)
      refine x_lr (z := some S) T_225_30 rfl ?_
      refine x_gR (z := some (S + 2)) T_225_31 F_7_3 (hP.o hO) (hP.rc hO rfl rfl) ?_
      refine x_li (z := i) T_225_34 rfl ?_
      refine x_alR (z := some (S + 198 + i.toNat)) T_225_35 (hP.ta hA) (by decide) (by omega) (by omega) (hP.arc hA rfl ha) ?_
      refine x_gI (z := y) T_225_36 (Or.inr (Or.inl F_9_0)) (hP.o hf) (Eq.trans (hP.gi hf (key := 2288) rfl) e1) ?_
      refine x_if T_225_39 (fun h => absurd (show y = 0 from h) (by omega)) (fun _ => ?_)
      refine x_inc (w := (v + 1)) (ls1 := [some (vR (some S)), some (vI c), some (vI (v + 1)), some (vI i)]) T_225_42 rfl (w32_id (by omega) (by omega)) rfl ?_
      refine x_inc (w := (i + 1)) (ls1 := [some (vR (some S)), some (vI c), some (vI (v + 1)), some (vI (i + 1))]) T_225_45 rfl (w32_id (by omega) (by omega)) rfl ?_
      refine x_goto T_225_48 ?_
      exact hgo
theorem x_fidCount (hP : PX σ0 W R σ) (hS : VS S s) (hF : FU W P S s) (hc : c = 0 ∨ c = 1) : CL fb d 225 [vR (some S), vI c] σ (rP (qFids P s c) σ) := by
  have hgo := x_count_loop (fb := fb) (d := d) hP hS hF hc 48 (48 * c) 0 (by omega) (Int.le_refl _) (by decide) (by omega)
  rw [show coFid P 48 (96 * s + 48 * c) 0 = qFids P s c by unfold qFids; congr 1; omega] at hgo
  rcases hc with rfl | rfl
  · skip
    refine CL_in mL_225 rfl ?_
    show WP fb _ 225 0 [some (vR (some S)), some (vI 0), none, none] [] σ _
    refine x_ic T_225_0 ?_
    refine x_si (ls1 := [some (vR (some S)), some (vI 0), some (vI 0), none]) T_225_1 rfl ?_
    refine x_li (z := 0) T_225_2 rfl ?_
    refine x_ic T_225_3 ?_
    refine x_ib (w := 0) T_225_5 (fun h => absurd h.1 (by decide)) (by decide) ?_
    refine x_si (ls1 := [some (vR (some S)), some (vI 0), some (vI 0), some (vI 0)]) T_225_6 rfl ?_
    exact hgo
  · skip
    refine CL_in mL_225 rfl ?_
    show WP fb _ 225 0 [some (vR (some S)), some (vI 1), none, none] [] σ _
    refine x_ic T_225_0 ?_
    refine x_si (ls1 := [some (vR (some S)), some (vI 1), some (vI 0), none]) T_225_1 rfl ?_
    refine x_li (z := 1) T_225_2 rfl ?_
    refine x_ic T_225_3 ?_
    refine x_ib (w := 48) T_225_5 (fun h => absurd h.1 (by decide)) (by decide) ?_
    refine x_si (ls1 := [some (vR (some S)), some (vI 1), some (vI 0), some (vI 48)]) T_225_6 rfl ?_
    exact hgo
theorem x_sizeOf (hP : PX σ0 W R σ) (hS : VS S s) (hc : c = 0 ∨ c = 1) (hz : W (S + 3) c = z) : CL fb d 34 [vR (some S), vI c] σ (rP z σ) := by
  have hO := hS.o
  have hA := hS.am
  rcases hc with rfl | rfl
  · skip
    refine CL_in mL_34 rfl ?_
    show WP fb _ 34 0 [some (vR (some S)), some (vI 0)] [] σ _
    refine x_li (z := 0) T_34_0 rfl ?_
    refine x_if T_34_1 (fun h => absurd (show ¬ (0 : Int) = 0 from h) (by decide)) (fun _ => ?_)
    refine x_lr (z := some S) T_34_4 rfl ?_
    refine x_gR (z := some (S + 3)) T_34_5 F_7_4 (hP.o hO) (hP.rc hO rfl rfl) ?_
    refine x_ic T_34_8 ?_
    refine x_alI (z := z) T_34_9 (by decide) (hP.ta hA) (by omega) (by omega) (Eq.trans (hP.ai hA (by omega)) hz) ?_
    refine x_goto T_34_10 ?_
    refine x_ri T_34_19 ?_
    exact ⟨rfl, rfl⟩
  · skip
    refine CL_in mL_34 rfl ?_
    show WP fb _ 34 0 [some (vR (some S)), some (vI 1)] [] σ _
    refine x_li (z := 1) T_34_0 rfl ?_
    refine x_if T_34_1 (fun _ => ?_) (fun h => absurd (show ¬ (1 : Int) = 0 by decide) h)
    refine x_lr (z := some S) T_34_13 rfl ?_
    refine x_gR (z := some (S + 3)) T_34_14 F_7_4 (hP.o hO) (hP.rc hO rfl rfl) ?_
    refine x_ic T_34_17 ?_
    refine x_alI (z := z) T_34_18 (by decide) (hP.ta hA) (by omega) (by omega) (Eq.trans (hP.ai hA (by omega)) hz) ?_
    refine x_ri T_34_19 ?_
    exact ⟨rfl, rfl⟩
theorem and64_1 (z : Int) : and64 z 1 = z % 2 := by
  unfold and64
  show (BitVec.ofInt 64 z &&& 1#64).toInt = z % 2
  have h1 : (BitVec.ofInt 64 z &&& 1#64).toNat = (z % 18446744073709551616).toNat % 2 := by
    rw [BitVec.toNat_and, BitVec.toNat_ofInt]
    exact Nat.and_two_pow_sub_one_eq_mod _ 1
  rw [BitVec.toInt_eq_toNat_of_lt (by rw [h1]; omega), h1]
  omega
theorem shl64_1 (h : 0 ≤ i ∧ i < 48) : shl64 1 i = ((2 ^ i.toNat : Nat) : Int) := by
  have key : ∀ n : Fin 48, shl64 1 ((n.val : Nat) : Int) = ((2 ^ n.val : Nat) : Int) := by decide +kernel
  have := key ⟨i.toNat, by omega⟩
  rw [show ((i.toNat : Nat) : Int) = i by omega] at this
  exact this
theorem bit64 {u : Nat} (hu : u < 2 ^ 48) (h : 0 ≤ i ∧ i < 48) : and64 (shr64 (u : Int) i) 1 = if u.testBit i.toNat then 1 else 0 := by
  have key : ∀ n : Fin 48, ((Int32.ofInt ((n.val : Nat) : Int)).toInt64 &&& 63).toBitVec.smod 64 = BitVec.ofNat 64 n.val := by decide +kernel
  have hk := key ⟨i.toNat, by omega⟩
  dsimp only at hk
  rw [show ((i.toNat : Nat) : Int) = i by omega] at hk
  rw [and64_1, shr64_n hk (by omega), w64_id (by omega) (by omega), Nat.testBit_eq_decide_div_mod_eq]
  have e : (u : Int) / 2 ^ i.toNat % 2 = ((u / 2 ^ i.toNat % 2 : Nat) : Int) := by
    rw [Int.natCast_emod, Int.natCast_ediv, Int.natCast_pow]
    rfl
  rw [e]
  have h2 : u / 2 ^ i.toNat % 2 = 0 ∨ u / 2 ^ i.toNat % 2 = 1 := by omega
  rcases h2 with q | q <;> rw [q] <;> rfl
theorem or64_nat {a b : Nat} (ha : a < 2 ^ 48) (hb : b < 2 ^ 48) : or64 (a : Int) (b : Int) = ((a ||| b : Nat) : Int) := by
  have hab := Nat.or_lt_two_pow ha hb
  unfold or64
  show (BitVec.ofInt 64 (a : Int) ||| BitVec.ofInt 64 (b : Int)).toInt = _
  have e : (BitVec.ofInt 64 (a : Int) ||| BitVec.ofInt 64 (b : Int)).toNat = a ||| b := by
    rw [BitVec.ofInt_natCast, BitVec.ofInt_natCast, BitVec.toNat_or, BitVec.toNat_ofNat, BitVec.toNat_ofNat, Nat.mod_eq_of_lt (by omega), Nat.mod_eq_of_lt (by omega)]
  rw [BitVec.toInt_eq_toNat_of_lt (by rw [e]; omega), e]
theorem hasN_fid (hs : 0 ≤ s) : ∀ (m : Nat) (k : Nat), fiFid P v m (96 * s + (k : Int)) < 0 ↔ ∀ j : Nat, k ≤ j → j < k + m → ¬ (¬ P 2304 (96 * s + (j : Int)) = 0 ∧ P 2305 (96 * s + (j : Int)) = v)
  | 0, k => ⟨fun _ j h1 h2 => by omega, fun _ => by show (-1 : Int) < 0; decide⟩
  | m + 1, k => by
    have ih := hasN_fid hs m (k + 1)
    have ef : fiFid P v (m + 1) (96 * s + (k : Int)) = if ¬ P 2304 (96 * s + (k : Int)) = 0 ∧ P 2305 (96 * s + (k : Int)) = v then 96 * s + (k : Int) else fiFid P v m (96 * s + (k : Int) + 1) := rfl
    rw [ef]
    rw [show 96 * s + ((k + 1 : Nat) : Int) = 96 * s + (k : Int) + 1 by omega] at ih
    by_cases q : ¬ P 2304 (96 * s + (k : Int)) = 0 ∧ P 2305 (96 * s + (k : Int)) = v
    · rw [if_pos q]
      exact ⟨fun h => by omega, fun h => absurd q (h k (Nat.le_refl k) (by omega))⟩
    · rw [if_neg q, ih]
      constructor
      · intro h j h1 h2
        by_cases e : j = k
        · rw [e]
          exact q
        · exact h j (by omega) (by omega)
      · intro h j h1 h2
        exact h j (by omega) (by omega)
theorem hasN_iff : ∀ (k : Nat), hasN P s v k ↔ ∃ j : Nat, j < k ∧ ¬ P 2304 (96 * s + (j : Int)) = 0 ∧ P 2305 (96 * s + (j : Int)) = v
  | 0 => ⟨fun h => h.elim, fun ⟨j, h, _⟩ => absurd h (Nat.not_lt_zero j)⟩
  | k + 1 => by
    have ih := hasN_iff k
    show hasN P s v k ∨ _ ↔ _
    rw [ih]
    constructor
    · rintro (⟨j, h1, h2⟩ | h)
      · exact ⟨j, by omega, h2⟩
      · exact ⟨k, by omega, h⟩
    · rintro ⟨j, h1, h2⟩
      by_cases e : j = k
      · rw [e] at h2
        exact Or.inr h2
      · exact Or.inl ⟨j, by omega, h2⟩
theorem hasN_48 (hs : 0 ≤ s) : hasN P s v 48 ↔ ¬ qFid P s 0 v < 0 := by
  rw [hasN_iff, show qFid P s 0 v = fiFid P v 48 (96 * s + ((0 : Nat) : Int)) by unfold qFid; congr 1; omega, hasN_fid hs]
  constructor
  · rintro ⟨j, h1, h2⟩ h
    exact h j (Nat.zero_le j) (by omega) h2
  · intro h
    apply Decidable.byContradiction
    intro c
    exact h (fun j _ h2 h3 => c ⟨j, by omega, h3⟩)
/-- the bits of the numbers that are used -/
theorem x_bits_loop (hP : PX σ0 W R σ) (hS : VS S s) (hF : FU W P S s) (hI : IV false T U P) {Q : Option AV → hM → Prop} (hQ : ∀ u : Nat, u < 2 ^ 48 → (∀ n : Int, 0 ≤ n → n < 48 → (u.testBit n.toNat = true ↔ hasN P s n 48)) → WP fb d 124 43 [some (vR (some S)), some (vL (u : Int)), none, some (vI 48)] [] σ Q) : ∀ (m k : Nat) (u : Nat) (i : Int), (k : Int) = i → k + m = 48 → u < 2 ^ 48 → (∀ n : Int, 0 ≤ n → n < 48 → (u.testBit n.toNat = true ↔ hasN P s n k)) → WP fb d 124 4 [some (vR (some S)), some (vL (u : Int)), none, some (vI i)] [] σ Q := by
  have hO := hS.o
  have hA := hS.af
  have hsr := hS.1
  intro m
  induction m with
  | zero =>
    intro k u i h0 h1 hu hb
    have hk : k = 48 := by omega
    have hi : i = 48 := by omega
    subst hk
    subst hi
    have hgo := hQ u hu hb
    obtain ⟨z, hz⟩ : ∃ z : Int, (u : Int) = z := ⟨_, rfl⟩
    rw [hz] at hgo ⊢
    refine x_li (z := 48) T_124_4 rfl ?_
    refine x_ic T_124_5 ?_
    refine x_ic2 T_124_7 (fun _ => ?_) (fun h => absurd (show 48 ≤ (48 : Int) by decide) h)
    exact hgo
  | succ m ih =>
    intro k u i h0 h1 hu hb
    obtain ⟨e1, e2⟩ := hF i (by omega) (by omega)
    have hf := hS.fd (i := i) ⟨by omega, by omega⟩
    have ha := hS.fa (i := i) ⟨by omega, by omega⟩
    have hnb : 0 ≤ P 2305 (96 * s + i) ∧ P 2305 (96 * s + i) ≤ (if (96 * s + i) % 96 < 48 then 47 else 4294967295) := IV.a (k := 96 * s + i) hI 2305 3 288 rfl rfl rfl (by omega) (by omega)
    rw [if_pos (by omega)] at hnb
    have hstep : ∀ n, hasN P s n (k + 1) ↔ hasN P s n k ∨ (¬ P 2304 (96 * s + i) = 0 ∧ P 2305 (96 * s + i) = n) := fun n => by
      rw [← h0]
      exact Iff.rfl
    obtain ⟨y, hy⟩ : ∃ y, P 2304 (96 * s + i) = y := ⟨_, rfl⟩
    obtain ⟨nu0, hnu⟩ : ∃ y, P 2305 (96 * s + i) = y := ⟨_, rfl⟩
    rw [hy] at e1 e2
    rw [hnu] at e2 hnb
    rw [hy, hnu] at hstep
    by_cases q1 : y = 0
    · have hgo := ih (k + 1) u (i + 1) (by omega) (by omega) hu (fun n n0 n1 => by
        rw [hstep, hb n n0 n1]
        exact ⟨Or.inl, fun c => c.elim id (fun c => absurd q1 c.1)⟩)
      obtain ⟨z, hz⟩ : ∃ z : Int, (u : Int) = z := ⟨_, rfl⟩
      rw [hz] at hgo ⊢
      refine x_li (z := i) T_124_4 rfl ?_
      refine x_ic T_124_5 ?_
      refine x_ic2 T_124_7 (fun h => absurd (show 48 ≤ i from h) (by omega)) (fun _ => ?_)
      refine x_lr (z := some S) T_124_10 rfl ?_
      refine x_gR (z := some (S + 2)) T_124_11 F_7_3 (hP.o hO) (hP.rc hO rfl rfl) ?_
      refine x_li (z := i) T_124_14 rfl ?_
      refine x_alR (z := some (S + 198 + i.toNat)) T_124_15 (hP.ta hA) (by decide) (by omega) (by omega) (hP.arc hA rfl ha) ?_
      refine x_gI (z := y) T_124_16 (Or.inr (Or.inl F_9_0)) (hP.o hf) (Eq.trans (hP.gi hf (key := 2288) rfl) e1) ?_
      refine x_if T_124_19 (fun _ => ?_) (fun h => absurd (show y = 0 by omega) h)
      refine x_inc (w := (i + 1)) (ls1 := [some (vR (some S)), some (vL z), none, some (vI (i + 1))]) T_124_37 rfl (w32_id (by omega) (by omega)) rfl ?_
      refine x_goto T_124_40 ?_
      exact hgo
    · have e2 := e2 q1
      have hp2 : 2 ^ nu0.toNat < 2 ^ 48 := Nat.pow_lt_pow_right (by decide) (by omega)
      have hgo := ih (k + 1) (u ||| 2 ^ nu0.toNat) (i + 1) (by omega) (by omega) (Nat.or_lt_two_pow hu hp2) (fun n n0 n1 => by
        rw [hstep, Nat.testBit_or, Bool.or_eq_true, hb n n0 n1, Nat.testBit_two_pow, decide_eq_true_eq]
        exact ⟨fun c => c.elim Or.inl (fun c => Or.inr ⟨q1, by omega⟩), fun c => c.elim Or.inl (fun c => Or.inr (by omega))⟩)
      have hor := or64_nat hu hp2
      obtain ⟨z, hz⟩ : ∃ z : Int, (u : Int) = z := ⟨_, rfl⟩
      obtain ⟨z2, hz2⟩ : ∃ z : Int, ((u ||| 2 ^ nu0.toNat : Nat) : Int) = z := ⟨_, rfl⟩
      obtain ⟨z3, hz3⟩ : ∃ z : Int, ((2 ^ nu0.toNat : Nat) : Int) = z := ⟨_, rfl⟩
      rw [hz2] at hgo hor
      rw [hz, hz3] at hor
      rw [hz]
      have hsh := (shl64_1 (i := nu0) ⟨hnb.1, by omega⟩).trans hz3
      refine x_li (z := i) T_124_4 rfl ?_
      refine x_ic T_124_5 ?_
      refine x_ic2 T_124_7 (fun h => absurd (show 48 ≤ i from h) (by omega)) (fun _ => ?_)
      refine x_lr (z := some S) T_124_10 rfl ?_
      refine x_gR (z := some (S + 2)) T_124_11 F_7_3 (hP.o hO) (hP.rc hO rfl rfl) ?_
      refine x_li (z := i) T_124_14 rfl ?_
      refine x_alR (z := some (S + 198 + i.toNat)) T_124_15 (hP.ta hA) (by decide) (by omega) (by omega) (hP.arc hA rfl ha) ?_
      refine x_gI (z := y) T_124_16 (Or.inr (Or.inl F_9_0)) (hP.o hf) (Eq.trans (hP.gi hf (key := 2288) rfl) e1) ?_
      refine x_if T_124_19 (fun h => absurd (show y = 0 from h) (by omega)) (fun _ => ?_)
      refine x_ll (z := z) T_124_22 rfl ?_
      refine x_lc T_124_23 ?_
      refine x_lr (z := some S) T_124_24 rfl ?_
      refine x_gR (z := some (S + 2)) T_124_25 F_7_3 (hP.o hO) (hP.rc hO rfl rfl) ?_
      refine x_li (z := i) T_124_28 rfl ?_
      refine x_alR (z := some (S + 198 + i.toNat)) T_124_29 (hP.ta hA) (by decide) (by omega) (by omega) (hP.arc hA rfl ha) ?_
      refine x_gL (z := nu0) T_124_30 F_9_1 (hP.o hf) (Eq.trans (hP.gi hf (key := 2289) rfl) e2) ?_
      refine x_l2i (w := nu0) T_124_33 (w32_id (by omega) (by omega)) ?_
      refine x_lh (w := z3) T_124_34 hsh ?_
      refine x_lb (w := z2) T_124_35 (fun h => absurd h.1 (by decide)) hor ?_
      refine x_sl (ls1 := [some (vR (some S)), some (vL z2), none, some (vI i)]) T_124_36 rfl ?_
      refine x_inc (w := (i + 1)) (ls1 := [some (vR (some S)), some (vL z2), none, some (vI (i + 1))]) T_124_37 rfl (w32_id (by omega) (by omega)) rfl ?_
      refine x_goto T_124_40 ?_
      exact hgo
theorem x_bits_free {u : Nat} (hu : u < 2 ^ 48) (hb : ∀ n : Int, 0 ≤ n → n < 48 → (u.testBit n.toNat = true ↔ ¬ qFid P s 0 n < 0)) : ∀ (m : Nat) (i : Int), i + m = 48 → 0 ≤ i → WP fb d 124 45 [some (vR (some S)), some (vL (u : Int)), none, some (vI i)] [] σ (rP (nfR P s m i) σ) := by
  intro m
  induction m with
  | zero =>
    intro i h1 h2
    have h1 : i + ((0 : Nat) : Int) = 48 := h1
    obtain ⟨z, hz⟩ : ∃ z : Int, (u : Int) = z := ⟨_, rfl⟩
    rw [hz, show nfR P s 0 i = -1 from rfl]
    refine x_li (z := i) T_124_45 rfl ?_
    refine x_ic T_124_46 ?_
    refine x_ic2 T_124_48 (fun _ => ?_) (fun h => absurd (show 48 ≤ i by omega) h)
    refine x_ic T_124_69 ?_
    refine x_ri T_124_70 ?_
    exact ⟨rfl, rfl⟩
  | succ m ih =>
    intro i h1 h2
    have hgo := ih (i + 1) (by omega) (by omega)
    have ef : nfR P s (m + 1) i = if qFid P s 0 i < 0 then i else nfR P s m (i + 1) := rfl
    rw [ef]
    have hbt := bit64 hu (i := i) ⟨h2, by omega⟩
    have hbi := hb i h2 (by omega)
    obtain ⟨z, hz⟩ : ∃ z : Int, (u : Int) = z := ⟨_, rfl⟩
    rw [hz] at hgo hbt ⊢
    by_cases q : qFid P s 0 i < 0
    · rw [if_neg (fun c => hbi.mp c q)] at hbt
      rw [if_pos q]
      refine x_li (z := i) T_124_45 rfl ?_
      refine x_ic T_124_46 ?_
      refine x_ic2 T_124_48 (fun h => absurd (show 48 ≤ i from h) (by omega)) (fun _ => ?_)
      refine x_ll (z := z) T_124_51 rfl ?_
      refine x_li (z := i) T_124_52 rfl ?_
      refine x_lh (w := (shr64 z i)) T_124_53 rfl ?_
      refine x_lc T_124_54 ?_
      refine x_lb (w := 0) T_124_55 (fun h => absurd h.1 (by decide)) hbt ?_
      refine x_lc T_124_56 ?_
      refine x_lif T_124_57 T_124_58 (fun h => absurd (show ¬ (0 : Int) = 0 from h) (by decide)) (fun _ => ?_)
      refine x_li (z := i) T_124_61 rfl ?_
      refine x_ri T_124_62 ?_
      exact ⟨rfl, rfl⟩
    · rw [if_pos (hbi.mpr q)] at hbt
      rw [if_neg q]
      refine x_li (z := i) T_124_45 rfl ?_
      refine x_ic T_124_46 ?_
      refine x_ic2 T_124_48 (fun h => absurd (show 48 ≤ i from h) (by omega)) (fun _ => ?_)
      refine x_ll (z := z) T_124_51 rfl ?_
      refine x_li (z := i) T_124_52 rfl ?_
      refine x_lh (w := (shr64 z i)) T_124_53 rfl ?_
      refine x_lc T_124_54 ?_
      refine x_lb (w := 1) T_124_55 (fun h => absurd h.1 (by decide)) hbt ?_
      refine x_lc T_124_56 ?_
      refine x_lif T_124_57 T_124_58 (fun _ => ?_) (fun h => absurd (show ¬ (1 : Int) = 0 by decide) h)
      refine x_inc (w := (i + 1)) (ls1 := [some (vR (some S)), some (vL z), none, some (vI (i + 1))]) T_124_63 rfl (w32_id (by omega) (by omega)) rfl ?_
      refine x_goto T_124_66 ?_
      exact hgo
theorem x_spareNumber (hP : PX σ0 W R σ) (hS : VS S s) (hF : FU W P S s) (hI : IV false T U P) : CL fb d 124 [vR (some S)] σ (rP (qNewF P s) σ) := by
  have hgo := x_bits_loop (fb := fb) (d := d) hP hS hF hI (Q := rP (qNewF P s) σ) (fun u hu hb => by
    have h2 := x_bits_free (fb := fb) (d := d) (σ := σ) (S := S) hu (fun n n0 n1 => (hb n n0 n1).trans (hasN_48 hS.1.1)) 48 0 (by decide) (by decide)
    rw [show nfR P s 48 0 = qNewF P s from rfl] at h2
    obtain ⟨z, hz⟩ : ∃ z : Int, (u : Int) = z := ⟨_, rfl⟩
    rw [hz] at h2 ⊢
    refine x_ic T_124_43 ?_
    refine x_si (ls1 := [some (vR (some S)), some (vL z), none, some (vI 0)]) T_124_44 rfl ?_
    exact h2
  ) 48 0 0 0 rfl rfl (by decide) (fun n _ _ => by rw [Nat.zero_testBit]; exact ⟨fun c => absurd c (by decide), fun c => False.elim c⟩)
  have hgo : WP fb d 124 4 [some (vR (some S)), some (vL 0), none, some (vI 0)] [] σ (rP (qNewF P s) σ) := hgo
  refine CL_in mL_124 rfl ?_
  show WP fb _ 124 0 [some (vR (some S)), none, none, none] [] σ _
  refine x_lc T_124_0 ?_
  refine x_sl (ls1 := [some (vR (some S)), some (vL 0), none, none]) T_124_1 rfl ?_
  refine x_ic T_124_2 ?_
  refine x_si (ls1 := [some (vR (some S)), some (vL 0), none, some (vI 0)]) T_124_3 rfl ?_
  exact hgo
end XFID2
