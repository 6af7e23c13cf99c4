/-! Bits: masks of high bits, a new file's mode; whether a file may be made with a mode. -/
theorem T_66_0 : hTab 66 0 = some ((3, 0, 1, []), 1) := rfl
theorem T_66_1 : hTab 66 1 = some ((0, 0, 31, []), 3) := rfl
theorem T_66_3 : hTab 66 3 = some ((12, 1, 0, []), 4) := rfl
theorem T_66_4 : hTab 66 4 = some ((1, 0, 1, []), 5) := rfl
theorem T_66_5 : hTab 66 5 = some ((11, 5, 0, []), 6) := rfl
theorem T_66_6 : hTab 66 6 = some ((1, 0, 0, []), 7) := rfl
theorem T_66_7 : hTab 66 7 = some ((17, 0, 0, []), 8) := rfl
theorem T_66_8 : hTab 66 8 = some ((18, 0, Int.ofNat 15, []), 11) := rfl
theorem T_66_11 : hTab 66 11 = some ((0, 0, 1, []), 12) := rfl
theorem T_66_12 : hTab 66 12 = some ((22, 0, Int.ofNat 16, []), 15) := rfl
theorem T_66_15 : hTab 66 15 = some ((0, 0, 0, []), 16) := rfl
theorem T_66_16 : hTab 66 16 = some ((4, 3, 0, []), 17) := rfl
theorem T_66_17 : hTab 66 17 = some ((3, 0, 1, []), 18) := rfl
theorem T_66_18 : hTab 66 18 = some ((0, 0, 30, []), 20) := rfl
theorem T_66_20 : hTab 66 20 = some ((12, 1, 0, []), 21) := rfl
theorem T_66_21 : hTab 66 21 = some ((1, 0, 1, []), 22) := rfl
theorem T_66_22 : hTab 66 22 = some ((11, 5, 0, []), 23) := rfl
theorem T_66_23 : hTab 66 23 = some ((1, 0, 0, []), 24) := rfl
theorem T_66_24 : hTab 66 24 = some ((17, 0, 0, []), 25) := rfl
theorem T_66_25 : hTab 66 25 = some ((18, 0, Int.ofNat 32, []), 28) := rfl
theorem T_66_28 : hTab 66 28 = some ((0, 0, 1, []), 29) := rfl
theorem T_66_29 : hTab 66 29 = some ((22, 0, Int.ofNat 33, []), 32) := rfl
theorem T_66_32 : hTab 66 32 = some ((0, 0, 0, []), 33) := rfl
theorem T_66_33 : hTab 66 33 = some ((4, 4, 0, []), 35) := rfl
theorem T_66_35 : hTab 66 35 = some ((3, 0, 1, []), 36) := rfl
theorem T_66_36 : hTab 66 36 = some ((1, 0, 1073741312, []), 39) := rfl
theorem T_66_39 : hTab 66 39 = some ((11, 5, 0, []), 40) := rfl
theorem T_66_40 : hTab 66 40 = some ((1, 0, 0, []), 41) := rfl
theorem T_66_41 : hTab 66 41 = some ((17, 0, 0, []), 42) := rfl
theorem T_66_42 : hTab 66 42 = some ((18, 1, Int.ofNat 62, []), 45) := rfl
theorem T_66_45 : hTab 66 45 = some ((3, 3, 0, []), 46) := rfl
theorem T_66_46 : hTab 66 46 = some ((18, 0, Int.ofNat 54, []), 49) := rfl
theorem T_66_49 : hTab 66 49 = some ((3, 4, 0, []), 51) := rfl
theorem T_66_51 : hTab 66 51 = some ((18, 1, Int.ofNat 62, []), 54) := rfl
theorem T_66_54 : hTab 66 54 = some ((3, 2, 0, []), 55) := rfl
theorem T_66_55 : hTab 66 55 = some ((0, 0, (-65), []), 57) := rfl
theorem T_66_57 : hTab 66 57 = some ((10, 5, 0, []), 58) := rfl
theorem T_66_58 : hTab 66 58 = some ((0, 0, 3, []), 59) := rfl
theorem T_66_59 : hTab 66 59 = some ((19, 5, Int.ofNat 65, []), 62) := rfl
theorem T_66_62 : hTab 66 62 = some ((0, 0, 16, []), 64) := rfl
theorem T_66_64 : hTab 66 64 = some ((33, 1, 0, []), 65) := rfl
theorem T_66_65 : hTab 66 65 = some ((3, 3, 0, []), 66) := rfl
theorem T_66_66 : hTab 66 66 = some ((18, 0, Int.ofNat 81, []), 69) := rfl
theorem T_66_69 : hTab 66 69 = some ((3, 2, 0, []), 70) := rfl
theorem T_66_70 : hTab 66 70 = some ((0, 0, (-65), []), 72) := rfl
theorem T_66_72 : hTab 66 72 = some ((10, 5, 0, []), 73) := rfl
theorem T_66_73 : hTab 66 73 = some ((18, 0, Int.ofNat 81, []), 76) := rfl
theorem T_66_76 : hTab 66 76 = some ((0, 0, 10, []), 78) := rfl
theorem T_66_78 : hTab 66 78 = some ((22, 0, Int.ofNat 82, []), 81) := rfl
theorem T_66_81 : hTab 66 81 = some ((0, 0, 0, []), 82) := rfl
theorem T_66_82 : hTab 66 82 = some ((33, 1, 0, []), 83) := rfl
theorem mN_66 : hmN 66 = 2 := by decide +kernel
theorem mL_66 : hmL 66 = 5 := by decide +kernel
theorem mK_66 : hmK 66 = 0 := by decide +kernel
theorem mO_66 : hmO 66 = 7 := by decide +kernel
section XBIT
variable {fb : Bool} {d S a b c0 rp mb m0 N M : Nat} {σ0 σ : hM} {W W1 W2 P Q : qR} {R R1 R2 : rR} {i j k x z v s e w f u n p g ln K T U C c m y : Int} {ord l l2 nm lo : List Int} {t : Nat → Nat} {r : Option Nat}
theorem and_hi (n a c : Nat) : n &&& ((2 ^ c - 1) <<< a) = ((n % 2 ^ (a + c)) >>> a) <<< a := by
  apply Nat.eq_of_testBit_eq
  intro i
  rw [Nat.testBit_and, Nat.testBit_shiftLeft, Nat.testBit_two_pow_sub_one, Nat.testBit_shiftLeft, Nat.testBit_shiftRight, Nat.testBit_mod_two_pow]
  by_cases h : i ≥ a
  · rw [show a + (i - a) = i by omega]
    by_cases h2 : i - a < c
    · simp [h, h2, show i < a + c by omega]
    · simp [h, h2, show ¬ i < a + c by omega]
  · simp [h]
theorem shlr (n a : Nat) : (n >>> a) <<< a = n / 2 ^ a * 2 ^ a := by rw [Nat.shiftLeft_eq, Nat.shiftRight_eq_div_pow]
theorem and64_m512 (h : 0 ≤ p ∧ p < 4294967296) : and64 p (-512) = p / 512 * 512 := by
  obtain ⟨n, rfl⟩ := Int.eq_ofNat_of_zero_le h.1
  unfold and64
  show (BitVec.ofInt 64 (n : Int) &&& BitVec.ofInt 64 (-512)).toInt = _
  have e : (BitVec.ofInt 64 (n : Int) &&& BitVec.ofInt 64 (-512)).toNat = n / 512 * 512 := by
    rw [BitVec.ofInt_natCast, BitVec.toNat_and, BitVec.toNat_ofNat, Nat.mod_eq_of_lt (show n < 2 ^ 64 by omega)]
    have := and_hi n 9 55
    rw [shlr, Nat.mod_eq_of_lt (show n < 2 ^ (9 + 55) by omega)] at this
    exact this
  rw [BitVec.toInt_eq_toNat_of_lt (by rw [e]; omega), e]
  omega
theorem and64_mid (h : 0 ≤ p ∧ p < 4294967296) : and64 p 1073741312 = p % 1073741824 / 512 * 512 := by
  obtain ⟨n, rfl⟩ := Int.eq_ofNat_of_zero_le h.1
  unfold and64
  show (BitVec.ofInt 64 (n : Int) &&& BitVec.ofInt 64 1073741312).toInt = _
  have e : (BitVec.ofInt 64 (n : Int) &&& BitVec.ofInt 64 1073741312).toNat = n % 1073741824 / 512 * 512 := by
    rw [BitVec.ofInt_natCast, BitVec.toNat_and, BitVec.toNat_ofNat, Nat.mod_eq_of_lt (show n < 2 ^ 64 by omega)]
    have := and_hi n 9 21
    rw [shlr] at this
    exact this
  rw [BitVec.toInt_eq_toNat_of_lt (by rw [e]; omega), e]
  omega
theorem and64_31 (h : 0 ≤ p ∧ p < 4294967296) : and64 p 2147483648 = 0 ↔ p < 2147483648 := by
  obtain ⟨n, rfl⟩ := Int.eq_ofNat_of_zero_le h.1
  unfold and64
  show (BitVec.ofInt 64 (n : Int) &&& BitVec.ofInt 64 2147483648).toInt = 0 ↔ _
  have e : (BitVec.ofInt 64 (n : Int) &&& BitVec.ofInt 64 2147483648).toNat = n % 4294967296 / 2147483648 * 2147483648 := by
    rw [BitVec.ofInt_natCast, BitVec.toNat_and, BitVec.toNat_ofNat, Nat.mod_eq_of_lt (show n < 2 ^ 64 by omega)]
    have := and_hi n 31 1
    rw [shlr] at this
    exact this
  rw [BitVec.toInt_eq_toNat_of_lt (by rw [e]; omega), e]
  omega
theorem bv_and (x y : Int) : BitVec.ofInt 32 (and32 x y) = BitVec.ofInt 32 x &&& BitVec.ofInt 32 y := by
  unfold and32
  exact BitVec.ofInt_toInt
theorem bv_or (x y : Int) : BitVec.ofInt 32 (or32 x y) = BitVec.ofInt 32 x ||| BitVec.ofInt 32 y := by
  unfold or32
  exact BitVec.ofInt_toInt
theorem bv_w (x : Int) : BitVec.ofInt 32 (w32 x) = BitVec.ofInt 32 x := by
  apply BitVec.eq_of_toInt_eq
  rw [BitVec.toInt_ofInt, BitVec.toInt_ofInt]
  unfold w32
  exact Int.bmod_bmod
theorem or32_of {x y x2 y2 : Int} (h : BitVec.ofInt 32 x ||| BitVec.ofInt 32 y = BitVec.ofInt 32 x2 ||| BitVec.ofInt 32 y2) : or32 x y = or32 x2 y2 := congrArg BitVec.toInt h
theorem hi512 (h : 0 ≤ p ∧ p < 4294967296) : BitVec.ofInt 32 (w32 (and64 p (-512))) = BitVec.ofInt 32 (and32 (w32 p) (-512)) := by
  rw [bv_w, bv_and, bv_w, and64_m512 h]
  obtain ⟨n, rfl⟩ := Int.eq_ofNat_of_zero_le h.1
  apply BitVec.eq_of_toNat_eq
  rw [BitVec.ofInt_natCast, BitVec.toNat_and, BitVec.toNat_ofNat, Nat.mod_eq_of_lt (show n < 2 ^ 32 by omega)]
  have := and_hi n 9 23
  rw [shlr, Nat.mod_eq_of_lt (show n < 2 ^ (9 + 23) by omega)] at this
  refine Eq.trans ?_ this.symm
  rw [BitVec.toNat_ofInt]
  omega
/-- a new file's mode, as the class puts it together -/
theorem creM_eq (h : 0 ≤ p ∧ p < 4294967296) (hp : w32 p = x) (hd : qMode P s n = y) : creM P s n p = or32 (and32 x (-512)) (if 0 ≤ x then or32 (and32 (and32 x y) 511) (and32 x 73) else and32 (and32 x y) 511) := by
  have hx : 0 ≤ x ↔ p < 2147483648 := by
    rw [← hp]
    by_cases q : p < 2147483648
    · rw [w32_id (by omega) (by omega)]
      omega
    · have : w32 p = p - 4294967296 := by
        unfold w32
        rw [Int.bmod_def]
        omega
      rw [this]
      omega
  unfold creM
  rw [hd]
  have e73 : BitVec.ofInt 32 73 = BitVec.ofInt 32 511 &&& BitVec.ofInt 32 73 := by decide
  by_cases q : p < 2147483648
  · rw [if_neg (fun c => c ((and64_31 h).mpr q)), if_pos (hx.mpr q)]
    apply or32_of
    rw [hi512 h, hp, bv_and (and32 x 511), bv_and x 511, bv_or, bv_or, bv_and, bv_and, bv_and, bv_and, bv_and, e73]
    generalize BitVec.ofInt 32 x = A
    generalize BitVec.ofInt 32 y = D
    generalize BitVec.ofInt 32 511 = N
    generalize BitVec.ofInt 32 73 = E
    generalize BitVec.ofInt 32 (-512) = H
    ext i hi
    simp only [BitVec.getElem_and, BitVec.getElem_or]
    cases A[i] <;> cases D[i] <;> cases N[i] <;> cases E[i] <;> cases H[i] <;> rfl
  · rw [if_pos (fun c => q ((and64_31 h).mp c)), if_neg (fun c => q (hx.mp c))]
    apply or32_of
    rw [hi512 h, hp, bv_and (and32 x 511), bv_and x 511, bv_and y, bv_and (and32 x y), bv_and x y, bv_and]
    generalize BitVec.ofInt 32 x = A
    generalize BitVec.ofInt 32 y = D
    generalize BitVec.ofInt 32 511 = N
    generalize BitVec.ofInt 32 (-512) = H
    ext i hi
    simp only [BitVec.getElem_and, BitVec.getElem_or]
    cases A[i] <;> cases D[i] <;> cases N[i] <;> cases H[i] <;> rfl
/-- whether a file may be made so -/
def prmR (p m : Int) : Int := if (¬ and64 p (-512) = 0 ∧ ¬ and64 p (-512) = 1073741824 ∧ ¬ and64 p (-512) = 2147483648) ∨ 3 < and32 m (-65) then 16 else if and64 p (-512) = 2147483648 ∧ ¬ and32 m (-65) = 0 then 10 else 0
theorem shr64_k (h : 0 ≤ p ∧ p < 4294967296) (hk : k = 30 ∨ k = 31) : and64 (shr64 p k) 1 = p / 2 ^ k.toNat % 2 := by
  rw [and64_1]
  rcases hk with rfl | rfl
  · rw [shr64_n (n := 30) (by decide) (by decide), w64_id (by omega) (by omega)]
    rfl
  · rw [shr64_n (n := 31) (by decide) (by decide), w64_id (by omega) (by omega)]
    rfl
theorem x_permRefusal (h : 0 ≤ p ∧ p < 4294967296) : CL fb d 66 [vL p, vI m] σ (rP (prmR p m) σ) := by
  have e1 : and64 (shr64 p 31) 1 = p / 2147483648 % 2 := shr64_k h (Or.inr rfl)
  have e2 : and64 (shr64 p 30) 1 = p / 1073741824 % 2 := shr64_k h (Or.inl rfl)
  have e3 := and64_mid h
  have e4 := and64_m512 h
  obtain ⟨q1, hq1⟩ : ∃ q, and64 (shr64 p 31) 1 = q := ⟨_, rfl⟩
  obtain ⟨q2, hq2⟩ : ∃ q, and64 (shr64 p 30) 1 = q := ⟨_, rfl⟩
  obtain ⟨q3, hq3⟩ : ∃ q, and64 p 1073741312 = q := ⟨_, rfl⟩
  obtain ⟨q4, hq4⟩ : ∃ q, and64 p (-512) = q := ⟨_, rfl⟩
  obtain ⟨hw, hhw⟩ : ∃ hw, and32 m (-65) = hw := ⟨_, rfl⟩
  obtain ⟨s1, hs1⟩ : ∃ q, shr64 p 31 = q := ⟨_, rfl⟩
  obtain ⟨s2, hs2⟩ : ∃ q, shr64 p 30 = q := ⟨_, rfl⟩
  have eP : prmR p m = if (¬ q4 = 0 ∧ ¬ q4 = 1073741824 ∧ ¬ q4 = 2147483648) ∨ 3 < hw then 16 else if q4 = 2147483648 ∧ ¬ hw = 0 then 10 else 0 := by
    unfold prmR
    rw [hq4, hhw]
  rw [eP]
  rw [hs1] at hq1 e1
  rw [hs2] at hq2 e2
  rw [hq1] at e1
  rw [hq2] at e2
  rw [hq3] at e3
  rw [hq4] at e4
  have fin : ∀ b1 b2 : Int, (b1 = 0 ∨ b1 = 1) → (b2 = 0 ∨ b2 = 1) → b1 = q1 → b2 = q2 → WP fb d 66 35 [some (vL p), none, some (vI m), some (vI b1), some (vI b2)] [] σ (rP (if (¬ q4 = 0 ∧ ¬ q4 = 1073741824 ∧ ¬ q4 = 2147483648) ∨ 3 < hw then 16 else if q4 = 2147483648 ∧ ¬ hw = 0 then 10 else 0) σ) := fun b1 b2 h1 h2 h3 h4 => by
    by_cases c3 : q3 = 0
    · have hfin : WP fb d 66 54 [some (vL p), none, some (vI m), some (vI b1), some (vI b2)] [] σ (rP (if (¬ q4 = 0 ∧ ¬ q4 = 1073741824 ∧ ¬ q4 = 2147483648) ∨ 3 < hw then 16 else if q4 = 2147483648 ∧ ¬ hw = 0 then 10 else 0) σ) ∨ (b1 = 1 ∧ b2 = 1) := by
        by_cases c4 : b1 = 1 ∧ b2 = 1
        · exact Or.inr c4
        · refine Or.inl ?_
          by_cases c5 : hw ≤ 3
          · rw [if_neg (fun c => by omega)]
            by_cases c6 : b1 = 0
            · rw [if_neg (fun c => by omega)]
              refine x_li (z := m) T_66_54 rfl ?_
              refine x_ic T_66_55 ?_
              refine x_ib (w := hw) T_66_57 (fun h => absurd h.1 (by decide)) hhw ?_
              refine x_ic T_66_58 ?_
              refine x_ic2 T_66_59 (fun _ => ?_) (fun h => absurd (show hw ≤ 3 by omega) h)
              refine x_li (z := b1) T_66_65 rfl ?_
              refine x_if T_66_66 (fun _ => ?_) (fun h => absurd (show b1 = 0 by omega) h)
              refine x_ic T_66_81 ?_
              refine x_ri T_66_82 ?_
              exact ⟨rfl, rfl⟩
            · by_cases c7 : hw = 0
              · rw [if_neg (fun c => c.2 c7)]
                refine x_li (z := m) T_66_54 rfl ?_
                refine x_ic T_66_55 ?_
                refine x_ib (w := hw) T_66_57 (fun h => absurd h.1 (by decide)) hhw ?_
                refine x_ic T_66_58 ?_
                refine x_ic2 T_66_59 (fun _ => ?_) (fun h => absurd (show hw ≤ 3 by omega) h)
                refine x_li (z := b1) T_66_65 rfl ?_
                refine x_if T_66_66 (fun h => absurd (show b1 = 0 from h) (by omega)) (fun _ => ?_)
                refine x_li (z := m) T_66_69 rfl ?_
                refine x_ic T_66_70 ?_
                refine x_ib (w := hw) T_66_72 (fun h => absurd h.1 (by decide)) hhw ?_
                refine x_if T_66_73 (fun _ => ?_) (fun h => absurd (show hw = 0 by omega) h)
                refine x_ic T_66_81 ?_
                refine x_ri T_66_82 ?_
                exact ⟨rfl, rfl⟩
              · rw [if_pos ⟨by omega, c7⟩]
                refine x_li (z := m) T_66_54 rfl ?_
                refine x_ic T_66_55 ?_
                refine x_ib (w := hw) T_66_57 (fun h => absurd h.1 (by decide)) hhw ?_
                refine x_ic T_66_58 ?_
                refine x_ic2 T_66_59 (fun _ => ?_) (fun h => absurd (show hw ≤ 3 by omega) h)
                refine x_li (z := b1) T_66_65 rfl ?_
                refine x_if T_66_66 (fun h => absurd (show b1 = 0 from h) (by omega)) (fun _ => ?_)
                refine x_li (z := m) T_66_69 rfl ?_
                refine x_ic T_66_70 ?_
                refine x_ib (w := hw) T_66_72 (fun h => absurd h.1 (by decide)) hhw ?_
                refine x_if T_66_73 (fun h => absurd (show hw = 0 from h) (by omega)) (fun _ => ?_)
                refine x_ic T_66_76 ?_
                refine x_goto T_66_78 ?_
                refine x_ri T_66_82 ?_
                exact ⟨rfl, rfl⟩
          · rw [if_pos (Or.inr (by omega))]
            refine x_li (z := m) T_66_54 rfl ?_
            refine x_ic T_66_55 ?_
            refine x_ib (w := hw) T_66_57 (fun h => absurd h.1 (by decide)) hhw ?_
            refine x_ic T_66_58 ?_
            refine x_ic2 T_66_59 (fun h => absurd (show hw ≤ 3 from h) (by omega)) (fun _ => ?_)
            refine x_ic T_66_62 ?_
            refine x_ri T_66_64 ?_
            exact ⟨rfl, rfl⟩
      by_cases c4 : b1 = 0
      · have hgo := hfin.resolve_right (by omega)
        refine x_ll (z := p) T_66_35 rfl ?_
        refine x_lc T_66_36 ?_
        refine x_lb (w := q3) T_66_39 (fun h => absurd h.1 (by decide)) hq3 ?_
        refine x_lc T_66_40 ?_
        refine x_lif T_66_41 T_66_42 (fun h => absurd (show ¬ q3 = 0 from h) (by omega)) (fun _ => ?_)
        refine x_li (z := b1) T_66_45 rfl ?_
        refine x_if T_66_46 (fun _ => ?_) (fun h => absurd (show b1 = 0 by omega) h)
        exact hgo
      · by_cases c5 : b2 = 0
        · have hgo := hfin.resolve_right (by omega)
          refine x_ll (z := p) T_66_35 rfl ?_
          refine x_lc T_66_36 ?_
          refine x_lb (w := q3) T_66_39 (fun h => absurd h.1 (by decide)) hq3 ?_
          refine x_lc T_66_40 ?_
          refine x_lif T_66_41 T_66_42 (fun h => absurd (show ¬ q3 = 0 from h) (by omega)) (fun _ => ?_)
          refine x_li (z := b1) T_66_45 rfl ?_
          refine x_if T_66_46 (fun h => absurd (show b1 = 0 from h) (by omega)) (fun _ => ?_)
          refine x_li (z := b2) T_66_49 rfl ?_
          refine x_if T_66_51 (fun h => absurd (show ¬ b2 = 0 from h) (by omega)) (fun _ => ?_)
          exact hgo
        · rw [if_pos (Or.inl (by omega))]
          refine x_ll (z := p) T_66_35 rfl ?_
          refine x_lc T_66_36 ?_
          refine x_lb (w := q3) T_66_39 (fun h => absurd h.1 (by decide)) hq3 ?_
          refine x_lc T_66_40 ?_
          refine x_lif T_66_41 T_66_42 (fun h => absurd (show ¬ q3 = 0 from h) (by omega)) (fun _ => ?_)
          refine x_li (z := b1) T_66_45 rfl ?_
          refine x_if T_66_46 (fun h => absurd (show b1 = 0 from h) (by omega)) (fun _ => ?_)
          refine x_li (z := b2) T_66_49 rfl ?_
          refine x_if T_66_51 (fun _ => ?_) (fun h => absurd (show ¬ b2 = 0 by omega) h)
          refine x_ic T_66_62 ?_
          refine x_ri T_66_64 ?_
          exact ⟨rfl, rfl⟩
    · rw [if_pos (Or.inl (by omega))]
      refine x_ll (z := p) T_66_35 rfl ?_
      refine x_lc T_66_36 ?_
      refine x_lb (w := q3) T_66_39 (fun h => absurd h.1 (by decide)) hq3 ?_
      refine x_lc T_66_40 ?_
      refine x_lif T_66_41 T_66_42 (fun _ => ?_) (fun h => absurd (show ¬ q3 = 0 by omega) h)
      refine x_ic T_66_62 ?_
      refine x_ri T_66_64 ?_
      exact ⟨rfl, rfl⟩
  by_cases c1 : q1 = 0
  · by_cases c2 : q2 = 0
    · have hgo := fin 0 0 (by simp) (by simp) c1.symm c2.symm
      refine CL_in mL_66 rfl ?_
      show WP fb _ 66 0 [some (vL p), none, some (vI m), none, none] [] σ _
      refine x_ll (z := p) T_66_0 rfl ?_
      refine x_ic T_66_1 ?_
      refine x_lh (w := s1) T_66_3 hs1 ?_
      refine x_lc T_66_4 ?_
      refine x_lb (w := q1) T_66_5 (fun h => absurd h.1 (by decide)) hq1 ?_
      refine x_lc T_66_6 ?_
      refine x_lif T_66_7 T_66_8 (fun _ => ?_) (fun h => absurd (show q1 = 0 by omega) h)
      refine x_ic T_66_15 ?_
      refine x_si (ls1 := [some (vL p), none, some (vI m), some (vI 0), none]) T_66_16 rfl ?_
      refine x_ll (z := p) T_66_17 rfl ?_
      refine x_ic T_66_18 ?_
      refine x_lh (w := s2) T_66_20 hs2 ?_
      refine x_lc T_66_21 ?_
      refine x_lb (w := q2) T_66_22 (fun h => absurd h.1 (by decide)) hq2 ?_
      refine x_lc T_66_23 ?_
      refine x_lif T_66_24 T_66_25 (fun _ => ?_) (fun h => absurd (show q2 = 0 by omega) h)
      refine x_ic T_66_32 ?_
      refine x_si (ls1 := [some (vL p), none, some (vI m), some (vI 0), some (vI 0)]) T_66_33 rfl ?_
      exact hgo
    · have hgo := fin 0 1 (by simp) (by simp) c1.symm (by omega)
      refine CL_in mL_66 rfl ?_
      show WP fb _ 66 0 [some (vL p), none, some (vI m), none, none] [] σ _
      refine x_ll (z := p) T_66_0 rfl ?_
      refine x_ic T_66_1 ?_
      refine x_lh (w := s1) T_66_3 hs1 ?_
      refine x_lc T_66_4 ?_
      refine x_lb (w := q1) T_66_5 (fun h => absurd h.1 (by decide)) hq1 ?_
      refine x_lc T_66_6 ?_
      refine x_lif T_66_7 T_66_8 (fun _ => ?_) (fun h => absurd (show q1 = 0 by omega) h)
      refine x_ic T_66_15 ?_
      refine x_si (ls1 := [some (vL p), none, some (vI m), some (vI 0), none]) T_66_16 rfl ?_
      refine x_ll (z := p) T_66_17 rfl ?_
      refine x_ic T_66_18 ?_
      refine x_lh (w := s2) T_66_20 hs2 ?_
      refine x_lc T_66_21 ?_
      refine x_lb (w := q2) T_66_22 (fun h => absurd h.1 (by decide)) hq2 ?_
      refine x_lc T_66_23 ?_
      refine x_lif T_66_24 T_66_25 (fun h => absurd (show q2 = 0 from h) (by omega)) (fun _ => ?_)
      refine x_ic T_66_28 ?_
      refine x_goto T_66_29 ?_
      refine x_si (ls1 := [some (vL p), none, some (vI m), some (vI 0), some (vI 1)]) T_66_33 rfl ?_
      exact hgo
  · by_cases c2 : q2 = 0
    · have hgo := fin 1 0 (by simp) (by simp) (by omega) c2.symm
      refine CL_in mL_66 rfl ?_
      show WP fb _ 66 0 [some (vL p), none, some (vI m), none, none] [] σ _
      refine x_ll (z := p) T_66_0 rfl ?_
      refine x_ic T_66_1 ?_
      refine x_lh (w := s1) T_66_3 hs1 ?_
      refine x_lc T_66_4 ?_
      refine x_lb (w := q1) T_66_5 (fun h => absurd h.1 (by decide)) hq1 ?_
      refine x_lc T_66_6 ?_
      refine x_lif T_66_7 T_66_8 (fun h => absurd (show q1 = 0 from h) (by omega)) (fun _ => ?_)
      refine x_ic T_66_11 ?_
      refine x_goto T_66_12 ?_
      refine x_si (ls1 := [some (vL p), none, some (vI m), some (vI 1), none]) T_66_16 rfl ?_
      refine x_ll (z := p) T_66_17 rfl ?_
      refine x_ic T_66_18 ?_
      refine x_lh (w := s2) T_66_20 hs2 ?_
      refine x_lc T_66_21 ?_
      refine x_lb (w := q2) T_66_22 (fun h => absurd h.1 (by decide)) hq2 ?_
      refine x_lc T_66_23 ?_
      refine x_lif T_66_24 T_66_25 (fun _ => ?_) (fun h => absurd (show q2 = 0 by omega) h)
      refine x_ic T_66_32 ?_
      refine x_si (ls1 := [some (vL p), none, some (vI m), some (vI 1), some (vI 0)]) T_66_33 rfl ?_
      exact hgo
    · have hgo := fin 1 1 (by simp) (by simp) (by omega) (by omega)
      refine CL_in mL_66 rfl ?_
      show WP fb _ 66 0 [some (vL p), none, some (vI m), none, none] [] σ _
      refine x_ll (z := p) T_66_0 rfl ?_
      refine x_ic T_66_1 ?_
      refine x_lh (w := s1) T_66_3 hs1 ?_
      refine x_lc T_66_4 ?_
      refine x_lb (w := q1) T_66_5 (fun h => absurd h.1 (by decide)) hq1 ?_
      refine x_lc T_66_6 ?_
      refine x_lif T_66_7 T_66_8 (fun h => absurd (show q1 = 0 from h) (by omega)) (fun _ => ?_)
      refine x_ic T_66_11 ?_
      refine x_goto T_66_12 ?_
      refine x_si (ls1 := [some (vL p), none, some (vI m), some (vI 1), none]) T_66_16 rfl ?_
      refine x_ll (z := p) T_66_17 rfl ?_
      refine x_ic T_66_18 ?_
      refine x_lh (w := s2) T_66_20 hs2 ?_
      refine x_lc T_66_21 ?_
      refine x_lb (w := q2) T_66_22 (fun h => absurd h.1 (by decide)) hq2 ?_
      refine x_lc T_66_23 ?_
      refine x_lif T_66_24 T_66_25 (fun h => absurd (show q2 = 0 from h) (by omega)) (fun _ => ?_)
      refine x_ic T_66_28 ?_
      refine x_goto T_66_29 ?_
      refine x_si (ls1 := [some (vL p), none, some (vI m), some (vI 1), some (vI 1)]) T_66_33 rfl ?_
      exact hgo
end XBIT
