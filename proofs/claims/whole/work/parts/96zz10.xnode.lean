/-! The class's files and fids as objects: what their small methods answer and write. -/
theorem T_10_0 : hTab 10 0 = some ((3, 0, 2, []), 1) := rfl
theorem T_10_1 : hTab 10 1 = some ((3, 1, 0, []), 2) := rfl
theorem T_10_2 : hTab 10 2 = some ((25, 8, Int.ofNat 4, []), 5) := rfl
theorem T_10_5 : hTab 10 5 = some ((3, 0, 2, []), 6) := rfl
theorem T_10_6 : hTab 10 6 = some ((3, 2, 2, []), 7) := rfl
theorem T_10_7 : hTab 10 7 = some ((25, 8, Int.ofNat 1, []), 10) := rfl
theorem T_10_10 : hTab 10 10 = some ((3, 0, 2, []), 11) := rfl
theorem T_10_11 : hTab 10 11 = some ((3, 3, 0, []), 12) := rfl
theorem T_10_12 : hTab 10 12 = some ((25, 8, Int.ofNat 6, []), 15) := rfl
theorem T_10_15 : hTab 10 15 = some ((3, 0, 2, []), 16) := rfl
theorem T_10_16 : hTab 10 16 = some ((3, 4, 0, []), 18) := rfl
theorem T_10_18 : hTab 10 18 = some ((25, 8, Int.ofNat 7, []), 21) := rfl
theorem T_10_21 : hTab 10 21 = some ((3, 0, 2, []), 22) := rfl
theorem T_10_22 : hTab 10 22 = some ((3, 4, 0, []), 24) := rfl
theorem T_10_24 : hTab 10 24 = some ((25, 8, Int.ofNat 8, []), 27) := rfl
theorem T_10_27 : hTab 10 27 = some ((3, 0, 2, []), 28) := rfl
theorem T_10_28 : hTab 10 28 = some ((3, 4, 0, []), 30) := rfl
theorem T_10_30 : hTab 10 30 = some ((25, 8, Int.ofNat 9, []), 33) := rfl
theorem T_10_33 : hTab 10 33 = some ((3, 0, 2, []), 34) := rfl
theorem T_10_34 : hTab 10 34 = some ((0, 0, 0, []), 35) := rfl
theorem T_10_35 : hTab 10 35 = some ((25, 8, Int.ofNat 5, []), 38) := rfl
theorem T_10_38 : hTab 10 38 = some ((3, 0, 2, []), 39) := rfl
theorem T_10_39 : hTab 10 39 = some ((0, 0, 0, []), 40) := rfl
theorem T_10_40 : hTab 10 40 = some ((25, 8, Int.ofNat 10, []), 43) := rfl
theorem T_10_43 : hTab 10 43 = some ((3, 0, 2, []), 44) := rfl
theorem T_10_44 : hTab 10 44 = some ((0, 0, 0, []), 45) := rfl
theorem T_10_45 : hTab 10 45 = some ((25, 8, Int.ofNat 3, []), 48) := rfl
theorem T_10_48 : hTab 10 48 = some ((3, 0, 2, []), 49) := rfl
theorem T_10_49 : hTab 10 49 = some ((2, 0, 0, []), 50) := rfl
theorem T_10_50 : hTab 10 50 = some ((25, 8, Int.ofNat 2, []), 53) := rfl
theorem T_10_53 : hTab 10 53 = some ((33, 0, 0, []), 54) := rfl
theorem T_43_0 : hTab 43 0 = some ((3, 1, 0, []), 1) := rfl
theorem T_43_1 : hTab 43 1 = some ((3, 0, 2, []), 2) := rfl
theorem T_43_2 : hTab 43 2 = some ((24, 8, Int.ofNat 7, []), 5) := rfl
theorem T_43_5 : hTab 43 5 = some ((19, 1, Int.ofNat 13, []), 8) := rfl
theorem T_43_8 : hTab 43 8 = some ((0, 0, 6, []), 10) := rfl
theorem T_43_10 : hTab 43 10 = some ((22, 0, Int.ofNat 26, []), 13) := rfl
theorem T_43_13 : hTab 43 13 = some ((3, 1, 0, []), 14) := rfl
theorem T_43_14 : hTab 43 14 = some ((3, 0, 2, []), 15) := rfl
theorem T_43_15 : hTab 43 15 = some ((24, 8, Int.ofNat 8, []), 18) := rfl
theorem T_43_18 : hTab 43 18 = some ((19, 1, Int.ofNat 25, []), 21) := rfl
theorem T_43_21 : hTab 43 21 = some ((0, 0, 3, []), 22) := rfl
theorem T_43_22 : hTab 43 22 = some ((22, 0, Int.ofNat 26, []), 25) := rfl
theorem T_43_25 : hTab 43 25 = some ((0, 0, 0, []), 26) := rfl
theorem T_43_26 : hTab 43 26 = some ((4, 3, 0, []), 27) := rfl
theorem T_43_27 : hTab 43 27 = some ((3, 0, 2, []), 28) := rfl
theorem T_43_28 : hTab 43 28 = some ((24, 8, Int.ofNat 6, []), 31) := rfl
theorem T_43_31 : hTab 43 31 = some ((3, 3, 0, []), 32) := rfl
theorem T_43_32 : hTab 43 32 = some ((10, 9, 0, []), 33) := rfl
theorem T_43_33 : hTab 43 33 = some ((3, 2, 0, []), 34) := rfl
theorem T_43_34 : hTab 43 34 = some ((10, 5, 0, []), 35) := rfl
theorem T_43_35 : hTab 43 35 = some ((3, 2, 0, []), 36) := rfl
theorem T_43_36 : hTab 43 36 = some ((19, 1, Int.ofNat 43, []), 39) := rfl
theorem T_43_39 : hTab 43 39 = some ((0, 0, 1, []), 40) := rfl
theorem T_43_40 : hTab 43 40 = some ((22, 0, Int.ofNat 44, []), 43) := rfl
theorem T_43_43 : hTab 43 43 = some ((0, 0, 0, []), 44) := rfl
theorem T_43_44 : hTab 43 44 = some ((33, 2, 0, []), 45) := rfl
theorem T_45_0 : hTab 45 0 = some ((3, 0, 2, []), 1) := rfl
theorem T_45_1 : hTab 45 1 = some ((6, 0, 0, []), 2) := rfl
theorem T_45_2 : hTab 45 2 = some ((24, 8, Int.ofNat 5, []), 5) := rfl
theorem T_45_5 : hTab 45 5 = some ((0, 0, 1, []), 6) := rfl
theorem T_45_6 : hTab 45 6 = some ((10, 0, 0, []), 7) := rfl
theorem T_45_7 : hTab 45 7 = some ((25, 8, Int.ofNat 5, []), 10) := rfl
theorem T_45_10 : hTab 45 10 = some ((3, 0, 2, []), 11) := rfl
theorem T_45_11 : hTab 45 11 = some ((3, 1, 0, []), 12) := rfl
theorem T_45_12 : hTab 45 12 = some ((25, 8, Int.ofNat 9, []), 15) := rfl
theorem T_45_15 : hTab 45 15 = some ((33, 0, 0, []), 16) := rfl
theorem T_51_0 : hTab 51 0 = some ((3, 0, 2, []), 1) := rfl
theorem T_51_1 : hTab 51 1 = some ((0, 0, 1, []), 2) := rfl
theorem T_51_2 : hTab 51 2 = some ((25, 9, Int.ofNat 0, []), 5) := rfl
theorem T_51_5 : hTab 51 5 = some ((3, 0, 2, []), 6) := rfl
theorem T_51_6 : hTab 51 6 = some ((3, 1, 1, []), 7) := rfl
theorem T_51_7 : hTab 51 7 = some ((25, 9, Int.ofNat 1, []), 10) := rfl
theorem T_51_10 : hTab 51 10 = some ((3, 0, 2, []), 11) := rfl
theorem T_51_11 : hTab 51 11 = some ((3, 3, 0, []), 12) := rfl
theorem T_51_12 : hTab 51 12 = some ((25, 9, Int.ofNat 2, []), 15) := rfl
theorem T_51_15 : hTab 51 15 = some ((3, 0, 2, []), 16) := rfl
theorem T_51_16 : hTab 51 16 = some ((3, 4, 2, []), 18) := rfl
theorem T_51_18 : hTab 51 18 = some ((25, 9, Int.ofNat 3, []), 21) := rfl
theorem T_51_21 : hTab 51 21 = some ((3, 0, 2, []), 22) := rfl
theorem T_51_22 : hTab 51 22 = some ((3, 4, 2, []), 24) := rfl
theorem T_51_24 : hTab 51 24 = some ((24, 8, Int.ofNat 4, []), 27) := rfl
theorem T_51_27 : hTab 51 27 = some ((25, 9, Int.ofNat 4, []), 30) := rfl
theorem T_51_30 : hTab 51 30 = some ((3, 0, 2, []), 31) := rfl
theorem T_51_31 : hTab 51 31 = some ((0, 0, (-1), []), 32) := rfl
theorem T_51_32 : hTab 51 32 = some ((25, 9, Int.ofNat 5, []), 35) := rfl
theorem T_51_35 : hTab 51 35 = some ((3, 0, 2, []), 36) := rfl
theorem T_51_36 : hTab 51 36 = some ((0, 0, 0, []), 37) := rfl
theorem T_51_37 : hTab 51 37 = some ((25, 9, Int.ofNat 6, []), 40) := rfl
theorem T_51_40 : hTab 51 40 = some ((3, 0, 2, []), 41) := rfl
theorem T_51_41 : hTab 51 41 = some ((1, 0, 0, []), 42) := rfl
theorem T_51_42 : hTab 51 42 = some ((25, 9, Int.ofNat 7, []), 45) := rfl
theorem T_51_45 : hTab 51 45 = some ((3, 0, 2, []), 46) := rfl
theorem T_51_46 : hTab 51 46 = some ((0, 0, 0, []), 47) := rfl
theorem T_51_47 : hTab 51 47 = some ((25, 9, Int.ofNat 8, []), 50) := rfl
theorem T_51_50 : hTab 51 50 = some ((33, 0, 0, []), 51) := rfl
theorem T_53_0 : hTab 53 0 = some ((3, 0, 2, []), 1) := rfl
theorem T_53_1 : hTab 53 1 = some ((24, 8, Int.ofNat 6, []), 4) := rfl
theorem T_53_4 : hTab 53 4 = some ((0, 0, (-2147483648), []), 6) := rfl
theorem T_53_6 : hTab 53 6 = some ((10, 5, 0, []), 7) := rfl
theorem T_53_7 : hTab 53 7 = some ((18, 0, Int.ofNat 16, []), 10) := rfl
theorem T_53_10 : hTab 53 10 = some ((0, 0, 128, []), 13) := rfl
theorem T_53_13 : hTab 53 13 = some ((22, 0, Int.ofNat 32, []), 16) := rfl
theorem T_53_16 : hTab 53 16 = some ((3, 0, 2, []), 17) := rfl
theorem T_53_17 : hTab 53 17 = some ((24, 8, Int.ofNat 6, []), 20) := rfl
theorem T_53_20 : hTab 53 20 = some ((0, 0, 1073741824, []), 22) := rfl
theorem T_53_22 : hTab 53 22 = some ((10, 5, 0, []), 23) := rfl
theorem T_53_23 : hTab 53 23 = some ((18, 0, Int.ofNat 31, []), 26) := rfl
theorem T_53_26 : hTab 53 26 = some ((0, 0, 64, []), 28) := rfl
theorem T_53_28 : hTab 53 28 = some ((22, 0, Int.ofNat 32, []), 31) := rfl
theorem T_53_31 : hTab 53 31 = some ((0, 0, 0, []), 32) := rfl
theorem T_53_32 : hTab 53 32 = some ((33, 1, 0, []), 33) := rfl
theorem T_55_0 : hTab 55 0 = some ((3, 0, 2, []), 1) := rfl
theorem T_55_1 : hTab 55 1 = some ((24, 8, Int.ofNat 6, []), 4) := rfl
theorem T_55_4 : hTab 55 4 = some ((0, 0, (-2147483648), []), 6) := rfl
theorem T_55_6 : hTab 55 6 = some ((10, 5, 0, []), 7) := rfl
theorem T_55_7 : hTab 55 7 = some ((18, 0, Int.ofNat 14, []), 10) := rfl
theorem T_55_10 : hTab 55 10 = some ((0, 0, 1, []), 11) := rfl
theorem T_55_11 : hTab 55 11 = some ((22, 0, Int.ofNat 15, []), 14) := rfl
theorem T_55_14 : hTab 55 14 = some ((0, 0, 0, []), 15) := rfl
theorem T_55_15 : hTab 55 15 = some ((33, 2, 0, []), 16) := rfl
theorem T_61_0 : hTab 61 0 = some ((3, 0, 2, []), 1) := rfl
theorem T_61_1 : hTab 61 1 = some ((24, 8, Int.ofNat 6, []), 4) := rfl
theorem T_61_4 : hTab 61 4 = some ((0, 0, 1073741824, []), 6) := rfl
theorem T_61_6 : hTab 61 6 = some ((10, 5, 0, []), 7) := rfl
theorem T_61_7 : hTab 61 7 = some ((18, 0, Int.ofNat 14, []), 10) := rfl
theorem T_61_10 : hTab 61 10 = some ((0, 0, 1, []), 11) := rfl
theorem T_61_11 : hTab 61 11 = some ((22, 0, Int.ofNat 15, []), 14) := rfl
theorem T_61_14 : hTab 61 14 = some ((0, 0, 0, []), 15) := rfl
theorem T_61_15 : hTab 61 15 = some ((33, 2, 0, []), 16) := rfl
theorem T_63_0 : hTab 63 0 = some ((3, 0, 2, []), 1) := rfl
theorem T_63_1 : hTab 63 1 = some ((3, 1, 0, []), 2) := rfl
theorem T_63_2 : hTab 63 2 = some ((25, 9, Int.ofNat 5, []), 5) := rfl
theorem T_63_5 : hTab 63 5 = some ((3, 0, 2, []), 6) := rfl
theorem T_63_6 : hTab 63 6 = some ((3, 2, 0, []), 7) := rfl
theorem T_63_7 : hTab 63 7 = some ((25, 9, Int.ofNat 6, []), 10) := rfl
theorem T_63_10 : hTab 63 10 = some ((33, 0, 0, []), 11) := rfl
theorem T_76_0 : hTab 76 0 = some ((0, 0, 58, []), 2) := rfl
theorem T_76_2 : hTab 76 2 = some ((3, 0, 2, []), 3) := rfl
theorem T_76_3 : hTab 76 3 = some ((24, 8, Int.ofNat 0, []), 6) := rfl
theorem T_76_6 : hTab 76 6 = some ((31, 28, 0, []), 9) := rfl
theorem T_76_9 : hTab 76 9 = some ((10, 0, 0, []), 10) := rfl
theorem T_76_10 : hTab 76 10 = some ((33, 1, 0, []), 11) := rfl
theorem F_8_0 : (hFd 8 0).2.2.1 = 4 := rfl
theorem F_8_1 : (hFd 8 1).2.2.1 = 4 := rfl
theorem F_8_2 : (hFd 8 2).2.2.1 = 4 := rfl
theorem F_8_3 : (hFd 8 3).2.2.1 = 0 := rfl
theorem F_8_4 : (hFd 8 4).2.2.1 = 0 := rfl
theorem F_8_5 : (hFd 8 5).2.2.1 = 0 := rfl
theorem F_8_6 : (hFd 8 6).2.2.1 = 0 := rfl
theorem F_8_7 : (hFd 8 7).2.2.1 = 0 := rfl
theorem F_8_8 : (hFd 8 8).2.2.1 = 0 := rfl
theorem F_8_9 : (hFd 8 9).2.2.1 = 0 := rfl
theorem F_8_10 : (hFd 8 10).2.2.1 = 0 := rfl
theorem F_9_2 : (hFd 9 2).2.2.1 = 0 := rfl
theorem F_9_3 : (hFd 9 3).2.2.1 = 4 := rfl
theorem F_9_4 : (hFd 9 4).2.2.1 = 0 := rfl
theorem F_9_5 : (hFd 9 5).2.2.1 = 0 := rfl
theorem F_9_6 : (hFd 9 6).2.2.1 = 2 := rfl
theorem F_9_7 : (hFd 9 7).2.2.1 = 3 := rfl
theorem F_9_8 : (hFd 9 8).2.2.1 = 0 := rfl
theorem mN_10 : hmN 10 = 5 := by decide +kernel
theorem mL_10 : hmL 10 = 5 := by decide +kernel
theorem mK_10 : hmK 10 = 1 := by decide +kernel
theorem mO_10 : hmO 10 = 8 := by decide +kernel
theorem mN_43 : hmN 43 = 3 := by decide +kernel
theorem mL_43 : hmL 43 = 4 := by decide +kernel
theorem mK_43 : hmK 43 = 1 := by decide +kernel
theorem mO_43 : hmO 43 = 8 := by decide +kernel
theorem mN_45 : hmN 45 = 2 := by decide +kernel
theorem mL_45 : hmL 45 = 2 := by decide +kernel
theorem mK_45 : hmK 45 = 1 := by decide +kernel
theorem mO_45 : hmO 45 = 8 := by decide +kernel
theorem mN_51 : hmN 51 = 4 := by decide +kernel
theorem mL_51 : hmL 51 = 5 := by decide +kernel
theorem mK_51 : hmK 51 = 1 := by decide +kernel
theorem mO_51 : hmO 51 = 9 := by decide +kernel
theorem mN_53 : hmN 53 = 1 := by decide +kernel
theorem mL_53 : hmL 53 = 1 := by decide +kernel
theorem mK_53 : hmK 53 = 1 := by decide +kernel
theorem mO_53 : hmO 53 = 8 := by decide +kernel
theorem mN_55 : hmN 55 = 1 := by decide +kernel
theorem mL_55 : hmL 55 = 1 := by decide +kernel
theorem mK_55 : hmK 55 = 1 := by decide +kernel
theorem mO_55 : hmO 55 = 8 := by decide +kernel
theorem mN_61 : hmN 61 = 1 := by decide +kernel
theorem mL_61 : hmL 61 = 1 := by decide +kernel
theorem mK_61 : hmK 61 = 1 := by decide +kernel
theorem mO_61 : hmO 61 = 8 := by decide +kernel
theorem mN_63 : hmN 63 = 3 := by decide +kernel
theorem mL_63 : hmL 63 = 3 := by decide +kernel
theorem mK_63 : hmK 63 = 1 := by decide +kernel
theorem mO_63 : hmO 63 = 9 := by decide +kernel
theorem mN_76 : hmN 76 = 1 := by decide +kernel
theorem mL_76 : hmL 76 = 1 := by decide +kernel
theorem mK_76 : hmK 76 = 1 := by decide +kernel
theorem mO_76 : hmO 76 = 8 := by decide +kernel
/-- the bits of a mode that are a user's -/
def ltB (md ui gi u : Int) : Int := if u = ui then shr32 md 6 else if u = gi then shr32 md 3 else md
/-- a file begun anew -/
def ndW (W : qR) (a : Nat) (path md u : Int) : qR := rU (rU (rU (rU (rU (rU (rU (rU W a 2260 path) a 2262 md) a 2263 u) a 2264 u) a 2265 u) a 2261 0) a 2266 0) a 2259 0
def ndR (R : rR) (a : Nat) (up : Option Nat) : rR := oU (oU R a 2257 up) a 2258 none
/-- a fid begun anew -/
def fdW (W : qR) (a : Nat) (num u path : Int) : qR := rU (rU (rU (rU (rU (rU (rU (rU W a 2288 1) a 2289 num) a 2290 u) a 2292 path) a 2293 (-1)) a 2294 0) a 2295 0) a 2296 0
section XNODE
variable {fb : Bool} {d S a b n : Nat} {σ0 σ : hM} {W W0 W1 W2 P : qR} {R : rR} {i k x z v s e w c f T U md ui gi u y path num : Int} {l : List Int} {r : Option Nat}
theorem and_bit (n j : Nat) : n &&& 2 ^ j = (n.testBit j).toNat * 2 ^ j := by
  apply Nat.eq_of_testBit_eq
  intro i
  rw [Nat.testBit_and, Nat.testBit_two_pow]
  cases q : n.testBit j
  · rw [Bool.toNat_false, Nat.zero_mul, Nat.zero_testBit]
    by_cases e : j = i
    · rw [← e, q, Bool.false_and]
    · rw [decide_eq_false e, Bool.and_false]
  · rw [Bool.toNat_true, Nat.one_mul, Nat.testBit_two_pow]
    by_cases e : j = i
    · rw [← e, q, Bool.true_and]
    · rw [decide_eq_false e, Bool.and_false]
theorem and32_nat {x : Int} {j : Nat} (hj : j < 32) : and32 x ((2 ^ j : Nat) : Int) = 0 ↔ (x % 4294967296).toNat.testBit j = false := by
  unfold and32
  show (BitVec.ofInt 32 x &&& BitVec.ofInt 32 ((2 ^ j : Nat) : Int)).toInt = 0 ↔ _
  have hp : 2 ^ j < 2 ^ 32 := Nat.pow_lt_pow_right (by decide) hj
  have e : (BitVec.ofInt 32 x &&& BitVec.ofInt 32 ((2 ^ j : Nat) : Int)).toNat = ((x % 4294967296).toNat.testBit j).toNat * 2 ^ j := by
    rw [BitVec.ofInt_natCast, BitVec.toNat_and, BitVec.toNat_ofNat, Nat.mod_eq_of_lt hp, BitVec.toNat_ofInt, ← and_bit]
    rfl
  have h0 : (BitVec.ofInt 32 x &&& BitVec.ofInt 32 ((2 ^ j : Nat) : Int)).toInt = 0 ↔ (BitVec.ofInt 32 x &&& BitVec.ofInt 32 ((2 ^ j : Nat) : Int)).toNat = 0 := by
    constructor
    · intro h
      rw [show (BitVec.ofInt 32 x &&& BitVec.ofInt 32 ((2 ^ j : Nat) : Int)) = 0#32 from BitVec.eq_of_toInt_eq (by rw [h]; rfl)]
      rfl
    · intro h
      rw [show (BitVec.ofInt 32 x &&& BitVec.ofInt 32 ((2 ^ j : Nat) : Int)) = 0#32 from BitVec.eq_of_toNat_eq (by rw [h]; rfl)]
      rfl
  rw [h0, e]
  cases (x % 4294967296).toNat.testBit j
  · exact ⟨fun _ => rfl, fun _ => Nat.zero_mul _⟩
  · have : 0 < 2 ^ j := Nat.pow_pos (by decide)
    exact ⟨fun h => by rw [Bool.toNat_true, Nat.one_mul] at h; omega, fun h => by cases h⟩
theorem and32_dir (h : -2147483648 ≤ md ∧ md ≤ 2147483647) : and32 md (-2147483648) = 0 ↔ 0 ≤ md := by
  have e : and32 md (-2147483648) = and32 md ((2 ^ 31 : Nat) : Int) := by
    unfold and32
    rfl
  rw [e, and32_nat (by decide), Nat.testBit_eq_decide_div_mod_eq, decide_eq_false_iff_not]
  omega
/-- of one bit either nothing or it -/
theorem and32_bit {x : Int} {j : Nat} (hj : j < 31) (h : ¬ and32 x ((2 ^ j : Nat) : Int) = 0) : and32 x ((2 ^ j : Nat) : Int) = ((2 ^ j : Nat) : Int) := by
  have hb : (x % 4294967296).toNat.testBit j = true := by
    cases q : (x % 4294967296).toNat.testBit j
    · exact absurd ((and32_nat (by omega)).mpr q) h
    · rfl
  unfold and32
  show (BitVec.ofInt 32 x &&& BitVec.ofInt 32 ((2 ^ j : Nat) : Int)).toInt = _
  have hp : 2 ^ j < 2 ^ 31 := Nat.pow_lt_pow_right (by decide) hj
  have e : (BitVec.ofInt 32 x &&& BitVec.ofInt 32 ((2 ^ j : Nat) : Int)).toNat = 2 ^ j := by
    have e2 := and_bit (x % 4294967296).toNat j
    rw [hb, Bool.toNat_true, Nat.one_mul] at e2
    rw [BitVec.ofInt_natCast, BitVec.toNat_and, BitVec.toNat_ofNat, Nat.mod_eq_of_lt (by omega), BitVec.toNat_ofInt]
    exact e2
  rw [BitVec.toInt_eq_toNat_of_lt (by rw [e]; omega), e]
theorem x_isDirectory (hP : PX σ0 W R σ) (hn : tX a = some (Sum.inl 8)) (hm : W a 2262 = md) (hr : -2147483648 ≤ md ∧ md ≤ 2147483647) : CL fb d 55 [vR (some a)] σ (rP (if md < 0 then 1 else 0) σ) := by
  have ha := and32_dir hr
  by_cases q : md < 0
  · rw [if_pos q]
    refine CL_in mL_55 rfl ?_
    show WP fb _ 55 0 [some (vR (some a))] [] σ _
    refine x_lr (z := some a) T_55_0 rfl ?_
    refine x_gI (z := md) T_55_1 (Or.inl F_8_6) (hP.o hn) (Eq.trans (hP.gi hn (key := 2262) rfl) hm) ?_
    refine x_ic T_55_4 ?_
    refine x_ib (w := (and32 md (-2147483648))) T_55_6 (fun h => absurd h.1 (by decide)) rfl ?_
    refine x_if T_55_7 (fun h => absurd (show (and32 md (-2147483648)) = 0 from h) (by exact fun c => absurd (ha.mp c) (by omega))) (fun _ => ?_)
    refine x_ic T_55_10 ?_
    refine x_goto T_55_11 ?_
    refine x_rz T_55_15 rfl ?_
    exact ⟨rfl, rfl⟩
  · rw [if_neg q]
    refine CL_in mL_55 rfl ?_
    show WP fb _ 55 0 [some (vR (some a))] [] σ _
    refine x_lr (z := some a) T_55_0 rfl ?_
    refine x_gI (z := md) T_55_1 (Or.inl F_8_6) (hP.o hn) (Eq.trans (hP.gi hn (key := 2262) rfl) hm) ?_
    refine x_ic T_55_4 ?_
    refine x_ib (w := (and32 md (-2147483648))) T_55_6 (fun h => absurd h.1 (by decide)) rfl ?_
    refine x_if T_55_7 (fun _ => ?_) (fun h => absurd (show (and32 md (-2147483648)) = 0 by exact ha.mpr (by omega)) h)
    refine x_ic T_55_14 ?_
    refine x_rz T_55_15 rfl ?_
    exact ⟨rfl, rfl⟩
theorem x_onlyGrows (hP : PX σ0 W R σ) (hn : tX a = some (Sum.inl 8)) (hm : W a 2262 = md) : CL fb d 61 [vR (some a)] σ (rP (if and32 md 1073741824 = 0 then 0 else 1) σ) := by
  by_cases q : and32 md 1073741824 = 0
  · rw [if_pos q]
    refine CL_in mL_61 rfl ?_
    show WP fb _ 61 0 [some (vR (some a))] [] σ _
    refine x_lr (z := some a) T_61_0 rfl ?_
    refine x_gI (z := md) T_61_1 (Or.inl F_8_6) (hP.o hn) (Eq.trans (hP.gi hn (key := 2262) rfl) hm) ?_
    refine x_ic T_61_4 ?_
    refine x_ib (w := (and32 md 1073741824)) T_61_6 (fun h => absurd h.1 (by decide)) rfl ?_
    refine x_if T_61_7 (fun _ => ?_) (fun h => absurd (show (and32 md 1073741824) = 0 by exact q) h)
    refine x_ic T_61_14 ?_
    refine x_rz T_61_15 rfl ?_
    exact ⟨rfl, rfl⟩
  · rw [if_neg q]
    refine CL_in mL_61 rfl ?_
    show WP fb _ 61 0 [some (vR (some a))] [] σ _
    refine x_lr (z := some a) T_61_0 rfl ?_
    refine x_gI (z := md) T_61_1 (Or.inl F_8_6) (hP.o hn) (Eq.trans (hP.gi hn (key := 2262) rfl) hm) ?_
    refine x_ic T_61_4 ?_
    refine x_ib (w := (and32 md 1073741824)) T_61_6 (fun h => absurd h.1 (by decide)) rfl ?_
    refine x_if T_61_7 (fun h => absurd (show (and32 md 1073741824) = 0 from h) (by exact q)) (fun _ => ?_)
    refine x_ic T_61_10 ?_
    refine x_goto T_61_11 ?_
    refine x_rz T_61_15 rfl ?_
    exact ⟨rfl, rfl⟩
theorem x_kind (hP : PX σ0 W R σ) (hn : tX a = some (Sum.inl 8)) (hm : W a 2262 = md) (hr : -2147483648 ≤ md ∧ md ≤ 2147483647) : CL fb d 53 [vR (some a)] σ (rP (if md < 0 then 128 else if and32 md 1073741824 = 0 then 0 else 64) σ) := by
  have ha := and32_dir hr
  by_cases q : md < 0
  · rw [if_pos q]
    refine CL_in mL_53 rfl ?_
    show WP fb _ 53 0 [some (vR (some a))] [] σ _
    refine x_lr (z := some a) T_53_0 rfl ?_
    refine x_gI (z := md) T_53_1 (Or.inl F_8_6) (hP.o hn) (Eq.trans (hP.gi hn (key := 2262) rfl) hm) ?_
    refine x_ic T_53_4 ?_
    refine x_ib (w := (and32 md (-2147483648))) T_53_6 (fun h => absurd h.1 (by decide)) rfl ?_
    refine x_if T_53_7 (fun h => absurd (show (and32 md (-2147483648)) = 0 from h) (by exact fun c => absurd (ha.mp c) (by omega))) (fun _ => ?_)
    refine x_ic T_53_10 ?_
    refine x_goto T_53_13 ?_
    refine x_ri T_53_32 ?_
    exact ⟨rfl, rfl⟩
  · rw [if_neg q]
    have ha := ha.mpr (by omega)
    by_cases q2 : and32 md 1073741824 = 0
    · rw [if_pos q2]
      refine CL_in mL_53 rfl ?_
      show WP fb _ 53 0 [some (vR (some a))] [] σ _
      refine x_lr (z := some a) T_53_0 rfl ?_
      refine x_gI (z := md) T_53_1 (Or.inl F_8_6) (hP.o hn) (Eq.trans (hP.gi hn (key := 2262) rfl) hm) ?_
      refine x_ic T_53_4 ?_
      refine x_ib (w := (and32 md (-2147483648))) T_53_6 (fun h => absurd h.1 (by decide)) rfl ?_
      refine x_if T_53_7 (fun _ => ?_) (fun h => absurd (show (and32 md (-2147483648)) = 0 by exact ha) h)
      refine x_lr (z := some a) T_53_16 rfl ?_
      refine x_gI (z := md) T_53_17 (Or.inl F_8_6) (hP.o hn) (Eq.trans (hP.gi hn (key := 2262) rfl) hm) ?_
      refine x_ic T_53_20 ?_
      refine x_ib (w := (and32 md 1073741824)) T_53_22 (fun h => absurd h.1 (by decide)) rfl ?_
      refine x_if T_53_23 (fun _ => ?_) (fun h => absurd (show (and32 md 1073741824) = 0 by exact q2) h)
      refine x_ic T_53_31 ?_
      refine x_ri T_53_32 ?_
      exact ⟨rfl, rfl⟩
    · rw [if_neg q2]
      refine CL_in mL_53 rfl ?_
      show WP fb _ 53 0 [some (vR (some a))] [] σ _
      refine x_lr (z := some a) T_53_0 rfl ?_
      refine x_gI (z := md) T_53_1 (Or.inl F_8_6) (hP.o hn) (Eq.trans (hP.gi hn (key := 2262) rfl) hm) ?_
      refine x_ic T_53_4 ?_
      refine x_ib (w := (and32 md (-2147483648))) T_53_6 (fun h => absurd h.1 (by decide)) rfl ?_
      refine x_if T_53_7 (fun _ => ?_) (fun h => absurd (show (and32 md (-2147483648)) = 0 by exact ha) h)
      refine x_lr (z := some a) T_53_16 rfl ?_
      refine x_gI (z := md) T_53_17 (Or.inl F_8_6) (hP.o hn) (Eq.trans (hP.gi hn (key := 2262) rfl) hm) ?_
      refine x_ic T_53_20 ?_
      refine x_ib (w := (and32 md 1073741824)) T_53_22 (fun h => absurd h.1 (by decide)) rfl ?_
      refine x_if T_53_23 (fun h => absurd (show (and32 md 1073741824) = 0 from h) (by exact q2)) (fun _ => ?_)
      refine x_ic T_53_26 ?_
      refine x_goto T_53_28 ?_
      refine x_ri T_53_32 ?_
      exact ⟨rfl, rfl⟩
theorem x_lets (hP : PX σ0 W R σ) (hn : tX a = some (Sum.inl 8)) (hm : W a 2262 = md) (hu : W a 2263 = ui) (hg : W a 2264 = gi) (hr : -2147483648 ≤ md ∧ md ≤ 2147483647) : CL fb d 43 [vR (some a), vI u, vI w] σ (rP (if and32 (ltB md ui gi u) w = w then 1 else 0) σ) := by
  have fin : ∀ sh : Int, shr32 md sh = ltB md ui gi u → WP fb d 43 26 [some (vR (some a)), some (vI u), some (vI w), none] [vI sh] σ (rP (if and32 (ltB md ui gi u) w = w then 1 else 0) σ) := fun sh hsh => by
    obtain ⟨y, hy⟩ : ∃ y, ltB md ui gi u = y := ⟨_, rfl⟩
    rw [hy] at hsh ⊢
    by_cases q : and32 y w = w
    · rw [if_pos q]
      refine x_si (ls1 := [some (vR (some a)), some (vI u), some (vI w), some (vI sh)]) T_43_26 rfl ?_
      refine x_lr (z := some a) T_43_27 rfl ?_
      refine x_gI (z := md) T_43_28 (Or.inl F_8_6) (hP.o hn) (Eq.trans (hP.gi hn (key := 2262) rfl) hm) ?_
      refine x_li (z := sh) T_43_31 rfl ?_
      refine x_ib (w := y) T_43_32 (fun h => absurd h.1 (by decide)) hsh ?_
      refine x_li (z := w) T_43_33 rfl ?_
      refine x_ib (w := (and32 y w)) T_43_34 (fun h => absurd h.1 (by decide)) rfl ?_
      refine x_li (z := w) T_43_35 rfl ?_
      refine x_ic2 T_43_36 (fun h => absurd (show ¬ (and32 y w) = w from h) (by exact fun c => c q)) (fun _ => ?_)
      refine x_ic T_43_39 ?_
      refine x_goto T_43_40 ?_
      refine x_rz T_43_44 rfl ?_
      exact ⟨rfl, rfl⟩
    · rw [if_neg q]
      refine x_si (ls1 := [some (vR (some a)), some (vI u), some (vI w), some (vI sh)]) T_43_26 rfl ?_
      refine x_lr (z := some a) T_43_27 rfl ?_
      refine x_gI (z := md) T_43_28 (Or.inl F_8_6) (hP.o hn) (Eq.trans (hP.gi hn (key := 2262) rfl) hm) ?_
      refine x_li (z := sh) T_43_31 rfl ?_
      refine x_ib (w := y) T_43_32 (fun h => absurd h.1 (by decide)) hsh ?_
      refine x_li (z := w) T_43_33 rfl ?_
      refine x_ib (w := (and32 y w)) T_43_34 (fun h => absurd h.1 (by decide)) rfl ?_
      refine x_li (z := w) T_43_35 rfl ?_
      refine x_ic2 T_43_36 (fun _ => ?_) (fun h => absurd (show ¬ (and32 y w) = w by exact q) h)
      refine x_ic T_43_43 ?_
      refine x_rz T_43_44 rfl ?_
      exact ⟨rfl, rfl⟩
  by_cases q1 : u = ui
  · have fin := fin 6 (by unfold ltB; rw [if_pos q1])
    refine CL_in mL_43 rfl ?_
    show WP fb _ 43 0 [some (vR (some a)), some (vI u), some (vI w), none] [] σ _
    refine x_li (z := u) T_43_0 rfl ?_
    refine x_lr (z := some a) T_43_1 rfl ?_
    refine x_gI (z := ui) T_43_2 (Or.inl F_8_7) (hP.o hn) (Eq.trans (hP.gi hn (key := 2263) rfl) hu) ?_
    refine x_ic2 T_43_5 (fun h => absurd (show ¬ u = ui from h) (by exact fun c => c q1)) (fun _ => ?_)
    refine x_ic T_43_8 ?_
    refine x_goto T_43_10 ?_
    exact fin
  · by_cases q2 : u = gi
    · have fin := fin 3 (by unfold ltB; rw [if_neg q1, if_pos q2])
      refine CL_in mL_43 rfl ?_
      show WP fb _ 43 0 [some (vR (some a)), some (vI u), some (vI w), none] [] σ _
      refine x_li (z := u) T_43_0 rfl ?_
      refine x_lr (z := some a) T_43_1 rfl ?_
      refine x_gI (z := ui) T_43_2 (Or.inl F_8_7) (hP.o hn) (Eq.trans (hP.gi hn (key := 2263) rfl) hu) ?_
      refine x_ic2 T_43_5 (fun _ => ?_) (fun h => absurd (show ¬ u = ui by exact q1) h)
      refine x_li (z := u) T_43_13 rfl ?_
      refine x_lr (z := some a) T_43_14 rfl ?_
      refine x_gI (z := gi) T_43_15 (Or.inl F_8_8) (hP.o hn) (Eq.trans (hP.gi hn (key := 2264) rfl) hg) ?_
      refine x_ic2 T_43_18 (fun h => absurd (show ¬ u = gi from h) (by exact fun c => c q2)) (fun _ => ?_)
      refine x_ic T_43_21 ?_
      refine x_goto T_43_22 ?_
      exact fin
    · have fin := fin 0 (by unfold ltB; rw [if_neg q1, if_neg q2]; exact shr32_0 hr)
      refine CL_in mL_43 rfl ?_
      show WP fb _ 43 0 [some (vR (some a)), some (vI u), some (vI w), none] [] σ _
      refine x_li (z := u) T_43_0 rfl ?_
      refine x_lr (z := some a) T_43_1 rfl ?_
      refine x_gI (z := ui) T_43_2 (Or.inl F_8_7) (hP.o hn) (Eq.trans (hP.gi hn (key := 2263) rfl) hu) ?_
      refine x_ic2 T_43_5 (fun _ => ?_) (fun h => absurd (show ¬ u = ui by exact q1) h)
      refine x_li (z := u) T_43_13 rfl ?_
      refine x_lr (z := some a) T_43_14 rfl ?_
      refine x_gI (z := gi) T_43_15 (Or.inl F_8_8) (hP.o hn) (Eq.trans (hP.gi hn (key := 2264) rfl) hg) ?_
      refine x_ic2 T_43_18 (fun _ => ?_) (fun h => absurd (show ¬ u = gi by exact q2) h)
      refine x_ic T_43_25 ?_
      exact fin
theorem x_grew (hP : PX σ0 W R σ) (hn : tX a = some (Sum.inl 8)) (hv : W a 2261 = v) (hr : 0 ≤ v ∧ v < 2147483647) : CL fb d 45 [vR (some a), vI u] σ (fun r σ' => r = none ∧ PX σ0 (rU (rU W a 2261 (v + 1)) a 2265 u) R σ') := by
  refine CL_in mL_45 rfl ?_
  show WP fb _ 45 0 [some (vR (some a)), some (vI u)] [] σ _
  refine x_lr (z := some a) T_45_0 rfl ?_
  refine x_dupR T_45_1 ?_
  refine x_gI (z := v) T_45_2 (Or.inl F_8_5) (hP.o hn) (Eq.trans (hP.gi hn (key := 2261) rfl) hv) ?_
  refine x_ic T_45_5 ?_
  refine x_ib (w := (v + 1)) T_45_6 (fun h => absurd h.1 (by decide)) (w32_id (by omega) (by omega)) ?_
  refine z_pI hP T_45_7 F_8_5 hn (key := 2261) rfl (fun σ hP => ?_)
  refine x_lr (z := some a) T_45_10 rfl ?_
  refine x_li (z := u) T_45_11 rfl ?_
  refine z_pI hP T_45_12 F_8_9 hn (key := 2265) rfl (fun σ hP => ?_)
  refine x_rv T_45_15 ?_
  exact ⟨rfl, hP⟩
theorem tX_name (h : tX a = some (Sum.inl 8)) : tX (a + 1) = some (Sum.inl 2) := by
  have ha := (tX_o h).2
  have hk : ∀ a < 2281, (match tX a with | some (Sum.inl 8) => (match tX (a + 1) with | some (Sum.inl 2) => true | _ => false) | _ => true) = true := by decide +kernel
  have h2 := hk a ha
  rw [h] at h2
  split at h2
  · split at h2
    · assumption
    · cases h2
  · rename_i e
    exact absurd rfl e
theorem x_statSize (hP : PX σ0 W R σ) (hn : tX a = some (Sum.inl 8)) (hB : BY W (a + 1) 12 l) (hz : (l.length : Int) = z) : CL fb (d + 1) 76 [vR (some a)] σ (rP (58 + z) σ) := by
  have hl := hB.2.2.2.2.1
  have hs := x_size (fb := fb) (d := d) hP hB hz
  refine CL_in mL_76 rfl ?_
  show WP fb _ 76 0 [some (vR (some a))] [] σ _
  refine x_ic T_76_0 ?_
  refine x_lr (z := some a) T_76_2 rfl ?_
  refine x_gR (z := some (a + 1)) T_76_3 F_8_0 (hP.o hn) (hP.rc hn rfl rfl) ?_
  refine x_cv1 T_76_6 mN_28 mL_28 (Nat.le_of_ble_eq_true rfl) mO_28 (hP.o hB.1) (Nat.le_of_ble_eq_true rfl) (hs) ?_
  rintro _ σ ⟨rfl, rfl⟩
  refine cI ?_
  refine x_ib (w := (58 + z)) T_76_9 (fun h => absurd h.1 (by decide)) (w32_id (by omega) (by omega)) ?_
  refine x_ri T_76_10 ?_
  exact ⟨rfl, rfl⟩
theorem x_nodeBecome (hP : PX σ0 W R σ) (hn : tX a = some (Sum.inl 8)) : CL fb d 10 [vR (some a), vI path, vR r, vI md, vI u] σ (fun r1 σ' => r1 = none ∧ PX σ0 (ndW W a path md u) (ndR R a r) σ') := by
  refine CL_in mL_10 rfl ?_
  show WP fb _ 10 0 [some (vR (some a)), some (vI path), some (vR r), some (vI md), some (vI u)] [] σ _
  refine x_lr (z := some a) T_10_0 rfl ?_
  refine x_li (z := path) T_10_1 rfl ?_
  refine z_pI hP T_10_2 F_8_4 hn (key := 2260) rfl (fun σ hP => ?_)
  refine x_lr (z := some a) T_10_5 rfl ?_
  refine x_lr (z := r) T_10_6 rfl ?_
  refine z_pR hP T_10_7 F_8_1 rfl hn (key := 2257) rfl (fun σ hP => ?_)
  refine x_lr (z := some a) T_10_10 rfl ?_
  refine x_li (z := md) T_10_11 rfl ?_
  refine z_pI hP T_10_12 F_8_6 hn (key := 2262) rfl (fun σ hP => ?_)
  refine x_lr (z := some a) T_10_15 rfl ?_
  refine x_li (z := u) T_10_16 rfl ?_
  refine z_pI hP T_10_18 F_8_7 hn (key := 2263) rfl (fun σ hP => ?_)
  refine x_lr (z := some a) T_10_21 rfl ?_
  refine x_li (z := u) T_10_22 rfl ?_
  refine z_pI hP T_10_24 F_8_8 hn (key := 2264) rfl (fun σ hP => ?_)
  refine x_lr (z := some a) T_10_27 rfl ?_
  refine x_li (z := u) T_10_28 rfl ?_
  refine z_pI hP T_10_30 F_8_9 hn (key := 2265) rfl (fun σ hP => ?_)
  refine x_lr (z := some a) T_10_33 rfl ?_
  refine x_ic T_10_34 ?_
  refine z_pI hP T_10_35 F_8_5 hn (key := 2261) rfl (fun σ hP => ?_)
  refine x_lr (z := some a) T_10_38 rfl ?_
  refine x_ic T_10_39 ?_
  refine z_pI hP T_10_40 F_8_10 hn (key := 2266) rfl (fun σ hP => ?_)
  refine x_lr (z := some a) T_10_43 rfl ?_
  refine x_ic T_10_44 ?_
  refine z_pI hP T_10_45 F_8_3 hn (key := 2259) rfl (fun σ hP => ?_)
  refine x_lr (z := some a) T_10_48 rfl ?_
  refine x_nu T_10_49 ?_
  refine z_pR hP T_10_50 F_8_2 rfl hn (key := 2258) rfl (fun σ hP => ?_)
  refine x_rv T_10_53 ?_
  exact ⟨rfl, hP⟩
theorem x_fidBecome (hP : PX σ0 W R σ) (hf : tX a = some (Sum.inl 9)) (hn : tX b = some (Sum.inl 8)) (hp : W b 2260 = path) : CL fb d 51 [vR (some a), vL num, vI u, vR (some b)] σ (fun r1 σ' => r1 = none ∧ PX σ0 (fdW W a num u path) (oU R a 2291 (some b)) σ') := by
  refine CL_in mL_51 rfl ?_
  show WP fb _ 51 0 [some (vR (some a)), some (vL num), none, some (vI u), some (vR (some b))] [] σ _
  refine x_lr (z := some a) T_51_0 rfl ?_
  refine x_ic T_51_1 ?_
  refine z_pZ hP T_51_2 F_9_0 rfl hf (key := 2288) rfl (fun σ hP => ?_)
  refine x_lr (z := some a) T_51_5 rfl ?_
  refine x_ll (z := num) T_51_6 rfl ?_
  refine z_pL hP T_51_7 F_9_1 hf (key := 2289) rfl (fun σ hP => ?_)
  refine x_lr (z := some a) T_51_10 rfl ?_
  refine x_li (z := u) T_51_11 rfl ?_
  refine z_pI hP T_51_12 F_9_2 hf (key := 2290) rfl (fun σ hP => ?_)
  refine x_lr (z := some a) T_51_15 rfl ?_
  refine x_lr (z := some b) T_51_16 rfl ?_
  refine z_pR hP T_51_18 F_9_3 rfl hf (key := 2291) rfl (fun σ hP => ?_)
  refine x_lr (z := some a) T_51_21 rfl ?_
  refine x_lr (z := some b) T_51_22 rfl ?_
  refine x_gI (z := path) T_51_24 (Or.inl F_8_4) (hP.o hn) (Eq.trans (Eq.trans (hP.gi hn (key := 2260) rfl) (Eq.trans (rU_j (by decide)) (Eq.trans (rU_j (by decide)) (rU_j (by decide))))) hp) ?_
  refine z_pI hP T_51_27 F_9_4 hf (key := 2292) rfl (fun σ hP => ?_)
  refine x_lr (z := some a) T_51_30 rfl ?_
  refine x_ic T_51_31 ?_
  refine z_pI hP T_51_32 F_9_5 hf (key := 2293) rfl (fun σ hP => ?_)
  refine x_lr (z := some a) T_51_35 rfl ?_
  refine x_ic T_51_36 ?_
  refine z_pZ hP T_51_37 F_9_6 rfl hf (key := 2294) rfl (fun σ hP => ?_)
  refine x_lr (z := some a) T_51_40 rfl ?_
  refine x_lc T_51_41 ?_
  refine z_pL hP T_51_42 F_9_7 hf (key := 2295) rfl (fun σ hP => ?_)
  refine x_lr (z := some a) T_51_45 rfl ?_
  refine x_ic T_51_46 ?_
  refine z_pI hP T_51_47 F_9_8 hf (key := 2296) rfl (fun σ hP => ?_)
  refine x_rv T_51_50 ?_
  exact ⟨rfl, hP⟩
theorem x_fidOpen (hP : PX σ0 W R σ) (hf : tX a = some (Sum.inl 9)) (hx : x = 0 ∨ x = 1) : CL fb d 63 [vR (some a), vI md, vI x] σ (fun r1 σ' => r1 = none ∧ PX σ0 (rU (rU W a 2293 md) a 2294 x) R σ') := by
  refine CL_in mL_63 rfl ?_
  show WP fb _ 63 0 [some (vR (some a)), some (vI md), some (vI x)] [] σ _
  refine x_lr (z := some a) T_63_0 rfl ?_
  refine x_li (z := md) T_63_1 rfl ?_
  refine z_pI hP T_63_2 F_9_5 hf (key := 2293) rfl (fun σ hP => ?_)
  refine x_lr (z := some a) T_63_5 rfl ?_
  refine x_li (z := x) T_63_6 rfl ?_
  refine z_pZ hP T_63_7 F_9_6 (h01_of (by omega)) hf (key := 2294) rfl (fun σ hP => ?_)
  refine x_rv T_63_10 ?_
  exact ⟨rfl, hP⟩
end XNODE
