/-! Numbers as bytes; the small words of bits. -/
theorem sb8_b (z : Int) : sb8 z = z.bmod 256 := by
  unfold sb8
  rw [Int32.toInt8_ofInt, Int8.toInt_toInt32, Int8.toInt_ofInt]
theorem sb8_mod (z : Int) : sb8 (z % 256) = sb8 z := by
  rw [sb8_b, sb8_b]
  exact Int.emod_bmod z 256
theorem sb8_w32 (z : Int) : sb8 (w32 z) = sb8 z := by
  rw [sb8_b, sb8_b]
  exact Int.bmod_bmod_of_dvd (by decide)
theorem sb8_val {b : Int} (h : 0 ≤ b ∧ b ≤ 255) : sb8 b = if b < 128 then b else b - 256 := by
  rw [sb8_b, Int.bmod_def]
  split <;> split <;> omega
theorem and32_byte {b : Int} (h : 0 ≤ b ∧ b ≤ 255) : and32 (sb8 b) 255 = b := by
  have h1 : (List.range 256).all (fun i => decide (and32 (sb8 (i : Int)) 255 = (i : Int))) = true := by decide +kernel
  obtain ⟨i, rfl⟩ := Int.eq_ofNat_of_zero_le h.1
  exact of_decide_eq_true (List.all_eq_true.mp h1 i (List.mem_range.mpr (by omega)))
theorem and64_255 (z : Int) : and64 z 255 = z % 256 := by
  unfold and64
  show (BitVec.ofInt 64 z &&& 255#64).toInt = z % 256
  have h1 : (BitVec.ofInt 64 z &&& 255#64).toNat = (z % 18446744073709551616).toNat % 256 := by
    rw [BitVec.toNat_and, BitVec.toNat_ofInt]
    exact Nat.and_two_pow_sub_one_eq_mod _ 8
  rw [BitVec.toInt_eq_toNat_of_lt (by rw [h1]; omega), h1]
  omega
theorem and32_255 (z : Int) : and32 z 255 = z % 256 := by
  unfold and32
  show (BitVec.ofInt 32 z &&& 255#32).toInt = z % 256
  have h1 : (BitVec.ofInt 32 z &&& 255#32).toNat = (z % 4294967296).toNat % 256 := by
    rw [BitVec.toNat_and, BitVec.toNat_ofInt]
    exact Nat.and_two_pow_sub_one_eq_mod _ 8
  rw [BitVec.toInt_eq_toNat_of_lt (by rw [h1]; omega), h1]
  omega
theorem shr64_n {v y : Int} {n : Nat} (h : ((Int32.ofInt y).toInt64 &&& 63).toBitVec.smod 64 = BitVec.ofNat 64 n) (hn : n < 64) : shr64 v y = w64 v / 2 ^ n := by
  unfold shr64
  show (BitVec.sshiftRight' (BitVec.ofInt 64 v) (((Int32.ofInt y).toInt64 &&& 63).toBitVec.smod 64)).toInt = _
  rw [h, BitVec.sshiftRight_eq', BitVec.toInt_sshiftRight, BitVec.toInt_ofInt, Int.shiftRight_eq_div_pow, BitVec.toNat_ofNat, Nat.mod_eq_of_lt (by omega)]
  rfl
theorem shr32_n {v y : Int} {n : Nat} (h : (Int32.ofInt y &&& 31).toBitVec.smod 32 = BitVec.ofNat 32 n) (hn : n < 32) : shr32 v y = w32 v / 2 ^ n := by
  unfold shr32
  show (BitVec.sshiftRight' (BitVec.ofInt 32 v) ((Int32.ofInt y &&& 31).toBitVec.smod 32)).toInt = _
  rw [h, BitVec.sshiftRight_eq', BitVec.toInt_sshiftRight, BitVec.toInt_ofInt, Int.shiftRight_eq_div_pow, BitVec.toNat_ofNat, Nat.mod_eq_of_lt (by omega)]
  rfl
theorem w64_def (v : Int) : ∃ q : Int, w64 v = v - 18446744073709551616 * q := by
  unfold w64
  rw [Int.bmod_def]
  have h := Int.emod_add_mul_ediv v 18446744073709551616
  split
  · exact ⟨v / 18446744073709551616, by omega⟩
  · exact ⟨v / 18446744073709551616 + 1, by omega⟩
/-- byte k of a long, as the reference takes it -/
theorem byte64 (v : Int) {k : Int} (h0 : 0 ≤ k) (h1 : k < 8) : and64 (shr64 v (8 * k)) 255 = v / 256 ^ k.toNat % 256 := by
  rw [and64_255]
  obtain ⟨q, hq⟩ := w64_def v
  have hk : k = 0 ∨ k = 1 ∨ k = 2 ∨ k = 3 ∨ k = 4 ∨ k = 5 ∨ k = 6 ∨ k = 7 := by omega
  rcases hk with rfl | rfl | rfl | rfl | rfl | rfl | rfl | rfl
  · rw [shr64_n (n := 0) (by decide) (by decide), hq]
    show (v - 18446744073709551616 * q) / 1 % 256 = v / 1 % 256
    omega
  · rw [shr64_n (n := 8) (by decide) (by decide), hq]
    show (v - 18446744073709551616 * q) / 256 % 256 = v / 256 % 256
    omega
  · rw [shr64_n (n := 16) (by decide) (by decide), hq]
    show (v - 18446744073709551616 * q) / 65536 % 256 = v / 65536 % 256
    omega
  · rw [shr64_n (n := 24) (by decide) (by decide), hq]
    show (v - 18446744073709551616 * q) / 16777216 % 256 = v / 16777216 % 256
    omega
  · rw [shr64_n (n := 32) (by decide) (by decide), hq]
    show (v - 18446744073709551616 * q) / 4294967296 % 256 = v / 4294967296 % 256
    omega
  · rw [shr64_n (n := 40) (by decide) (by decide), hq]
    show (v - 18446744073709551616 * q) / 1099511627776 % 256 = v / 1099511627776 % 256
    omega
  · rw [shr64_n (n := 48) (by decide) (by decide), hq]
    show (v - 18446744073709551616 * q) / 281474976710656 % 256 = v / 281474976710656 % 256
    omega
  · rw [shr64_n (n := 56) (by decide) (by decide), hq]
    show (v - 18446744073709551616 * q) / 72057594037927936 % 256 = v / 72057594037927936 % 256
    omega
/-- byte k of a size of up to 65535 -/
theorem byte32 {v k : Int} (hv0 : 0 ≤ v) (hv1 : v ≤ 2147483647) (h0 : 0 ≤ k) (h1 : k < 4) : and32 (shr32 v (8 * k)) 255 = v / 256 ^ k.toNat % 256 := by
  rw [and32_255]
  have hk : k = 0 ∨ k = 1 ∨ k = 2 ∨ k = 3 := by omega
  have hw : w32 v = v := w32_id (by omega) (by omega)
  rcases hk with rfl | rfl | rfl | rfl
  · rw [shr32_n (n := 0) (by decide) (by decide), hw]
    rfl
  · rw [shr32_n (n := 8) (by decide) (by decide), hw]
    rfl
  · rw [shr32_n (n := 16) (by decide) (by decide), hw]
    rfl
  · rw [shr32_n (n := 24) (by decide) (by decide), hw]
    rfl
theorem rem32_n {x y : Int} (h0 : 0 ≤ x ∧ x ≤ 2147483647) (h1 : 0 < y ∧ y ≤ 2147483647) (hy : y ≤ 65536) : rem32 x y = x % y := by
  unfold rem32
  have hx : (Int32.ofInt x).toInt = x := Int32.toInt_ofInt_of_le (by omega) (by omega)
  have hy1 : (Int32.ofInt y).toInt = y := Int32.toInt_ofInt_of_le (by omega) (by omega)
  have hq0 : 0 ≤ x / y := Int.ediv_nonneg h0.1 (by omega)
  have hq1 : x / y ≤ x := Int.ediv_le_self y h0.1
  have hm := Int.emod_add_mul_ediv x y
  have hm0 := Int.emod_nonneg x (show y ≠ 0 by omega)
  rw [Int32.toInt_sub, Int32.toInt_mul, Int32.toInt_div, hx, hy1, Int.tdiv_eq_ediv_of_nonneg h0.1]
  have e1 : (x / y).bmod (2 ^ 32) = x / y := Int.bmod_eq_of_le (by show -2147483648 ≤ x / y; omega) (by show x / y < 2147483648; omega)
  rw [e1]
  have e2 : x / y * y = x - x % y := by rw [Int.mul_comm]; omega
  have e3 : x % y ≤ x := by
    have : 0 ≤ x / y * y := Int.mul_nonneg hq0 (by omega)
    omega
  rw [e2, Int.bmod_eq_of_le (n := x - x % y) (by show -2147483648 ≤ x - x % y; omega) (by show x - x % y < 2147483648; omega)]
  rw [show x - (x - x % y) = x % y by omega]
  exact Int.bmod_eq_of_le (by show -2147483648 ≤ x % y; omega) (by show x % y < 2147483648; omega)
theorem div32_n {x y : Int} (h0 : 0 ≤ x ∧ x ≤ 2147483647) (h1 : 0 < y ∧ y ≤ 2147483647) (hy : y ≤ 65536) : div32 x y = x / y := by
  unfold div32
  have hx : (Int32.ofInt x).toInt = x := Int32.toInt_ofInt_of_le (by omega) (by omega)
  have hy1 : (Int32.ofInt y).toInt = y := Int32.toInt_ofInt_of_le (by omega) (by omega)
  have hq0 : 0 ≤ x / y := Int.ediv_nonneg h0.1 (by omega)
  have hq1 : x / y ≤ x := Int.ediv_le_self y h0.1
  rw [Int32.toInt_div, hx, hy1, Int.tdiv_eq_ediv_of_nonneg h0.1]
  exact Int.bmod_eq_of_le (by show -2147483648 ≤ x / y; omega) (by show x / y < 2147483648; omega)
/-- a list at a place -/
def lg (l : List Int) (j : Int) : Int := l.getD j.toNat 0
theorem lg_app {l1 l2 : List Int} {i : Int} (h : 0 ≤ i) : lg (l1 ++ l2) i = if i < l1.length then lg l1 i else lg l2 (i - l1.length) := by
  unfold lg
  rw [List.getD_eq_getElem?_getD, List.getD_eq_getElem?_getD, List.getD_eq_getElem?_getD, List.getElem?_append]
  by_cases q : i < l1.length
  · rw [if_pos q, if_pos (show i.toNat < l1.length by omega)]
  · rw [if_neg q, if_neg (show ¬ i.toNat < l1.length by omega), show (i - (l1.length : Int)).toNat = i.toNat - l1.length by omega]
/-- a number's bytes, the lowest first -/
def leb : Nat → Int → List Int
  | 0, _ => []
  | k + 1, v => v % 256 :: leb k (v / 256)
theorem leb_len : ∀ (k : Nat) (v : Int), (leb k v).length = k
  | 0, _ => rfl
  | k + 1, v => by show (leb k (v / 256)).length + 1 = k + 1; rw [leb_len k]
theorem leb_snoc : ∀ (k : Nat) (v : Int), leb (k + 1) v = leb k v ++ [v / 256 ^ k % 256]
  | 0, v => by show [v % 256] = [] ++ [v / 1 % 256]; rw [Int.ediv_one]; rfl
  | k + 1, v => by
    show v % 256 :: leb (k + 1) (v / 256) = v % 256 :: (leb k (v / 256) ++ [v / 256 ^ (k + 1) % 256])
    rw [leb_snoc k (v / 256), Int.ediv_ediv_of_nonneg (by decide : (0 : Int) ≤ 256), show (256 : Int) ^ (k + 1) = 256 * 256 ^ k by rw [Int.pow_succ, Int.mul_comm]]
/-- the number of n bytes from there on -/
def nu (f : Int → Int) (i : Int) : Nat → Int
  | 0 => 0
  | k + 1 => nu f i k + f (i + k) * 256 ^ k
theorem nu_rng {f : Int → Int} {i : Int} : ∀ (n : Nat), (∀ k : Nat, k < n → 0 ≤ f (i + k) ∧ f (i + k) ≤ 255) → 0 ≤ nu f i n ∧ nu f i n < 256 ^ n
  | 0, _ => ⟨Int.le_refl _, by show (0 : Int) < 1; decide⟩
  | n + 1, h => by
    obtain ⟨h1, h2⟩ := nu_rng n (fun k hk => h k (by omega))
    obtain ⟨h3, h4⟩ := h n (by omega)
    have hp : (0 : Int) < 256 ^ n := Int.pow_pos (by decide)
    show 0 ≤ nu f i n + f (i + n) * 256 ^ n ∧ nu f i n + f (i + n) * 256 ^ n < 256 ^ (n + 1)
    have e1 : (0 : Int) ≤ f (i + n) * 256 ^ n := Int.mul_nonneg h3 (by omega)
    have e2 : f (i + n) * 256 ^ n ≤ 255 * 256 ^ n := Int.mul_le_mul_of_nonneg_right h4 (by omega)
    rw [show (256 : Int) ^ (n + 1) = 256 ^ n * 256 from Int.pow_succ _ _]
    omega
theorem w64_rng (z : Int) : -9223372036854775808 ≤ w64 z ∧ w64 z ≤ 9223372036854775807 := by
  unfold w64
  rw [Int.bmod_def]
  split <;> omega
theorem shl64_8 {b k : Int} (h0 : 0 ≤ k) (h1 : k < 8) : shl64 b (8 * k) = w64 (b * 256 ^ k.toNat) := by
  have hk : k = 0 ∨ k = 1 ∨ k = 2 ∨ k = 3 ∨ k = 4 ∨ k = 5 ∨ k = 6 ∨ k = 7 := by omega
  have key : ∀ (y : Int) (n : Nat), ((Int32.ofInt y).toInt64 &&& 63).toBitVec.smod 64 = BitVec.ofNat 64 n → n < 64 → shl64 b y = w64 (b * 2 ^ n) := by
    intro y n h hn
    unfold shl64
    show (BitVec.ofInt 64 b <<< (((Int32.ofInt y).toInt64 &&& 63).toBitVec.smod 64)).toInt = _
    rw [h, BitVec.shiftLeft_eq', BitVec.toNat_ofNat, Nat.mod_eq_of_lt (by omega), BitVec.shiftLeft_eq_mul_twoPow, BitVec.toInt_mul, BitVec.toInt_ofInt]
    have e : (BitVec.twoPow 64 n).toInt = ((2 ^ n : Nat) : Int).bmod (2 ^ 64) := by
      rw [BitVec.toInt_eq_toNat_bmod, BitVec.toNat_twoPow, Nat.mod_eq_of_lt (Nat.pow_lt_pow_right (by decide) hn)]
    rw [e, Int.bmod_mul_bmod, Int.mul_bmod_bmod]
    unfold w64
    rw [Int.natCast_pow]
    rfl
  rcases hk with rfl | rfl | rfl | rfl | rfl | rfl | rfl | rfl
  · exact key 0 0 (by decide) (by decide)
  · exact key 8 8 (by decide) (by decide)
  · exact key 16 16 (by decide) (by decide)
  · exact key 24 24 (by decide) (by decide)
  · exact key 32 32 (by decide) (by decide)
  · exact key 40 40 (by decide) (by decide)
  · exact key 48 48 (by decide) (by decide)
  · exact key 56 56 (by decide) (by decide)
theorem or64_add {v b : Int} {k : Nat} (hk : k < 8) (hv : 0 ≤ v ∧ v < 256 ^ k) (hb : 0 ≤ b ∧ b ≤ 255) : or64 v (w64 (b * 256 ^ k)) = w64 (v + b * 256 ^ k) := by
  obtain ⟨vn, rfl⟩ := Int.eq_ofNat_of_zero_le hv.1
  obtain ⟨bn, rfl⟩ := Int.eq_ofNat_of_zero_le hb.1
  have hv2 : vn < 2 ^ (8 * k) := by
    have h := hv.2
    rw [show ((256 : Int) ^ k) = ((2 ^ (8 * k) : Nat) : Int) by rw [Nat.pow_mul, Int.natCast_pow]; rfl] at h
    omega
  have hbk : bn * 2 ^ (8 * k) < 2 ^ 64 := by
    have h1 : bn ≤ 255 := by omega
    calc bn * 2 ^ (8 * k) ≤ 255 * 2 ^ (8 * k) := Nat.mul_le_mul_right _ h1
      _ ≤ 255 * 2 ^ 56 := Nat.mul_le_mul_left _ (Nat.pow_le_pow_right (by decide) (by omega))
      _ < 2 ^ 64 := by decide
  have e256 : ((bn : Int) * 256 ^ k) = ((bn * 2 ^ (8 * k) : Nat) : Int) := by
    rw [Int.natCast_mul, Nat.pow_mul, Int.natCast_pow]
    rfl
  rw [e256]
  have hs : vn + bn * 2 ^ (8 * k) < 2 ^ 64 := by
    have : bn * 2 ^ (8 * k) + 2 ^ (8 * k) ≤ 2 ^ 64 := by
      have h1 : bn + 1 ≤ 256 := by omega
      calc bn * 2 ^ (8 * k) + 2 ^ (8 * k) = (bn + 1) * 2 ^ (8 * k) := by rw [Nat.add_mul, Nat.one_mul]
        _ ≤ 256 * 2 ^ (8 * k) := Nat.mul_le_mul_right _ h1
        _ ≤ 256 * 2 ^ 56 := Nat.mul_le_mul_left _ (Nat.pow_le_pow_right (by decide) (by omega))
        _ = 2 ^ 64 := by decide
    omega
  unfold or64
  show (BitVec.ofInt 64 (vn : Int) ||| BitVec.ofInt 64 (w64 ((bn * 2 ^ (8 * k) : Nat) : Int))).toInt = w64 ((vn : Int) + ((bn * 2 ^ (8 * k) : Nat) : Int))
  have e1 : BitVec.ofInt 64 (w64 ((bn * 2 ^ (8 * k) : Nat) : Int)) = BitVec.ofNat 64 (bn * 2 ^ (8 * k)) := by
    rw [← BitVec.ofInt_natCast]
    apply BitVec.eq_of_toInt_eq
    rw [BitVec.toInt_ofInt, BitVec.toInt_ofInt]
    unfold w64
    exact Int.bmod_bmod
  rw [e1, BitVec.ofInt_natCast, BitVec.toInt_eq_toNat_bmod, BitVec.toNat_or, BitVec.toNat_ofNat, BitVec.toNat_ofNat, Nat.mod_eq_of_lt (show vn < 2 ^ 64 by omega), Nat.mod_eq_of_lt hbk]
  have e2 : vn ||| bn * 2 ^ (8 * k) = vn + bn * 2 ^ (8 * k) := by
    have h := Nat.two_pow_add_eq_or_of_lt hv2 bn
    rw [Nat.mul_comm bn, Nat.or_comm, ← h, Nat.add_comm]
  rw [e2, Int.natCast_add]
  rfl
theorem pow256_le {i j : Nat} (h : i ≤ j) : (256 : Int) ^ i ≤ 256 ^ j := by
  have h1 : (256 ^ i : Nat) ≤ 256 ^ j := Nat.pow_le_pow_right (by decide) h
  have h2 : ((256 ^ i : Nat) : Int) ≤ ((256 ^ j : Nat) : Int) := Int.ofNat_le.mpr h1
  rw [Int.natCast_pow, Int.natCast_pow] at h2
  exact h2
