/-! Rows of bytes: numbers put, laid over and read. -/
theorem T_25_0 : hTab 25 0 = some ((3, 2, 1, []), 1) := rfl
theorem T_25_1 : hTab 25 1 = some ((4, 5, 1, []), 3) := rfl
theorem T_25_3 : hTab 25 3 = some ((3, 1, 0, []), 4) := rfl
theorem T_25_4 : hTab 25 4 = some ((4, 7, 0, []), 6) := rfl
theorem T_25_6 : hTab 25 6 = some ((3, 7, 0, []), 8) := rfl
theorem T_25_8 : hTab 25 8 = some ((3, 1, 0, []), 9) := rfl
theorem T_25_9 : hTab 25 9 = some ((3, 4, 0, []), 11) := rfl
theorem T_25_11 : hTab 25 11 = some ((10, 0, 0, []), 12) := rfl
theorem T_25_12 : hTab 25 12 = some ((19, 3, Int.ofNat 53, []), 15) := rfl
theorem T_25_15 : hTab 25 15 = some ((3, 7, 0, []), 17) := rfl
theorem T_25_17 : hTab 25 17 = some ((18, 2, Int.ofNat 40, []), 20) := rfl
theorem T_25_20 : hTab 25 20 = some ((3, 7, 0, []), 22) := rfl
theorem T_25_22 : hTab 25 22 = some ((3, 0, 2, []), 23) := rfl
theorem T_25_23 : hTab 25 23 = some ((24, 2, Int.ofNat 1, []), 26) := rfl
theorem T_25_26 : hTab 25 26 = some ((19, 3, Int.ofNat 40, []), 29) := rfl
theorem T_25_29 : hTab 25 29 = some ((3, 0, 2, []), 30) := rfl
theorem T_25_30 : hTab 25 30 = some ((24, 2, Int.ofNat 0, []), 33) := rfl
theorem T_25_33 : hTab 25 33 = some ((3, 7, 0, []), 35) := rfl
theorem T_25_35 : hTab 25 35 = some ((3, 5, 1, []), 37) := rfl
theorem T_25_37 : hTab 25 37 = some ((15, 0, 0, []), 38) := rfl
theorem T_25_38 : hTab 25 38 = some ((16, 0, 0, []), 39) := rfl
theorem T_25_39 : hTab 25 39 = some ((27, 1, 0, []), 40) := rfl
theorem T_25_40 : hTab 25 40 = some ((3, 5, 1, []), 42) := rfl
theorem T_25_42 : hTab 25 42 = some ((0, 0, 8, []), 44) := rfl
theorem T_25_44 : hTab 25 44 = some ((12, 1, 0, []), 45) := rfl
theorem T_25_45 : hTab 25 45 = some ((4, 5, 1, []), 47) := rfl
theorem T_25_47 : hTab 25 47 = some ((5, 7, 1, []), 50) := rfl
theorem T_25_50 : hTab 25 50 = some ((22, 0, Int.ofNat 6, []), 53) := rfl
theorem T_25_53 : hTab 25 53 = some ((33, 0, 0, []), 54) := rfl
theorem T_29_0 : hTab 29 0 = some ((3, 1, 0, []), 1) := rfl
theorem T_29_1 : hTab 29 1 = some ((18, 2, Int.ofNat 14, []), 4) := rfl
theorem T_29_4 : hTab 29 4 = some ((3, 1, 0, []), 5) := rfl
theorem T_29_5 : hTab 29 5 = some ((3, 2, 0, []), 6) := rfl
theorem T_29_6 : hTab 29 6 = some ((10, 0, 0, []), 7) := rfl
theorem T_29_7 : hTab 29 7 = some ((3, 0, 2, []), 8) := rfl
theorem T_29_8 : hTab 29 8 = some ((24, 2, Int.ofNat 1, []), 11) := rfl
theorem T_29_11 : hTab 29 11 = some ((19, 5, Int.ofNat 16, []), 14) := rfl
theorem T_29_14 : hTab 29 14 = some ((1, 0, 0, []), 15) := rfl
theorem T_29_15 : hTab 29 15 = some ((33, 3, 0, []), 16) := rfl
theorem T_29_16 : hTab 29 16 = some ((1, 0, 0, []), 17) := rfl
theorem T_29_17 : hTab 29 17 = some ((4, 3, 1, []), 18) := rfl
theorem T_29_18 : hTab 29 18 = some ((3, 1, 0, []), 19) := rfl
theorem T_29_19 : hTab 29 19 = some ((3, 2, 0, []), 20) := rfl
theorem T_29_20 : hTab 29 20 = some ((10, 0, 0, []), 21) := rfl
theorem T_29_21 : hTab 29 21 = some ((0, 0, 1, []), 22) := rfl
theorem T_29_22 : hTab 29 22 = some ((10, 1, 0, []), 23) := rfl
theorem T_29_23 : hTab 29 23 = some ((4, 5, 0, []), 25) := rfl
theorem T_29_25 : hTab 29 25 = some ((3, 5, 0, []), 27) := rfl
theorem T_29_27 : hTab 29 27 = some ((3, 1, 0, []), 28) := rfl
theorem T_29_28 : hTab 29 28 = some ((19, 2, Int.ofNat 55, []), 31) := rfl
theorem T_29_31 : hTab 29 31 = some ((3, 3, 1, []), 32) := rfl
theorem T_29_32 : hTab 29 32 = some ((0, 0, 8, []), 34) := rfl
theorem T_29_34 : hTab 29 34 = some ((12, 0, 0, []), 35) := rfl
theorem T_29_35 : hTab 29 35 = some ((3, 0, 2, []), 36) := rfl
theorem T_29_36 : hTab 29 36 = some ((24, 2, Int.ofNat 0, []), 39) := rfl
theorem T_29_39 : hTab 29 39 = some ((3, 5, 0, []), 41) := rfl
theorem T_29_41 : hTab 29 41 = some ((26, 1, 0, []), 42) := rfl
theorem T_29_42 : hTab 29 42 = some ((0, 0, 255, []), 45) := rfl
theorem T_29_45 : hTab 29 45 = some ((10, 5, 0, []), 46) := rfl
theorem T_29_46 : hTab 29 46 = some ((14, 0, 0, []), 47) := rfl
theorem T_29_47 : hTab 29 47 = some ((11, 6, 0, []), 48) := rfl
theorem T_29_48 : hTab 29 48 = some ((4, 3, 1, []), 49) := rfl
theorem T_29_49 : hTab 29 49 = some ((5, 5, (-1), []), 52) := rfl
theorem T_29_52 : hTab 29 52 = some ((22, 0, Int.ofNat 25, []), 55) := rfl
theorem T_29_55 : hTab 29 55 = some ((3, 3, 1, []), 56) := rfl
theorem T_29_56 : hTab 29 56 = some ((33, 3, 0, []), 57) := rfl
theorem mN_25 : hmN 25 = 4 := by decide +kernel
theorem mL_25 : hmL 25 = 8 := by decide +kernel
theorem mK_25 : hmK 25 = 1 := by decide +kernel
theorem mO_25 : hmO 25 = 2 := by decide +kernel
theorem mN_29 : hmN 29 = 3 := by decide +kernel
theorem mL_29 : hmL 29 = 6 := by decide +kernel
theorem mK_29 : hmK 29 = 1 := by decide +kernel
theorem mO_29 : hmO 29 = 2 := by decide +kernel
/-- bytes laid over a list from a place on -/
def lay : List Int → Nat → List Int → List Int
  | l, _, [] => l
  | l, s, x :: t => lay (l.set s x) (s + 1) t
section XBY2
variable {fb : Bool} {d b c n m : Nat} {σ0 σ : hM} {W W0 W1 W2 : qR} {R : rR} {l lo t : List Int} {i k x z v s e w : Int} {f : Int → Int}
theorem nu_cons : ∀ (c : Nat) (i : Int), nu f i (c + 1) = f i + 256 * nu f (i + 1) c
  | 0, i => by show 0 + f (i + ((0 : Nat) : Int)) * 256 ^ 0 = f i + 256 * 0; rw [show i + ((0 : Nat) : Int) = i by omega]; omega
  | c + 1, i => by
    show nu f i (c + 1) + f (i + ((c + 1 : Nat) : Int)) * 256 ^ (c + 1) = f i + 256 * (nu f (i + 1) c + f (i + 1 + (c : Int)) * 256 ^ c)
    rw [nu_cons c i, show i + ((c + 1 : Nat) : Int) = i + 1 + (c : Int) by omega, show (256 : Int) ^ (c + 1) = 256 * 256 ^ c by rw [Int.pow_succ, Int.mul_comm], Int.mul_add, ← Int.mul_assoc (f (i + 1 + c)), Int.mul_comm (f (i + 1 + c)) 256, Int.mul_assoc 256, Int.add_assoc]
theorem or64_low {a b : Int} (ha : 0 ≤ a ∧ a < 72057594037927936) (hb : 0 ≤ b ∧ b ≤ 255) : or64 (w64 (a * 256)) b = w64 (a * 256 + b) := by
  obtain ⟨an, rfl⟩ := Int.eq_ofNat_of_zero_le ha.1
  obtain ⟨bn, rfl⟩ := Int.eq_ofNat_of_zero_le hb.1
  have e256 : ((an : Int) * 256) = ((2 ^ 8 * an : Nat) : Int) := by omega
  rw [e256]
  unfold or64
  show (BitVec.ofInt 64 (w64 ((2 ^ 8 * an : Nat) : Int)) ||| BitVec.ofInt 64 (bn : Int)).toInt = w64 (((2 ^ 8 * an : Nat) : Int) + (bn : Int))
  have e1 : BitVec.ofInt 64 (w64 ((2 ^ 8 * an : Nat) : Int)) = BitVec.ofNat 64 (2 ^ 8 * an) := by
    rw [← BitVec.ofInt_natCast]
    apply BitVec.eq_of_toInt_eq
    rw [BitVec.toInt_ofInt, BitVec.toInt_ofInt]
    unfold w64
    exact Int.bmod_bmod
  rw [e1, BitVec.ofInt_natCast, BitVec.toInt_eq_toNat_bmod, BitVec.toNat_or, BitVec.toNat_ofNat, BitVec.toNat_ofNat, Nat.mod_eq_of_lt (show bn < 2 ^ 64 by omega), Nat.mod_eq_of_lt (show 2 ^ 8 * an < 2 ^ 64 by omega), ← Nat.two_pow_add_eq_or_of_lt (show bn < 2 ^ 8 by omega)]
  unfold w64
  rw [Int.natCast_add]
theorem shr64_8 {v : Int} (h1 : -9223372036854775808 ≤ v) (h2 : v ≤ 9223372036854775807) : shr64 v 8 = v / 256 := by
  rw [shr64_n (n := 8) (by decide) (by decide), w64_id h1 h2, show (2 : Int) ^ 8 = 256 by decide]
theorem shl64_one {v : Int} : shl64 v 8 = w64 (v * 256) := shl64_8 (k := 1) (by decide) (by decide)
theorem pow256_7 {c : Nat} (h : c ≤ 7) : (256 : Int) ^ c ≤ 72057594037927936 := by
  have hc : c = 0 ∨ c = 1 ∨ c = 2 ∨ c = 3 ∨ c = 4 ∨ c = 5 ∨ c = 6 ∨ c = 7 := by omega
  rcases hc with rfl | rfl | rfl | rfl | rfl | rfl | rfl | rfl <;> decide
theorem lg_set {j : Int} (hi : 0 ≤ i) (hi2 : i < l.length) (hj : 0 ≤ j) : lg (l.set i.toNat x) j = if j = i then x else lg l j := by
  unfold lg
  rw [List.getD_eq_getElem?_getD, List.getD_eq_getElem?_getD, List.getElem?_set]
  by_cases q : j = i
  · rw [if_pos q, if_pos (by omega), if_pos (by omega)]
    rfl
  · rw [if_neg q, if_neg (by omega)]
theorem BY.rep (h : BY W b n l) (h0 : 0 ≤ i) (h1 : i < l.length) (hx : 0 ≤ x ∧ x ≤ 255) (hv : v = sb8 x) : BY (rU W (b + 1) i v) b n (l.set i.toNat x) := by
  obtain ⟨a1, a2, a3, a4, a5, a6, a7⟩ := h
  refine ⟨a1, a2, a3, by rw [rU_f (by omega), List.length_set]; exact a4, by rw [List.length_set]; exact a5, fun j hj => ?_, fun j hj hj2 => ?_⟩
  · rw [lg_set h0 h1 hj]
    split
    · exact hx
    · exact a6 j hj
  · rw [List.length_set] at hj2
    rw [lg_set h0 h1 hj]
    by_cases q : j = i
    · rw [if_pos q, q, rU_s, hv]
    · rw [if_neg q, rU_k q]
      exact a7 j hj hj2
theorem FB_rep (h0 : i < 2000) : FB b W (rU W (b + 1) i v) := fun x k _ h2 => if_neg (fun c => h2 ⟨c.1, by omega⟩)
theorem x_put_loop (hk : k ≤ 8) : ∀ (m : Nat) (i v : Int) (l : List Int) (W : qR) (σ : hM), i + m = k → 0 ≤ i → -9223372036854775808 ≤ v → v ≤ 9223372036854775807 → PX σ0 W R σ → BY W b n l → FB b W0 W → l.length + m ≤ n → WP fb d 22 6 [some (vR (some b)), some (vL w), none, some (vI k), some (vL v), none, some (vI i)] [] σ (XB σ0 W0 R b n (l ++ leb m v) none) := by
  intro m
  induction m with
  | zero =>
    intro i v l W σ h1 h2 hv1 hv2 hP hB hF hl
    have h1 : i + ((0 : Nat) : Int) = k := h1
    have ho := hB.1
    refine x_li (z := i) T_22_6 rfl ?_
    refine x_li (z := k) T_22_8 rfl ?_
    refine x_ic2 T_22_9 (fun _ => ?_) (fun h => absurd (show k ≤ i by omega) h)
    refine x_rv T_22_60 ?_
    exact ⟨rfl, W, hP, by rw [show leb 0 v = [] from rfl, List.append_nil]; exact hB, hF⟩
  | succ m ih =>
    intro i v l W σ h1 h2 hv1 hv2 hP hB hF hl
    obtain ⟨ho, ha, hn, h3, h4, h5, h6⟩ := id hB
    obtain ⟨z, hz⟩ : ∃ z : Int, (l.length : Int) = z := ⟨_, rfl⟩
    obtain ⟨N, hN⟩ : ∃ N : Int, (n : Int) = N := ⟨_, rfl⟩
    rw [hz] at h3
    have hgo := fun (σ : hM) (hP : PX σ0 (rU (rU W (b + 1) z (sb8 (v % 256))) b 2065 (z + 1)) R σ) => ih (i + 1) (v / 256) (l ++ [v % 256]) _ σ (by omega) (by omega) (by omega) (by omega) hP (hB.more hz (by omega) (by omega) rfl) (FB_tr hF (FB_put (by omega))) (by rw [List.length_append]; show l.length + 1 + m ≤ n; omega)
    rw [show ∀ v, (l ++ [v % 256]) ++ leb m (v / 256) = l ++ leb (m + 1) v from fun v => by rw [List.append_assoc]; rfl] at hgo
    refine x_li (z := i) T_22_6 rfl ?_
    refine x_li (z := k) T_22_8 rfl ?_
    refine x_ic2 T_22_9 (fun h => absurd (show k ≤ i from h) (by omega)) (fun _ => ?_)
    refine x_lr (z := some b) T_22_12 rfl ?_
    refine x_gI (z := z) T_22_13 (Or.inl F_2_1) (hP.o ho) (Eq.trans (hP.gi ho (key := 2065) rfl) h3) ?_
    refine x_lr (z := some b) T_22_16 rfl ?_
    refine x_gR (z := some (b + 1)) T_22_17 F_2_0 (hP.o ho) (hP.rc ho rfl rfl) ?_
    refine x_len (len := n) T_22_20 (hP.ta ha) ?_
    rw [hN]
    refine x_ic2 T_22_21 (fun h => absurd (show N ≤ z from h) (by omega)) (fun _ => ?_)
    refine x_lr (z := some b) T_22_24 rfl ?_
    refine x_gR (z := some (b + 1)) T_22_25 F_2_0 (hP.o ho) (hP.rc ho rfl rfl) ?_
    refine x_lr (z := some b) T_22_28 rfl ?_
    refine x_gI (z := z) T_22_29 (Or.inl F_2_1) (hP.o ho) (Eq.trans (hP.gi ho (key := 2065) rfl) h3) ?_
    refine x_ll (z := v) T_22_32 rfl ?_
    refine x_l2i (w := (w32 v)) T_22_34 rfl ?_
    refine x_i2b (w := (sb8 (w32 v))) T_22_35 rfl ?_
    refine z_aB (v := (sb8 (v % 256))) hP T_22_36 ((sb8_sb8 _).trans ((sb8_w32 v).trans (sb8_mod v).symm)) ha (by omega) (by omega) (fun σ hP => ?_)
    refine x_lr (z := some b) T_22_37 rfl ?_
    refine x_dupR T_22_38 ?_
    refine x_gI (z := z) T_22_39 (Or.inl F_2_1) (hP.o ho) (Eq.trans (Eq.trans (hP.gi ho (key := 2065) rfl) (rU_j (by omega))) h3) ?_
    refine x_ic T_22_42 ?_
    refine x_ib (w := (z + 1)) T_22_43 (fun h => absurd h.1 (by decide)) (w32_id (by omega) (by omega)) ?_
    refine z_pI hP T_22_44 F_2_1 ho (key := 2065) rfl (fun σ hP => ?_)
    refine x_ll (z := v) T_22_47 rfl ?_
    refine x_ic T_22_49 ?_
    refine x_lh (w := (v / 256)) T_22_51 (shr64_8 hv1 hv2) ?_
    refine x_sl (ls1 := [some (vR (some b)), some (vL w), none, some (vI k), some (vL (v / 256)), none, some (vI i)]) T_22_52 rfl ?_
    refine x_inc (w := (i + 1)) (ls1 := [some (vR (some b)), some (vL w), none, some (vI k), some (vL (v / 256)), none, some (vI (i + 1))]) T_22_54 rfl (w32_id (by omega) (by omega)) rfl ?_
    refine x_goto T_22_57 ?_
    exact hgo σ hP
theorem x_put (m : Nat) (hP : PX σ0 W R σ) (hB : BY W b n l) (hm : (m : Int) = k) (hk : k ≤ 8) (hv : -9223372036854775808 ≤ v ∧ v ≤ 9223372036854775807) (hl : l.length + m ≤ n) : CL fb d 22 [vR (some b), vL v, vI k] σ (XB σ0 W R b n (l ++ leb m v) none) := by
  have ho := hB.1
  have hgo := x_put_loop (fb := fb) (d := d) (σ0 := σ0) (W0 := W) (R := R) (b := b) (n := n) (w := v) hk m 0 v l W σ (by omega) (by decide) hv.1 hv.2 hP hB FB_rfl hl
  refine CL_in mL_22 rfl ?_
  show WP fb _ 22 0 [some (vR (some b)), some (vL v), none, some (vI k), none, none, none] [] σ _
  refine x_ll (z := v) T_22_0 rfl ?_
  refine x_sl (ls1 := [some (vR (some b)), some (vL v), none, some (vI k), some (vL v), none, none]) T_22_1 rfl ?_
  refine x_ic T_22_3 ?_
  refine x_si (ls1 := [some (vR (some b)), some (vL v), none, some (vI k), some (vL v), none, some (vI 0)]) T_22_4 rfl ?_
  exact hgo
theorem x_repl_loop (hs : 0 ≤ s) (hk : k ≤ 8) : ∀ (m : Nat) (i v : Int) (l : List Int) (W : qR) (σ : hM), i + m = s + k → s ≤ i → -9223372036854775808 ≤ v → v ≤ 9223372036854775807 → PX σ0 W R σ → BY W b n l → FB b W0 W → i + m ≤ l.length → WP fb d 25 6 [some (vR (some b)), some (vI s), some (vL w), none, some (vI k), some (vL v), none, some (vI i)] [] σ (XB σ0 W0 R b n (lay l i.toNat (leb m v)) none) := by
  intro m
  induction m with
  | zero =>
    intro i v l W σ h1 h2 hv1 hv2 hP hB hF hl
    have h1 : i + ((0 : Nat) : Int) = s + k := h1
    have ho := hB.1
    have hn := hB.2.2.1
    have hl2 := hB.2.2.2.2.1
    refine x_li (z := i) T_25_6 rfl ?_
    refine x_li (z := s) T_25_8 rfl ?_
    refine x_li (z := k) T_25_9 rfl ?_
    refine x_ib (w := (s + k)) T_25_11 (fun h => absurd h.1 (by decide)) (w32_id (by omega) (by omega)) ?_
    refine x_ic2 T_25_12 (fun _ => ?_) (fun h => absurd (show (s + k) ≤ i by omega) h)
    refine x_rv T_25_53 ?_
    exact ⟨rfl, W, hP, hB, hF⟩
  | succ m ih =>
    intro i v l W σ h1 h2 hv1 hv2 hP hB hF hl
    obtain ⟨ho, ha, hn, h3, h4, h5, h6⟩ := id hB
    obtain ⟨z, hz⟩ : ∃ z : Int, (l.length : Int) = z := ⟨_, rfl⟩
    obtain ⟨N, hN⟩ : ∃ N : Int, (n : Int) = N := ⟨_, rfl⟩
    rw [hz] at h3
    have hgo := fun (σ : hM) (hP : PX σ0 (rU W (b + 1) i (sb8 (v % 256))) R σ) => ih (i + 1) (v / 256) (l.set i.toNat (v % 256)) _ σ (by omega) (by omega) (by omega) (by omega) hP (hB.rep (by omega) (by omega) (by omega) rfl) (FB_tr hF (FB_rep (by omega))) (by rw [List.length_set]; omega)
    rw [show (i + 1).toNat = i.toNat + 1 by omega] at hgo
    refine x_li (z := i) T_25_6 rfl ?_
    refine x_li (z := s) T_25_8 rfl ?_
    refine x_li (z := k) T_25_9 rfl ?_
    refine x_ib (w := (s + k)) T_25_11 (fun h => absurd h.1 (by decide)) (w32_id (by omega) (by omega)) ?_
    refine x_ic2 T_25_12 (fun h => absurd (show (s + k) ≤ i from h) (by omega)) (fun _ => ?_)
    refine x_li (z := i) T_25_15 rfl ?_
    refine x_if T_25_17 (fun h => absurd (show i < 0 from h) (by omega)) (fun _ => ?_)
    refine x_li (z := i) T_25_20 rfl ?_
    refine x_lr (z := some b) T_25_22 rfl ?_
    refine x_gI (z := z) T_25_23 (Or.inl F_2_1) (hP.o ho) (Eq.trans (hP.gi ho (key := 2065) rfl) h3) ?_
    refine x_ic2 T_25_26 (fun h => absurd (show z ≤ i from h) (by omega)) (fun _ => ?_)
    refine x_lr (z := some b) T_25_29 rfl ?_
    refine x_gR (z := some (b + 1)) T_25_30 F_2_0 (hP.o ho) (hP.rc ho rfl rfl) ?_
    refine x_li (z := i) T_25_33 rfl ?_
    refine x_ll (z := v) T_25_35 rfl ?_
    refine x_l2i (w := (w32 v)) T_25_37 rfl ?_
    refine x_i2b (w := (sb8 (w32 v))) T_25_38 rfl ?_
    refine z_aB (v := (sb8 (v % 256))) hP T_25_39 ((sb8_sb8 _).trans ((sb8_w32 v).trans (sb8_mod v).symm)) ha (by omega) (by omega) (fun σ hP => ?_)
    refine x_ll (z := v) T_25_40 rfl ?_
    refine x_ic T_25_42 ?_
    refine x_lh (w := (v / 256)) T_25_44 (shr64_8 hv1 hv2) ?_
    refine x_sl (ls1 := [some (vR (some b)), some (vI s), some (vL w), none, some (vI k), some (vL (v / 256)), none, some (vI i)]) T_25_45 rfl ?_
    refine x_inc (w := (i + 1)) (ls1 := [some (vR (some b)), some (vI s), some (vL w), none, some (vI k), some (vL (v / 256)), none, some (vI (i + 1))]) T_25_47 rfl (w32_id (by omega) (by omega)) rfl ?_
    refine x_goto T_25_50 ?_
    exact hgo σ hP
theorem x_replace (m : Nat) (hP : PX σ0 W R σ) (hB : BY W b n l) (hm : (m : Int) = k) (hk : k ≤ 8) (hs : 0 ≤ s) (hv : -9223372036854775808 ≤ v ∧ v ≤ 9223372036854775807) (hl : s + m ≤ l.length) : CL fb d 25 [vR (some b), vI s, vL v, vI k] σ (XB σ0 W R b n (lay l s.toNat (leb m v)) none) := by
  have ho := hB.1
  have hgo := x_repl_loop (fb := fb) (d := d) (σ0 := σ0) (W0 := W) (R := R) (b := b) (n := n) (w := v) hs hk m s v l W σ (by omega) (by omega) hv.1 hv.2 hP hB FB_rfl hl
  refine CL_in mL_25 rfl ?_
  show WP fb _ 25 0 [some (vR (some b)), some (vI s), some (vL v), none, some (vI k), none, none, none] [] σ _
  refine x_ll (z := v) T_25_0 rfl ?_
  refine x_sl (ls1 := [some (vR (some b)), some (vI s), some (vL v), none, some (vI k), some (vL v), none, none]) T_25_1 rfl ?_
  refine x_li (z := s) T_25_3 rfl ?_
  refine x_si (ls1 := [some (vR (some b)), some (vI s), some (vL v), none, some (vI k), some (vL v), none, some (vI s)]) T_25_4 rfl ?_
  exact hgo
theorem x_num_loop (hB : BY W b n l) (hP : PX σ0 W R σ) (hs : 0 ≤ s) (hk : k ≤ 8) (hl : s + k ≤ l.length) : ∀ (m c : Nat) (i v : Int), s + m = i + 1 → m + c = k → v = w64 (nu (lg l) (i + 1) c) → WP fb d 29 25 [some (vR (some b)), some (vI s), some (vI k), some (vL v), none, some (vI i)] [] σ (rPL (w64 (nu (lg l) s k.toNat)) σ) := by
  obtain ⟨ho, ha, hn, h3, h4, h5, h6⟩ := id hB
  obtain ⟨z, hz⟩ : ∃ z : Int, (l.length : Int) = z := ⟨_, rfl⟩
  obtain ⟨N, hN⟩ : ∃ N : Int, (n : Int) = N := ⟨_, rfl⟩
  rw [hz] at h3 h6
  intro m
  induction m with
  | zero =>
    intro c i v h1 h2 hv
    have h1 : s + ((0 : Nat) : Int) = i + 1 := h1
    have h2 : ((0 : Nat) : Int) + c = k := h2
    have e : v = w64 (nu (lg l) s k.toNat) := by rw [hv, show i + 1 = s by omega, show c = k.toNat by omega]
    refine x_li (z := i) T_29_25 rfl ?_
    refine x_li (z := s) T_29_27 rfl ?_
    refine x_ic2 T_29_28 (fun _ => ?_) (fun h => absurd (show i < s by omega) h)
    refine x_ll (z := v) T_29_55 rfl ?_
    refine x_rl T_29_56 ?_
    exact ⟨by rw [e], rfl⟩
  | succ m ih =>
    intro c i v h1 h2 hv
    have hr := nu_rng (f := lg l) (i := i + 1) c (fun j hj => h5 _ (by omega))
    have hp := pow256_7 (c := c) (by omega)
    obtain ⟨u, hu⟩ : ∃ u, nu (lg l) (i + 1) c = u := ⟨_, rfl⟩
    rw [hu] at hv hr
    have hvu : v = u := by rw [hv, w64_id (by omega) (by omega)]
    subst hvu
    have hx := h5 i (by omega)
    have h7 := h6 i (by omega) (by omega)
    obtain ⟨x, hx0⟩ : ∃ x, lg l i = x := ⟨_, rfl⟩
    rw [hx0] at hx h7
    have hgo := ih (c + 1) (i - 1) (w64 (v * 256 + x)) (by omega) (by omega) (by rw [show i - 1 + 1 = i by omega, nu_cons, hu, hx0, Int.mul_comm, Int.add_comm])
    refine x_li (z := i) T_29_25 rfl ?_
    refine x_li (z := s) T_29_27 rfl ?_
    refine x_ic2 T_29_28 (fun h => absurd (show i < s from h) (by omega)) (fun _ => ?_)
    refine x_ll (z := v) T_29_31 rfl ?_
    refine x_ic T_29_32 ?_
    refine x_lh (w := (w64 (v * 256))) T_29_34 shl64_one ?_
    refine x_lr (z := some b) T_29_35 rfl ?_
    refine x_gR (z := some (b + 1)) T_29_36 F_2_0 (hP.o ho) (hP.rc ho rfl rfl) ?_
    refine x_li (z := i) T_29_39 rfl ?_
    refine x_alI (z := (sb8 x)) T_29_41 (by decide) (hP.ta ha) (by omega) (by omega) (Eq.trans (hP.ai ha (by omega)) h7) ?_
    refine x_ic T_29_42 ?_
    refine x_ib (w := x) T_29_45 (fun h => absurd h.1 (by decide)) (and32_byte hx) ?_
    refine x_i2l T_29_46 ?_
    refine x_lb (w := (w64 (v * 256 + x))) T_29_47 (fun h => absurd h.1 (by decide)) (or64_low ⟨by omega, by omega⟩ hx) ?_
    refine x_sl (ls1 := [some (vR (some b)), some (vI s), some (vI k), some (vL (w64 (v * 256 + x))), none, some (vI i)]) T_29_48 rfl ?_
    refine x_inc (w := (i + (-1))) (ls1 := [some (vR (some b)), some (vI s), some (vI k), some (vL (w64 (v * 256 + x))), none, some (vI (i + (-1)))]) T_29_49 rfl (w32_id (by omega) (by omega)) rfl ?_
    refine x_goto T_29_52 ?_
    rw [show i + (-1) = i - 1 by omega]
    exact hgo
theorem x_number (hP : PX σ0 W R σ) (hB : BY W b n l) (hz : (l.length : Int) = z) (hk : 0 ≤ k ∧ k ≤ 8) (hs : -1000000 ≤ s ∧ s ≤ 1000000) : CL fb d 29 [vR (some b), vI s, vI k] σ (rPL (if 0 ≤ s ∧ s + k ≤ z then w64 (nu (lg l) s k.toNat) else 0) σ) := by
  have ho := hB.1
  have h1 := hB.sz hz
  by_cases q : 0 ≤ s ∧ s + k ≤ z
  · rw [if_pos q]
    have hgo := x_num_loop (fb := fb) (d := d) (σ := σ) (k := k) hB hP q.1 hk.2 (by omega) k.toNat 0 (s + k - 1) 0 (by omega) (by omega) rfl
    refine CL_in mL_29 rfl ?_
    show WP fb _ 29 0 [some (vR (some b)), some (vI s), some (vI k), none, none, none] [] σ _
    refine x_li (z := s) T_29_0 rfl ?_
    refine x_if T_29_1 (fun h => absurd (show s < 0 from h) (by omega)) (fun _ => ?_)
    refine x_li (z := s) T_29_4 rfl ?_
    refine x_li (z := k) T_29_5 rfl ?_
    refine x_ib (w := (s + k)) T_29_6 (fun h => absurd h.1 (by decide)) (w32_id (by omega) (by omega)) ?_
    refine x_lr (z := some b) T_29_7 rfl ?_
    refine x_gI (z := z) T_29_8 (Or.inl F_2_1) (hP.o ho) (Eq.trans (hP.gi ho (key := 2065) rfl) h1) ?_
    refine x_ic2 T_29_11 (fun _ => ?_) (fun h => absurd (show (s + k) ≤ z by omega) h)
    refine x_lc T_29_16 ?_
    refine x_sl (ls1 := [some (vR (some b)), some (vI s), some (vI k), some (vL 0), none, none]) T_29_17 rfl ?_
    refine x_li (z := s) T_29_18 rfl ?_
    refine x_li (z := k) T_29_19 rfl ?_
    refine x_ib (w := (s + k)) T_29_20 (fun h => absurd h.1 (by decide)) (w32_id (by omega) (by omega)) ?_
    refine x_ic T_29_21 ?_
    refine x_ib (w := ((s + k) - 1)) T_29_22 (fun h => absurd h.1 (by decide)) (w32_id (by omega) (by omega)) ?_
    refine x_si (ls1 := [some (vR (some b)), some (vI s), some (vI k), some (vL 0), none, some (vI ((s + k) - 1))]) T_29_23 rfl ?_
    exact hgo
  · rw [if_neg q]
    by_cases q1 : s < 0
    · skip
      refine CL_in mL_29 rfl ?_
      show WP fb _ 29 0 [some (vR (some b)), some (vI s), some (vI k), none, none, none] [] σ _
      refine x_li (z := s) T_29_0 rfl ?_
      refine x_if T_29_1 (fun _ => ?_) (fun h => absurd (show s < 0 by omega) h)
      refine x_lc T_29_14 ?_
      refine x_rl T_29_15 ?_
      exact ⟨rfl, rfl⟩
    · skip
      refine CL_in mL_29 rfl ?_
      show WP fb _ 29 0 [some (vR (some b)), some (vI s), some (vI k), none, none, none] [] σ _
      refine x_li (z := s) T_29_0 rfl ?_
      refine x_if T_29_1 (fun h => absurd (show s < 0 from h) (by omega)) (fun _ => ?_)
      refine x_li (z := s) T_29_4 rfl ?_
      refine x_li (z := k) T_29_5 rfl ?_
      refine x_ib (w := (s + k)) T_29_6 (fun h => absurd h.1 (by decide)) (w32_id (by omega) (by omega)) ?_
      refine x_lr (z := some b) T_29_7 rfl ?_
      refine x_gI (z := z) T_29_8 (Or.inl F_2_1) (hP.o ho) (Eq.trans (hP.gi ho (key := 2065) rfl) h1) ?_
      refine x_ic2 T_29_11 (fun h => absurd (show (s + k) ≤ z from h) (by omega)) (fun _ => ?_)
      refine x_lc T_29_14 ?_
      refine x_rl T_29_15 ?_
      exact ⟨rfl, rfl⟩
end XBY2
