/-! Objects and arrays of the class's that stand alone; rows of bytes: what a Bytes holds, what its methods do to it. -/
theorem T_27_0 : hTab 27 0 = some ((3, 0, 2, []), 1) := rfl
theorem T_27_1 : hTab 27 1 = some ((0, 0, 0, []), 2) := rfl
theorem T_27_2 : hTab 27 2 = some ((25, 2, Int.ofNat 1, []), 5) := rfl
theorem T_27_5 : hTab 27 5 = some ((33, 0, 0, []), 6) := rfl
theorem T_33_12 : hTab 33 12 = some ((3, 1, 0, []), 13) := rfl
theorem T_33_13 : hTab 33 13 = some ((3, 0, 2, []), 14) := rfl
theorem T_33_14 : hTab 33 14 = some ((24, 2, Int.ofNat 0, []), 17) := rfl
theorem T_33_17 : hTab 33 17 = some ((28, 0, 0, []), 18) := rfl
theorem T_33_18 : hTab 33 18 = some ((19, 2, Int.ofNat 25, []), 21) := rfl
theorem T_33_25 : hTab 33 25 = some ((3, 0, 2, []), 26) := rfl
theorem T_33_26 : hTab 33 26 = some ((24, 2, Int.ofNat 0, []), 29) := rfl
theorem T_33_29 : hTab 33 29 = some ((3, 1, 0, []), 30) := rfl
theorem T_33_30 : hTab 33 30 = some ((26, 1, 0, []), 31) := rfl
theorem T_33_31 : hTab 33 31 = some ((0, 0, 255, []), 34) := rfl
theorem T_33_34 : hTab 33 34 = some ((10, 5, 0, []), 35) := rfl
theorem T_73_12 : hTab 73 12 = some ((0, 0, 0, []), 13) := rfl
theorem T_73_13 : hTab 73 13 = some ((33, 2, 0, []), 14) := rfl
theorem mN_27 : hmN 27 = 1 := by decide +kernel
theorem mL_27 : hmL 27 = 1 := by decide +kernel
theorem mK_27 : hmK 27 = 1 := by decide +kernel
theorem mO_27 : hmO 27 = 2 := by decide +kernel
theorem xo_128 : tX 128 = some (Sum.inl 0) := by decide +kernel
theorem xo_129 : tX 129 = some (Sum.inl 1) := by decide +kernel
theorem xo_130 : tX 130 = some (Sum.inl 2) := by decide +kernel
theorem xo_132 : tX 132 = some (Sum.inl 2) := by decide +kernel
theorem xo_134 : tX 134 = some (Sum.inl 2) := by decide +kernel
theorem xo_136 : tX 136 = some (Sum.inl 2) := by decide +kernel
theorem xo_138 : tX 138 = some (Sum.inl 2) := by decide +kernel
theorem xo_145 : tX 145 = some (Sum.inl 2) := by decide +kernel
theorem xo_2175 : tX 2175 = some (Sum.inl 14) := by decide +kernel
theorem xo_2176 : tX 2176 = some (Sum.inl 2) := by decide +kernel
theorem xo_2178 : tX 2178 = some (Sum.inl 5) := by decide +kernel
theorem xo_2179 : tX 2179 = some (Sum.inl 5) := by decide +kernel
theorem xo_2187 : tX 2187 = some (Sum.inl 15) := by decide +kernel
theorem xo_2189 : tX 2189 = some (Sum.inl 2) := by decide +kernel
theorem xo_2275 : tX 2275 = some (Sum.inl 2) := by decide +kernel
theorem xo_2277 : tX 2277 = some (Sum.inl 2) := by decide +kernel
theorem xo_2279 : tX 2279 = some (Sum.inl 2) := by decide +kernel
theorem xa_131 : isA 131 1 200 := ⟨by decide +kernel, by decide⟩
theorem xa_133 : isA 133 1 1000 := ⟨by decide +kernel, by decide⟩
theorem xa_135 : isA 135 1 300 := ⟨by decide +kernel, by decide⟩
theorem xa_137 : isA 137 1 60 := ⟨by decide +kernel, by decide⟩
theorem xa_139 : isA 139 1 300 := ⟨by decide +kernel, by decide⟩
theorem xa_140 : isA 140 12 40 := ⟨by decide +kernel, by decide⟩
theorem xa_141 : isA 141 17 3 := ⟨by decide +kernel, by decide⟩
theorem xa_142 : isA 142 16 8 := ⟨by decide +kernel, by decide⟩
theorem xa_143 : isA 143 13 8 := ⟨by decide +kernel, by decide⟩
theorem xa_144 : isA 144 15 64 := ⟨by decide +kernel, by decide⟩
theorem xa_146 : isA 146 1 161 := ⟨by decide +kernel, by decide⟩
theorem xa_147 : isA 147 0 100 := ⟨by decide +kernel, by decide⟩
theorem xa_148 : isA 148 0 100 := ⟨by decide +kernel, by decide⟩
theorem xa_2177 : isA 2177 1 101 := ⟨by decide +kernel, by decide⟩
theorem xa_2180 : isA 2180 15 6 := ⟨by decide +kernel, by decide⟩
theorem xa_2188 : isA 2188 26 12 := ⟨by decide +kernel, by decide⟩
theorem xa_2190 : isA 2190 1 100 := ⟨by decide +kernel, by decide⟩
theorem xa_2276 : isA 2276 1 100 := ⟨by decide +kernel, by decide⟩
theorem xa_2278 : isA 2278 1 400 := ⟨by decide +kernel, by decide⟩
theorem xa_2280 : isA 2280 1 300 := ⟨by decide +kernel, by decide⟩
def BY (W : qR) (b n : Nat) (l : List Int) : Prop := tX b = some (Sum.inl 2) ∧ isA (b + 1) 1 n ∧ n ≤ 1000 ∧ W b 2065 = (l.length : Int) ∧ l.length ≤ n ∧ byt l ∧ ∀ i : Int, 0 ≤ i → i < l.length → W (b + 1) i = sb8 (lg l i)
def FB (b : Nat) (W W2 : qR) : Prop := ∀ (x : Nat) (k : Int), ¬ (x = b ∧ k = 2065) → ¬ (x = b + 1 ∧ k < 2000) → W2 x k = W x k
abbrev XB (σ0 : hM) (W : qR) (R : rR) (b n : Nat) (l2 : List Int) (r0 : Option AV) : Option AV → hM → Prop := fun r σ' => r = r0 ∧ ∃ W2, PX σ0 W2 R σ' ∧ BY W2 b n l2 ∧ FB b W W2
section XBYTES
variable {fb : Bool} {d b c n m : Nat} {σ0 σ : hM} {W W1 W2 : qR} {R : rR} {l lo : List Int} {i k x z v s e : Int}
theorem FB_rfl : FB b W W := fun _ _ _ _ => rfl
theorem FB_tr (h1 : FB b W W1) (h2 : FB b W1 W2) : FB b W W2 := fun x k a c => (h2 x k a c).trans (h1 x k a c)
/-- another field of whatever object -/
theorem FB.o (h : FB b W W2) {x : Nat} (hk : 2000 ≤ k) (hk2 : k ≠ 2065) : W2 x k = W x k := h x k (fun c => hk2 c.2) (fun c => by omega)
theorem FB.of (h : FB b W W2) {x : Nat} (hx : x ≠ b) (hk : 2000 ≤ k) : W2 x k = W x k := h x k (fun c => hx c.1) (fun c => by omega)
theorem FB.by (h : FB b W W2) (hB : BY W c n l) (hc : c ≠ b) : BY W2 c n l := by
  obtain ⟨a1, a2, a3, a4, a5, a6, a7⟩ := hB
  refine ⟨a1, a2, a3, (h c 2065 (fun q => hc q.1) (fun q => absurd q.2 (by decide))).trans a4, a5, a6, fun i h0 h1 => ?_⟩
  rw [h (c + 1) i (fun q => by rw [q.2] at h1; omega) (fun q => hc (by omega))]
  exact a7 i h0 h1
theorem BY.sz (h : BY W b n l) (hz : (l.length : Int) = z) : W b 2065 = z := h.2.2.2.1.trans hz
theorem BY.set0 (h : BY W b n l) : BY (rU W b 2065 0) b n [] := ⟨h.1, h.2.1, h.2.2.1, rU_s, Nat.zero_le _, byt_nil, fun i h0 h1 => absurd h1 (by show ¬ i < 0; omega)⟩
theorem FB_set : FB b W (rU W b 2065 v) := fun x k h1 _ => if_neg h1
theorem FB_put (h0 : i < 2000) : FB b W (rU (rU W (b + 1) i v) b 2065 z) := fun x k h1 h2 => by
  rw [show rU (rU W (b + 1) i v) b 2065 z x k = rU W (b + 1) i v x k from if_neg h1]
  exact if_neg (fun c => h2 ⟨c.1, by omega⟩)
theorem BY.more (h : BY W b n l) (hz : (l.length : Int) = z) (hl : z < n) (hx : 0 ≤ x ∧ x ≤ 255) (hv : v = sb8 x) : BY (rU (rU W (b + 1) z v) b 2065 (z + 1)) b n (l ++ [x]) := by
  obtain ⟨a1, a2, a3, a4, a5, a6, a7⟩ := h
  refine ⟨a1, a2, a3, by rw [rU_s, List.length_append]; show z + 1 = ((l.length + 1 : Nat) : Int); omega, by rw [List.length_append]; show l.length + 1 ≤ n; omega, byt_app a6 (byt_cons hx byt_nil), fun i h0 h1 => ?_⟩
  have h1 : i < z + 1 := by rw [List.length_append] at h1; have h1 : i < ((l.length + 1 : Nat) : Int) := h1; omega
  rw [rU_j (by omega), lg_app h0]
  by_cases q : i = z
  · rw [q, rU_s, if_neg (by omega), hv, show z - (l.length : Int) = 0 by omega]
    rfl
  · rw [rU_j q, if_pos (by omega)]
    exact a7 i h0 (by omega)
theorem x_size (hP : PX σ0 W R σ) (hB : BY W b n l) (hz : (l.length : Int) = z) : CL fb d 28 [vR (some b)] σ (rP z σ) := by
  have ho := hB.1
  have h1 := hB.sz hz
  refine CL_in mL_28 rfl ?_
  show WP fb _ 28 0 [some (vR (some b))] [] σ _
  refine x_lr (z := some b) T_28_0 rfl ?_
  refine x_gI (z := z) T_28_1 (Or.inl F_2_1) (hP.o ho) (Eq.trans (hP.gi ho (key := 2065) rfl) h1) ?_
  refine x_ri T_28_4 ?_
  exact ⟨rfl, rfl⟩
theorem x_clear (hP : PX σ0 W R σ) (hB : BY W b n l) : CL fb d 27 [vR (some b)] σ (XB σ0 W R b n [] none) := by
  have ho := hB.1
  refine CL_in mL_27 rfl ?_
  show WP fb _ 27 0 [some (vR (some b))] [] σ _
  refine x_lr (z := some b) T_27_0 rfl ?_
  refine x_ic T_27_1 ?_
  refine z_pI hP T_27_2 F_2_1 ho (key := 2065) rfl (fun σ hP => ?_)
  refine x_rv T_27_5 ?_
  exact ⟨rfl, _, hP, hB.set0, FB_set⟩
theorem x_at (hP : PX σ0 W R σ) (hB : BY W b n l) : CL fb d 33 [vR (some b), vI i] σ (rP (if 0 ≤ i ∧ i < (l.length : Int) then lg l i else -1) σ) := by
  obtain ⟨ho, ha, hn, h1, hl, hb, hv⟩ := id hB
  obtain ⟨z, hz⟩ : ∃ z : Int, (l.length : Int) = z := ⟨_, rfl⟩
  obtain ⟨N, hN⟩ : ∃ N : Int, (n : Int) = N := ⟨_, rfl⟩
  rw [hz] at h1 hv ⊢
  by_cases q0 : i < 0
  · rw [if_neg (by omega)]
    refine CL_in mL_33 rfl ?_
    show WP fb _ 33 0 [some (vR (some b)), some (vI i)] [] σ _
    refine x_li (z := i) T_33_0 rfl ?_
    refine x_if T_33_1 (fun _ => ?_) (fun h => absurd (show i < 0 by omega) h)
    refine x_ic T_33_21 ?_
    refine x_goto T_33_22 ?_
    refine x_ri T_33_35 ?_
    exact ⟨rfl, rfl⟩
  · by_cases q1 : z ≤ i
    · rw [if_neg (by omega)]
      refine CL_in mL_33 rfl ?_
      show WP fb _ 33 0 [some (vR (some b)), some (vI i)] [] σ _
      refine x_li (z := i) T_33_0 rfl ?_
      refine x_if T_33_1 (fun h => absurd (show i < 0 from h) (by omega)) (fun _ => ?_)
      refine x_li (z := i) T_33_4 rfl ?_
      refine x_lr (z := some b) T_33_5 rfl ?_
      refine x_gI (z := z) T_33_6 (Or.inl F_2_1) (hP.o ho) (Eq.trans (hP.gi ho (key := 2065) rfl) h1) ?_
      refine x_ic2 T_33_9 (fun _ => ?_) (fun h => absurd (show z ≤ i by omega) h)
      refine x_ic T_33_21 ?_
      refine x_goto T_33_22 ?_
      refine x_ri T_33_35 ?_
      exact ⟨rfl, rfl⟩
    · rw [if_pos (by omega)]
      have h2 := hv i (by omega) (by omega)
      have h3 := hb i (by omega)
      refine CL_in mL_33 rfl ?_
      show WP fb _ 33 0 [some (vR (some b)), some (vI i)] [] σ _
      refine x_li (z := i) T_33_0 rfl ?_
      refine x_if T_33_1 (fun h => absurd (show i < 0 from h) (by omega)) (fun _ => ?_)
      refine x_li (z := i) T_33_4 rfl ?_
      refine x_lr (z := some b) T_33_5 rfl ?_
      refine x_gI (z := z) T_33_6 (Or.inl F_2_1) (hP.o ho) (Eq.trans (hP.gi ho (key := 2065) rfl) h1) ?_
      refine x_ic2 T_33_9 (fun h => absurd (show z ≤ i from h) (by omega)) (fun _ => ?_)
      refine x_li (z := i) T_33_12 rfl ?_
      refine x_lr (z := some b) T_33_13 rfl ?_
      refine x_gR (z := some (b + 1)) T_33_14 F_2_0 (hP.o ho) (hP.rc ho rfl rfl) ?_
      refine x_len (len := n) T_33_17 (hP.ta ha) ?_
      rw [hN]
      refine x_ic2 T_33_18 (fun _ => ?_) (fun h => absurd (show i < N by omega) h)
      refine x_lr (z := some b) T_33_25 rfl ?_
      refine x_gR (z := some (b + 1)) T_33_26 F_2_0 (hP.o ho) (hP.rc ho rfl rfl) ?_
      refine x_li (z := i) T_33_29 rfl ?_
      refine x_alI (z := (sb8 (lg l i))) T_33_30 (by decide) (hP.ta ha) (by omega) (by omega) (Eq.trans (hP.ai ha (by omega)) h2) ?_
      refine x_ic T_33_31 ?_
      refine x_ib (w := (lg l i)) T_33_34 (fun h => absurd h.1 (by decide)) (and32_byte h3) ?_
      refine x_ri T_33_35 ?_
      exact ⟨rfl, rfl⟩
theorem x_add (hP : PX σ0 W R σ) (hB : BY W b n l) (hx : 0 ≤ x ∧ x ≤ 255) : CL fb d 73 [vR (some b), vI x] σ (XB σ0 W R b n (if (l.length : Int) < n then l ++ [x] else l) (some (vI (if (l.length : Int) < n then 1 else 0)))) := by
  obtain ⟨ho, ha, hn, h1, hl, hb, hv⟩ := id hB
  obtain ⟨z, hz⟩ : ∃ z : Int, (l.length : Int) = z := ⟨_, rfl⟩
  obtain ⟨N, hN⟩ : ∃ N : Int, (n : Int) = N := ⟨_, rfl⟩
  rw [hz, hN]
  rw [hz] at h1 hv
  by_cases q : z < N
  · rw [if_pos q, if_pos q]
    refine CL_in mL_73 rfl ?_
    show WP fb _ 73 0 [some (vR (some b)), some (vI x)] [] σ _
    refine x_lr (z := some b) T_73_0 rfl ?_
    refine x_gI (z := z) T_73_1 (Or.inl F_2_1) (hP.o ho) (Eq.trans (hP.gi ho (key := 2065) rfl) h1) ?_
    refine x_lr (z := some b) T_73_4 rfl ?_
    refine x_gR (z := some (b + 1)) T_73_5 F_2_0 (hP.o ho) (hP.rc ho rfl rfl) ?_
    refine x_len (len := n) T_73_8 (hP.ta ha) ?_
    rw [hN]
    refine x_ic2 T_73_9 (fun _ => ?_) (fun h => absurd (show z < N by omega) h)
    refine x_lr (z := some b) T_73_14 rfl ?_
    refine x_gR (z := some (b + 1)) T_73_15 F_2_0 (hP.o ho) (hP.rc ho rfl rfl) ?_
    refine x_lr (z := some b) T_73_18 rfl ?_
    refine x_gI (z := z) T_73_19 (Or.inl F_2_1) (hP.o ho) (Eq.trans (hP.gi ho (key := 2065) rfl) h1) ?_
    refine x_li (z := x) T_73_22 rfl ?_
    refine x_i2b (w := (sb8 x)) T_73_23 rfl ?_
    refine z_aB (v := (sb8 x)) hP T_73_24 (sb8_sb8 x) ha (by omega) (by omega) (fun σ hP => ?_)
    refine x_lr (z := some b) T_73_25 rfl ?_
    refine x_dupR T_73_26 ?_
    refine x_gI (z := z) T_73_27 (Or.inl F_2_1) (hP.o ho) (Eq.trans (Eq.trans (hP.gi ho (key := 2065) rfl) (rU_j (by omega))) h1) ?_
    refine x_ic T_73_30 ?_
    refine x_ib (w := (z + 1)) T_73_31 (fun h => absurd h.1 (by decide)) (w32_id (by omega) (by omega)) ?_
    refine z_pI hP T_73_32 F_2_1 ho (key := 2065) rfl (fun σ hP => ?_)
    refine x_ic T_73_35 ?_
    refine x_rz T_73_36 rfl ?_
    exact ⟨rfl, _, hP, hB.more hz (by omega) hx rfl, FB_put (by omega)⟩
  · rw [if_neg q, if_neg q]
    refine CL_in mL_73 rfl ?_
    show WP fb _ 73 0 [some (vR (some b)), some (vI x)] [] σ _
    refine x_lr (z := some b) T_73_0 rfl ?_
    refine x_gI (z := z) T_73_1 (Or.inl F_2_1) (hP.o ho) (Eq.trans (hP.gi ho (key := 2065) rfl) h1) ?_
    refine x_lr (z := some b) T_73_4 rfl ?_
    refine x_gR (z := some (b + 1)) T_73_5 F_2_0 (hP.o ho) (hP.rc ho rfl rfl) ?_
    refine x_len (len := n) T_73_8 (hP.ta ha) ?_
    rw [hN]
    refine x_ic2 T_73_9 (fun h => absurd (show z < N from h) (by omega)) (fun _ => ?_)
    refine x_ic T_73_12 ?_
    refine x_rz T_73_13 rfl ?_
    exact ⟨rfl, W, hP, hB, FB_rfl⟩
end XBYTES
