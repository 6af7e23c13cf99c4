/-! The class's servers: bytes are written into a file. -/
theorem T_79_114 : hTab 79 114 = some ((3, 7, 0, []), 116) := rfl
theorem T_79_116 : hTab 79 116 = some ((3, 6, 0, []), 118) := rfl
theorem T_79_118 : hTab 79 118 = some ((19, 3, Int.ofNat 167, []), 121) := rfl
theorem T_79_121 : hTab 79 121 = some ((3, 1, 2, []), 122) := rfl
theorem T_79_122 : hTab 79 122 = some ((24, 8, Int.ofNat 11, []), 125) := rfl
theorem T_79_125 : hTab 79 125 = some ((20, 0, Int.ofNat 167, []), 128) := rfl
theorem T_79_128 : hTab 79 128 = some ((3, 7, 0, []), 130) := rfl
theorem T_79_130 : hTab 79 130 = some ((3, 1, 2, []), 131) := rfl
theorem T_79_131 : hTab 79 131 = some ((24, 8, Int.ofNat 11, []), 134) := rfl
theorem T_79_134 : hTab 79 134 = some ((28, 0, 0, []), 135) := rfl
theorem T_79_135 : hTab 79 135 = some ((19, 3, Int.ofNat 167, []), 138) := rfl
theorem T_79_138 : hTab 79 138 = some ((3, 1, 2, []), 139) := rfl
theorem T_79_139 : hTab 79 139 = some ((24, 8, Int.ofNat 11, []), 142) := rfl
theorem T_79_142 : hTab 79 142 = some ((3, 7, 0, []), 144) := rfl
theorem T_79_144 : hTab 79 144 = some ((3, 0, 2, []), 145) := rfl
theorem T_79_145 : hTab 79 145 = some ((24, 7, Int.ofNat 9, []), 148) := rfl
theorem T_79_148 : hTab 79 148 = some ((0, 0, 23, []), 150) := rfl
theorem T_79_150 : hTab 79 150 = some ((3, 7, 0, []), 152) := rfl
theorem T_79_152 : hTab 79 152 = some ((10, 0, 0, []), 153) := rfl
theorem T_79_153 : hTab 79 153 = some ((3, 3, 1, []), 154) := rfl
theorem T_79_154 : hTab 79 154 = some ((15, 0, 0, []), 155) := rfl
theorem T_79_155 : hTab 79 155 = some ((10, 1, 0, []), 156) := rfl
theorem T_79_156 : hTab 79 156 = some ((31, 33, 0, []), 159) := rfl
theorem T_79_159 : hTab 79 159 = some ((16, 0, 0, []), 160) := rfl
theorem T_79_160 : hTab 79 160 = some ((27, 1, 0, []), 161) := rfl
theorem T_79_161 : hTab 79 161 = some ((5, 7, 1, []), 164) := rfl
theorem T_79_164 : hTab 79 164 = some ((22, 0, Int.ofNat 114, []), 167) := rfl
theorem T_79_167 : hTab 79 167 = some ((0, 0, 0, []), 168) := rfl
theorem T_79_168 : hTab 79 168 = some ((33, 1, 0, []), 169) := rfl
theorem T_80_0 : hTab 80 0 = some ((3, 0, 0, []), 1) := rfl
theorem T_80_1 : hTab 80 1 = some ((3, 1, 0, []), 2) := rfl
theorem T_80_2 : hTab 80 2 = some ((19, 2, Int.ofNat 9, []), 5) := rfl
theorem T_80_5 : hTab 80 5 = some ((3, 0, 0, []), 6) := rfl
theorem T_80_6 : hTab 80 6 = some ((22, 0, Int.ofNat 10, []), 9) := rfl
theorem T_80_9 : hTab 80 9 = some ((3, 1, 0, []), 10) := rfl
theorem T_80_10 : hTab 80 10 = some ((33, 1, 0, []), 11) := rfl
theorem T_81_0 : hTab 81 0 = some ((3, 2, 1, []), 1) := rfl
theorem T_81_1 : hTab 81 1 = some ((1, 0, 0, []), 2) := rfl
theorem T_81_2 : hTab 81 2 = some ((17, 0, 0, []), 3) := rfl
theorem T_81_3 : hTab 81 3 = some ((18, 2, Int.ofNat 33, []), 6) := rfl
theorem T_81_6 : hTab 81 6 = some ((3, 2, 1, []), 7) := rfl
theorem T_81_7 : hTab 81 7 = some ((1, 0, 600, []), 10) := rfl
theorem T_81_10 : hTab 81 10 = some ((17, 0, 0, []), 11) := rfl
theorem T_81_11 : hTab 81 11 = some ((18, 4, Int.ofNat 33, []), 14) := rfl
theorem T_81_14 : hTab 81 14 = some ((3, 0, 2, []), 15) := rfl
theorem T_81_15 : hTab 81 15 = some ((24, 7, Int.ofNat 7, []), 18) := rfl
theorem T_81_18 : hTab 81 18 = some ((3, 1, 2, []), 19) := rfl
theorem T_81_19 : hTab 81 19 = some ((24, 8, Int.ofNat 10, []), 22) := rfl
theorem T_81_22 : hTab 81 22 = some ((10, 1, 0, []), 23) := rfl
theorem T_81_23 : hTab 81 23 = some ((14, 0, 0, []), 24) := rfl
theorem T_81_24 : hTab 81 24 = some ((3, 2, 1, []), 25) := rfl
theorem T_81_25 : hTab 81 25 = some ((11, 0, 0, []), 26) := rfl
theorem T_81_26 : hTab 81 26 = some ((1, 0, 8192, []), 29) := rfl
theorem T_81_29 : hTab 81 29 = some ((17, 0, 0, []), 30) := rfl
theorem T_81_30 : hTab 81 30 = some ((18, 5, Int.ofNat 37, []), 33) := rfl
theorem T_81_33 : hTab 81 33 = some ((0, 0, 1, []), 34) := rfl
theorem T_81_34 : hTab 81 34 = some ((22, 0, Int.ofNat 38, []), 37) := rfl
theorem T_81_37 : hTab 81 37 = some ((0, 0, 0, []), 38) := rfl
theorem T_81_38 : hTab 81 38 = some ((33, 2, 0, []), 39) := rfl
theorem mN_79 : hmN 79 = 3 := by decide +kernel
theorem mL_79 : hmL 79 = 8 := by decide +kernel
theorem mK_79 : hmK 79 = 1 := by decide +kernel
theorem mO_79 : hmO 79 = 7 := by decide +kernel
theorem mN_80 : hmN 80 = 2 := by decide +kernel
theorem mL_80 : hmL 80 = 2 := by decide +kernel
theorem mK_80 : hmK 80 = 0 := by decide +kernel
theorem mO_80 : hmO 80 = 13 := by decide +kernel
theorem mN_81 : hmN 81 = 3 := by decide +kernel
theorem mL_81 : hmL 81 = 4 := by decide +kernel
theorem mK_81 : hmK 81 = 1 := by decide +kernel
theorem mO_81 : hmO 81 = 7 := by decide +kernel
/-- so many bytes laid into a row of bytes -/
def cW (W : qR) (c : Nat) (b : Int) (F : Int → Int) (m : Int) : qR := fun x k => if x = c ∧ b ≤ k ∧ k < b + m then sb8 (F (k - b)) else W x k
section XWB
variable {fb : Bool} {d S a c c0 rp mb m0 N M fa pr : Nat} {σ0 σ σ' : hM} {W W1 W2 W3 P Q : qR} {R R1 R2 : rR} {b i k x z v s e w f u p g ln K T U C y off cnt n md : Int} {ord l l2 nm lo D L li : List Int} {t : Nat → Nat} {r : Option AV} {F : Int → Int}
theorem x_max : CL fb d 80 [vI u, vI v] σ (rP (if v ≤ u then u else v) σ) := by
  by_cases q : v ≤ u
  · rw [if_pos q]
    refine CL_in mL_80 rfl ?_
    show WP fb _ 80 0 [some (vI u), some (vI v)] [] σ _
    refine x_li (z := u) T_80_0 rfl ?_
    refine x_li (z := v) T_80_1 rfl ?_
    refine x_ic2 T_80_2 (fun h => absurd (show u < v from h) (by omega)) (fun _ => ?_)
    refine x_li (z := u) T_80_5 rfl ?_
    refine x_goto T_80_6 ?_
    refine x_ri T_80_10 ?_
    exact ⟨rfl, rfl⟩
  · rw [if_neg q]
    refine CL_in mL_80 rfl ?_
    show WP fb _ 80 0 [some (vI u), some (vI v)] [] σ _
    refine x_li (z := u) T_80_0 rfl ?_
    refine x_li (z := v) T_80_1 rfl ?_
    refine x_ic2 T_80_2 (fun _ => ?_) (fun h => absurd (show u < v by omega) h)
    refine x_li (z := v) T_80_9 rfl ?_
    refine x_ri T_80_10 ?_
    exact ⟨rfl, rfl⟩
/-- a size that may not be -/
theorem x_exceeds (hP : PX σ0 W R σ) (hO : tX S = some (Sum.inl 7)) (hno : tX a = some (Sum.inl 8)) (hv : W S 2231 = v) (hln : W a 2266 = ln) (hr : (0 ≤ v ∧ v ≤ 8192) ∧ 0 ≤ ln ∧ ln ≤ 600) (hx : 0 ≤ x ∧ x ≤ 100000) : CL fb d 81 [vR (some S), vR (some a), vL x] σ (rP (if 600 < x ∨ 8192 < v - ln + x then 1 else 0) σ) := by
  by_cases q1 : 600 < x
  · rw [if_pos (Or.inl q1)]
    refine CL_in mL_81 rfl ?_
    show WP fb _ 81 0 [some (vR (some S)), some (vR (some a)), some (vL x), none] [] σ _
    refine x_ll (z := x) T_81_0 rfl ?_
    refine x_lc T_81_1 ?_
    refine x_lif T_81_2 T_81_3 (fun h => absurd (show x < 0 from h) (by omega)) (fun _ => ?_)
    refine x_ll (z := x) T_81_6 rfl ?_
    refine x_lc T_81_7 ?_
    refine x_lif T_81_10 T_81_11 (fun _ => ?_) (fun h => absurd (show 600 < x by omega) h)
    refine x_ic T_81_33 ?_
    refine x_goto T_81_34 ?_
    refine x_rz T_81_38 rfl ?_
    exact ⟨rfl, rfl⟩
  by_cases q2 : 8192 < v - ln + x
  · rw [if_pos (Or.inr q2)]
    refine CL_in mL_81 rfl ?_
    show WP fb _ 81 0 [some (vR (some S)), some (vR (some a)), some (vL x), none] [] σ _
    refine x_ll (z := x) T_81_0 rfl ?_
    refine x_lc T_81_1 ?_
    refine x_lif T_81_2 T_81_3 (fun h => absurd (show x < 0 from h) (by omega)) (fun _ => ?_)
    refine x_ll (z := x) T_81_6 rfl ?_
    refine x_lc T_81_7 ?_
    refine x_lif T_81_10 T_81_11 (fun h => absurd (show 600 < x from h) (by omega)) (fun _ => ?_)
    refine x_lr (z := some S) T_81_14 rfl ?_
    refine x_gI (z := v) T_81_15 (Or.inl F_7_7) (hP.o hO) (Eq.trans (hP.gi hO (key := 2231) rfl) hv) ?_
    refine x_lr (z := some a) T_81_18 rfl ?_
    refine x_gI (z := ln) T_81_19 (Or.inl F_8_10) (hP.o hno) (Eq.trans (hP.gi hno (key := 2266) rfl) hln) ?_
    refine x_ib (w := (v - ln)) T_81_22 (fun h => absurd h.1 (by decide)) (w32_id (by omega) (by omega)) ?_
    refine x_i2l T_81_23 ?_
    refine x_ll (z := x) T_81_24 rfl ?_
    refine x_lb (w := ((v - ln) + x)) T_81_25 (fun h => absurd h.1 (by decide)) (w64_id (by omega) (by omega)) ?_
    refine x_lc T_81_26 ?_
    refine x_lif T_81_29 T_81_30 (fun h => absurd (show ((v - ln) + x) ≤ 8192 from h) (by omega)) (fun _ => ?_)
    refine x_ic T_81_33 ?_
    refine x_goto T_81_34 ?_
    refine x_rz T_81_38 rfl ?_
    exact ⟨rfl, rfl⟩
  · rw [if_neg (by omega)]
    refine CL_in mL_81 rfl ?_
    show WP fb _ 81 0 [some (vR (some S)), some (vR (some a)), some (vL x), none] [] σ _
    refine x_ll (z := x) T_81_0 rfl ?_
    refine x_lc T_81_1 ?_
    refine x_lif T_81_2 T_81_3 (fun h => absurd (show x < 0 from h) (by omega)) (fun _ => ?_)
    refine x_ll (z := x) T_81_6 rfl ?_
    refine x_lc T_81_7 ?_
    refine x_lif T_81_10 T_81_11 (fun h => absurd (show 600 < x from h) (by omega)) (fun _ => ?_)
    refine x_lr (z := some S) T_81_14 rfl ?_
    refine x_gI (z := v) T_81_15 (Or.inl F_7_7) (hP.o hO) (Eq.trans (hP.gi hO (key := 2231) rfl) hv) ?_
    refine x_lr (z := some a) T_81_18 rfl ?_
    refine x_gI (z := ln) T_81_19 (Or.inl F_8_10) (hP.o hno) (Eq.trans (hP.gi hno (key := 2266) rfl) hln) ?_
    refine x_ib (w := (v - ln)) T_81_22 (fun h => absurd h.1 (by decide)) (w32_id (by omega) (by omega)) ?_
    refine x_i2l T_81_23 ?_
    refine x_ll (z := x) T_81_24 rfl ?_
    refine x_lb (w := ((v - ln) + x)) T_81_25 (fun h => absurd h.1 (by decide)) (w64_id (by omega) (by omega)) ?_
    refine x_lc T_81_26 ?_
    refine x_lif T_81_29 T_81_30 (fun _ => ?_) (fun h => absurd (show ((v - ln) + x) ≤ 8192 by omega) h)
    refine x_ic T_81_37 ?_
    refine x_rz T_81_38 rfl ?_
    exact ⟨rfl, rfl⟩
theorem cW_nx {j : Int} (hj : 0 ≤ j) (he : e = b + j) : rU (cW W c b F j) c e (sb8 (F j)) = cW W c b F (j + 1) := by
  subst he
  funext x k
  unfold rU cW
  by_cases q : x = c ∧ k = b + j
  · rw [if_pos q, if_pos ⟨q.1, by omega, by omega⟩, q.2, show b + j - b = j by omega]
  · rw [if_neg q]
    by_cases q2 : x = c ∧ b ≤ k ∧ k < b + j
    · rw [if_pos q2, if_pos ⟨q2.1, by omega, by omega⟩]
    · rw [if_neg q2, if_neg (fun q3 => q2 ⟨q3.1, by omega, by omega⟩)]
theorem cW_x {x : Nat} {m : Int} (h : x ≠ c) : cW W c b F m x k = W x k := if_neg (fun q => h q.1)
theorem cW_z : cW W c b F 0 = W := by
  funext x k
  exact if_neg (fun q => by omega)
theorem BY.cW {m : Int} (h : BY W mb M l) (hc : 2372 ≤ c) : BY (cW W c b F m) mb M l := by
  have hlt := h.lt
  obtain ⟨y1, y2, y3, y4, y5, y6, y7⟩ := h
  exact ⟨y1, y2, y3, (cW_x (by omega)).trans y4, y5, y6, fun i i0 i1 => (cW_x (by omega)).trans (y7 i i0 i1)⟩
theorem wr_loop (hO : tX S = some (Sum.inl 7)) (hno : tX a = some (Sum.inl 8)) (hc : R a 2267 = some c) (h2 : 2372 ≤ c) (hl : (c : Int) < W 0 0) (hr : R S 2233 = some mb) (hB : BY W mb M l) (hz : (l.length : Int) = z) (hcn : 0 ≤ cnt ∧ cnt + 23 = z) (hb : 0 ≤ b ∧ b + cnt ≤ 600) (he : e = b + cnt) : ∀ (m : Nat) (j : Int) (i : Int) (σ : hM), j + m = cnt → 0 ≤ j → i = b + j → PX σ0 (cW W c b (fun j => lg l (23 + j)) j) R σ → WP fb (d + 1) 79 114 [some (vR (some S)), some (vR (some a)), some (vI u), some (vL b), none, some (vI cnt), some (vI e), some (vI i)] [] σ (fun r σ' => r = some (vI 0) ∧ PX σ0 (cW W c b (fun j => lg l (23 + j)) cnt) R σ') := by
  have hm := hB.1
  have hn1 := hB.2.2.1
  have hlz := hB.2.2.2.2.1
  intro m
  induction m with
  | zero =>
    intro j i σ h1 h3 h4 hP
    have h1 : j + ((0 : Nat) : Int) = cnt := h1
    rw [show j = cnt by omega] at hP
    obtain ⟨W1, hW1⟩ : ∃ q, cW W c b (fun j => lg l (23 + j)) cnt = q := ⟨_, rfl⟩
    rw [hW1] at hP ⊢
    refine x_li (z := i) T_79_114 rfl ?_
    refine x_li (z := e) T_79_116 rfl ?_
    refine x_ic2 T_79_118 (fun _ => ?_) (fun h => absurd (show e ≤ i by omega) h)
    refine x_ic T_79_167 ?_
    refine x_ri T_79_168 ?_
    exact ⟨rfl, hP⟩
  | succ m ih =>
    intro j i σ h1 h3 h4 hP
    have hgo := fun (σ : hM) => ih (j + 1) (i + 1) σ (by omega) (by omega) (by omega)
    have hst := cW_nx (W := W) (c := c) (F := fun j => lg l (23 + j)) h3 h4
    have hlc : (c : Int) < cW W c b (fun j => lg l (23 + j)) j 0 0 := ilt_eq hl (cW_x (by omega))
    have hB2 : BY (cW W c b (fun j => lg l (23 + j)) j) mb M l := hB.cW h2
    obtain ⟨W1, hW1⟩ : ∃ q, cW W c b (fun j => lg l (23 + j)) j = q := ⟨_, rfl⟩
    rw [hW1] at hP hst hlc hB2
    rw [← hst] at hgo
    obtain ⟨y, hy⟩ : ∃ y, lg l (23 + j) = y := ⟨_, rfl⟩
    have hat := x_at (fb := fb) (d := d) (i := 23 + j) hP hB2
    rw [if_pos (by omega), hy] at hat
    have hsub : w32 (23 + i - b) = 23 + j := by rw [show 23 + i - b = 23 + j by omega]; exact w32_id (by omega) (by omega)
    have hgo : ∀ σ : hM, PX σ0 (rU W1 c i (sb8 y)) R σ → WP fb (d + 1) 79 114 [some (vR (some S)), some (vR (some a)), some (vI u), some (vL b), none, some (vI cnt), some (vI e), some (vI (i + 1))] [] σ (fun r σ' => r = some (vI 0) ∧ PX σ0 (cW W c b (fun j => lg l (23 + j)) cnt) R σ') := by
      rw [← hy]
      exact hgo
    refine x_li (z := i) T_79_114 rfl ?_
    refine x_li (z := e) T_79_116 rfl ?_
    refine x_ic2 T_79_118 (fun h => absurd (show e ≤ i from h) (by omega)) (fun _ => ?_)
    refine x_lr (z := some a) T_79_121 rfl ?_
    refine x_gR (z := some c) T_79_122 F_8_11 (hP.o hno) (Eq.trans (hP.rm hno rfl (key := 2267) rfl) hc) ?_
    refine x_nul T_79_125 (fun h0 => absurd h0 (by simp)) (fun _ _ => ?_)
    refine x_li (z := i) T_79_128 rfl ?_
    refine x_lr (z := some a) T_79_130 rfl ?_
    refine x_gR (z := some c) T_79_131 F_8_11 (hP.o hno) (Eq.trans (hP.rm hno rfl (key := 2267) rfl) hc) ?_
    refine x_len T_79_134 (hP.tc h2 hlc) ?_
    refine x_ic2 T_79_135 (fun h => absurd (show 600 ≤ i from h) (by omega)) (fun _ => ?_)
    refine x_lr (z := some a) T_79_138 rfl ?_
    refine x_gR (z := some c) T_79_139 F_8_11 (hP.o hno) (Eq.trans (hP.rm hno rfl (key := 2267) rfl) hc) ?_
    refine x_li (z := i) T_79_142 rfl ?_
    refine x_lr (z := some S) T_79_144 rfl ?_
    refine x_gR (z := some mb) T_79_145 F_7_9 (hP.o hO) (Eq.trans (hP.rm hO rfl (key := 2233) rfl) hr) ?_
    refine x_ic T_79_148 ?_
    refine x_li (z := i) T_79_150 rfl ?_
    refine x_ib (w := (23 + i)) T_79_152 (fun h => absurd h.1 (by decide)) (w32_id (by omega) (by omega)) ?_
    refine x_ll (z := b) T_79_153 rfl ?_
    refine x_l2i (w := b) T_79_154 (w32_id (by omega) (by omega)) ?_
    refine x_ib (w := (23 + j)) T_79_155 (fun h => absurd h.1 (by decide)) hsub ?_
    refine x_cv2 T_79_156 mN_33 mL_33 (Nat.le_of_ble_eq_true rfl) mO_33 (hP.o hm) (Nat.le_of_ble_eq_true rfl) (hat) ?_
    rintro _ σ ⟨rfl, rfl⟩
    refine cI ?_
    refine x_i2b (w := (sb8 y)) T_79_159 rfl ?_
    refine z_cB (v := (sb8 y)) hP T_79_160 (sb8_sb8 y) h2 hlc (by omega) (by omega) (fun σ hP => ?_)
    refine x_inc (w := (i + 1)) (ls1 := [some (vR (some S)), some (vR (some a)), some (vI u), some (vL b), none, some (vI cnt), some (vI e), some (vI (i + 1))]) T_79_161 rfl (w32_id (by omega) (by omega)) rfl ?_
    refine x_goto T_79_164 ?_
    exact hgo σ hP
theorem gSize_same : gSize P s n (P 2297 (64 * s + n)) = P := by
  unfold gSize
  have e1 : gZer P 2300 (600 * (64 * s + n) + P 2297 (64 * s + n)) (600 * (64 * s + n) + P 2297 (64 * s + n)) = P := by
    funext g k
    exact if_neg (fun q => by omega)
  have e2 : ∀ (Q : qR) (f : Nat) (k v : Int), Q f k = v → rU Q f k v = Q := fun Q f k v h => by
    funext g j
    unfold rU
    split
    · rename_i q
      rw [q.1, q.2, h]
    · rfl
  rw [e1, e2 P 2301 s _ (by omega), e2 P 2297 _ _ rfl]
theorem XV.fill {m : Nat} (h : XV W R P S s ord t) (hS : VS S s) (hs : s < 2) (hK : CT K W R) (h6 : ∀ n, s < 2 → isN P s n → P 2297 (64 * s + n) ≤ 600) (hi : 0 ≤ i ∧ i < ord.length) (ha : S + 6 + 3 * t i.toNat = a) (hn : lg ord i = n) (hc : R a 2267 = some c) (hb : 0 ≤ b ∧ b + m ≤ 600) : XV (cW W c b F m) R (rW P 2300 (600 * (64 * s + n) + b) (seg F 0 m)) S s ord t := by
  have hrg := hS.rng
  have hl := h.1.1.2.1
  obtain ⟨_, hc2, hc3⟩ := hK.1 a c hc
  have hfe : FE (rW P 2300 (600 * (64 * s + n) + b) (seg F 0 m)) P := fun f k hf => rW_f (fun q => by rw [q] at hf; exact absurd hf (by decide))
  have hW : ∀ (x : Nat) (k : Int), S ≤ x → x < S + 294 → (x = S ∨ S + 6 ≤ x) → cW W c b F m x k = W x k := fun x k _ _ _ => cW_x (by omega)
  refine ⟨(h.1.fr hW (fun _ _ _ _ => rfl)).fe hfe, (h.2.1.fr hW (fun _ _ _ _ => rfl)).pp (fun f k hf => rW_f (fun q => by rw [q] at hf; exact absurd hf (by decide))), ?_, fun i2 i0 i1 => ?_⟩
  · obtain ⟨z1, z2, z3, z4⟩ := h.2.2.1
    unfold SZ
    rw [cW_x (by omega), cW_x (by omega), cW_x (by omega), cW_x (by omega), cW_x (by omega), rW_f (by decide), rW_f (by decide), rW_f (by decide), rW_f (by decide)]
    exact ⟨z1, z2, z3, z4⟩
  · refine ⟨fun _ => ?_, fun q => by omega⟩
    have t2 := h.1.2.1.1 i2.toNat (by omega)
    obtain ⟨g1, g2⟩ := (h.2.2.2 i2 i0 i1).1 hs
    rw [rW_f (by decide), cW_x (by omega)]
    refine ⟨g1, g2.imp id ?_⟩
    rintro ⟨c', d1, d2, d3⟩
    refine ⟨c', d1, d2, fun k k0 k1 => ?_⟩
    have hk6 : P 2297 (64 * s + lg ord i2) ≤ 600 := h6 _ hs ((h.1.1.1 _).mp (lg_mem i0 i1))
    by_cases e : i2 = i
    · subst e
      rw [ha, hc] at d1
      cases d1
      rw [hn] at d3 k1 ⊢
      unfold cW
      by_cases q : b ≤ k ∧ k < b + m
      · rw [if_pos ⟨rfl, q⟩, rW_i (by rw [seg_len]; omega), show 600 * (64 * s + n) + k - (600 * (64 * s + n) + b) = k - b by omega, lg_seg _ _ _ _ (by omega) (by omega), Int.zero_add]
      · rw [if_neg (fun q2 => q q2.2), rW_o (by rw [seg_len]; omega)]
        exact d3 k k0 k1
    · have hne : lg ord i2 ≠ n := fun q => e (by
        have h1 := noA_get (S := S) (t := t) h.1.nodup i0 i1
        have h2 := noA_get (S := S) (t := t) h.1.nodup hi.1 hi.2
        rw [q, ← hn, h2] at h1
        have h3 := h.1.2.1.2 i.toNat i2.toNat (by omega) (by omega) (by have := Option.some.inj h1; omega)
        omega)
      have hcc : c' ≠ c := fun q => e (by
        rw [q] at d1
        have h1 := hK.2.1 _ _ _ d1 hc
        have h3 := h.1.2.1.2 i2.toNat i.toNat (by omega) (by omega) (by omega)
        omega)
      rw [cW_x hcc, rW_o (by rw [seg_len]; omega)]
      exact d3 k k0 k1
end XWB
