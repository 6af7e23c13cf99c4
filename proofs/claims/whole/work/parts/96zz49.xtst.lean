/-! The class's servers: a process's status is told. -/
theorem T_69_66 : hTab 69 66 = some ((3, 1, 2, []), 67) := rfl
theorem T_69_67 : hTab 69 67 = some ((24, 8, Int.ofNat 2, []), 70) := rfl
theorem T_69_70 : hTab 69 70 = some ((20, 0, Int.ofNat 213, []), 73) := rfl
theorem T_69_73 : hTab 69 73 = some ((3, 0, 2, []), 74) := rfl
theorem T_69_74 : hTab 69 74 = some ((24, 7, Int.ofNat 5, []), 77) := rfl
theorem T_69_77 : hTab 69 77 = some ((31, 27, 0, []), 80) := rfl
theorem T_69_80 : hTab 69 80 = some ((3, 0, 2, []), 81) := rfl
theorem T_69_81 : hTab 69 81 = some ((24, 7, Int.ofNat 5, []), 84) := rfl
theorem T_69_84 : hTab 69 84 = some ((3, 1, 2, []), 85) := rfl
theorem T_69_85 : hTab 69 85 = some ((24, 8, Int.ofNat 2, []), 88) := rfl
theorem T_69_88 : hTab 69 88 = some ((24, 6, Int.ofNat 7, []), 91) := rfl
theorem T_69_91 : hTab 69 91 = some ((31, 72, 1, []), 94) := rfl
theorem T_69_94 : hTab 69 94 = some ((14, 0, 0, []), 95) := rfl
theorem T_69_95 : hTab 69 95 = some ((0, 0, 3, []), 96) := rfl
theorem T_69_96 : hTab 69 96 = some ((31, 22, 0, []), 99) := rfl
theorem T_69_99 : hTab 69 99 = some ((3, 0, 2, []), 100) := rfl
theorem T_69_100 : hTab 69 100 = some ((24, 7, Int.ofNat 5, []), 103) := rfl
theorem T_69_103 : hTab 69 103 = some ((0, 0, 32, []), 105) := rfl
theorem T_69_105 : hTab 69 105 = some ((31, 73, 0, []), 108) := rfl
theorem T_69_108 : hTab 69 108 = some ((7, 0, 0, []), 109) := rfl
theorem T_69_109 : hTab 69 109 = some ((3, 0, 2, []), 110) := rfl
theorem T_69_110 : hTab 69 110 = some ((24, 7, Int.ofNat 5, []), 113) := rfl
theorem T_69_113 : hTab 69 113 = some ((3, 1, 2, []), 114) := rfl
theorem T_69_114 : hTab 69 114 = some ((24, 8, Int.ofNat 2, []), 117) := rfl
theorem T_69_117 : hTab 69 117 = some ((31, 74, 0, []), 120) := rfl
theorem T_69_120 : hTab 69 120 = some ((14, 0, 0, []), 121) := rfl
theorem T_69_121 : hTab 69 121 = some ((31, 75, 0, []), 124) := rfl
theorem T_69_124 : hTab 69 124 = some ((3, 0, 2, []), 125) := rfl
theorem T_69_125 : hTab 69 125 = some ((24, 7, Int.ofNat 5, []), 128) := rfl
theorem T_69_128 : hTab 69 128 = some ((0, 0, 32, []), 130) := rfl
theorem T_69_130 : hTab 69 130 = some ((31, 73, 0, []), 133) := rfl
theorem T_69_133 : hTab 69 133 = some ((7, 0, 0, []), 134) := rfl
theorem T_69_134 : hTab 69 134 = some ((3, 0, 2, []), 135) := rfl
theorem T_69_135 : hTab 69 135 = some ((24, 7, Int.ofNat 5, []), 138) := rfl
theorem T_69_138 : hTab 69 138 = some ((3, 1, 2, []), 139) := rfl
theorem T_69_139 : hTab 69 139 = some ((24, 8, Int.ofNat 2, []), 142) := rfl
theorem T_69_142 : hTab 69 142 = some ((24, 6, Int.ofNat 9, []), 145) := rfl
theorem T_69_145 : hTab 69 145 = some ((24, 3, Int.ofNat 1, []), 148) := rfl
theorem T_69_148 : hTab 69 148 = some ((14, 0, 0, []), 149) := rfl
theorem T_69_149 : hTab 69 149 = some ((31, 75, 0, []), 152) := rfl
theorem T_69_152 : hTab 69 152 = some ((3, 0, 2, []), 153) := rfl
theorem T_69_153 : hTab 69 153 = some ((24, 7, Int.ofNat 5, []), 156) := rfl
theorem T_69_156 : hTab 69 156 = some ((0, 0, 10, []), 158) := rfl
theorem T_69_158 : hTab 69 158 = some ((31, 73, 0, []), 161) := rfl
theorem T_69_161 : hTab 69 161 = some ((7, 0, 0, []), 162) := rfl
theorem T_69_162 : hTab 69 162 = some ((3, 2, 1, []), 163) := rfl
theorem T_69_163 : hTab 69 163 = some ((1, 0, 0, []), 164) := rfl
theorem T_69_164 : hTab 69 164 = some ((17, 0, 0, []), 165) := rfl
theorem T_69_165 : hTab 69 165 = some ((18, 2, Int.ofNat 292, []), 168) := rfl
theorem T_69_168 : hTab 69 168 = some ((3, 2, 1, []), 169) := rfl
theorem T_69_169 : hTab 69 169 = some ((3, 0, 2, []), 170) := rfl
theorem T_69_170 : hTab 69 170 = some ((24, 7, Int.ofNat 5, []), 173) := rfl
theorem T_69_173 : hTab 69 173 = some ((31, 28, 0, []), 176) := rfl
theorem T_69_176 : hTab 69 176 = some ((14, 0, 0, []), 177) := rfl
theorem T_69_177 : hTab 69 177 = some ((17, 0, 0, []), 178) := rfl
theorem T_69_178 : hTab 69 178 = some ((18, 3, Int.ofNat 292, []), 181) := rfl
theorem T_69_181 : hTab 69 181 = some ((3, 0, 2, []), 182) := rfl
theorem T_69_182 : hTab 69 182 = some ((24, 7, Int.ofNat 10, []), 185) := rfl
theorem T_69_185 : hTab 69 185 = some ((3, 0, 2, []), 186) := rfl
theorem T_69_186 : hTab 69 186 = some ((24, 7, Int.ofNat 5, []), 189) := rfl
theorem T_69_189 : hTab 69 189 = some ((3, 2, 1, []), 190) := rfl
theorem T_69_190 : hTab 69 190 = some ((15, 0, 0, []), 191) := rfl
theorem T_69_191 : hTab 69 191 = some ((3, 2, 1, []), 192) := rfl
theorem T_69_192 : hTab 69 192 = some ((15, 0, 0, []), 193) := rfl
theorem T_69_193 : hTab 69 193 = some ((3, 4, 0, []), 195) := rfl
theorem T_69_195 : hTab 69 195 = some ((10, 0, 0, []), 196) := rfl
theorem T_69_196 : hTab 69 196 = some ((3, 0, 2, []), 197) := rfl
theorem T_69_197 : hTab 69 197 = some ((24, 7, Int.ofNat 5, []), 200) := rfl
theorem T_69_200 : hTab 69 200 = some ((31, 28, 0, []), 203) := rfl
theorem T_69_203 : hTab 69 203 = some ((31, 70, 0, []), 206) := rfl
theorem T_69_206 : hTab 69 206 = some ((31, 32, 0, []), 209) := rfl
theorem T_69_209 : hTab 69 209 = some ((7, 0, 0, []), 210) := rfl
theorem T_69_210 : hTab 69 210 = some ((22, 0, Int.ofNat 292, []), 213) := rfl
theorem T_74_0 : hTab 74 0 = some ((0, 0, 0, []), 1) := rfl
theorem T_74_1 : hTab 74 1 = some ((4, 1, 0, []), 2) := rfl
theorem T_74_2 : hTab 74 2 = some ((0, 0, 0, []), 3) := rfl
theorem T_74_3 : hTab 74 3 = some ((4, 2, 0, []), 4) := rfl
theorem T_74_4 : hTab 74 4 = some ((3, 2, 0, []), 5) := rfl
theorem T_74_5 : hTab 74 5 = some ((0, 0, 8, []), 7) := rfl
theorem T_74_7 : hTab 74 7 = some ((19, 3, Int.ofNat 33, []), 10) := rfl
theorem T_74_10 : hTab 74 10 = some ((3, 1, 0, []), 11) := rfl
theorem T_74_11 : hTab 74 11 = some ((3, 0, 2, []), 12) := rfl
theorem T_74_12 : hTab 74 12 = some ((24, 6, Int.ofNat 4, []), 15) := rfl
theorem T_74_15 : hTab 74 15 = some ((3, 2, 0, []), 16) := rfl
theorem T_74_16 : hTab 74 16 = some ((26, 10, 0, []), 17) := rfl
theorem T_74_17 : hTab 74 17 = some ((20, 1, Int.ofNat 24, []), 20) := rfl
theorem T_74_20 : hTab 74 20 = some ((0, 0, 0, []), 21) := rfl
theorem T_74_21 : hTab 74 21 = some ((22, 0, Int.ofNat 25, []), 24) := rfl
theorem T_74_24 : hTab 74 24 = some ((0, 0, 1, []), 25) := rfl
theorem T_74_25 : hTab 74 25 = some ((10, 0, 0, []), 26) := rfl
theorem T_74_26 : hTab 74 26 = some ((4, 1, 0, []), 27) := rfl
theorem T_74_27 : hTab 74 27 = some ((5, 2, 1, []), 30) := rfl
theorem T_74_30 : hTab 74 30 = some ((22, 0, Int.ofNat 4, []), 33) := rfl
theorem T_74_33 : hTab 74 33 = some ((3, 1, 0, []), 34) := rfl
theorem T_74_34 : hTab 74 34 = some ((33, 1, 0, []), 35) := rfl
theorem F_3_1 : (hFd 3 1).2.2.1 = 0 := rfl
theorem F_6_4 : (hFd 6 4).2.2.1 = 4 := rfl
theorem F_6_7 : (hFd 6 7).2.2.1 = 0 := rfl
theorem F_6_9 : (hFd 6 9).2.2.1 = 4 := rfl
theorem F_7_5 : (hFd 7 5).2.2.1 = 4 := rfl
theorem mN_74 : hmN 74 = 1 := by decide +kernel
theorem mL_74 : hmL 74 = 3 := by decide +kernel
theorem mK_74 : hmK 74 = 1 := by decide +kernel
theorem mO_74 : hmO 74 = 6 := by decide +kernel
/-- what a process's status is made of -/
def PST (W : qR) (R : rR) (P : qR) (p : Int) (a : Nat) : Prop := tX a = some (Sum.inl 6) ∧ isA (a + 6) 15 8 ∧ (W a 2199 = P 2322 p ∧ 0 ≤ P 2322 p ∧ P 2322 p ≤ 3) ∧ (∃ g : Nat, R a 2201 = some g ∧ tX g = some (Sum.inl 3) ∧ W g 2097 = P 2334 (P 2323 p) ∧ 0 ≤ P 2334 (P 2323 p) ∧ P 2334 (P 2323 p) ≤ 8) ∧ ∀ k : Int, 0 ≤ k → k < 8 → (P 2327 (8 * p + k) < 0 ∧ R (a + 6) k = none) ∨ (¬ P 2327 (8 * p + k) < 0 ∧ ∃ y : Nat, R (a + 6) k = some y ∧ tX y = some (Sum.inl 5))
section XTST
variable {fb : Bool} {d S a b c c0 rp mb m0 N M fa pr : Nat} {σ0 σ : hM} {W W1 W2 P Q : qR} {R R1 R2 : rR} {i j k x z v s e w f u p g ln K T U C y off cnt : Int} {ord l l2 nm lo D L li : List Int} {t : Nat → Nat} {r : Option Nat} {F : Int → Int} {n : Nat}
theorem dec_one (h : 0 ≤ v ∧ v ≤ 9) : decL v = [48 + v] := by
  have hv : v = 0 ∨ v = 1 ∨ v = 2 ∨ v = 3 ∨ v = 4 ∨ v = 5 ∨ v = 6 ∨ v = 7 ∨ v = 8 ∨ v = 9 := by omega
  rcases hv with rfl | rfl | rfl | rfl | rfl | rfl | rfl | rfl | rfl | rfl <;> decide
theorem usr3 (hu : 0 ≤ u ∧ u ≤ 3) : leb 3 (hUN.getD u.toNat 0) = [ubyte (3 * u + 0), ubyte (3 * u + 1), ubyte (3 * u + 2)] := by
  have hv : u = 0 ∨ u = 1 ∨ u = 2 ∨ u = 3 := by omega
  rcases hv with rfl | rfl | rfl | rfl <;> decide
theorem x_open_loop (hS : PST W R P p a) (hP : PX σ0 W R σ) : ∀ (m : Nat) (k w : Int), k + m = 8 → 0 ≤ k → 0 ≤ w → w ≤ k → WP fb d 74 4 [some (vR (some a)), some (vI w), some (vI k)] [] σ (rP (coD P m (8 * p + k) w) σ) := by
  obtain ⟨ho, hA, _, _, hop⟩ := hS
  intro m
  induction m with
  | zero =>
    intro k w h1 h2 h3 h4
    have h1 : k + ((0 : Nat) : Int) = 8 := h1
    refine x_li (z := k) T_74_4 rfl ?_
    refine x_ic T_74_5 ?_
    refine x_ic2 T_74_7 (fun _ => ?_) (fun h => absurd (show 8 ≤ k by omega) h)
    refine x_li (z := w) T_74_33 rfl ?_
    refine x_ri T_74_34 ?_
    exact ⟨rfl, rfl⟩
  | succ m ih =>
    intro k w h1 h2 h3 h4
    rcases hop k h2 (by omega) with ⟨q, hk⟩ | ⟨q, y, hk, hy⟩
    · have hgo := ih (k + 1) w (by omega) (by omega) h3 (by omega)
      rw [show coD P m (8 * p + (k + 1)) w = coD P (m + 1) (8 * p + k) w by show _ = coD P m (8 * p + k + 1) (if P 2327 (8 * p + k) < 0 then w else w + 1); rw [if_pos q, ← Int.add_assoc]] at hgo
      refine x_li (z := k) T_74_4 rfl ?_
      refine x_ic T_74_5 ?_
      refine x_ic2 T_74_7 (fun h => absurd (show 8 ≤ k from h) (by omega)) (fun _ => ?_)
      refine x_li (z := w) T_74_10 rfl ?_
      refine x_lr (z := some a) T_74_11 rfl ?_
      refine x_gR (z := some (a + 6)) T_74_12 F_6_4 (hP.o ho) (hP.rc ho rfl rfl) ?_
      refine x_li (z := k) T_74_15 rfl ?_
      refine x_alR (z := none) T_74_16 (hP.ta hA) (by decide) (by omega) (by omega) (Eq.trans (hP.arm hA rfl (by omega)) hk) ?_
      refine x_nnul T_74_17 (fun a0 h0 => absurd h0 (by simp)) (fun _ => ?_)
      refine x_ic T_74_20 ?_
      refine x_goto T_74_21 ?_
      refine x_ib (w := w) T_74_25 (fun h => absurd h.1 (by decide)) (by show w32 (w + 0) = w; rw [Int.add_zero]; exact w32_id (by omega) (by omega)) ?_
      refine x_si (ls1 := [some (vR (some a)), some (vI w), some (vI k)]) T_74_26 rfl ?_
      refine x_inc (w := (k + 1)) (ls1 := [some (vR (some a)), some (vI w), some (vI (k + 1))]) T_74_27 rfl (w32_id (by omega) (by omega)) rfl ?_
      refine x_goto T_74_30 ?_
      exact hgo
    · have hgo := ih (k + 1) (w + 1) (by omega) (by omega) (by omega) (by omega)
      rw [show coD P m (8 * p + (k + 1)) (w + 1) = coD P (m + 1) (8 * p + k) w by show _ = coD P m (8 * p + k + 1) (if P 2327 (8 * p + k) < 0 then w else w + 1); rw [if_neg q, ← Int.add_assoc]] at hgo
      refine x_li (z := k) T_74_4 rfl ?_
      refine x_ic T_74_5 ?_
      refine x_ic2 T_74_7 (fun h => absurd (show 8 ≤ k from h) (by omega)) (fun _ => ?_)
      refine x_li (z := w) T_74_10 rfl ?_
      refine x_lr (z := some a) T_74_11 rfl ?_
      refine x_gR (z := some (a + 6)) T_74_12 F_6_4 (hP.o ho) (hP.rc ho rfl rfl) ?_
      refine x_li (z := k) T_74_15 rfl ?_
      refine x_alR (z := some y) T_74_16 (hP.ta hA) (by decide) (by omega) (by omega) (Eq.trans (hP.arm hA rfl (by omega)) hk) ?_
      refine x_nnul T_74_17 (fun _ _ => ?_) (fun h0 => absurd h0 (by simp))
      refine x_ic T_74_24 ?_
      refine x_ib (w := (w + 1)) T_74_25 (fun h => absurd h.1 (by decide)) (w32_id (by omega) (by omega)) ?_
      refine x_si (ls1 := [some (vR (some a)), some (vI (w + 1)), some (vI k)]) T_74_26 rfl ?_
      refine x_inc (w := (k + 1)) (ls1 := [some (vR (some a)), some (vI (w + 1)), some (vI (k + 1))]) T_74_27 rfl (w32_id (by omega) (by omega)) rfl ?_
      refine x_goto T_74_30 ?_
      exact hgo
theorem x_openCount (hS : PST W R P p a) (hP : PX σ0 W R σ) : CL fb d 74 [vR (some a)] σ (rP (qDesc P p) σ) := by
  have ho := hS.1
  have hgo := x_open_loop (fb := fb) (d := d) hS hP 8 0 0 (by decide) (by decide) (by decide) (by decide)
  rw [Int.add_zero] at hgo
  refine CL_in mL_74 rfl ?_
  show WP fb _ 74 0 [some (vR (some a)), none, none] [] σ _
  refine x_ic T_74_0 ?_
  refine x_si (ls1 := [some (vR (some a)), some (vI 0), none]) T_74_1 rfl ?_
  refine x_ic T_74_2 ?_
  refine x_si (ls1 := [some (vR (some a)), some (vI 0), some (vI 0)]) T_74_3 rfl ?_
  exact hgo
theorem PST.text (h : PST W R P p a) (hF : FB b W W1) : PST W1 R P p a := by
  obtain ⟨h1, h2, h3, ⟨g0, g1, g2, g3⟩, h5⟩ := h
  refine ⟨h1, h2, ?_, ⟨g0, g1, g2, ?_⟩, h5⟩
  · rw [hF.o (by decide) (by decide)]
    exact h3
  · rw [hF.o (by decide) (by decide)]
    exact g3
/-- a server's text may be written -/
theorem XV.text (h : XV W R P S s ord t) (hS : VS S s) (hF : FB (S + 4) W W1) (h6 : ∀ n, s < 2 → isN P s n → P 2297 (64 * s + n) ≤ 600) : XV W1 R P S s ord t := by
  have hrg := hS.rng
  have hW : ∀ (x : Nat) (k : Int), S ≤ x → x < S + 294 → (x = S ∨ S + 6 ≤ x) → W1 x k = W x k := fun x k _ _ q => hF x k (by omega) (by omega)
  refine ⟨h.1.fr hW (fun _ _ _ _ => rfl), h.2.1.fr hW (fun _ _ _ _ => rfl), ?_, h.2.2.2.fr h.1 hW (fun _ _ _ _ => rfl) (fun _ c k _ _ _ q => hF c k (by omega) (by omega)) h6⟩
  obtain ⟨z1, z2, z3, z4⟩ := h.2.2.1
  unfold SZ
  rw [hF (S + 3) 0 (by omega) (by omega), hF (S + 3) 1 (by omega) (by omega), hF S 2225 (by omega) (by omega), hF S 2231 (by omega) (by omega), hF S 2232 (by omega) (by omega)]
  exact ⟨z1, z2, z3, z4⟩
/-- a process's status -/
theorem tb_stat (hP : PX σ0 W R σ) (hO : tX S = some (Sum.inl 7)) (hsh : SH (S + 4) 100) (hno : tX a = some (Sum.inl 8)) (hdev : W a 2259 = 2) (hpr : R a 2258 = some pr) (hS : PST W R P p pr) (hrp : R S 2234 = some rp) (hB : BY W rp 300 L) (hne : rp ≠ S + 4) (hw : 0 ≤ w ∧ w ≤ 289) (hL : (L.length : Int) + w ≤ 300) : CL fb (d + 2) 69 [vR (some S), vR (some a), vL off, vI w] σ (fun r σ' => r = none ∧ ∃ W1 W2, PX σ0 W2 R σ' ∧ FB (S + 4) W W1 ∧ FB rp W1 W2 ∧ BY W2 rp 300 (L ++ part (lg (stL P p)) 8 off w)) := by
  have hro := hB.1
  have hto := hsh.1
  obtain ⟨hpo, hA, ⟨u1, u2, u3⟩, ⟨g, g1, g2, g3, g4, g5⟩, hop⟩ := id hS
  obtain ⟨u, hu⟩ : ∃ u, P 2322 p = u := ⟨_, rfl⟩
  rw [hu] at u1 u2 u3
  obtain ⟨np, hnp⟩ : ∃ u, P 2334 (P 2323 p) = u := ⟨_, rfl⟩
  rw [hnp] at g3 g4 g5
  obtain ⟨ds, hds⟩ : ∃ u, qDesc P p = u := ⟨_, rfl⟩
  have hdr : 0 ≤ ds ∧ ds ≤ 8 := by
    have h := coD_rng (P := P) 8 (8 * p) 0
    have h2 : coD P 8 (8 * p) 0 = ds := hds
    omega
  have e3 := usr3 ⟨u2, u3⟩
  have est : leb 3 (hUN.getD u.toNat 0) ++ [32] ++ decL ds ++ [32] ++ decL np ++ [10] = stL P p := by
    rw [e3, dec_one ⟨hdr.1, by omega⟩, dec_one ⟨g4, by omega⟩]
    unfold stL
    rw [hu, hnp, hds]
    rfl
  have hur := hUN_rng (u := u) ⟨u2, by omega⟩
  obtain ⟨xu, hxu⟩ : ∃ x, hUN.getD u.toNat 0 = x := ⟨_, rfl⟩
  rw [hxu] at est e3 hur
  have hl3 : (leb 3 xu).length = 3 := leb_len _ _
  have hld : (decL ds).length = 1 := by rw [dec_one ⟨hdr.1, by omega⟩]; rfl
  have hlp : (decL np).length = 1 := by rw [dec_one ⟨g4, by omega⟩]; rfl
  have s1 := fun (σ : hM) (hP : PX σ0 W R σ) => x_clear0 (fb := fb) (d := d + 1) hP hsh
  have s2 := fun (σ : hM) (W1 : qR) (hP : PX σ0 W1 R σ) => s_user (fb := fb) (d := d + 1) hP.gx ⟨u2, by omega⟩ hxu
  have s3 := fun (σ : hM) (W1 : qR) (hP : PX σ0 W1 R σ) (hB : BY W1 (S + 4) 100 []) => x_put (fb := fb) (d := d + 1) (k := 3) (v := xu) 3 hP hB rfl (by decide) ⟨by omega, by omega⟩ (by decide)
  have sa : ∀ (σ : hM) (W1 : qR) (l : List Int) (x : Int), PX σ0 W1 R σ → BY W1 (S + 4) 100 l → l.length < 100 → 0 ≤ x ∧ x ≤ 255 → CL fb (d + 1) 73 [vR (some (S + 4)), vI x] σ (XB σ0 W1 R (S + 4) 100 (l ++ [x]) (some (vI 1))) := fun σ W1 l x hP hB hl hx => by
    have h := x_add (fb := fb) (d := d + 1) hP hB hx
    rw [if_pos (by omega), if_pos (by omega)] at h
    exact h
  have sn : ∀ (σ : hM) (W1 : qR) (l : List Int) (x : Int), PX σ0 W1 R σ → BY W1 (S + 4) 100 l → l.length < 100 → 0 ≤ x ∧ x ≤ 9 → CL fb (d + 1) 75 [vR (some (S + 4)), vL x] σ (XB σ0 W1 R (S + 4) 100 (l ++ decL x) none) := fun σ W1 l x hP hB hl hx => by
    have h := x_addNumber (fb := fb) (d := d + 1) (v := x) hP hB ⟨hx.1, by omega⟩
    rw [List.take_of_length_le (by rw [List.length_append, dec_one hx]; show l.length + 1 ≤ 100; omega)] at h
    exact h
  have so := fun (σ : hM) (W1 : qR) (hP : PX σ0 W1 R σ) (hF : FB (S + 4) W W1) => x_openCount (fb := fb) (d := d + 1) (hS.text hF) hP
  rw [hds] at so
  have wu : ∀ W1, FB (S + 4) W W1 → W1 pr 2199 = u := fun W1 h => (h.o (by decide) (by decide)).trans u1
  have wg : ∀ W1, FB (S + 4) W W1 → W1 g 2097 = np := fun W1 h => (h.o (by decide) (by decide)).trans g3
  have hlen : ((leb 3 xu ++ [32] ++ decL ds ++ [32] ++ decL np ++ [10]).length : Int) = 8 := by
    rw [List.length_append, List.length_append, List.length_append, List.length_append, List.length_append, hl3, hld, hlp]
    rfl
  rw [← est]
  obtain ⟨st, hst⟩ : ∃ l, leb 3 xu ++ [32] ++ decL ds ++ [32] ++ decL np ++ [10] = l := ⟨_, rfl⟩
  have hfin : ∀ (σ : hM) (W1 : qR), PX σ0 W1 R σ → BY W1 (S + 4) 100 (leb 3 xu ++ [32] ++ decL ds ++ [32] ++ decL np ++ [10]) → FB (S + 4) W W1 → WP fb (d + 2) 69 162 [some (vR (some S)), some (vR (some a)), some (vL off), none, some (vI w), none, none] [] σ (fun r σ' => r = none ∧ ∃ W1 W2, PX σ0 W2 R σ' ∧ FB (S + 4) W W1 ∧ FB rp W1 W2 ∧ BY W2 rp 300 (L ++ part (lg st) 8 off w)) := fun σ W1 hP hT hF => by
    rw [hst] at hT hlen
    have hBr : BY W1 rp 300 L := hF.by hB hne
    by_cases q1 : off < 0
    · rw [show part (lg st) 8 off w = [] from if_neg (by omega), List.append_nil]
      refine x_ll (z := off) T_69_162 rfl ?_
      refine x_lc T_69_163 ?_
      refine x_lif T_69_164 T_69_165 (fun _ => ?_) (fun h => absurd (show off < 0 by omega) h)
      refine x_rv T_69_292 ?_
      exact ⟨rfl, W1, W1, hP, hF, FB_rfl, hBr⟩
    have hsz := fun (σ : hM) (hP : PX σ0 W1 R σ) => x_size (fb := fb) (d := d + 1) hP hT hlen
    by_cases q2 : 8 ≤ off
    · have ep : part (lg st) 8 off w = [] := by
        unfold part
        split
        · rw [show (if w < 8 - off then w else 8 - off).toNat = 0 by split <;> omega]
          rfl
        · rfl
      rw [ep, List.append_nil]
      refine x_ll (z := off) T_69_162 rfl ?_
      refine x_lc T_69_163 ?_
      refine x_lif T_69_164 T_69_165 (fun h => absurd (show off < 0 from h) (by omega)) (fun _ => ?_)
      refine x_ll (z := off) T_69_168 rfl ?_
      refine x_lr (z := some S) T_69_169 rfl ?_
      refine x_gR (z := some (S + 4)) T_69_170 F_7_5 (hP.o hO) (hP.rc hO rfl rfl) ?_
      refine x_cv1 T_69_173 mN_28 mL_28 (Nat.le_of_ble_eq_true rfl) mO_28 (hP.o hto) (Nat.le_of_ble_eq_true rfl) (hsz σ hP) ?_
      rintro _ σ ⟨rfl, rfl⟩
      refine cI ?_
      refine x_i2l T_69_176 ?_
      refine x_lif T_69_177 T_69_178 (fun _ => ?_) (fun h => absurd (show 8 ≤ off by omega) h)
      refine x_rv T_69_292 ?_
      exact ⟨rfl, W1, W1, hP, hF, FB_rfl, hBr⟩
    · obtain ⟨e, he⟩ : ∃ e, (if off + w ≤ 8 then off + w else 8) = e := ⟨_, rfl⟩
      have her : off ≤ e ∧ e ≤ 8 ∧ (L.length : Int) + (e - off) ≤ 300 := by rw [← he]; split <;> omega
      have hmin := fun (σ : hM) => x_min (fb := fb) (d := d + 1) (σ := σ) (u := off + w) (v := 8)
      rw [he] at hmin
      have hadd := fun (σ : hM) (hP : PX σ0 W1 R σ) => x_addAll (fb := fb) (d := d + 1) (s := off) (e := e) hP hBr hT (Ne.symm hne) (Or.inr (by omega)) (by omega)
      rw [List.take_of_length_le (by rw [List.length_append, seg_len]; omega), if_pos (by omega)] at hadd
      have ep : part (lg st) 8 off w = seg (lg st) off (e - off).toNat := by
        unfold part
        rw [if_pos ⟨by omega, by omega⟩]
        congr 2
        rw [← he]
        split <;> split <;> omega
      rw [ep]
      refine x_ll (z := off) T_69_162 rfl ?_
      refine x_lc T_69_163 ?_
      refine x_lif T_69_164 T_69_165 (fun h => absurd (show off < 0 from h) (by omega)) (fun _ => ?_)
      refine x_ll (z := off) T_69_168 rfl ?_
      refine x_lr (z := some S) T_69_169 rfl ?_
      refine x_gR (z := some (S + 4)) T_69_170 F_7_5 (hP.o hO) (hP.rc hO rfl rfl) ?_
      refine x_cv1 T_69_173 mN_28 mL_28 (Nat.le_of_ble_eq_true rfl) mO_28 (hP.o hto) (Nat.le_of_ble_eq_true rfl) (hsz σ hP) ?_
      rintro _ σ ⟨rfl, rfl⟩
      refine cI ?_
      refine x_i2l T_69_176 ?_
      refine x_lif T_69_177 T_69_178 (fun h => absurd (show 8 ≤ off from h) (by omega)) (fun _ => ?_)
      refine x_lr (z := some S) T_69_181 rfl ?_
      refine x_gR (z := some rp) T_69_182 F_7_10 (hP.o hO) (Eq.trans (hP.rm hO rfl (key := 2234) rfl) hrp) ?_
      refine x_lr (z := some S) T_69_185 rfl ?_
      refine x_gR (z := some (S + 4)) T_69_186 F_7_5 (hP.o hO) (hP.rc hO rfl rfl) ?_
      refine x_ll (z := off) T_69_189 rfl ?_
      refine x_l2i (w := off) T_69_190 (w32_id (by omega) (by omega)) ?_
      refine x_ll (z := off) T_69_191 rfl ?_
      refine x_l2i (w := off) T_69_192 (w32_id (by omega) (by omega)) ?_
      refine x_li (z := w) T_69_193 rfl ?_
      refine x_ib (w := (off + w)) T_69_195 (fun h => absurd h.1 (by decide)) (w32_id (by omega) (by omega)) ?_
      refine x_lr (z := some S) T_69_196 rfl ?_
      refine x_gR (z := some (S + 4)) T_69_197 F_7_5 (hP.o hO) (hP.rc hO rfl rfl) ?_
      refine x_cv1 T_69_200 mN_28 mL_28 (Nat.le_of_ble_eq_true rfl) mO_28 (hP.o hto) (Nat.le_of_ble_eq_true rfl) (hsz σ hP) ?_
      rintro _ σ ⟨rfl, rfl⟩
      refine cI ?_
      refine x_cs2 T_69_203 mN_70 mL_70 (Nat.le_of_ble_eq_true rfl) mK_70 (Nat.le_of_ble_eq_true rfl) (hmin σ) ?_
      rintro _ σ ⟨rfl, rfl⟩
      refine cI ?_
      refine x_cv4 T_69_206 mN_32 mL_32 (Nat.le_of_ble_eq_true rfl) mO_32 (hP.o hro) (Nat.le_of_ble_eq_true rfl) (hadd σ hP) ?_
      clear hP hadd
      rintro _ σ ⟨rfl, W2, hP, hB2, hF2⟩
      refine cI ?_
      refine x_popI T_69_209 ?_
      refine x_goto T_69_210 ?_
      refine x_rv T_69_292 ?_
      exact ⟨rfl, W1, W2, hP, hF, hF2, hB2⟩
  rw [hst]
  clear hst hlen est
  refine CL_in mL_69 rfl ?_
  show WP fb _ 69 0 [some (vR (some S)), some (vR (some a)), some (vL off), none, some (vI w), none, none] [] σ _
  refine x_lr (z := some a) T_69_0 rfl ?_
  refine x_gI (z := 2) T_69_1 (Or.inl F_8_3) (hP.o hno) (Eq.trans (hP.gi hno (key := 2259) rfl) hdev) ?_
  refine x_ic T_69_4 ?_
  refine x_ic2 T_69_5 (fun _ => ?_) (fun h => absurd (show ¬ (2 : Int) = 1 by decide) h)
  refine x_lr (z := some a) T_69_58 rfl ?_
  refine x_gI (z := 2) T_69_59 (Or.inl F_8_3) (hP.o hno) (Eq.trans (hP.gi hno (key := 2259) rfl) hdev) ?_
  refine x_ic T_69_62 ?_
  refine x_ic2 T_69_63 (fun h => absurd (show ¬ (2 : Int) = 2 from h) (by decide)) (fun _ => ?_)
  refine x_lr (z := some a) T_69_66 rfl ?_
  refine x_gR (z := some pr) T_69_67 F_8_2 (hP.o hno) (Eq.trans (hP.rm hno rfl (key := 2258) rfl) hpr) ?_
  refine x_nul T_69_70 (fun h0 => absurd h0 (by simp)) (fun _ _ => ?_)
  refine x_lr (z := some S) T_69_73 rfl ?_
  refine x_gR (z := some (S + 4)) T_69_74 F_7_5 (hP.o hO) (hP.rc hO rfl rfl) ?_
  refine x_cv1 T_69_77 mN_27 mL_27 (Nat.le_of_ble_eq_true rfl) mO_27 (hP.o hto) (Nat.le_of_ble_eq_true rfl) (s1 σ hP) ?_
  clear hP s1
  rintro _ σ ⟨rfl, W1, hP, hB1, hF1⟩
  have v1 := wu W1 hF1
  refine cV ?_
  refine x_lr (z := some S) T_69_80 rfl ?_
  refine x_gR (z := some (S + 4)) T_69_81 F_7_5 (hP.o hO) (hP.rc hO rfl rfl) ?_
  refine x_lr (z := some a) T_69_84 rfl ?_
  refine x_gR (z := some pr) T_69_85 F_8_2 (hP.o hno) (Eq.trans (hP.rm hno rfl (key := 2258) rfl) hpr) ?_
  refine x_gI (z := u) T_69_88 (Or.inl F_6_7) (hP.o hpo) (Eq.trans (hP.gi hpo (key := 2199) rfl) v1) ?_
  refine x_cs1 T_69_91 mN_72 mL_72 (Nat.le_of_ble_eq_true rfl) mK_72 (Nat.le_of_ble_eq_true rfl) (s2 σ W1 hP) ?_
  rintro _ σ ⟨rfl, rfl⟩
  refine cI ?_
  refine x_i2l T_69_94 ?_
  refine x_ic T_69_95 ?_
  refine x_cv3 T_69_96 mN_22 mL_22 (Nat.le_of_ble_eq_true rfl) mO_22 (hP.o hto) (Nat.le_of_ble_eq_true rfl) (s3 σ W1 hP hB1) ?_
  clear hP s2 s3
  rintro _ σ ⟨rfl, W2, hP, hB2, hF2⟩
  have hF2 := FB_tr hF1 hF2
  refine cV ?_
  refine x_lr (z := some S) T_69_99 rfl ?_
  refine x_gR (z := some (S + 4)) T_69_100 F_7_5 (hP.o hO) (hP.rc hO rfl rfl) ?_
  refine x_ic T_69_103 ?_
  refine x_cv2 T_69_105 mN_73 mL_73 (Nat.le_of_ble_eq_true rfl) mO_73 (hP.o hto) (Nat.le_of_ble_eq_true rfl) (sa σ W2 _ 32 hP hB2 (by rw [List.nil_append, hl3]; decide) (by decide)) ?_
  clear hP
  rintro _ σ ⟨rfl, W3, hP, hB3, hF3⟩
  have hF3 := FB_tr hF2 hF3
  refine cI ?_
  refine x_popI T_69_108 ?_
  refine x_lr (z := some S) T_69_109 rfl ?_
  refine x_gR (z := some (S + 4)) T_69_110 F_7_5 (hP.o hO) (hP.rc hO rfl rfl) ?_
  refine x_lr (z := some a) T_69_113 rfl ?_
  refine x_gR (z := some pr) T_69_114 F_8_2 (hP.o hno) (Eq.trans (hP.rm hno rfl (key := 2258) rfl) hpr) ?_
  refine x_cv1 T_69_117 mN_74 mL_74 (Nat.le_of_ble_eq_true rfl) mO_74 (hP.o hpo) (Nat.le_of_ble_eq_true rfl) (so σ W3 hP hF3) ?_
  rintro _ σ ⟨rfl, rfl⟩
  refine cI ?_
  refine x_i2l T_69_120 ?_
  refine x_cv2 T_69_121 mN_75 mL_75 (Nat.le_of_ble_eq_true rfl) mO_75 (hP.o hto) (Nat.le_of_ble_eq_true rfl) (sn σ W3 _ ds hP hB3 (by rw [List.length_append, List.nil_append, hl3]; decide) ⟨hdr.1, by omega⟩) ?_
  clear hP
  rintro _ σ ⟨rfl, W4, hP, hB4, hF4⟩
  have hF4 := FB_tr hF3 hF4
  refine cV ?_
  refine x_lr (z := some S) T_69_124 rfl ?_
  refine x_gR (z := some (S + 4)) T_69_125 F_7_5 (hP.o hO) (hP.rc hO rfl rfl) ?_
  refine x_ic T_69_128 ?_
  refine x_cv2 T_69_130 mN_73 mL_73 (Nat.le_of_ble_eq_true rfl) mO_73 (hP.o hto) (Nat.le_of_ble_eq_true rfl) (sa σ W4 _ 32 hP hB4 (by rw [List.length_append, List.length_append, List.nil_append, hl3, hld]; decide) (by decide)) ?_
  clear hP
  rintro _ σ ⟨rfl, W5, hP, hB5, hF5⟩
  have hF5 := FB_tr hF4 hF5
  have v2 := wg W5 hF5
  refine cI ?_
  refine x_popI T_69_133 ?_
  refine x_lr (z := some S) T_69_134 rfl ?_
  refine x_gR (z := some (S + 4)) T_69_135 F_7_5 (hP.o hO) (hP.rc hO rfl rfl) ?_
  refine x_lr (z := some a) T_69_138 rfl ?_
  refine x_gR (z := some pr) T_69_139 F_8_2 (hP.o hno) (Eq.trans (hP.rm hno rfl (key := 2258) rfl) hpr) ?_
  refine x_gR (z := some g) T_69_142 F_6_9 (hP.o hpo) (Eq.trans (hP.rm hpo rfl (key := 2201) rfl) g1) ?_
  refine x_gI (z := np) T_69_145 (Or.inl F_3_1) (hP.o g2) (Eq.trans (hP.gi g2 (key := 2097) rfl) v2) ?_
  refine x_i2l T_69_148 ?_
  refine x_cv2 T_69_149 mN_75 mL_75 (Nat.le_of_ble_eq_true rfl) mO_75 (hP.o hto) (Nat.le_of_ble_eq_true rfl) (sn σ W5 _ np hP hB5 (by rw [List.length_append, List.length_append, List.length_append, List.nil_append, hl3, hld]; decide) ⟨g4, by omega⟩) ?_
  clear hP
  rintro _ σ ⟨rfl, W6, hP, hB6, hF6⟩
  have hF6 := FB_tr hF5 hF6
  refine cV ?_
  refine x_lr (z := some S) T_69_152 rfl ?_
  refine x_gR (z := some (S + 4)) T_69_153 F_7_5 (hP.o hO) (hP.rc hO rfl rfl) ?_
  refine x_ic T_69_156 ?_
  refine x_cv2 T_69_158 mN_73 mL_73 (Nat.le_of_ble_eq_true rfl) mO_73 (hP.o hto) (Nat.le_of_ble_eq_true rfl) (sa σ W6 _ 10 hP hB6 (by rw [List.length_append, List.length_append, List.length_append, List.length_append, List.nil_append, hl3, hld, hlp]; decide) (by decide)) ?_
  clear hP
  rintro _ σ ⟨rfl, W7, hP, hB7, hF7⟩
  have hF7 := FB_tr hF6 hF7
  refine cI ?_
  refine x_popI T_69_161 ?_
  exact hfin σ W7 hP hB7 hF7
end XTST
