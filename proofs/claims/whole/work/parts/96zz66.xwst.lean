/-! The class's servers: a file is changed. -/
theorem T_86_344 : hTab 86 344 = some ((3, 2, 2, []), 345) := rfl
theorem T_86_345 : hTab 86 345 = some ((3, 8, 0, []), 347) := rfl
theorem T_86_347 : hTab 86 347 = some ((18, 0, Int.ofNat 355, []), 350) := rfl
theorem T_86_350 : hTab 86 350 = some ((3, 11, 0, []), 352) := rfl
theorem T_86_352 : hTab 86 352 = some ((22, 0, Int.ofNat 359, []), 355) := rfl
theorem T_86_355 : hTab 86 355 = some ((3, 2, 2, []), 356) := rfl
theorem T_86_356 : hTab 86 356 = some ((24, 8, Int.ofNat 6, []), 359) := rfl
theorem T_86_359 : hTab 86 359 = some ((25, 8, Int.ofNat 6, []), 362) := rfl
theorem T_86_362 : hTab 86 362 = some ((3, 2, 2, []), 363) := rfl
theorem T_86_363 : hTab 86 363 = some ((3, 1, 2, []), 364) := rfl
theorem T_86_364 : hTab 86 364 = some ((24, 9, Int.ofNat 2, []), 367) := rfl
theorem T_86_367 : hTab 86 367 = some ((25, 8, Int.ofNat 9, []), 370) := rfl
theorem T_86_370 : hTab 86 370 = some ((0, 0, 0, []), 371) := rfl
theorem T_86_371 : hTab 86 371 = some ((33, 1, 0, []), 372) := rfl
theorem mN_86 : hmN 86 = 2 := by decide +kernel
theorem mL_86 : hmL 86 = 14 := by decide +kernel
theorem mK_86 : hmK 86 = 1 := by decide +kernel
theorem mO_86 : hmO 86 = 7 := by decide +kernel
section XWST
variable {fb : Bool} {d S a c0 rp mb m0 N M fa pr bb pa : Nat} {σ0 σ σ' : hM} {W W1 W2 W3 P Q : qR} {R R1 R2 : rR} {b i k x z v s e w f u p g ln K T U C c y off cnt n md tb j m : Int} {ord l l2 nm lo D L li : List Int} {t : Nat → Nat} {F : Int → Int} {oth : Option Nat}
theorem rU_id {f : Nat} (h : P f k = v) : rU P f k v = P := by
  funext g j
  unfold rU
  split
  · rename_i q
    rw [q.1, q.2, h]
  · rfl
/-- a mode that may be put keeps a directory a directory -/
theorem xor_sign {x y : Int} (hx : -2147483648 ≤ x ∧ x ≤ 2147483647) (hy : -2147483648 ≤ y ∧ y ≤ 2147483647) (h : and32 (xor32 x y) (-1073742336) = 0) : 0 ≤ x ↔ 0 ≤ y := by
  unfold and32 xor32 at h
  have hh : ((BitVec.ofInt 32 (BitVec.ofInt 32 x ^^^ BitVec.ofInt 32 y).toInt) &&& BitVec.ofInt 32 (-1073742336)).toInt = 0 := h
  rw [BitVec.ofInt_toInt] at hh
  have h0 : (BitVec.ofInt 32 x ^^^ BitVec.ofInt 32 y) &&& BitVec.ofInt 32 (-1073742336) = 0#32 := BitVec.eq_of_toInt_eq (hh.trans (by decide))
  have h1 := congrArg BitVec.msb h0
  rw [BitVec.msb_and, BitVec.msb_xor, show (BitVec.ofInt 32 (-1073742336)).msb = true by decide, Bool.and_true, show (0#32).msb = false by decide] at h1
  have e : ∀ x : Int, -2147483648 ≤ x ∧ x ≤ 2147483647 → ((BitVec.ofInt 32 x).msb = false ↔ 0 ≤ x) := fun x hx => by
    have h2 : (BitVec.ofInt 32 x).toInt = x := by
      rw [BitVec.toInt_ofInt]
      exact Int.bmod_eq_of_le (by omega) (by omega)
    have h3 := BitVec.msb_eq_toInt (x := BitVec.ofInt 32 x)
    rw [h2] at h3
    rw [h3, decide_eq_false_iff_not]
    omega
  rw [← e x hx, ← e y hy]
  cases ha : (BitVec.ofInt 32 x).msb <;> cases hb : (BitVec.ofInt 32 y).msb <;> rw [ha, hb] at h1 <;> simp_all
/-- mode and last changer -/
theorem ws_344 {x4 x6 x7 : Int} {lq : Int} (hP : PX σ0 W R σ) (hS : VS S s) (hX : XV W R Q S s ord t) (hK : CT K W R) (hs : s < 2) (h6 : ∀ n, s < 2 → isN Q s n → Q 2297 (64 * s + n) ≤ 600) (hi0 : 0 ≤ i ∧ i < 96) (hfa : S + 198 + i.toNat = fa) (hi : 0 ≤ j ∧ j < ord.length) (ha : S + 6 + 3 * t j.toNat = a) (hn : lg ord j = n) (hu : W fa 2290 = u) (hu3 : 0 ≤ u ∧ u ≤ 3) (hBr : BY W rp 300 l2) (hmf : v = 0 ∨ v = 1) (hm : -2147483648 ≤ m ∧ m ≤ 2147483647) (hsg : v = 1 → (0 ≤ m ↔ 0 ≤ qMode Q s n)) : WP fb (d + 4) 86 344 [some (vR (some S)), some (vR (some fa)), some (vR (some a)), some (vI 54), some (vI x4), some (vI 38), some (vI x6), some (vI x7), some (vI v), some (vL lq), none, some (vI m), some (vR oth), some (vI 0)] [] σ (XS σ0 K W R S rp s 0 (rU (if v = 1 then rU Q 2293 (64 * s + n) m else Q) 2296 (64 * s + n) u) l2) := by
  have hO := hS.o
  have hrg := hS.rng
  have hl := hX.1.1.2.1
  have ti := hX.1.2.1.1 j.toNat (by omega)
  have hfo := hS.fd hi0
  rw [hfa] at hfo
  have hND := hX.1.2.2.2.1 j hi.1 hi.2
  rw [ha, hn] at hND
  have hno : tX a = some (Sum.inl 8) := hND.1
  obtain ⟨m2, hm2⟩ : ∃ q, (if v = 1 then m else qMode Q s n) = q := ⟨_, rfl⟩
  have eQ : (if v = 1 then rU Q 2293 (64 * s + n) m else Q) = rU Q 2293 (64 * s + n) m2 := by
    by_cases q : v = 1
    · rw [if_pos q] at hm2 ⊢
      rw [hm2]
    · rw [if_neg q] at hm2 ⊢
      exact (rU_id (by rw [← hm2]; exact (if_pos hs).symm)).symm
  rw [eQ]
  have hm2r : -2147483648 ≤ m2 ∧ m2 ≤ 2147483647 := by
    rw [← hm2]
    split
    · exact hm
    · exact hND.2.1.2
  have hX1 := hX.mod1 (m := m2) hS hs h6 hi ha hn hm2r (by
    rw [← hm2]
    by_cases q : v = 1
    · rw [if_pos q]
      exact hsg q
    · rw [if_neg q])
  have h6b : ∀ n', s < 2 → isN (rU Q 2293 (64 * s + n) m2) s n' → rU Q 2293 (64 * s + n) m2 2297 (64 * s + n') ≤ 600 := fun n' q hn' => by
    rw [rU_f (by decide)]
    exact h6 n' q ((isN_tree q (fun k => rU_f (by decide))).mp hn')
  have hX2 := hX1.mui1 (u := u) hS hs h6b hi ha hn hu3
  have hF : FV S rp W (rU (rU W a 2262 m2) a 2265 u) R R := FV_tr (FV_own (by omega) (by omega) (by omega)) (FV_own (by omega) (by omega) (by omega))
  have hend : ∀ σ, PX σ0 (rU (rU W a 2262 m2) a 2265 u) R σ → XS σ0 K W R S rp s 0 (rU (rU Q 2293 (64 * s + n) m2) 2296 (64 * s + n) u) l2 (some (vI 0)) σ := fun σ hP => ⟨rfl, _, R, ord, t, l2, hP, (hBr.key (by decide) (by decide)).key (by decide) (by decide), fun _ => rfl, hX2, (hK.drop (by omega) (by decide)).drop (by omega) (by decide), hF⟩
  have hmo := hND.2.1.1
  clear hX hX1 hX2 hK hF hND
  rcases hmf with rfl | rfl
  · rw [if_neg (by decide)] at hm2
    rw [hm2] at hmo
    refine x_lr (z := some a) T_86_344 rfl ?_
    refine x_li (z := 0) T_86_345 rfl ?_
    refine x_if T_86_347 (fun _ => ?_) (fun h => absurd (show (0 : Int) = 0 by decide) h)
    refine x_lr (z := some a) T_86_355 rfl ?_
    refine x_gI (z := m2) T_86_356 (Or.inl F_8_6) (hP.o hno) (Eq.trans (hP.gi hno (key := 2262) rfl) hmo) ?_
    refine z_pI hP T_86_359 F_8_6 hno (key := 2262) rfl (fun σ hP => ?_)
    refine x_lr (z := some a) T_86_362 rfl ?_
    refine x_lr (z := some fa) T_86_363 rfl ?_
    refine x_gI (z := u) T_86_364 (Or.inl F_9_2) (hP.o hfo) (Eq.trans (Eq.trans (hP.gi hfo (key := 2290) rfl) (rU_j (by decide))) hu) ?_
    refine z_pI hP T_86_367 F_8_9 hno (key := 2265) rfl (fun σ hP => ?_)
    refine x_ic T_86_370 ?_
    refine x_ri T_86_371 ?_
    exact hend σ hP
  · rw [if_pos rfl] at hm2
    subst hm2
    refine x_lr (z := some a) T_86_344 rfl ?_
    refine x_li (z := 1) T_86_345 rfl ?_
    refine x_if T_86_347 (fun h => absurd (show (1 : Int) = 0 from h) (by decide)) (fun _ => ?_)
    refine x_li (z := m) T_86_350 rfl ?_
    refine x_goto T_86_352 ?_
    refine z_pI hP T_86_359 F_8_6 hno (key := 2262) rfl (fun σ hP => ?_)
    refine x_lr (z := some a) T_86_362 rfl ?_
    refine x_lr (z := some fa) T_86_363 rfl ?_
    refine x_gI (z := u) T_86_364 (Or.inl F_9_2) (hP.o hfo) (Eq.trans (Eq.trans (hP.gi hfo (key := 2290) rfl) (rU_j (by decide))) hu) ?_
    refine z_pI hP T_86_367 F_8_9 hno (key := 2265) rfl (fun σ hP => ?_)
    refine x_ic T_86_370 ?_
    refine x_ri T_86_371 ?_
    exact hend σ hP
end XWST
