/-! The class's servers: what keeps a file from being changed. -/
theorem T_88_0 : hTab 88 0 = some ((3, 1, 2, []), 1) := rfl
theorem T_88_1 : hTab 88 1 = some ((24, 8, Int.ofNat 1, []), 4) := rfl
theorem T_88_4 : hTab 88 4 = some ((20, 1, Int.ofNat 9, []), 7) := rfl
theorem T_88_7 : hTab 88 7 = some ((0, 0, 3, []), 8) := rfl
theorem T_88_8 : hTab 88 8 = some ((33, 1, 0, []), 9) := rfl
theorem T_88_9 : hTab 88 9 = some ((3, 3, 0, []), 10) := rfl
theorem T_88_10 : hTab 88 10 = some ((18, 1, Int.ofNat 15, []), 13) := rfl
theorem T_88_13 : hTab 88 13 = some ((0, 0, 5, []), 14) := rfl
theorem T_88_14 : hTab 88 14 = some ((33, 1, 0, []), 15) := rfl
theorem T_88_15 : hTab 88 15 = some ((3, 4, 2, []), 17) := rfl
theorem T_88_17 : hTab 88 17 = some ((20, 0, Int.ofNat 28, []), 20) := rfl
theorem T_88_20 : hTab 88 20 = some ((3, 4, 2, []), 22) := rfl
theorem T_88_22 : hTab 88 22 = some ((3, 1, 2, []), 23) := rfl
theorem T_88_23 : hTab 88 23 = some ((21, 0, Int.ofNat 28, []), 26) := rfl
theorem T_88_26 : hTab 88 26 = some ((0, 0, 4, []), 27) := rfl
theorem T_88_27 : hTab 88 27 = some ((33, 1, 0, []), 28) := rfl
theorem T_88_28 : hTab 88 28 = some ((3, 1, 2, []), 29) := rfl
theorem T_88_29 : hTab 88 29 = some ((24, 8, Int.ofNat 1, []), 32) := rfl
theorem T_88_32 : hTab 88 32 = some ((3, 2, 0, []), 33) := rfl
theorem T_88_33 : hTab 88 33 = some ((0, 0, 2, []), 34) := rfl
theorem T_88_34 : hTab 88 34 = some ((31, 43, 0, []), 37) := rfl
theorem T_88_37 : hTab 88 37 = some ((18, 0, Int.ofNat 44, []), 40) := rfl
theorem T_88_40 : hTab 88 40 = some ((0, 0, 0, []), 41) := rfl
theorem T_88_41 : hTab 88 41 = some ((22, 0, Int.ofNat 45, []), 44) := rfl
theorem T_88_44 : hTab 88 44 = some ((0, 0, 3, []), 45) := rfl
theorem T_88_45 : hTab 88 45 = some ((33, 1, 0, []), 46) := rfl
theorem T_89_0 : hTab 89 0 = some ((3, 1, 2, []), 1) := rfl
theorem T_89_1 : hTab 89 1 = some ((31, 55, 0, []), 4) := rfl
theorem T_89_4 : hTab 89 4 = some ((18, 0, Int.ofNat 10, []), 7) := rfl
theorem T_89_7 : hTab 89 7 = some ((0, 0, 10, []), 9) := rfl
theorem T_89_9 : hTab 89 9 = some ((33, 1, 0, []), 10) := rfl
theorem T_89_10 : hTab 89 10 = some ((3, 1, 2, []), 11) := rfl
theorem T_89_11 : hTab 89 11 = some ((3, 2, 0, []), 12) := rfl
theorem T_89_12 : hTab 89 12 = some ((0, 0, 2, []), 13) := rfl
theorem T_89_13 : hTab 89 13 = some ((31, 43, 0, []), 16) := rfl
theorem T_89_16 : hTab 89 16 = some ((18, 1, Int.ofNat 21, []), 19) := rfl
theorem T_89_19 : hTab 89 19 = some ((0, 0, 3, []), 20) := rfl
theorem T_89_20 : hTab 89 20 = some ((33, 1, 0, []), 21) := rfl
theorem T_89_21 : hTab 89 21 = some ((3, 0, 2, []), 22) := rfl
theorem T_89_22 : hTab 89 22 = some ((3, 1, 2, []), 23) := rfl
theorem T_89_23 : hTab 89 23 = some ((3, 3, 1, []), 24) := rfl
theorem T_89_24 : hTab 89 24 = some ((31, 81, 0, []), 27) := rfl
theorem T_89_27 : hTab 89 27 = some ((18, 0, Int.ofNat 35, []), 30) := rfl
theorem T_89_30 : hTab 89 30 = some ((0, 0, 12, []), 32) := rfl
theorem T_89_32 : hTab 89 32 = some ((22, 0, Int.ofNat 36, []), 35) := rfl
theorem T_89_35 : hTab 89 35 = some ((0, 0, 0, []), 36) := rfl
theorem T_89_36 : hTab 89 36 = some ((33, 1, 0, []), 37) := rfl
theorem T_90_0 : hTab 90 0 = some ((3, 1, 0, []), 1) := rfl
theorem T_90_1 : hTab 90 1 = some ((3, 0, 2, []), 2) := rfl
theorem T_90_2 : hTab 90 2 = some ((24, 8, Int.ofNat 7, []), 5) := rfl
theorem T_90_5 : hTab 90 5 = some ((19, 0, Int.ofNat 10, []), 8) := rfl
theorem T_90_8 : hTab 90 8 = some ((0, 0, 3, []), 9) := rfl
theorem T_90_9 : hTab 90 9 = some ((33, 1, 0, []), 10) := rfl
theorem T_90_10 : hTab 90 10 = some ((3, 0, 2, []), 11) := rfl
theorem T_90_11 : hTab 90 11 = some ((31, 55, 0, []), 14) := rfl
theorem T_90_14 : hTab 90 14 = some ((18, 0, Int.ofNat 23, []), 17) := rfl
theorem T_90_17 : hTab 90 17 = some ((0, 0, 511, []), 20) := rfl
theorem T_90_20 : hTab 90 20 = some ((22, 0, Int.ofNat 26, []), 23) := rfl
theorem T_90_23 : hTab 90 23 = some ((0, 0, 1073742335, []), 26) := rfl
theorem T_90_26 : hTab 90 26 = some ((4, 3, 0, []), 27) := rfl
theorem T_90_27 : hTab 90 27 = some ((3, 2, 0, []), 28) := rfl
theorem T_90_28 : hTab 90 28 = some ((3, 0, 2, []), 29) := rfl
theorem T_90_29 : hTab 90 29 = some ((24, 8, Int.ofNat 6, []), 32) := rfl
theorem T_90_32 : hTab 90 32 = some ((10, 7, 0, []), 33) := rfl
theorem T_90_33 : hTab 90 33 = some ((3, 3, 0, []), 34) := rfl
theorem T_90_34 : hTab 90 34 = some ((0, 0, (-1), []), 35) := rfl
theorem T_90_35 : hTab 90 35 = some ((10, 7, 0, []), 36) := rfl
theorem T_90_36 : hTab 90 36 = some ((10, 5, 0, []), 37) := rfl
theorem T_90_37 : hTab 90 37 = some ((18, 0, Int.ofNat 45, []), 40) := rfl
theorem T_90_40 : hTab 90 40 = some ((0, 0, 16, []), 42) := rfl
theorem T_90_42 : hTab 90 42 = some ((22, 0, Int.ofNat 46, []), 45) := rfl
theorem T_90_45 : hTab 90 45 = some ((0, 0, 0, []), 46) := rfl
theorem T_90_46 : hTab 90 46 = some ((33, 1, 0, []), 47) := rfl
theorem mN_88 : hmN 88 = 5 := by decide +kernel
theorem mL_88 : hmL 88 = 5 := by decide +kernel
theorem mK_88 : hmK 88 = 1 := by decide +kernel
theorem mO_88 : hmO 88 = 7 := by decide +kernel
theorem mN_89 : hmN 89 = 4 := by decide +kernel
theorem mL_89 : hmL 89 = 5 := by decide +kernel
theorem mK_89 : hmK 89 = 1 := by decide +kernel
theorem mO_89 : hmO 89 = 7 := by decide +kernel
theorem mN_90 : hmN 90 = 3 := by decide +kernel
theorem mL_90 : hmL 90 = 4 := by decide +kernel
theorem mK_90 : hmK 90 = 0 := by decide +kernel
theorem mO_90 : hmO 90 = 7 := by decide +kernel
section XWSR
variable {fb : Bool} {d S a c0 rp mb m0 N M fa pr bb pa : Nat} {σ0 σ σ' : hM} {W W1 W2 W3 P Q : qR} {R R1 R2 : rR} {b i k x z v s e w f u p g ln K T U C c y off cnt n md tb j m ui gi : Int} {ord l l2 nm lo D L li : List Int} {t : Nat → Nat} {F : Int → Int} {o : Option Nat}
theorem andm_dir (x : Int) : and32 x (-512) = 0 ↔ and32 x (-1073742336) = 0 ∧ and32 x 1073741824 = 0 := by
  unfold and32
  show (BitVec.ofInt 32 x &&& BitVec.ofInt 32 (-512)).toInt = 0 ↔ (BitVec.ofInt 32 x &&& BitVec.ofInt 32 (-1073742336)).toInt = 0 ∧ (BitVec.ofInt 32 x &&& BitVec.ofInt 32 1073741824).toInt = 0
  have z : ∀ w : BitVec 32, w.toInt = 0 ↔ w = 0#32 := fun w => ⟨fun h => BitVec.eq_of_toInt_eq (h.trans (by decide)), fun h => by rw [h]; decide⟩
  rw [z, z, z]
  generalize BitVec.ofInt 32 x = w
  have e : BitVec.ofInt 32 (-512) = BitVec.ofInt 32 (-1073742336) ||| BitVec.ofInt 32 1073741824 := by decide
  have e1 : BitVec.ofInt 32 (-512) &&& BitVec.ofInt 32 (-1073742336) = BitVec.ofInt 32 (-1073742336) := by decide
  have e2 : BitVec.ofInt 32 (-512) &&& BitVec.ofInt 32 1073741824 = BitVec.ofInt 32 1073741824 := by decide
  constructor
  · intro h
    constructor
    · rw [← e1, ← BitVec.and_assoc, h, BitVec.zero_and]
    · rw [← e2, ← BitVec.and_assoc, h, BitVec.zero_and]
  · rintro ⟨h1, h2⟩
    rw [e]
    apply BitVec.eq_of_getLsbD_eq
    intro i hi
    have a1 : (w &&& BitVec.ofInt 32 (-1073742336)).getLsbD i = (0#32).getLsbD i := by rw [h1]
    have a2 : (w &&& BitVec.ofInt 32 1073741824).getLsbD i = (0#32).getLsbD i := by rw [h2]
    rw [BitVec.getLsbD_and] at a1 a2
    rw [BitVec.getLsbD_and, BitVec.getLsbD_or, Bool.and_or_distrib_left, a1, a2, Bool.or_self]
theorem x_modeRefusal (hP : PX σ0 W R σ) (hno : tX a = some (Sum.inl 8)) (hu : W a 2263 = ui) (hm : W a 2262 = md) (hr : -2147483648 ≤ md ∧ md ≤ 2147483647) : CL fb (d + 1) 90 [vR (some a), vI u, vI m] σ (rP (if ¬ u = ui then 3 else if ¬ and32 (xor32 m md) (-1073742336) = 0 ∨ (md < 0 ∧ ¬ and32 (xor32 m md) 1073741824 = 0) then 16 else 0) σ) := by
  have hdi := x_isDirectory (fb := fb) (d := d) hP hno hm hr
  obtain ⟨xr, hxr⟩ : ∃ q, xor32 m md = q := ⟨_, rfl⟩
  rw [hxr]
  have h5 : xor32 511 (-1) = -512 := by decide
  have h6 : xor32 1073742335 (-1) = -1073742336 := by decide
  by_cases q1 : u = ui
  rotate_left
  · rw [if_pos q1]
    refine CL_in mL_90 rfl ?_
    show WP fb _ 90 0 [some (vR (some a)), some (vI u), some (vI m), none] [] σ _
    refine x_li (z := u) T_90_0 rfl ?_
    refine x_lr (z := some a) T_90_1 rfl ?_
    refine x_gI (z := ui) T_90_2 (Or.inl F_8_7) (hP.o hno) (Eq.trans (hP.gi hno (key := 2263) rfl) hu) ?_
    refine x_ic2 T_90_5 (fun h => absurd (show u = ui from h) (by omega)) (fun _ => ?_)
    refine x_ic T_90_8 ?_
    refine x_ri T_90_9 ?_
    exact ⟨rfl, rfl⟩
  rw [if_neg (fun c => c q1)]
  by_cases q2 : md < 0
  · rw [if_pos q2] at hdi
    obtain ⟨an, han⟩ : ∃ q, and32 xr (-512) = q := ⟨_, rfl⟩
    have h7 := andm_dir xr
    rw [han] at h7
    by_cases q3 : an = 0
    · have h8 := h7.mp q3
      rw [if_neg (by omega)]
      refine CL_in mL_90 rfl ?_
      show WP fb _ 90 0 [some (vR (some a)), some (vI u), some (vI m), none] [] σ _
      refine x_li (z := u) T_90_0 rfl ?_
      refine x_lr (z := some a) T_90_1 rfl ?_
      refine x_gI (z := ui) T_90_2 (Or.inl F_8_7) (hP.o hno) (Eq.trans (hP.gi hno (key := 2263) rfl) hu) ?_
      refine x_ic2 T_90_5 (fun _ => ?_) (fun h => absurd (show u = ui by omega) h)
      refine x_lr (z := some a) T_90_10 rfl ?_
      refine x_cv1 T_90_11 mN_55 mL_55 (Nat.le_of_ble_eq_true rfl) mO_55 (hP.o hno) (Nat.le_of_ble_eq_true rfl) (hdi) ?_
      rintro _ σ ⟨rfl, rfl⟩
      refine cI ?_
      refine x_if T_90_14 (fun h => absurd (show (1 : Int) = 0 from h) (by decide)) (fun _ => ?_)
      refine x_ic T_90_17 ?_
      refine x_goto T_90_20 ?_
      refine x_si (ls1 := [some (vR (some a)), some (vI u), some (vI m), some (vI 511)]) T_90_26 rfl ?_
      refine x_li (z := m) T_90_27 rfl ?_
      refine x_lr (z := some a) T_90_28 rfl ?_
      refine x_gI (z := md) T_90_29 (Or.inl F_8_6) (hP.o hno) (Eq.trans (hP.gi hno (key := 2262) rfl) hm) ?_
      refine x_ib (w := xr) T_90_32 (fun h => absurd h.1 (by decide)) hxr ?_
      refine x_li (z := 511) T_90_33 rfl ?_
      refine x_ic T_90_34 ?_
      refine x_ib (w := (-512)) T_90_35 (fun h => absurd h.1 (by decide)) h5 ?_
      refine x_ib (w := an) T_90_36 (fun h => absurd h.1 (by decide)) han ?_
      refine x_if T_90_37 (fun _ => ?_) (fun h => absurd (show an = 0 by omega) h)
      refine x_ic T_90_45 ?_
      refine x_ri T_90_46 ?_
      exact ⟨rfl, rfl⟩
    · rw [if_pos (by omega)]
      refine CL_in mL_90 rfl ?_
      show WP fb _ 90 0 [some (vR (some a)), some (vI u), some (vI m), none] [] σ _
      refine x_li (z := u) T_90_0 rfl ?_
      refine x_lr (z := some a) T_90_1 rfl ?_
      refine x_gI (z := ui) T_90_2 (Or.inl F_8_7) (hP.o hno) (Eq.trans (hP.gi hno (key := 2263) rfl) hu) ?_
      refine x_ic2 T_90_5 (fun _ => ?_) (fun h => absurd (show u = ui by omega) h)
      refine x_lr (z := some a) T_90_10 rfl ?_
      refine x_cv1 T_90_11 mN_55 mL_55 (Nat.le_of_ble_eq_true rfl) mO_55 (hP.o hno) (Nat.le_of_ble_eq_true rfl) (hdi) ?_
      rintro _ σ ⟨rfl, rfl⟩
      refine cI ?_
      refine x_if T_90_14 (fun h => absurd (show (1 : Int) = 0 from h) (by decide)) (fun _ => ?_)
      refine x_ic T_90_17 ?_
      refine x_goto T_90_20 ?_
      refine x_si (ls1 := [some (vR (some a)), some (vI u), some (vI m), some (vI 511)]) T_90_26 rfl ?_
      refine x_li (z := m) T_90_27 rfl ?_
      refine x_lr (z := some a) T_90_28 rfl ?_
      refine x_gI (z := md) T_90_29 (Or.inl F_8_6) (hP.o hno) (Eq.trans (hP.gi hno (key := 2262) rfl) hm) ?_
      refine x_ib (w := xr) T_90_32 (fun h => absurd h.1 (by decide)) hxr ?_
      refine x_li (z := 511) T_90_33 rfl ?_
      refine x_ic T_90_34 ?_
      refine x_ib (w := (-512)) T_90_35 (fun h => absurd h.1 (by decide)) h5 ?_
      refine x_ib (w := an) T_90_36 (fun h => absurd h.1 (by decide)) han ?_
      refine x_if T_90_37 (fun h => absurd (show an = 0 from h) (by omega)) (fun _ => ?_)
      refine x_ic T_90_40 ?_
      refine x_goto T_90_42 ?_
      refine x_ri T_90_46 ?_
      exact ⟨rfl, rfl⟩
  · rw [if_neg q2] at hdi
    obtain ⟨an, han⟩ : ∃ q, and32 xr (-1073742336) = q := ⟨_, rfl⟩
    rw [han]
    by_cases q3 : an = 0
    · rw [if_neg (by omega)]
      refine CL_in mL_90 rfl ?_
      show WP fb _ 90 0 [some (vR (some a)), some (vI u), some (vI m), none] [] σ _
      refine x_li (z := u) T_90_0 rfl ?_
      refine x_lr (z := some a) T_90_1 rfl ?_
      refine x_gI (z := ui) T_90_2 (Or.inl F_8_7) (hP.o hno) (Eq.trans (hP.gi hno (key := 2263) rfl) hu) ?_
      refine x_ic2 T_90_5 (fun _ => ?_) (fun h => absurd (show u = ui by omega) h)
      refine x_lr (z := some a) T_90_10 rfl ?_
      refine x_cv1 T_90_11 mN_55 mL_55 (Nat.le_of_ble_eq_true rfl) mO_55 (hP.o hno) (Nat.le_of_ble_eq_true rfl) (hdi) ?_
      rintro _ σ ⟨rfl, rfl⟩
      refine cI ?_
      refine x_if T_90_14 (fun _ => ?_) (fun h => absurd (show (0 : Int) = 0 by decide) h)
      refine x_ic T_90_23 ?_
      refine x_si (ls1 := [some (vR (some a)), some (vI u), some (vI m), some (vI 1073742335)]) T_90_26 rfl ?_
      refine x_li (z := m) T_90_27 rfl ?_
      refine x_lr (z := some a) T_90_28 rfl ?_
      refine x_gI (z := md) T_90_29 (Or.inl F_8_6) (hP.o hno) (Eq.trans (hP.gi hno (key := 2262) rfl) hm) ?_
      refine x_ib (w := xr) T_90_32 (fun h => absurd h.1 (by decide)) hxr ?_
      refine x_li (z := 1073742335) T_90_33 rfl ?_
      refine x_ic T_90_34 ?_
      refine x_ib (w := (-1073742336)) T_90_35 (fun h => absurd h.1 (by decide)) h6 ?_
      refine x_ib (w := an) T_90_36 (fun h => absurd h.1 (by decide)) han ?_
      refine x_if T_90_37 (fun _ => ?_) (fun h => absurd (show an = 0 by omega) h)
      refine x_ic T_90_45 ?_
      refine x_ri T_90_46 ?_
      exact ⟨rfl, rfl⟩
    · rw [if_pos (Or.inl q3)]
      refine CL_in mL_90 rfl ?_
      show WP fb _ 90 0 [some (vR (some a)), some (vI u), some (vI m), none] [] σ _
      refine x_li (z := u) T_90_0 rfl ?_
      refine x_lr (z := some a) T_90_1 rfl ?_
      refine x_gI (z := ui) T_90_2 (Or.inl F_8_7) (hP.o hno) (Eq.trans (hP.gi hno (key := 2263) rfl) hu) ?_
      refine x_ic2 T_90_5 (fun _ => ?_) (fun h => absurd (show u = ui by omega) h)
      refine x_lr (z := some a) T_90_10 rfl ?_
      refine x_cv1 T_90_11 mN_55 mL_55 (Nat.le_of_ble_eq_true rfl) mO_55 (hP.o hno) (Nat.le_of_ble_eq_true rfl) (hdi) ?_
      rintro _ σ ⟨rfl, rfl⟩
      refine cI ?_
      refine x_if T_90_14 (fun _ => ?_) (fun h => absurd (show (0 : Int) = 0 by decide) h)
      refine x_ic T_90_23 ?_
      refine x_si (ls1 := [some (vR (some a)), some (vI u), some (vI m), some (vI 1073742335)]) T_90_26 rfl ?_
      refine x_li (z := m) T_90_27 rfl ?_
      refine x_lr (z := some a) T_90_28 rfl ?_
      refine x_gI (z := md) T_90_29 (Or.inl F_8_6) (hP.o hno) (Eq.trans (hP.gi hno (key := 2262) rfl) hm) ?_
      refine x_ib (w := xr) T_90_32 (fun h => absurd h.1 (by decide)) hxr ?_
      refine x_li (z := 1073742335) T_90_33 rfl ?_
      refine x_ic T_90_34 ?_
      refine x_ib (w := (-1073742336)) T_90_35 (fun h => absurd h.1 (by decide)) h6 ?_
      refine x_ib (w := an) T_90_36 (fun h => absurd h.1 (by decide)) han ?_
      refine x_if T_90_37 (fun h => absurd (show an = 0 from h) (by omega)) (fun _ => ?_)
      refine x_ic T_90_40 ?_
      refine x_goto T_90_42 ?_
      refine x_ri T_90_46 ?_
      exact ⟨rfl, rfl⟩
/-- any size -/
theorem x_exceedsL (hP : PX σ0 W R σ) (hO : tX S = some (Sum.inl 7)) (hno : tX a = some (Sum.inl 8)) (hv : W S 2231 = v) (hln : W a 2266 = ln) (hr : (0 ≤ v ∧ v ≤ 8192) ∧ 0 ≤ ln ∧ ln ≤ 600) : CL fb d 81 [vR (some S), vR (some a), vL x] σ (rP (if ¬ (0 ≤ x ∧ x ≤ 600) ∨ 8192 < v - ln + x then 1 else 0) σ) := by
  by_cases q0 : x < 0
  · rw [if_pos (by omega)]
    refine CL_in mL_81 rfl ?_
    show WP fb _ 81 0 [some (vR (some S)), some (vR (some a)), some (vL x), none] [] σ _
    refine x_ll (z := x) T_81_0 rfl ?_
    refine x_lc T_81_1 ?_
    refine x_lif T_81_2 T_81_3 (fun _ => ?_) (fun h => absurd (show x < 0 by omega) h)
    refine x_ic T_81_33 ?_
    refine x_goto T_81_34 ?_
    refine x_rz T_81_38 rfl ?_
    exact ⟨rfl, rfl⟩
  by_cases q1 : 600 < x
  · rw [if_pos (by omega)]
    refine CL_in mL_81 rfl ?_
    show WP fb _ 81 0 [some (vR (some S)), some (vR (some a)), some (vL x), none] [] σ _
    refine x_ll (z := x) T_81_0 rfl ?_
    refine x_lc T_81_1 ?_
    refine x_lif T_81_2 T_81_3 (fun h => absurd (show x < 0 from h) (by omega)) (fun _ => ?_)
    refine x_ll (z := x) T_81_6 rfl ?_
    refine x_lc T_81_7 ?_
    refine x_lif T_81_10 T_81_11 (fun _ => ?_) (fun h => absurd (show 600 < x by omega) h)
    refine x_ic T_81_33 ?_
    refine x_goto T_81_34 ?_
    refine x_rz T_81_38 rfl ?_
    exact ⟨rfl, rfl⟩
  · have h := x_exceeds (fb := fb) (d := d) (x := x) hP hO hno hv hln hr ⟨by omega, by omega⟩
    rw [ifc (show (600 < x ∨ 8192 < v - ln + x) ↔ (¬ (0 ≤ x ∧ x ≤ 600) ∨ 8192 < v - ln + x) by omega)] at h
    exact h
theorem x_lengthRefusal (hP : PX σ0 W R σ) (hS : VS S s) (hX : XV W R P S s ord t) (hI : IV false T U P) (qs : s < 2) (hN : ND W P a s n) (hlv : isN P s n) (hl : P 2297 (64 * s + n) = ln) : CL fb (d + 1) 89 [vR (some S), vR (some a), vI u, vL x] σ (rP (if qMode P s n < 0 then 10 else if qMv P s n u 2 = 0 then 3 else if ¬ (0 ≤ x ∧ x ≤ 600) ∨ 8192 < P 2301 s - ln + x then 12 else 0) σ) := by
  have hO := hS.o
  have hsr := hS.1
  have hno : tX a = some (Sum.inl 8) := hN.1
  have hlt := isN_lt qs hlv
  have hdi := x_isDirectory (fb := fb) (d := d) hP hno hN.2.1.1 hN.2.1.2
  have hlt2 := x_lets (fb := fb) (d := d) (u := u) (w := 2) hP hno hN.2.1.1 hN.2.2.2.2.1.1 hN.2.2.2.2.2.1.1 hN.2.1.2
  rw [mv2] at hlt2
  have emv : qMv P s n u 2 = and32 (ltB (qMode P s n) (qUid P s n) (qGid P s n) u) 2 := rfl
  rw [← emv] at hlt2
  have hl6 : 0 ≤ P 2297 (64 * s + n) ∧ P 2297 (64 * s + n) ≤ 600 := IV.a hI 2297 0 128 rfl rfl rfl (by omega) (by omega)
  have htr : 0 ≤ P 2301 s ∧ P 2301 s ≤ 8192 := IV.a hI 2301 0 2 rfl rfl rfl (by omega) (by omega)
  have hv := (hX.2.2.1.2.2.2.1 qs).1
  obtain ⟨tb, htb⟩ : ∃ q, P 2301 s = q := ⟨_, rfl⟩
  rw [htb] at htr hv ⊢
  rw [hl] at hl6
  by_cases qd : qMode P s n < 0
  · rw [if_pos qd] at hdi ⊢
    refine CL_in mL_89 rfl ?_
    show WP fb _ 89 0 [some (vR (some S)), some (vR (some a)), some (vI u), some (vL x), none] [] σ _
    refine x_lr (z := some a) T_89_0 rfl ?_
    refine x_cv1 T_89_1 mN_55 mL_55 (Nat.le_of_ble_eq_true rfl) mO_55 (hP.o hno) (Nat.le_of_ble_eq_true rfl) (hdi) ?_
    rintro _ σ ⟨rfl, rfl⟩
    refine cI ?_
    refine x_if T_89_4 (fun h => absurd (show (1 : Int) = 0 from h) (by decide)) (fun _ => ?_)
    refine x_ic T_89_7 ?_
    refine x_ri T_89_9 ?_
    exact ⟨rfl, rfl⟩
  rw [if_neg qd] at hdi ⊢
  by_cases q3 : qMv P s n u 2 = 0
  · rw [if_pos q3] at hlt2 ⊢
    refine CL_in mL_89 rfl ?_
    show WP fb _ 89 0 [some (vR (some S)), some (vR (some a)), some (vI u), some (vL x), none] [] σ _
    refine x_lr (z := some a) T_89_0 rfl ?_
    refine x_cv1 T_89_1 mN_55 mL_55 (Nat.le_of_ble_eq_true rfl) mO_55 (hP.o hno) (Nat.le_of_ble_eq_true rfl) (hdi) ?_
    rintro _ σ ⟨rfl, rfl⟩
    refine cI ?_
    refine x_if T_89_4 (fun _ => ?_) (fun h => absurd (show (0 : Int) = 0 by decide) h)
    refine x_lr (z := some a) T_89_10 rfl ?_
    refine x_li (z := u) T_89_11 rfl ?_
    refine x_ic T_89_12 ?_
    refine x_cv3 T_89_13 mN_43 mL_43 (Nat.le_of_ble_eq_true rfl) mO_43 (hP.o hno) (Nat.le_of_ble_eq_true rfl) (hlt2) ?_
    rintro _ σ ⟨rfl, rfl⟩
    refine cI ?_
    refine x_if T_89_16 (fun h => absurd (show ¬ (0 : Int) = 0 from h) (by decide)) (fun _ => ?_)
    refine x_ic T_89_19 ?_
    refine x_ri T_89_20 ?_
    exact ⟨rfl, rfl⟩
  rw [if_neg q3] at hlt2 ⊢
  have hlen := hN.2.2.2.2.2.2.2.1.1
  rw [show qLen P s n = P 2297 (64 * s + n) from if_pos ⟨qs, by omega⟩, hl] at hlen
  have hex := x_exceedsL (fb := fb) (d := d) (x := x) hP hO hno hv hlen ⟨htr, hl6⟩
  by_cases q4 : ¬ (0 ≤ x ∧ x ≤ 600) ∨ 8192 < tb - ln + x
  · rw [if_pos q4] at hex ⊢
    refine CL_in mL_89 rfl ?_
    show WP fb _ 89 0 [some (vR (some S)), some (vR (some a)), some (vI u), some (vL x), none] [] σ _
    refine x_lr (z := some a) T_89_0 rfl ?_
    refine x_cv1 T_89_1 mN_55 mL_55 (Nat.le_of_ble_eq_true rfl) mO_55 (hP.o hno) (Nat.le_of_ble_eq_true rfl) (hdi) ?_
    rintro _ σ ⟨rfl, rfl⟩
    refine cI ?_
    refine x_if T_89_4 (fun _ => ?_) (fun h => absurd (show (0 : Int) = 0 by decide) h)
    refine x_lr (z := some a) T_89_10 rfl ?_
    refine x_li (z := u) T_89_11 rfl ?_
    refine x_ic T_89_12 ?_
    refine x_cv3 T_89_13 mN_43 mL_43 (Nat.le_of_ble_eq_true rfl) mO_43 (hP.o hno) (Nat.le_of_ble_eq_true rfl) (hlt2) ?_
    rintro _ σ ⟨rfl, rfl⟩
    refine cI ?_
    refine x_if T_89_16 (fun _ => ?_) (fun h => absurd (show ¬ (1 : Int) = 0 by decide) h)
    refine x_lr (z := some S) T_89_21 rfl ?_
    refine x_lr (z := some a) T_89_22 rfl ?_
    refine x_ll (z := x) T_89_23 rfl ?_
    refine x_cv3 T_89_24 mN_81 mL_81 (Nat.le_of_ble_eq_true rfl) mO_81 (hP.o hO) (Nat.le_of_ble_eq_true rfl) (hex) ?_
    rintro _ σ ⟨rfl, rfl⟩
    refine cI ?_
    refine x_if T_89_27 (fun h => absurd (show (1 : Int) = 0 from h) (by decide)) (fun _ => ?_)
    refine x_ic T_89_30 ?_
    refine x_goto T_89_32 ?_
    refine x_ri T_89_36 ?_
    exact ⟨rfl, rfl⟩
  · rw [if_neg q4] at hex ⊢
    refine CL_in mL_89 rfl ?_
    show WP fb _ 89 0 [some (vR (some S)), some (vR (some a)), some (vI u), some (vL x), none] [] σ _
    refine x_lr (z := some a) T_89_0 rfl ?_
    refine x_cv1 T_89_1 mN_55 mL_55 (Nat.le_of_ble_eq_true rfl) mO_55 (hP.o hno) (Nat.le_of_ble_eq_true rfl) (hdi) ?_
    rintro _ σ ⟨rfl, rfl⟩
    refine cI ?_
    refine x_if T_89_4 (fun _ => ?_) (fun h => absurd (show (0 : Int) = 0 by decide) h)
    refine x_lr (z := some a) T_89_10 rfl ?_
    refine x_li (z := u) T_89_11 rfl ?_
    refine x_ic T_89_12 ?_
    refine x_cv3 T_89_13 mN_43 mL_43 (Nat.le_of_ble_eq_true rfl) mO_43 (hP.o hno) (Nat.le_of_ble_eq_true rfl) (hlt2) ?_
    rintro _ σ ⟨rfl, rfl⟩
    refine cI ?_
    refine x_if T_89_16 (fun _ => ?_) (fun h => absurd (show ¬ (1 : Int) = 0 by decide) h)
    refine x_lr (z := some S) T_89_21 rfl ?_
    refine x_lr (z := some a) T_89_22 rfl ?_
    refine x_ll (z := x) T_89_23 rfl ?_
    refine x_cv3 T_89_24 mN_81 mL_81 (Nat.le_of_ble_eq_true rfl) mO_81 (hP.o hO) (Nat.le_of_ble_eq_true rfl) (hex) ?_
    rintro _ σ ⟨rfl, rfl⟩
    refine cI ?_
    refine x_if T_89_27 (fun _ => ?_) (fun h => absurd (show (0 : Int) = 0 by decide) h)
    refine x_ic T_89_35 ?_
    refine x_ri T_89_36 ?_
    exact ⟨rfl, rfl⟩
/-- the name: the root has none of its own -/
theorem nr_root (hP : PX σ0 W R σ) (hO : tX S = some (Sum.inl 7)) (hno : tX a = some (Sum.inl 8)) (hp : R a 2257 = none) : CL fb (d + 1) 88 [vR (some S), vR (some a), vI u, vI v, vR o] σ (rP 3 σ) := by
  refine CL_in mL_88 rfl ?_
  show WP fb _ 88 0 [some (vR (some S)), some (vR (some a)), some (vI u), some (vI v), some (vR o)] [] σ _
  refine x_lr (z := some a) T_88_0 rfl ?_
  refine x_gR (z := none) T_88_1 F_8_1 (hP.o hno) (Eq.trans (hP.rm hno rfl (key := 2257) rfl) hp) ?_
  refine x_nnul T_88_4 (fun a0 h0 => absurd h0 (by simp)) (fun _ => ?_)
  refine x_ic T_88_7 ?_
  refine x_ri T_88_8 ?_
  exact ⟨rfl, rfl⟩
theorem nr_bad (hP : PX σ0 W R σ) (hO : tX S = some (Sum.inl 7)) (hno : tX a = some (Sum.inl 8)) (hp : R a 2257 = some pa) (hpo : tX pa = some (Sum.inl 8)) : CL fb (d + 1) 88 [vR (some S), vR (some a), vI u, vI 0, vR o] σ (rP 5 σ) := by
  refine CL_in mL_88 rfl ?_
  show WP fb _ 88 0 [some (vR (some S)), some (vR (some a)), some (vI u), some (vI 0), some (vR o)] [] σ _
  refine x_lr (z := some a) T_88_0 rfl ?_
  refine x_gR (z := some pa) T_88_1 F_8_1 (hP.o hno) (Eq.trans (hP.rm hno rfl (key := 2257) rfl) hp) ?_
  refine x_nnul T_88_4 (fun _ _ => ?_) (fun h0 => absurd h0 (by simp))
  refine x_li (z := 0) T_88_9 rfl ?_
  refine x_if T_88_10 (fun h => absurd (show ¬ (0 : Int) = 0 from h) (by decide)) (fun _ => ?_)
  refine x_ic T_88_13 ?_
  refine x_ri T_88_14 ?_
  exact ⟨rfl, rfl⟩
theorem nr_ex {ot : Nat} (hP : PX σ0 W R σ) (hO : tX S = some (Sum.inl 7)) (hno : tX a = some (Sum.inl 8)) (hp : R a 2257 = some pa) (hpo : tX pa = some (Sum.inl 8)) (hot : tX ot = some (Sum.inl 8)) (hne : ot ≠ a) : CL fb (d + 1) 88 [vR (some S), vR (some a), vI u, vI 1, vR (some ot)] σ (rP 4 σ) := by
  have hne2 : (some ot : Option Nat) ≠ some a := fun c => hne (Option.some.inj c)
  refine CL_in mL_88 rfl ?_
  show WP fb _ 88 0 [some (vR (some S)), some (vR (some a)), some (vI u), some (vI 1), some (vR (some ot))] [] σ _
  refine x_lr (z := some a) T_88_0 rfl ?_
  refine x_gR (z := some pa) T_88_1 F_8_1 (hP.o hno) (Eq.trans (hP.rm hno rfl (key := 2257) rfl) hp) ?_
  refine x_nnul T_88_4 (fun _ _ => ?_) (fun h0 => absurd h0 (by simp))
  refine x_li (z := 1) T_88_9 rfl ?_
  refine x_if T_88_10 (fun _ => ?_) (fun h => absurd (show ¬ (1 : Int) = 0 by decide) h)
  refine x_lr (z := some ot) T_88_15 rfl ?_
  refine x_nul T_88_17 (fun h0 => absurd h0 (by simp)) (fun _ _ => ?_)
  refine x_lr (z := some ot) T_88_20 rfl ?_
  refine x_lr (z := some a) T_88_22 rfl ?_
  refine x_aeq T_88_23 (tX_o hno).1 (tX_o hot).1 (fun h0 => absurd h0 (by exact hne2)) (fun _ => ?_)
  refine x_ic T_88_26 ?_
  refine x_ri T_88_27 ?_
  exact ⟨rfl, rfl⟩
theorem nr_ok (hP : PX σ0 W R σ) (hO : tX S = some (Sum.inl 7)) (hno : tX a = some (Sum.inl 8)) (hp : R a 2257 = some pa) (hN : ND W P pa s k) (ho : o = none ∨ o = some a) : CL fb (d + 1) 88 [vR (some S), vR (some a), vI u, vI 1, vR o] σ (rP (if qMv P s k u 2 = 0 then 3 else 0) σ) := by
  have hpo : tX pa = some (Sum.inl 8) := hN.1
  have hlt2 := x_lets (fb := fb) (d := d) (u := u) (w := 2) hP hpo hN.2.1.1 hN.2.2.2.2.1.1 hN.2.2.2.2.2.1.1 hN.2.1.2
  rw [mv2] at hlt2
  have emv : qMv P s k u 2 = and32 (ltB (qMode P s k) (qUid P s k) (qGid P s k) u) 2 := rfl
  rw [← emv] at hlt2
  by_cases q3 : qMv P s k u 2 = 0
  · rw [if_pos q3] at hlt2 ⊢
    rcases ho with rfl | rfl
    · skip
      refine CL_in mL_88 rfl ?_
      show WP fb _ 88 0 [some (vR (some S)), some (vR (some a)), some (vI u), some (vI 1), some (vR none)] [] σ _
      refine x_lr (z := some a) T_88_0 rfl ?_
      refine x_gR (z := some pa) T_88_1 F_8_1 (hP.o hno) (Eq.trans (hP.rm hno rfl (key := 2257) rfl) hp) ?_
      refine x_nnul T_88_4 (fun _ _ => ?_) (fun h0 => absurd h0 (by simp))
      refine x_li (z := 1) T_88_9 rfl ?_
      refine x_if T_88_10 (fun _ => ?_) (fun h => absurd (show ¬ (1 : Int) = 0 by decide) h)
      refine x_lr (z := none) T_88_15 rfl ?_
      refine x_nul T_88_17 (fun _ => ?_) (fun a0 h0 => absurd h0 (by simp))
      refine x_lr (z := some a) T_88_28 rfl ?_
      refine x_gR (z := some pa) T_88_29 F_8_1 (hP.o hno) (Eq.trans (hP.rm hno rfl (key := 2257) rfl) hp) ?_
      refine x_li (z := u) T_88_32 rfl ?_
      refine x_ic T_88_33 ?_
      refine x_cv3 T_88_34 mN_43 mL_43 (Nat.le_of_ble_eq_true rfl) mO_43 (hP.o hpo) (Nat.le_of_ble_eq_true rfl) (hlt2) ?_
      rintro _ σ ⟨rfl, rfl⟩
      refine cI ?_
      refine x_if T_88_37 (fun _ => ?_) (fun h => absurd (show (0 : Int) = 0 by decide) h)
      refine x_ic T_88_44 ?_
      refine x_ri T_88_45 ?_
      exact ⟨rfl, rfl⟩
    · skip
      refine CL_in mL_88 rfl ?_
      show WP fb _ 88 0 [some (vR (some S)), some (vR (some a)), some (vI u), some (vI 1), some (vR (some a))] [] σ _
      refine x_lr (z := some a) T_88_0 rfl ?_
      refine x_gR (z := some pa) T_88_1 F_8_1 (hP.o hno) (Eq.trans (hP.rm hno rfl (key := 2257) rfl) hp) ?_
      refine x_nnul T_88_4 (fun _ _ => ?_) (fun h0 => absurd h0 (by simp))
      refine x_li (z := 1) T_88_9 rfl ?_
      refine x_if T_88_10 (fun _ => ?_) (fun h => absurd (show ¬ (1 : Int) = 0 by decide) h)
      refine x_lr (z := some a) T_88_15 rfl ?_
      refine x_nul T_88_17 (fun h0 => absurd h0 (by simp)) (fun _ _ => ?_)
      refine x_lr (z := some a) T_88_20 rfl ?_
      refine x_lr (z := some a) T_88_22 rfl ?_
      refine x_aeq T_88_23 (tX_o hno).1 (tX_o hno).1 (fun _ => ?_) (fun h0 => absurd h0 (by exact fun c => c rfl))
      refine x_lr (z := some a) T_88_28 rfl ?_
      refine x_gR (z := some pa) T_88_29 F_8_1 (hP.o hno) (Eq.trans (hP.rm hno rfl (key := 2257) rfl) hp) ?_
      refine x_li (z := u) T_88_32 rfl ?_
      refine x_ic T_88_33 ?_
      refine x_cv3 T_88_34 mN_43 mL_43 (Nat.le_of_ble_eq_true rfl) mO_43 (hP.o hpo) (Nat.le_of_ble_eq_true rfl) (hlt2) ?_
      rintro _ σ ⟨rfl, rfl⟩
      refine cI ?_
      refine x_if T_88_37 (fun _ => ?_) (fun h => absurd (show (0 : Int) = 0 by decide) h)
      refine x_ic T_88_44 ?_
      refine x_ri T_88_45 ?_
      exact ⟨rfl, rfl⟩
  · rw [if_neg q3] at hlt2 ⊢
    rcases ho with rfl | rfl
    · skip
      refine CL_in mL_88 rfl ?_
      show WP fb _ 88 0 [some (vR (some S)), some (vR (some a)), some (vI u), some (vI 1), some (vR none)] [] σ _
      refine x_lr (z := some a) T_88_0 rfl ?_
      refine x_gR (z := some pa) T_88_1 F_8_1 (hP.o hno) (Eq.trans (hP.rm hno rfl (key := 2257) rfl) hp) ?_
      refine x_nnul T_88_4 (fun _ _ => ?_) (fun h0 => absurd h0 (by simp))
      refine x_li (z := 1) T_88_9 rfl ?_
      refine x_if T_88_10 (fun _ => ?_) (fun h => absurd (show ¬ (1 : Int) = 0 by decide) h)
      refine x_lr (z := none) T_88_15 rfl ?_
      refine x_nul T_88_17 (fun _ => ?_) (fun a0 h0 => absurd h0 (by simp))
      refine x_lr (z := some a) T_88_28 rfl ?_
      refine x_gR (z := some pa) T_88_29 F_8_1 (hP.o hno) (Eq.trans (hP.rm hno rfl (key := 2257) rfl) hp) ?_
      refine x_li (z := u) T_88_32 rfl ?_
      refine x_ic T_88_33 ?_
      refine x_cv3 T_88_34 mN_43 mL_43 (Nat.le_of_ble_eq_true rfl) mO_43 (hP.o hpo) (Nat.le_of_ble_eq_true rfl) (hlt2) ?_
      rintro _ σ ⟨rfl, rfl⟩
      refine cI ?_
      refine x_if T_88_37 (fun h => absurd (show (1 : Int) = 0 from h) (by decide)) (fun _ => ?_)
      refine x_ic T_88_40 ?_
      refine x_goto T_88_41 ?_
      refine x_ri T_88_45 ?_
      exact ⟨rfl, rfl⟩
    · skip
      refine CL_in mL_88 rfl ?_
      show WP fb _ 88 0 [some (vR (some S)), some (vR (some a)), some (vI u), some (vI 1), some (vR (some a))] [] σ _
      refine x_lr (z := some a) T_88_0 rfl ?_
      refine x_gR (z := some pa) T_88_1 F_8_1 (hP.o hno) (Eq.trans (hP.rm hno rfl (key := 2257) rfl) hp) ?_
      refine x_nnul T_88_4 (fun _ _ => ?_) (fun h0 => absurd h0 (by simp))
      refine x_li (z := 1) T_88_9 rfl ?_
      refine x_if T_88_10 (fun _ => ?_) (fun h => absurd (show ¬ (1 : Int) = 0 by decide) h)
      refine x_lr (z := some a) T_88_15 rfl ?_
      refine x_nul T_88_17 (fun h0 => absurd h0 (by simp)) (fun _ _ => ?_)
      refine x_lr (z := some a) T_88_20 rfl ?_
      refine x_lr (z := some a) T_88_22 rfl ?_
      refine x_aeq T_88_23 (tX_o hno).1 (tX_o hno).1 (fun _ => ?_) (fun h0 => absurd h0 (by exact fun c => c rfl))
      refine x_lr (z := some a) T_88_28 rfl ?_
      refine x_gR (z := some pa) T_88_29 F_8_1 (hP.o hno) (Eq.trans (hP.rm hno rfl (key := 2257) rfl) hp) ?_
      refine x_li (z := u) T_88_32 rfl ?_
      refine x_ic T_88_33 ?_
      refine x_cv3 T_88_34 mN_43 mL_43 (Nat.le_of_ble_eq_true rfl) mO_43 (hP.o hpo) (Nat.le_of_ble_eq_true rfl) (hlt2) ?_
      rintro _ σ ⟨rfl, rfl⟩
      refine cI ?_
      refine x_if T_88_37 (fun h => absurd (show (1 : Int) = 0 from h) (by decide)) (fun _ => ?_)
      refine x_ic T_88_40 ?_
      refine x_goto T_88_41 ?_
      refine x_ri T_88_45 ?_
      exact ⟨rfl, rfl⟩
end XWSR
