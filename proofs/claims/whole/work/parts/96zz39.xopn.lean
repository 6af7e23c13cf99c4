/-! The class's servers: whether a file may be opened; an opening. -/
theorem T_60_0 : hTab 60 0 = some ((3, 3, 0, []), 1) := rfl
theorem T_60_1 : hTab 60 1 = some ((0, 0, (-81), []), 3) := rfl
theorem T_60_3 : hTab 60 3 = some ((10, 5, 0, []), 4) := rfl
theorem T_60_4 : hTab 60 4 = some ((4, 4, 0, []), 6) := rfl
theorem T_60_6 : hTab 60 6 = some ((3, 4, 0, []), 8) := rfl
theorem T_60_8 : hTab 60 8 = some ((18, 2, Int.ofNat 20, []), 11) := rfl
theorem T_60_11 : hTab 60 11 = some ((3, 4, 0, []), 13) := rfl
theorem T_60_13 : hTab 60 13 = some ((34, 3, 0, []), 16) := rfl
theorem T_60_16 : hTab 60 16 = some ((28, 0, 0, []), 17) := rfl
theorem T_60_17 : hTab 60 17 = some ((19, 2, Int.ofNat 23, []), 20) := rfl
theorem T_60_20 : hTab 60 20 = some ((0, 0, 16, []), 22) := rfl
theorem T_60_22 : hTab 60 22 = some ((33, 1, 0, []), 23) := rfl
theorem T_60_23 : hTab 60 23 = some ((3, 1, 2, []), 24) := rfl
theorem T_60_24 : hTab 60 24 = some ((31, 55, 0, []), 27) := rfl
theorem T_60_27 : hTab 60 27 = some ((18, 0, Int.ofNat 40, []), 30) := rfl
theorem T_60_30 : hTab 60 30 = some ((3, 3, 0, []), 31) := rfl
theorem T_60_31 : hTab 60 31 = some ((0, 0, (-65), []), 33) := rfl
theorem T_60_33 : hTab 60 33 = some ((10, 5, 0, []), 34) := rfl
theorem T_60_34 : hTab 60 34 = some ((18, 0, Int.ofNat 40, []), 37) := rfl
theorem T_60_37 : hTab 60 37 = some ((0, 0, 10, []), 39) := rfl
theorem T_60_39 : hTab 60 39 = some ((33, 1, 0, []), 40) := rfl
theorem T_60_40 : hTab 60 40 = some ((3, 1, 2, []), 41) := rfl
theorem T_60_41 : hTab 60 41 = some ((3, 2, 0, []), 42) := rfl
theorem T_60_42 : hTab 60 42 = some ((34, 3, 0, []), 45) := rfl
theorem T_60_45 : hTab 60 45 = some ((3, 4, 0, []), 47) := rfl
theorem T_60_47 : hTab 60 47 = some ((26, 0, 0, []), 48) := rfl
theorem T_60_48 : hTab 60 48 = some ((31, 43, 0, []), 51) := rfl
theorem T_60_51 : hTab 60 51 = some ((18, 0, Int.ofNat 70, []), 54) := rfl
theorem T_60_54 : hTab 60 54 = some ((3, 3, 0, []), 55) := rfl
theorem T_60_55 : hTab 60 55 = some ((0, 0, 16, []), 57) := rfl
theorem T_60_57 : hTab 60 57 = some ((10, 5, 0, []), 58) := rfl
theorem T_60_58 : hTab 60 58 = some ((18, 0, Int.ofNat 72, []), 61) := rfl
theorem T_60_61 : hTab 60 61 = some ((3, 1, 2, []), 62) := rfl
theorem T_60_62 : hTab 60 62 = some ((3, 2, 0, []), 63) := rfl
theorem T_60_63 : hTab 60 63 = some ((0, 0, 2, []), 64) := rfl
theorem T_60_64 : hTab 60 64 = some ((31, 43, 0, []), 67) := rfl
theorem T_60_67 : hTab 60 67 = some ((18, 1, Int.ofNat 72, []), 70) := rfl
theorem T_60_70 : hTab 60 70 = some ((0, 0, 3, []), 71) := rfl
theorem T_60_71 : hTab 60 71 = some ((33, 1, 0, []), 72) := rfl
theorem T_60_72 : hTab 60 72 = some ((3, 0, 2, []), 73) := rfl
theorem T_60_73 : hTab 60 73 = some ((24, 7, Int.ofNat 1, []), 76) := rfl
theorem T_60_76 : hTab 60 76 = some ((18, 1, Int.ofNat 98, []), 79) := rfl
theorem T_60_79 : hTab 60 79 = some ((3, 1, 2, []), 80) := rfl
theorem T_60_80 : hTab 60 80 = some ((24, 8, Int.ofNat 1, []), 83) := rfl
theorem T_60_83 : hTab 60 83 = some ((20, 0, Int.ofNat 98, []), 86) := rfl
theorem T_60_86 : hTab 60 86 = some ((3, 1, 2, []), 87) := rfl
theorem T_60_87 : hTab 60 87 = some ((24, 8, Int.ofNat 1, []), 90) := rfl
theorem T_60_90 : hTab 60 90 = some ((3, 2, 0, []), 91) := rfl
theorem T_60_91 : hTab 60 91 = some ((0, 0, 2, []), 92) := rfl
theorem T_60_92 : hTab 60 92 = some ((31, 43, 0, []), 95) := rfl
theorem T_60_95 : hTab 60 95 = some ((18, 1, Int.ofNat 102, []), 98) := rfl
theorem T_60_98 : hTab 60 98 = some ((0, 0, 1, []), 99) := rfl
theorem T_60_99 : hTab 60 99 = some ((22, 0, Int.ofNat 103, []), 102) := rfl
theorem T_60_102 : hTab 60 102 = some ((0, 0, 0, []), 103) := rfl
theorem T_60_103 : hTab 60 103 = some ((4, 5, 0, []), 105) := rfl
theorem T_60_105 : hTab 60 105 = some ((3, 3, 0, []), 106) := rfl
theorem T_60_106 : hTab 60 106 = some ((0, 0, 64, []), 108) := rfl
theorem T_60_108 : hTab 60 108 = some ((10, 5, 0, []), 109) := rfl
theorem T_60_109 : hTab 60 109 = some ((18, 0, Int.ofNat 121, []), 112) := rfl
theorem T_60_112 : hTab 60 112 = some ((3, 5, 0, []), 114) := rfl
theorem T_60_114 : hTab 60 114 = some ((18, 0, Int.ofNat 121, []), 117) := rfl
theorem T_60_117 : hTab 60 117 = some ((0, 0, 3, []), 118) := rfl
theorem T_60_118 : hTab 60 118 = some ((22, 0, Int.ofNat 122, []), 121) := rfl
theorem T_60_121 : hTab 60 121 = some ((0, 0, 0, []), 122) := rfl
theorem T_60_122 : hTab 60 122 = some ((33, 1, 0, []), 123) := rfl
theorem mN_60 : hmN 60 = 4 := by decide +kernel
theorem mL_60 : hmL 60 = 6 := by decide +kernel
theorem mK_60 : hmK 60 = 1 := by decide +kernel
theorem mO_60 : hmO 60 = 7 := by decide +kernel
section XOPN
variable {fb : Bool} {d S a b c0 rp mb m0 N M : Nat} {σ0 σ : hM} {W W1 W2 P Q : qR} {R R1 R2 : rR} {i j k x z v s e w f u n p g ln K T U C c m : Int} {ord l l2 nm lo : List Int} {t : Nat → Nat} {r : Option Nat}
theorem and32_6 (x : Int) : and32 x 6 = 6 ↔ ¬ and32 x 4 = 0 ∧ ¬ and32 x 2 = 0 := by
  have h7 : BitVec.ofInt 32 x &&& 7#32 = BitVec.ofNat 32 (x % 8).toNat := by
    apply BitVec.eq_of_toNat_eq
    have h3 : (BitVec.ofNat 32 (x % 8).toNat).toNat = (x % 8).toNat := by rw [BitVec.toNat_ofNat]; omega
    rw [BitVec.toNat_and, BitVec.toNat_ofInt, h3]
    have h2 : (x % ((2 ^ 32 : Nat) : Int)).toNat &&& 7 = (x % ((2 ^ 32 : Nat) : Int)).toNat % 8 := Nat.and_two_pow_sub_one_eq_mod _ 3
    refine h2.trans ?_
    omega
  have e : ∀ w : BitVec 32, 7#32 &&& w = w → (BitVec.ofInt 32 x &&& w) = BitVec.ofNat 32 (x % 8).toNat &&& w := fun w hw => by rw [← h7, BitVec.and_assoc, hw]
  have key : ∀ n : Fin 8, ((BitVec.ofNat 32 n.val &&& 6#32).toInt = 6 ↔ ¬ (BitVec.ofNat 32 n.val &&& 4#32).toInt = 0 ∧ ¬ (BitVec.ofNat 32 n.val &&& 2#32).toInt = 0) := by decide
  unfold and32
  show (BitVec.ofInt 32 x &&& 6#32).toInt = 6 ↔ ¬ (BitVec.ofInt 32 x &&& 4#32).toInt = 0 ∧ ¬ (BitVec.ofInt 32 x &&& 2#32).toInt = 0
  rw [e 6#32 (by decide), e 4#32 (by decide), e 2#32 (by decide)]
  exact key ⟨(x % 8).toNat, by omega⟩
theorem byte_all {p : Int → Prop} [Decidable (∀ n : Fin 256, p (n.val : Int))] (h : ∀ n : Fin 256, p (n.val : Int)) (hm : 0 ≤ m ∧ m ≤ 255) : p m := by
  have := h ⟨m.toNat, by omega⟩
  rw [show (((⟨m.toNat, by omega⟩ : Fin 256).val : Nat) : Int) = m by show ((m.toNat : Nat) : Int) = m; omega] at this
  exact this
theorem m81 (hm : 0 ≤ m ∧ m ≤ 255) : 0 ≤ and32 m (-81) ∧ and32 m (-81) ≤ 255 ∧ (and32 m (-81) ≤ 3 → and32 m 3 = and32 m (-81)) ∧ (and32 m (-65) = 0 ↔ and32 m (-81) = 0 ∧ and32 m 16 = 0) := byte_all (p := fun m => 0 ≤ and32 m (-81) ∧ and32 m (-81) ≤ 255 ∧ (and32 m (-81) ≤ 3 → and32 m 3 = and32 m (-81)) ∧ (and32 m (-65) = 0 ↔ and32 m (-81) = 0 ∧ and32 m 16 = 0)) (by decide +kernel) hm
theorem bit4 : and32 x 4 = 4 ↔ ¬ and32 x 4 = 0 := ⟨fun h c => by rw [h] at c; omega, fun h => and32_bit (j := 2) (by decide) h⟩
theorem bit2 : and32 x 2 = 2 ↔ ¬ and32 x 2 = 0 := ⟨fun h c => by rw [h] at c; omega, fun h => and32_bit (j := 1) (by decide) h⟩
theorem bit1 : and32 x 1 = 1 ↔ ¬ and32 x 1 = 0 := ⟨fun h c => by rw [h] at c; omega, fun h => and32_bit (j := 0) (by decide) h⟩
/-- what a mode needs -/
def needs (h : Int) : Int := if h = 0 then 4 else if h = 1 then 2 else if h = 2 then 6 else 1
theorem needs_iff (hh : 0 ≤ k ∧ k ≤ 3) : (((k = 0 ∨ k = 2) ∧ and32 x 4 = 0) ∨ ((k = 1 ∨ k = 2 ∨ ¬ e = 0) ∧ and32 x 2 = 0) ∨ (k = 3 ∧ and32 x 1 = 0)) ↔ (¬ and32 x (needs k) = needs k ∨ (¬ e = 0 ∧ and32 x 2 = 0)) := by
  have h4 : k = 0 ∨ k = 1 ∨ k = 2 ∨ k = 3 := by omega
  rcases h4 with rfl | rfl | rfl | rfl
  · rw [show needs 0 = 4 from rfl, bit4]
    omega
  · rw [show needs 1 = 2 from rfl, bit2]
    omega
  · rw [show needs 2 = 6 from rfl, and32_6]
    omega
  · rw [show needs 3 = 1 from rfl, bit1]
    omega
theorem mv2 : (if and32 x 2 = 2 then (1 : Int) else 0) = if and32 x 2 = 0 then 0 else 1 := by
  by_cases q : and32 x 2 = 0
  · rw [if_pos q, if_neg (by rw [q]; decide)]
  · rw [if_neg q, if_pos (bit2.mpr q)]
theorem x_openRefusal (hP : PX σ0 W R σ) (hS : VS S s) (hT : NT W R P S s ord t) (hR : TRX P s ord) (hn : isN P s n) (ha : noA S ord t n = some a) (hm : 0 ≤ m ∧ m ≤ 255) (hsh : W S 2225 = if s < 2 then 0 else 1) : CL fb (d + 2) 60 [vR (some S), vR (some a), vI u, vI m] σ (rP (qOpn P s n u m) σ) := by
  have hO := hS.o
  have hsr := hS.1
  have hgx := hP.gx
  have g3 := hgx.2.1.2
  obtain ⟨j, j0, j1, hj⟩ := mem_lg ((hT.1.1 n).mpr hn)
  have hbj := noA_get (S := S) (t := t) hT.nodup j0 j1
  rw [hj, ha] at hbj
  have hbj := Option.some.inj hbj
  have hN := hT.2.2.2.1 j j0 j1
  have hpar := hT.2.2.2.2 j j0 j1
  rw [hj, ← hbj] at hN hpar
  have hbn : tX a = some (Sum.inl 8) := hN.1
  obtain ⟨m1, m2, m3, m4⟩ := m81 hm
  obtain ⟨hw, hh⟩ : ∃ hw, and32 m (-81) = hw := ⟨_, rfl⟩
  obtain ⟨e, he⟩ : ∃ e, and32 m 16 = e := ⟨_, rfl⟩
  obtain ⟨g, hg⟩ : ∃ g, and32 m 64 = g := ⟨_, rfl⟩
  obtain ⟨f, hf⟩ : ∃ f, and32 m (-65) = f := ⟨_, rfl⟩
  rw [hf, hh, he] at m4
  rw [hh] at m1 m2 m3
  have hdir := x_isDirectory (fb := fb) (d := d + 1) hP hbn hN.2.1.1 hN.2.1.2
  have hlt := fun w => x_lets (fb := fb) (d := d + 1) (u := u) (w := w) hP hbn hN.2.1.1 hN.2.2.2.2.1.1 hN.2.2.2.2.2.1.1 hN.2.1.2
  have emv : ∀ w, qMv P s n u w = and32 (ltB (qMode P s n) (qUid P s n) (qGid P s n) u) w := fun w => rfl
  obtain ⟨X, hX⟩ : ∃ X, ltB (qMode P s n) (qUid P s n) (qGid P s n) u = X := ⟨_, rfl⟩
  rw [hX] at hlt emv
  have eO : qOpn P s n u m = if 3 < hw then 16 else if qMode P s n < 0 ∧ (0 < hw ∨ ¬ e = 0) then 10 else if ¬ and32 X (needs hw) = needs hw ∨ (¬ e = 0 ∧ and32 X 2 = 0) then 3 else if ¬ g = 0 ∧ (s = 2 ∨ n = 0 ∨ qMv P s (qUp P s n) u 2 = 0) then 3 else 0 := by
    unfold qOpn
    rw [emv, emv, emv, hh, he, hg]
    by_cases q : 3 < hw
    · rw [if_pos q, if_pos q]
    · rw [if_neg q, if_neg q, ifc (needs_iff (k := hw) (x := X) (e := e) ⟨m1, by omega⟩)]
  rw [eO]
  by_cases q16 : 3 < hw
  · rw [if_pos q16]
    refine CL_in mL_60 rfl ?_
    show WP fb _ 60 0 [some (vR (some S)), some (vR (some a)), some (vI u), some (vI m), none, none] [] σ _
    refine x_li (z := m) T_60_0 rfl ?_
    refine x_ic T_60_1 ?_
    refine x_ib (w := hw) T_60_3 (fun h => absurd h.1 (by decide)) hh ?_
    refine x_si (ls1 := [some (vR (some S)), some (vR (some a)), some (vI u), some (vI m), some (vI hw), none]) T_60_4 rfl ?_
    refine x_li (z := hw) T_60_6 rfl ?_
    refine x_if T_60_8 (fun h => absurd (show hw < 0 from h) (by omega)) (fun _ => ?_)
    refine x_li (z := hw) T_60_11 rfl ?_
    refine x_sta T_60_13 rfl ?_
    refine x_len (len := 4) T_60_16 g3 ?_
    refine x_ic2 T_60_17 (fun h => absurd (show hw < 4 from h) (by omega)) (fun _ => ?_)
    refine x_ic T_60_20 ?_
    refine x_ri T_60_22 ?_
    exact ⟨rfl, rfl⟩
  rw [if_neg q16]
  -- with 64
  have h72 : WP fb (d + 2) 60 72 [some (vR (some S)), some (vR (some a)), some (vI u), some (vI m), some (vI hw), none] [] σ (rP (if ¬ g = 0 ∧ (s = 2 ∨ n = 0 ∨ qMv P s (qUp P s n) u 2 = 0) then 3 else 0) σ) := by
    have fin : ∀ kp : Int, (kp = 1 ∧ (s = 2 ∨ n = 0 ∨ qMv P s (qUp P s n) u 2 = 0)) ∨ (kp = 0 ∧ ¬ (s = 2 ∨ n = 0 ∨ qMv P s (qUp P s n) u 2 = 0)) → WP fb (d + 2) 60 103 [some (vR (some S)), some (vR (some a)), some (vI u), some (vI m), some (vI hw), none] [vI kp] σ (rP (if ¬ g = 0 ∧ (s = 2 ∨ n = 0 ∨ qMv P s (qUp P s n) u 2 = 0) then 3 else 0) σ) := fun kp hkp => by
      by_cases qg : g = 0
      · rw [if_neg (fun c => c.1 qg)]
        refine x_si (ls1 := [some (vR (some S)), some (vR (some a)), some (vI u), some (vI m), some (vI hw), some (vI kp)]) T_60_103 rfl ?_
        refine x_li (z := m) T_60_105 rfl ?_
        refine x_ic T_60_106 ?_
        refine x_ib (w := g) T_60_108 (fun h => absurd h.1 (by decide)) hg ?_
        refine x_if T_60_109 (fun _ => ?_) (fun h => absurd (show g = 0 by omega) h)
        refine x_ic T_60_121 ?_
        refine x_ri T_60_122 ?_
        exact ⟨rfl, rfl⟩
      · rcases hkp with ⟨rfl, c⟩ | ⟨rfl, c⟩
        · rw [if_pos ⟨qg, c⟩]
          refine x_si (ls1 := [some (vR (some S)), some (vR (some a)), some (vI u), some (vI m), some (vI hw), some (vI 1)]) T_60_103 rfl ?_
          refine x_li (z := m) T_60_105 rfl ?_
          refine x_ic T_60_106 ?_
          refine x_ib (w := g) T_60_108 (fun h => absurd h.1 (by decide)) hg ?_
          refine x_if T_60_109 (fun h => absurd (show g = 0 from h) (by omega)) (fun _ => ?_)
          refine x_li (z := 1) T_60_112 rfl ?_
          refine x_if T_60_114 (fun h => absurd (show (1 : Int) = 0 from h) (by decide)) (fun _ => ?_)
          refine x_ic T_60_117 ?_
          refine x_goto T_60_118 ?_
          refine x_ri T_60_122 ?_
          exact ⟨rfl, rfl⟩
        · rw [if_neg (fun q => c q.2)]
          refine x_si (ls1 := [some (vR (some S)), some (vR (some a)), some (vI u), some (vI m), some (vI hw), some (vI 0)]) T_60_103 rfl ?_
          refine x_li (z := m) T_60_105 rfl ?_
          refine x_ic T_60_106 ?_
          refine x_ib (w := g) T_60_108 (fun h => absurd h.1 (by decide)) hg ?_
          refine x_if T_60_109 (fun h => absurd (show g = 0 from h) (by omega)) (fun _ => ?_)
          refine x_li (z := 0) T_60_112 rfl ?_
          refine x_if T_60_114 (fun _ => ?_) (fun h => absurd (show (0 : Int) = 0 by decide) h)
          refine x_ic T_60_121 ?_
          refine x_ri T_60_122 ?_
          exact ⟨rfl, rfl⟩
    by_cases q1 : s < 2
    · rw [if_pos q1] at hsh
      by_cases q2 : n = 0
      · rw [if_pos q2] at hpar
        have fin := fin 1 (Or.inl ⟨rfl, Or.inr (Or.inl q2)⟩)
        refine x_lr (z := some S) T_60_72 rfl ?_
        refine x_gI (z := 0) T_60_73 (Or.inr (Or.inl F_7_1)) (hP.o hO) (Eq.trans (hP.gi hO (key := 2225) rfl) hsh) ?_
        refine x_if T_60_76 (fun h => absurd (show ¬ (0 : Int) = 0 from h) (by decide)) (fun _ => ?_)
        refine x_lr (z := some a) T_60_79 rfl ?_
        refine x_gR (z := none) T_60_80 F_8_1 (hP.o hbn) (Eq.trans (hP.rm hbn rfl (key := 2257) rfl) hpar) ?_
        refine x_nul T_60_83 (fun _ => ?_) (fun a0 h0 => absurd h0 (by simp))
        refine x_ic T_60_98 ?_
        refine x_goto T_60_99 ?_
        exact fin
      · rw [if_neg q2] at hpar
        have hum : qUp P s n ∈ ord := (hT.1.1 _).mpr (hR.2.2.1 _ hn)
        obtain ⟨k2, k0, k1, hk⟩ := mem_lg hum
        have hpn := noA_get (S := S) (t := t) hT.nodup k0 k1
        rw [hk] at hpn
        have hNp := hT.2.2.2.1 k2 k0 k1
        rw [hk] at hNp
        obtain ⟨pa, hpa⟩ : ∃ pa, S + 6 + 3 * t k2.toNat = pa := ⟨_, rfl⟩
        rw [hpa] at hpn hNp
        rw [hpn] at hpar
        have hpo : tX pa = some (Sum.inl 8) := hNp.1
        have hl2 := x_lets (fb := fb) (d := d + 1) (u := u) (w := 2) hP hpo hNp.2.1.1 hNp.2.2.2.2.1.1 hNp.2.2.2.2.2.1.1 hNp.2.1.2
        rw [mv2] at hl2
        have em2 : qMv P s (qUp P s n) u 2 = and32 (ltB (qMode P s (qUp P s n)) (qUid P s (qUp P s n)) (qGid P s (qUp P s n)) u) 2 := rfl
        rw [← em2] at hl2
        by_cases q3 : qMv P s (qUp P s n) u 2 = 0
        · rw [if_pos q3] at hl2
          have fin := fin 1 (Or.inl ⟨rfl, Or.inr (Or.inr q3)⟩)
          refine x_lr (z := some S) T_60_72 rfl ?_
          refine x_gI (z := 0) T_60_73 (Or.inr (Or.inl F_7_1)) (hP.o hO) (Eq.trans (hP.gi hO (key := 2225) rfl) hsh) ?_
          refine x_if T_60_76 (fun h => absurd (show ¬ (0 : Int) = 0 from h) (by decide)) (fun _ => ?_)
          refine x_lr (z := some a) T_60_79 rfl ?_
          refine x_gR (z := some pa) T_60_80 F_8_1 (hP.o hbn) (Eq.trans (hP.rm hbn rfl (key := 2257) rfl) hpar) ?_
          refine x_nul T_60_83 (fun h0 => absurd h0 (by simp)) (fun _ _ => ?_)
          refine x_lr (z := some a) T_60_86 rfl ?_
          refine x_gR (z := some pa) T_60_87 F_8_1 (hP.o hbn) (Eq.trans (hP.rm hbn rfl (key := 2257) rfl) hpar) ?_
          refine x_li (z := u) T_60_90 rfl ?_
          refine x_ic T_60_91 ?_
          refine x_cv3 T_60_92 mN_43 mL_43 (Nat.le_of_ble_eq_true rfl) mO_43 (hP.o hpo) (Nat.le_of_ble_eq_true rfl) (hl2) ?_
          rintro _ σ ⟨rfl, rfl⟩
          refine cI ?_
          refine x_if T_60_95 (fun h => absurd (show ¬ (0 : Int) = 0 from h) (by decide)) (fun _ => ?_)
          refine x_ic T_60_98 ?_
          refine x_goto T_60_99 ?_
          exact fin
        · rw [if_neg q3] at hl2
          have fin := fin 0 (Or.inr ⟨rfl, by omega⟩)
          refine x_lr (z := some S) T_60_72 rfl ?_
          refine x_gI (z := 0) T_60_73 (Or.inr (Or.inl F_7_1)) (hP.o hO) (Eq.trans (hP.gi hO (key := 2225) rfl) hsh) ?_
          refine x_if T_60_76 (fun h => absurd (show ¬ (0 : Int) = 0 from h) (by decide)) (fun _ => ?_)
          refine x_lr (z := some a) T_60_79 rfl ?_
          refine x_gR (z := some pa) T_60_80 F_8_1 (hP.o hbn) (Eq.trans (hP.rm hbn rfl (key := 2257) rfl) hpar) ?_
          refine x_nul T_60_83 (fun h0 => absurd h0 (by simp)) (fun _ _ => ?_)
          refine x_lr (z := some a) T_60_86 rfl ?_
          refine x_gR (z := some pa) T_60_87 F_8_1 (hP.o hbn) (Eq.trans (hP.rm hbn rfl (key := 2257) rfl) hpar) ?_
          refine x_li (z := u) T_60_90 rfl ?_
          refine x_ic T_60_91 ?_
          refine x_cv3 T_60_92 mN_43 mL_43 (Nat.le_of_ble_eq_true rfl) mO_43 (hP.o hpo) (Nat.le_of_ble_eq_true rfl) (hl2) ?_
          rintro _ σ ⟨rfl, rfl⟩
          refine cI ?_
          refine x_if T_60_95 (fun _ => ?_) (fun h => absurd (show ¬ (1 : Int) = 0 by decide) h)
          refine x_ic T_60_102 ?_
          exact fin
    · rw [if_neg q1] at hsh
      have fin := fin 1 (Or.inl ⟨rfl, Or.inl (by omega)⟩)
      refine x_lr (z := some S) T_60_72 rfl ?_
      refine x_gI (z := 1) T_60_73 (Or.inr (Or.inl F_7_1)) (hP.o hO) (Eq.trans (hP.gi hO (key := 2225) rfl) hsh) ?_
      refine x_if T_60_76 (fun _ => ?_) (fun h => absurd (show ¬ (1 : Int) = 0 by decide) h)
      refine x_ic T_60_98 ?_
      refine x_goto T_60_99 ?_
      exact fin
  obtain ⟨E, hE⟩ : ∃ E, (if ¬ g = 0 ∧ (s = 2 ∨ n = 0 ∨ qMv P s (qUp P s n) u 2 = 0) then (3 : Int) else 0) = E := ⟨_, rfl⟩
  rw [hE] at h72 ⊢
  have h40 : WP fb (d + 2) 60 40 [some (vR (some S)), some (vR (some a)), some (vI u), some (vI m), some (vI hw), none] [] σ (rP (if ¬ and32 X (needs hw) = needs hw ∨ (¬ e = 0 ∧ and32 X 2 = 0) then 3 else E) σ) := by
    have hnd : mI σ 3 hw.toNat = needs hw := by
      rw [(hgx.2.2 hw.toNat (by omega)).2]
      have h4 : hw = 0 ∨ hw = 1 ∨ hw = 2 ∨ hw = 3 := by omega
      rcases h4 with rfl | rfl | rfl | rfl <;> rfl
    have hl1 := hlt (needs hw)
    have hl2 := hlt 2
    rw [mv2] at hl2
    obtain ⟨nd, hnd0⟩ : ∃ nd, needs hw = nd := ⟨_, rfl⟩
    rw [hnd0] at hnd hl1 ⊢
    by_cases q1 : and32 X nd = nd
    · rw [if_pos q1] at hl1
      by_cases q2 : e = 0
      · rw [if_neg (fun c => c.elim (fun c => c q1) (fun c => c.1 q2))]
        refine x_lr (z := some a) T_60_40 rfl ?_
        refine x_li (z := u) T_60_41 rfl ?_
        refine x_sta T_60_42 rfl ?_
        refine x_li (z := hw) T_60_45 rfl ?_
        refine x_alI (z := nd) T_60_47 (by decide) g3 (by omega) (by omega) hnd ?_
        refine x_cv3 T_60_48 mN_43 mL_43 (Nat.le_of_ble_eq_true rfl) mO_43 (hP.o hbn) (Nat.le_of_ble_eq_true rfl) (hl1) ?_
        rintro _ σ ⟨rfl, rfl⟩
        refine cI ?_
        refine x_if T_60_51 (fun h => absurd (show (1 : Int) = 0 from h) (by decide)) (fun _ => ?_)
        refine x_li (z := m) T_60_54 rfl ?_
        refine x_ic T_60_55 ?_
        refine x_ib (w := e) T_60_57 (fun h => absurd h.1 (by decide)) he ?_
        refine x_if T_60_58 (fun _ => ?_) (fun h => absurd (show e = 0 by omega) h)
        exact h72
      · by_cases q3 : and32 X 2 = 0
        · rw [if_pos q3] at hl2
          rw [if_pos (Or.inr ⟨q2, q3⟩)]
          refine x_lr (z := some a) T_60_40 rfl ?_
          refine x_li (z := u) T_60_41 rfl ?_
          refine x_sta T_60_42 rfl ?_
          refine x_li (z := hw) T_60_45 rfl ?_
          refine x_alI (z := nd) T_60_47 (by decide) g3 (by omega) (by omega) hnd ?_
          refine x_cv3 T_60_48 mN_43 mL_43 (Nat.le_of_ble_eq_true rfl) mO_43 (hP.o hbn) (Nat.le_of_ble_eq_true rfl) (hl1) ?_
          rintro _ σ ⟨rfl, rfl⟩
          refine cI ?_
          refine x_if T_60_51 (fun h => absurd (show (1 : Int) = 0 from h) (by decide)) (fun _ => ?_)
          refine x_li (z := m) T_60_54 rfl ?_
          refine x_ic T_60_55 ?_
          refine x_ib (w := e) T_60_57 (fun h => absurd h.1 (by decide)) he ?_
          refine x_if T_60_58 (fun h => absurd (show e = 0 from h) (by omega)) (fun _ => ?_)
          refine x_lr (z := some a) T_60_61 rfl ?_
          refine x_li (z := u) T_60_62 rfl ?_
          refine x_ic T_60_63 ?_
          refine x_cv3 T_60_64 mN_43 mL_43 (Nat.le_of_ble_eq_true rfl) mO_43 (hP.o hbn) (Nat.le_of_ble_eq_true rfl) (hl2) ?_
          rintro _ σ ⟨rfl, rfl⟩
          refine cI ?_
          refine x_if T_60_67 (fun h => absurd (show ¬ (0 : Int) = 0 from h) (by decide)) (fun _ => ?_)
          refine x_ic T_60_70 ?_
          refine x_ri T_60_71 ?_
          exact ⟨rfl, rfl⟩
        · rw [if_neg q3] at hl2
          rw [if_neg (fun c => c.elim (fun c => c q1) (fun c => q3 c.2))]
          refine x_lr (z := some a) T_60_40 rfl ?_
          refine x_li (z := u) T_60_41 rfl ?_
          refine x_sta T_60_42 rfl ?_
          refine x_li (z := hw) T_60_45 rfl ?_
          refine x_alI (z := nd) T_60_47 (by decide) g3 (by omega) (by omega) hnd ?_
          refine x_cv3 T_60_48 mN_43 mL_43 (Nat.le_of_ble_eq_true rfl) mO_43 (hP.o hbn) (Nat.le_of_ble_eq_true rfl) (hl1) ?_
          rintro _ σ ⟨rfl, rfl⟩
          refine cI ?_
          refine x_if T_60_51 (fun h => absurd (show (1 : Int) = 0 from h) (by decide)) (fun _ => ?_)
          refine x_li (z := m) T_60_54 rfl ?_
          refine x_ic T_60_55 ?_
          refine x_ib (w := e) T_60_57 (fun h => absurd h.1 (by decide)) he ?_
          refine x_if T_60_58 (fun h => absurd (show e = 0 from h) (by omega)) (fun _ => ?_)
          refine x_lr (z := some a) T_60_61 rfl ?_
          refine x_li (z := u) T_60_62 rfl ?_
          refine x_ic T_60_63 ?_
          refine x_cv3 T_60_64 mN_43 mL_43 (Nat.le_of_ble_eq_true rfl) mO_43 (hP.o hbn) (Nat.le_of_ble_eq_true rfl) (hl2) ?_
          rintro _ σ ⟨rfl, rfl⟩
          refine cI ?_
          refine x_if T_60_67 (fun _ => ?_) (fun h => absurd (show ¬ (1 : Int) = 0 by decide) h)
          exact h72
    · rw [if_neg q1] at hl1
      rw [if_pos (Or.inl q1)]
      refine x_lr (z := some a) T_60_40 rfl ?_
      refine x_li (z := u) T_60_41 rfl ?_
      refine x_sta T_60_42 rfl ?_
      refine x_li (z := hw) T_60_45 rfl ?_
      refine x_alI (z := nd) T_60_47 (by decide) g3 (by omega) (by omega) hnd ?_
      refine x_cv3 T_60_48 mN_43 mL_43 (Nat.le_of_ble_eq_true rfl) mO_43 (hP.o hbn) (Nat.le_of_ble_eq_true rfl) (hl1) ?_
      rintro _ σ ⟨rfl, rfl⟩
      refine cI ?_
      refine x_if T_60_51 (fun _ => ?_) (fun h => absurd (show (0 : Int) = 0 by decide) h)
      refine x_ic T_60_70 ?_
      refine x_ri T_60_71 ?_
      exact ⟨rfl, rfl⟩
  obtain ⟨E2, hE2⟩ : ∃ E2, (if ¬ and32 X (needs hw) = needs hw ∨ (¬ e = 0 ∧ and32 X 2 = 0) then (3 : Int) else E) = E2 := ⟨_, rfl⟩
  rw [hE2] at h40 ⊢
  by_cases qd : qMode P s n < 0
  · rw [if_pos qd] at hdir
    by_cases qz : f = 0
    · have hz := m4.mp qz
      rw [if_neg (fun c => by omega)]
      refine CL_in mL_60 rfl ?_
      show WP fb _ 60 0 [some (vR (some S)), some (vR (some a)), some (vI u), some (vI m), none, none] [] σ _
      refine x_li (z := m) T_60_0 rfl ?_
      refine x_ic T_60_1 ?_
      refine x_ib (w := hw) T_60_3 (fun h => absurd h.1 (by decide)) hh ?_
      refine x_si (ls1 := [some (vR (some S)), some (vR (some a)), some (vI u), some (vI m), some (vI hw), none]) T_60_4 rfl ?_
      refine x_li (z := hw) T_60_6 rfl ?_
      refine x_if T_60_8 (fun h => absurd (show hw < 0 from h) (by omega)) (fun _ => ?_)
      refine x_li (z := hw) T_60_11 rfl ?_
      refine x_sta T_60_13 rfl ?_
      refine x_len (len := 4) T_60_16 g3 ?_
      refine x_ic2 T_60_17 (fun _ => ?_) (fun h => absurd (show hw < 4 by omega) h)
      refine x_lr (z := some a) T_60_23 rfl ?_
      refine x_cv1 T_60_24 mN_55 mL_55 (Nat.le_of_ble_eq_true rfl) mO_55 (hP.o hbn) (Nat.le_of_ble_eq_true rfl) (hdir) ?_
      rintro _ σ ⟨rfl, rfl⟩
      refine cI ?_
      refine x_if T_60_27 (fun h => absurd (show (1 : Int) = 0 from h) (by decide)) (fun _ => ?_)
      refine x_li (z := m) T_60_30 rfl ?_
      refine x_ic T_60_31 ?_
      refine x_ib (w := f) T_60_33 (fun h => absurd h.1 (by decide)) hf ?_
      refine x_if T_60_34 (fun _ => ?_) (fun h => absurd (show f = 0 by omega) h)
      exact h40
    · rw [if_pos ⟨qd, by omega⟩]
      refine CL_in mL_60 rfl ?_
      show WP fb _ 60 0 [some (vR (some S)), some (vR (some a)), some (vI u), some (vI m), none, none] [] σ _
      refine x_li (z := m) T_60_0 rfl ?_
      refine x_ic T_60_1 ?_
      refine x_ib (w := hw) T_60_3 (fun h => absurd h.1 (by decide)) hh ?_
      refine x_si (ls1 := [some (vR (some S)), some (vR (some a)), some (vI u), some (vI m), some (vI hw), none]) T_60_4 rfl ?_
      refine x_li (z := hw) T_60_6 rfl ?_
      refine x_if T_60_8 (fun h => absurd (show hw < 0 from h) (by omega)) (fun _ => ?_)
      refine x_li (z := hw) T_60_11 rfl ?_
      refine x_sta T_60_13 rfl ?_
      refine x_len (len := 4) T_60_16 g3 ?_
      refine x_ic2 T_60_17 (fun _ => ?_) (fun h => absurd (show hw < 4 by omega) h)
      refine x_lr (z := some a) T_60_23 rfl ?_
      refine x_cv1 T_60_24 mN_55 mL_55 (Nat.le_of_ble_eq_true rfl) mO_55 (hP.o hbn) (Nat.le_of_ble_eq_true rfl) (hdir) ?_
      rintro _ σ ⟨rfl, rfl⟩
      refine cI ?_
      refine x_if T_60_27 (fun h => absurd (show (1 : Int) = 0 from h) (by decide)) (fun _ => ?_)
      refine x_li (z := m) T_60_30 rfl ?_
      refine x_ic T_60_31 ?_
      refine x_ib (w := f) T_60_33 (fun h => absurd h.1 (by decide)) hf ?_
      refine x_if T_60_34 (fun h => absurd (show f = 0 from h) (by omega)) (fun _ => ?_)
      refine x_ic T_60_37 ?_
      refine x_ri T_60_39 ?_
      exact ⟨rfl, rfl⟩
  · rw [if_neg qd] at hdir
    rw [if_neg (fun c => qd c.1)]
    refine CL_in mL_60 rfl ?_
    show WP fb _ 60 0 [some (vR (some S)), some (vR (some a)), some (vI u), some (vI m), none, none] [] σ _
    refine x_li (z := m) T_60_0 rfl ?_
    refine x_ic T_60_1 ?_
    refine x_ib (w := hw) T_60_3 (fun h => absurd h.1 (by decide)) hh ?_
    refine x_si (ls1 := [some (vR (some S)), some (vR (some a)), some (vI u), some (vI m), some (vI hw), none]) T_60_4 rfl ?_
    refine x_li (z := hw) T_60_6 rfl ?_
    refine x_if T_60_8 (fun h => absurd (show hw < 0 from h) (by omega)) (fun _ => ?_)
    refine x_li (z := hw) T_60_11 rfl ?_
    refine x_sta T_60_13 rfl ?_
    refine x_len (len := 4) T_60_16 g3 ?_
    refine x_ic2 T_60_17 (fun _ => ?_) (fun h => absurd (show hw < 4 by omega) h)
    refine x_lr (z := some a) T_60_23 rfl ?_
    refine x_cv1 T_60_24 mN_55 mL_55 (Nat.le_of_ble_eq_true rfl) mO_55 (hP.o hbn) (Nat.le_of_ble_eq_true rfl) (hdir) ?_
    rintro _ σ ⟨rfl, rfl⟩
    refine cI ?_
    refine x_if T_60_27 (fun _ => ?_) (fun h => absurd (show (0 : Int) = 0 by decide) h)
    exact h40
end XOPN
