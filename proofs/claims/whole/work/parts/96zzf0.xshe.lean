/-! The class's shell: a line with what its $ stand for. -/
theorem T_111_0 : hTab 111 0 = some ((0, 0, 1, []), 1) := rfl
theorem T_111_1 : hTab 111 1 = some ((4, 4, 0, []), 3) := rfl
theorem T_111_3 : hTab 111 3 = some ((3, 2, 2, []), 4) := rfl
theorem T_111_4 : hTab 111 4 = some ((31, 27, 0, []), 7) := rfl
theorem T_111_7 : hTab 111 7 = some ((0, 0, 0, []), 8) := rfl
theorem T_111_8 : hTab 111 8 = some ((4, 5, 0, []), 10) := rfl
theorem T_111_10 : hTab 111 10 = some ((3, 5, 0, []), 12) := rfl
theorem T_111_12 : hTab 111 12 = some ((3, 0, 2, []), 13) := rfl
theorem T_111_13 : hTab 111 13 = some ((24, 15, Int.ofNat 1, []), 16) := rfl
theorem T_111_16 : hTab 111 16 = some ((31, 28, 0, []), 19) := rfl
theorem T_111_19 : hTab 111 19 = some ((19, 3, Int.ofNat 192, []), 22) := rfl
theorem T_111_22 : hTab 111 22 = some ((3, 4, 0, []), 24) := rfl
theorem T_111_24 : hTab 111 24 = some ((18, 0, Int.ofNat 192, []), 27) := rfl
theorem T_111_27 : hTab 111 27 = some ((3, 0, 2, []), 28) := rfl
theorem T_111_28 : hTab 111 28 = some ((24, 15, Int.ofNat 1, []), 31) := rfl
theorem T_111_31 : hTab 111 31 = some ((3, 5, 0, []), 33) := rfl
theorem T_111_33 : hTab 111 33 = some ((31, 33, 0, []), 36) := rfl
theorem T_111_36 : hTab 111 36 = some ((4, 6, 0, []), 38) := rfl
theorem T_111_38 : hTab 111 38 = some ((3, 6, 0, []), 40) := rfl
theorem T_111_40 : hTab 111 40 = some ((0, 0, 36, []), 42) := rfl
theorem T_111_42 : hTab 111 42 = some ((19, 1, Int.ofNat 59, []), 45) := rfl
theorem T_111_45 : hTab 111 45 = some ((3, 0, 2, []), 46) := rfl
theorem T_111_46 : hTab 111 46 = some ((24, 15, Int.ofNat 1, []), 49) := rfl
theorem T_111_49 : hTab 111 49 = some ((3, 5, 0, []), 51) := rfl
theorem T_111_51 : hTab 111 51 = some ((0, 0, 1, []), 52) := rfl
theorem T_111_52 : hTab 111 52 = some ((10, 0, 0, []), 53) := rfl
theorem T_111_53 : hTab 111 53 = some ((31, 33, 0, []), 56) := rfl
theorem T_111_56 : hTab 111 56 = some ((22, 0, Int.ofNat 60, []), 59) := rfl
theorem T_111_59 : hTab 111 59 = some ((0, 0, (-1), []), 60) := rfl
theorem T_111_60 : hTab 111 60 = some ((4, 7, 0, []), 62) := rfl
theorem T_111_62 : hTab 111 62 = some ((3, 1, 2, []), 63) := rfl
theorem T_111_63 : hTab 111 63 = some ((3, 7, 0, []), 65) := rfl
theorem T_111_65 : hTab 111 65 = some ((0, 0, 97, []), 67) := rfl
theorem T_111_67 : hTab 111 67 = some ((10, 1, 0, []), 68) := rfl
theorem T_111_68 : hTab 111 68 = some ((31, 107, 0, []), 71) := rfl
theorem T_111_71 : hTab 111 71 = some ((4, 8, 2, []), 73) := rfl
theorem T_111_73 : hTab 111 73 = some ((3, 7, 0, []), 75) := rfl
theorem T_111_75 : hTab 111 75 = some ((0, 0, 48, []), 77) := rfl
theorem T_111_77 : hTab 111 77 = some ((19, 2, Int.ofNat 136, []), 80) := rfl
theorem T_111_80 : hTab 111 80 = some ((3, 7, 0, []), 82) := rfl
theorem T_111_82 : hTab 111 82 = some ((0, 0, 57, []), 84) := rfl
theorem T_111_84 : hTab 111 84 = some ((19, 4, Int.ofNat 136, []), 87) := rfl
theorem T_111_87 : hTab 111 87 = some ((3, 7, 0, []), 89) := rfl
theorem T_111_89 : hTab 111 89 = some ((0, 0, 48, []), 91) := rfl
theorem T_111_91 : hTab 111 91 = some ((10, 1, 0, []), 92) := rfl
theorem T_111_92 : hTab 111 92 = some ((0, 0, 1, []), 93) := rfl
theorem T_111_93 : hTab 111 93 = some ((10, 0, 0, []), 94) := rfl
theorem T_111_94 : hTab 111 94 = some ((4, 9, 0, []), 96) := rfl
theorem T_111_96 : hTab 111 96 = some ((3, 3, 2, []), 97) := rfl
theorem T_111_97 : hTab 111 97 = some ((20, 0, Int.ofNat 123, []), 100) := rfl
theorem T_111_100 : hTab 111 100 = some ((3, 2, 2, []), 101) := rfl
theorem T_111_101 : hTab 111 101 = some ((3, 3, 2, []), 102) := rfl
theorem T_111_102 : hTab 111 102 = some ((24, 16, Int.ofNat 0, []), 105) := rfl
theorem T_111_105 : hTab 111 105 = some ((3, 3, 2, []), 106) := rfl
theorem T_111_106 : hTab 111 106 = some ((3, 9, 0, []), 108) := rfl
theorem T_111_108 : hTab 111 108 = some ((31, 104, 0, []), 111) := rfl
theorem T_111_111 : hTab 111 111 = some ((3, 3, 2, []), 112) := rfl
theorem T_111_112 : hTab 111 112 = some ((3, 9, 0, []), 114) := rfl
theorem T_111_114 : hTab 111 114 = some ((31, 106, 0, []), 117) := rfl
theorem T_111_117 : hTab 111 117 = some ((31, 32, 0, []), 120) := rfl
theorem T_111_120 : hTab 111 120 = some ((18, 0, Int.ofNat 127, []), 123) := rfl
theorem T_111_123 : hTab 111 123 = some ((0, 0, 1, []), 124) := rfl
theorem T_111_124 : hTab 111 124 = some ((22, 0, Int.ofNat 128, []), 127) := rfl
theorem T_111_127 : hTab 111 127 = some ((0, 0, 0, []), 128) := rfl
theorem T_111_128 : hTab 111 128 = some ((4, 4, 0, []), 130) := rfl
theorem T_111_130 : hTab 111 130 = some ((5, 5, 1, []), 133) := rfl
theorem T_111_133 : hTab 111 133 = some ((22, 0, Int.ofNat 186, []), 136) := rfl
theorem T_111_136 : hTab 111 136 = some ((3, 8, 2, []), 138) := rfl
theorem T_111_138 : hTab 111 138 = some ((20, 0, Int.ofNat 161, []), 141) := rfl
theorem T_111_141 : hTab 111 141 = some ((3, 2, 2, []), 142) := rfl
theorem T_111_142 : hTab 111 142 = some ((3, 8, 2, []), 144) := rfl
theorem T_111_144 : hTab 111 144 = some ((0, 0, 0, []), 145) := rfl
theorem T_111_145 : hTab 111 145 = some ((3, 8, 2, []), 147) := rfl
theorem T_111_147 : hTab 111 147 = some ((31, 28, 0, []), 150) := rfl
theorem T_111_150 : hTab 111 150 = some ((31, 32, 0, []), 153) := rfl
theorem T_111_153 : hTab 111 153 = some ((4, 4, 0, []), 155) := rfl
theorem T_111_155 : hTab 111 155 = some ((5, 5, 1, []), 158) := rfl
theorem T_111_158 : hTab 111 158 = some ((22, 0, Int.ofNat 186, []), 161) := rfl
theorem T_111_161 : hTab 111 161 = some ((3, 2, 2, []), 162) := rfl
theorem T_111_162 : hTab 111 162 = some ((3, 6, 0, []), 164) := rfl
theorem T_111_164 : hTab 111 164 = some ((31, 73, 0, []), 167) := rfl
theorem T_111_167 : hTab 111 167 = some ((4, 4, 0, []), 169) := rfl
theorem T_111_169 : hTab 111 169 = some ((3, 5, 0, []), 171) := rfl
theorem T_111_171 : hTab 111 171 = some ((3, 7, 0, []), 173) := rfl
theorem T_111_173 : hTab 111 173 = some ((0, 0, 36, []), 175) := rfl
theorem T_111_175 : hTab 111 175 = some ((19, 1, Int.ofNat 182, []), 178) := rfl
theorem T_111_178 : hTab 111 178 = some ((0, 0, 1, []), 179) := rfl
theorem T_111_179 : hTab 111 179 = some ((22, 0, Int.ofNat 183, []), 182) := rfl
theorem T_111_182 : hTab 111 182 = some ((0, 0, 0, []), 183) := rfl
theorem T_111_183 : hTab 111 183 = some ((10, 0, 0, []), 184) := rfl
theorem T_111_184 : hTab 111 184 = some ((4, 5, 0, []), 186) := rfl
theorem T_111_186 : hTab 111 186 = some ((5, 5, 1, []), 189) := rfl
theorem T_111_189 : hTab 111 189 = some ((22, 0, Int.ofNat 10, []), 192) := rfl
theorem T_111_192 : hTab 111 192 = some ((3, 4, 0, []), 194) := rfl
theorem T_111_194 : hTab 111 194 = some ((33, 2, 0, []), 195) := rfl
theorem F_15_1 : (hFd 15 1).2.2.1 = 4 := rfl
theorem mN_111 : hmN 111 = 4 := by decide +kernel
theorem mL_111 : hmL 111 = 10 := by decide +kernel
theorem mK_111 : hmK 111 = 1 := by decide +kernel
theorem mO_111 : hmO 111 = 15 := by decide +kernel
section XSHE
variable {fb : Bool} {d b q n k ks tb : Nat} {σ0 σ : hM} {W W2 V P Q : qR} {R R2 : rR} {i j x z v s e w p K T U a : Int} {l t l0 nm wd C src : List Int} {ar : Option (List Int)} {sc : Option Nat}
/-- whose words a $ and a digit are -/
def SCP (W : qR) (tb : Nat) (ar : Option (List Int)) (sc : Option Nat) : Prop := (ar = none ∧ sc = none) ∨ ∃ t ks, ar = some t ∧ sc = some ks ∧ CMD W ks t ∧ ¬ (ks ≤ tb ∧ tb < ks + 7) ∧ ¬ (ks ≤ tb + 1 ∧ tb + 1 < ks + 7)
theorem CMD.fbx (hC : CMD W k l) (hF : FB b W V) (hb1 : ¬ (k ≤ b ∧ b < k + 7)) (hb2 : ¬ (k ≤ b + 1 ∧ b + 1 < k + 7)) : CMD V k l := by
  obtain ⟨c1, c2, c3, c4, c5, c6⟩ := hC
  have g := lnW_ok c4.2.2.2.2.1
  have := g.2
  refine ⟨c1, c2, c3, hF.by c4 (by omega), (hF _ _ (by omega) (by omega)).trans c5, fun i hi => ?_⟩
  exact ⟨(hF _ _ (by omega) (by omega)).trans (c6 i hi).1, (hF _ _ (by omega) (by omega)).trans (c6 i hi).2⟩
/-- what an expansion comes to -/
abbrev XEX (σ0 : hM) (W : qR) (R : rR) (tb : Nat) (L : List Int) : Option AV → hM → Prop := fun r σ' => r = some (vI (if L.length ≤ 100 then 1 else 0)) ∧ ∃ V2, PX σ0 V2 R σ' ∧ FB tb W V2 ∧ ∃ L2, BY V2 tb 100 L2 ∧ (L.length ≤ 100 → L2 = L)
theorem exp_fail {x6 x7 x8 x9 : Option AV} {L : List Int} {pr : Nat} (hP : PX σ0 V R σ) (hF : FB tb W V) (hB : BY V tb 100 l) (hS : BY W 2189 100 src) (h1 : tb ≠ 2189 ∧ tb + 1 ≠ 2189 ∧ tb ≠ 2190) (hL : ¬ L.length ≤ 100) (hi : 0 ≤ i) : WP fb (d + 1) 111 10 [some (vR (some 2187)), some (vR (some pr)), some (vR (some tb)), some (vR sc), some (vI 0), some (vI i), x6, x7, x8, x9] [] σ (XEX σ0 W R tb L) := by
  obtain ⟨z, hz⟩ : ∃ z : Int, (src.length : Int) = z := ⟨_, rfl⟩
  have hsz := x_size (fb := fb) (d := d) hP (hF.by hS (by omega)) hz
  rw [show XEX σ0 W R tb L = (fun r σ' => r = some (vI 0) ∧ ∃ V2, PX σ0 V2 R σ' ∧ FB tb W V2 ∧ ∃ L2, BY V2 tb 100 L2 ∧ (L.length ≤ 100 → L2 = L)) by unfold XEX; rw [if_neg hL]]
  refine x_li (z := i) T_111_10 rfl ?_
  refine x_lr (z := some 2187) T_111_12 rfl ?_
  refine x_gR (z := some 2189) T_111_13 F_15_1 (hP.o xo_2187) (hP.rc xo_2187 rfl rfl) ?_
  refine x_cv1 T_111_16 mN_28 mL_28 (Nat.le_of_ble_eq_true rfl) mO_28 (hP.o xo_2189) (Nat.le_of_ble_eq_true rfl) (hsz) ?_
  rintro _ σ ⟨rfl, rfl⟩
  refine cI ?_
  refine x_ic2 T_111_19 (fun h19 => ?_) (fun h19 => ?_)
  · replace h19 : z ≤ i := h19
    refine x_li (z := 0) T_111_192 rfl ?_
    refine x_rz T_111_194 rfl ?_
    exact ⟨rfl, V, hP, hF, l, hB, fun c => absurd c hL⟩
  · replace h19 : ¬ (z ≤ i) := h19
    refine x_li (z := 0) T_111_22 rfl ?_
    refine x_if T_111_24 (fun _ => ?_) (fun h => absurd (show (0 : Int) = 0 by rfl) h)
    refine x_li (z := 0) T_111_192 rfl ?_
    refine x_rz T_111_194 rfl ?_
    exact ⟨rfl, V, hP, hF, l, hB, fun c => absurd c hL⟩
theorem lnB_no (h : ((lnW t).length : Int) ≤ w) : lnB t w = [] := by
  have e : (lnW t).getD w.toNat (0, 0) = (0, 0) := by
    rw [List.getD_eq_getElem?_getD, List.getElem?_eq_none (by omega)]
    rfl
  unfold lnB
  rw [e]
  rfl
theorem exp_loop (hp : 0 ≤ p ∧ p < 8) (hlv : LIV W R P p) (hS : BY W 2189 100 src) (htb : 2191 ≤ tb) (htx : tX tb = some (Sum.inl 2)) (hsc : SCP W tb ar sc) : ∀ (m : Nat) (i : Int) (C : List Int) (σ : hM) (V : qR) (x6 x7 x8 x9 : Option AV), (src.length : Int) ≤ i + m → 0 ≤ i → C.length ≤ 100 → PX σ0 V R σ → FB tb W V → BY V tb 100 C → WP fb (d + 1) 111 10 [some (vR (some 2187)), some (vR (some (prO p))), some (vR (some tb)), some (vR sc), some (vI 1), some (vI i), x6, x7, x8, x9] [] σ (XEX σ0 W R tb (C ++ exI P p ar src 1 m i)) := by
  have hpo := prO_o hp
  have hrp := prO_rng hp
  intro m
  induction m with
  | zero =>
    intro i C σ V x6 x7 x8 x9 h1 h2 h3 hP hF hB
    obtain ⟨z, hz⟩ : ∃ z : Int, (src.length : Int) = z := ⟨_, rfl⟩
    have hsz := x_size (fb := fb) (d := d) hP (hF.by hS (by omega)) hz
    have eL : C ++ exI P p ar src 1 0 i = C := List.append_nil C
    rw [eL, show XEX σ0 W R tb C = (fun r σ' => r = some (vI 1) ∧ ∃ V2, PX σ0 V2 R σ' ∧ FB tb W V2 ∧ ∃ L2, BY V2 tb 100 L2 ∧ (C.length ≤ 100 → L2 = C)) by unfold XEX; rw [if_pos h3]]
    obtain ⟨pr, hpr⟩ : ∃ y, prO p = y := ⟨_, rfl⟩
    rw [hpr]
    refine x_li (z := i) T_111_10 rfl ?_
    refine x_lr (z := some 2187) T_111_12 rfl ?_
    refine x_gR (z := some 2189) T_111_13 F_15_1 (hP.o xo_2187) (hP.rc xo_2187 rfl rfl) ?_
    refine x_cv1 T_111_16 mN_28 mL_28 (Nat.le_of_ble_eq_true rfl) mO_28 (hP.o xo_2189) (Nat.le_of_ble_eq_true rfl) (hsz) ?_
    rintro _ σ ⟨rfl, rfl⟩
    refine cI ?_
    refine x_ic2 T_111_19 (fun _ => ?_) (fun h => absurd (show z ≤ i by omega) h)
    refine x_li (z := 1) T_111_192 rfl ?_
    refine x_rz T_111_194 rfl ?_
    exact ⟨rfl, V, hP, hF, C, hB, fun _ => rfl⟩
  | succ m ih =>
    intro i C σ V x6 x7 x8 x9 h1 h2 h3 hP hF hB
    obtain ⟨z, hz⟩ : ∃ z : Int, (src.length : Int) = z := ⟨_, rfl⟩
    have hsl := hS.2.2.2.2.1
    have hsb : byt src := hS.2.2.2.2.2.1
    have hSV := hF.by hS (by omega)
    have hsz := fun (hP : PX σ0 V R σ) => x_size (fb := fb) (d := d) hP hSV hz
    have eI : exI P p ar src 1 (m + 1) i = if (src.length : Int) ≤ i then [] else if 48 ≤ nxS src 1 i ∧ nxS src 1 i ≤ 57 then argL ar (nxS src 1 i - 48) ++ exI P p ar src 1 m (i + 2) else if 97 ≤ nxS src 1 i ∧ nxS src 1 i ≤ 122 then varL P p (nxS src 1 i - 97) ++ exI P p ar src 1 m (i + 2) else [lg src i] ++ exI P p ar src 1 m (if nxS src 1 i = 36 then i + 2 else i + 1) := rfl
    by_cases q0 : z ≤ i
    · rw [eI, if_pos (by omega), List.append_nil, show XEX σ0 W R tb C = (fun r σ' => r = some (vI 1) ∧ ∃ V2, PX σ0 V2 R σ' ∧ FB tb W V2 ∧ ∃ L2, BY V2 tb 100 L2 ∧ (C.length ≤ 100 → L2 = C)) by unfold XEX; rw [if_pos h3]]
      obtain ⟨pr, hpr⟩ : ∃ y, prO p = y := ⟨_, rfl⟩
      rw [hpr]
      refine x_li (z := i) T_111_10 rfl ?_
      refine x_lr (z := some 2187) T_111_12 rfl ?_
      refine x_gR (z := some 2189) T_111_13 F_15_1 (hP.o xo_2187) (hP.rc xo_2187 rfl rfl) ?_
      refine x_cv1 T_111_16 mN_28 mL_28 (Nat.le_of_ble_eq_true rfl) mO_28 (hP.o xo_2189) (Nat.le_of_ble_eq_true rfl) (hsz hP) ?_
      rintro _ σ ⟨rfl, rfl⟩
      refine cI ?_
      refine x_ic2 T_111_19 (fun _ => ?_) (fun h => absurd (show z ≤ i by omega) h)
      refine x_li (z := 1) T_111_192 rfl ?_
      refine x_rz T_111_194 rfl ?_
      exact ⟨rfl, V, hP, hF, C, hB, fun _ => rfl⟩
    rw [eI, if_neg (by omega)]
    have hb0 := hsb i h2
    have hb1 := hsb (i + 1) (by omega)
    have hat0 := fun (hP : PX σ0 V R σ) => x_at (fb := fb) (d := d) (i := i) hP hSV
    rw [if_pos ⟨h2, by omega⟩] at hat0
    have hat1 := fun (hP : PX σ0 V R σ) => x_at (fb := fb) (d := d) (i := i + 1) hP hSV
    have eN : nxS src 1 i = if lg src i = 36 ∧ i + 1 < z then lg src (i + 1) else -1 := by
      unfold nxS
      by_cases c : lg src i = 36 ∧ i + 1 < z
      · rw [if_pos c, if_pos ⟨rfl, c.1, by omega⟩]
      · rw [if_neg c, if_neg (fun h => c ⟨h.2.1, by omega⟩)]
    have hsr : -1 ≤ nxS src 1 i ∧ nxS src 1 i ≤ 255 := by
      rw [eN]
      split <;> omega
    obtain ⟨bb, hbb⟩ : ∃ y, lg src i = y := ⟨_, rfl⟩
    rw [hbb] at hb0 hat0 eN
    rw [hbb]
    obtain ⟨sg, hsg⟩ : ∃ y, nxS src 1 i = y := ⟨_, rfl⟩
    rw [hsg] at hsr eN
    rw [hsg]
    -- a piece that fits, and one that doesn't
    have hcon : ∀ (pc : List Int) (j : Int) (σ : hM) (V2 : qR) (x6 x7 x8 x9 : Option AV), i < j → PX σ0 V2 R σ → FB tb W V2 → BY V2 tb 100 ((C ++ pc).take 100) → WP fb (d + 1) 111 10 [some (vR (some 2187)), some (vR (some (prO p))), some (vR (some tb)), some (vR sc), some (vI (if C.length + pc.length ≤ 100 then 1 else 0)), some (vI j), x6, x7, x8, x9] [] σ (XEX σ0 W R tb (C ++ (pc ++ exI P p ar src 1 m j))) := fun pc j σ V2 x6 x7 x8 x9 hj hP hF hB => by
      by_cases c : C.length + pc.length ≤ 100
      · rw [if_pos c, ← List.append_assoc]
        rw [List.take_of_length_le (by rw [List.length_append]; omega)] at hB
        exact ih j (C ++ pc) σ V2 x6 x7 x8 x9 (by omega) (by omega) (by rw [List.length_append]; omega) hP hF hB
      · rw [if_neg c]
        exact exp_fail hP hF hB hS (by omega) (by simp only [List.length_append]; omega) (by omega)
    have hvo := fun (hP : PX σ0 V R σ) => x_variableOf (fb := fb) (d := d) (k := sg - 97) hP hp
    obtain ⟨RS, hRS⟩ : ∃ y, (if 48 ≤ sg ∧ sg ≤ 57 then argL ar (sg - 48) ++ exI P p ar src 1 m (i + 2) else if 97 ≤ sg ∧ sg ≤ 122 then varL P p (sg - 97) ++ exI P p ar src 1 m (i + 2) else [bb] ++ exI P p ar src 1 m (if sg = 36 then i + 2 else i + 1)) = y := ⟨_, rfl⟩
    rw [hRS]
    have h60 : ∀ (x7 x8 x9 : Option AV), WP fb (d + 1) 111 60 [some (vR (some 2187)), some (vR (some (prO p))), some (vR (some tb)), some (vR sc), some (vI 1), some (vI i), some (vI bb), x7, x8, x9] [vI sg] σ (XEX σ0 W R tb (C ++ RS)) := fun x7 x8 x9 => by
      by_cases a1 : 48 ≤ sg ∧ sg ≤ 57
      · rw [if_pos a1] at hRS
        rw [← hRS]
        rw [if_neg (show ¬ (0 ≤ sg - 97 ∧ sg - 97 < 26) by omega)] at hvo
        rcases hsc with ⟨s1, s2⟩ | ⟨t, ks, s1, s2, s3, s4, s5⟩
        · subst s1
          subst s2
          have hgo := fun (σ : hM) (hP : PX σ0 V R σ) (x9 : Option AV) => hcon [] (i + 2) σ V (some (vI bb)) (some (vI sg)) (some (vR none)) x9 (by omega) hP hF (by rw [List.append_nil, List.take_of_length_le h3]; exact hB)
          rw [if_pos (show C.length + ([] : List Int).length ≤ 100 from h3)] at hgo
          have e2 : i + 1 + 1 = i + 2 := by omega
          obtain ⟨pr, hpr⟩ : ∃ y, prO p = y := ⟨_, rfl⟩
          simp only [hpr] at hpo hvo hgo ⊢
          refine x_si (ls1 := [some (vR (some 2187)), some (vR (some pr)), some (vR (some tb)), some (vR none), some (vI 1), some (vI i), some (vI bb), some (vI sg), x8, x9]) T_111_60 rfl ?_
          refine x_lr (z := some pr) T_111_62 rfl ?_
          refine x_li (z := sg) T_111_63 rfl ?_
          refine x_ic T_111_65 ?_
          refine x_ib (w := (sg - 97)) T_111_67 (fun h => absurd h.1 (by decide)) (w32_id (by omega) (by omega)) ?_
          refine x_cv2 T_111_68 mN_107 mL_107 (Nat.le_of_ble_eq_true rfl) mO_107 (hP.o hpo) (Nat.le_of_ble_eq_true rfl) (hvo hP) ?_
          rintro _ σ ⟨rfl, rfl⟩
          refine cR ?_
          refine x_sr (ls1 := [some (vR (some 2187)), some (vR (some pr)), some (vR (some tb)), some (vR none), some (vI 1), some (vI i), some (vI bb), some (vI sg), some (vR none), x9]) T_111_71 rfl ?_
          refine x_li (z := sg) T_111_73 rfl ?_
          refine x_ic T_111_75 ?_
          refine x_ic2 T_111_77 (fun h => absurd (show sg < 48 from h) (by omega)) (fun _ => ?_)
          refine x_li (z := sg) T_111_80 rfl ?_
          refine x_ic T_111_82 ?_
          refine x_ic2 T_111_84 (fun h => absurd (show 57 < sg from h) (by omega)) (fun _ => ?_)
          refine x_li (z := sg) T_111_87 rfl ?_
          refine x_ic T_111_89 ?_
          refine x_ib (w := (sg - 48)) T_111_91 (fun h => absurd h.1 (by decide)) (w32_id (by omega) (by omega)) ?_
          refine x_ic T_111_92 ?_
          refine x_ib (w := ((sg - 48) + 1)) T_111_93 (fun h => absurd h.1 (by decide)) (w32_id (by omega) (by omega)) ?_
          refine x_si (ls1 := [some (vR (some 2187)), some (vR (some pr)), some (vR (some tb)), some (vR none), some (vI 1), some (vI i), some (vI bb), some (vI sg), some (vR none), some (vI ((sg - 48) + 1))]) T_111_94 rfl ?_
          refine x_lr (z := none) T_111_96 rfl ?_
          refine x_nul T_111_97 (fun _ => ?_) (fun a0 h0 => absurd h0 (by simp))
          refine x_ic T_111_123 ?_
          refine x_goto T_111_124 ?_
          refine x_si (ls1 := [some (vR (some 2187)), some (vR (some pr)), some (vR (some tb)), some (vR none), some (vI 1), some (vI i), some (vI bb), some (vI sg), some (vR none), some (vI ((sg - 48) + 1))]) T_111_128 rfl ?_
          refine x_inc (w := (i + 1)) (ls1 := [some (vR (some 2187)), some (vR (some pr)), some (vR (some tb)), some (vR none), some (vI 1), some (vI (i + 1)), some (vI bb), some (vI sg), some (vR none), some (vI ((sg - 48) + 1))]) T_111_130 rfl (w32_id (by omega) (by omega)) rfl ?_
          refine x_goto T_111_133 ?_
          refine x_inc (w := ((i + 1) + 1)) (ls1 := [some (vR (some 2187)), some (vR (some pr)), some (vR (some tb)), some (vR none), some (vI 1), some (vI ((i + 1) + 1)), some (vI bb), some (vI sg), some (vR none), some (vI ((sg - 48) + 1))]) T_111_186 rfl (w32_id (by omega) (by omega)) rfl ?_
          refine x_goto T_111_189 ?_
          rw [e2]
          exact hgo σ hP _
        · subst s1
          subst s2
          have hCk := s3.fbx hF s4 s5
          have hse : ∃ a e : Int, (∀ σ : hM, PX σ0 V R σ → CL fb d 104 [vR (some ks), vI (sg - 48 + 1)] σ (rP a σ)) ∧ (∀ σ : hM, PX σ0 V R σ → CL fb d 106 [vR (some ks), vI (sg - 48 + 1)] σ (rP e σ)) ∧ (e ≤ a ∨ 0 ≤ a) ∧ e ≤ (t.length : Int) ∧ seg (lg t) a (e - a).toNat = lnB t (sg - 48 + 1) := by
            by_cases c : sg - 48 + 1 < ((lnW t).length : Int)
            · obtain ⟨-, a, e, ha, he, g1, g2, g3, g4⟩ := hCk.word (w := sg - 48 + 1) ⟨by omega, c⟩
              exact ⟨a, e, fun σ hP => x_startOf hP hCk ⟨by omega, c⟩ ha, fun σ hP => x_endOf hP hCk ⟨by omega, c⟩ he, Or.inr g1, g3, g4.symm⟩
            · exact ⟨0, 0, fun σ hP => x_startOf0 hP hCk (by omega) (by omega), fun σ hP => x_endOf0 hP hCk (by omega) (by omega), Or.inr (by decide), by omega, by rw [lnB_no (by omega)]; rfl⟩
          obtain ⟨a, e, hso, heo, g1, g2, g3⟩ := hse
          have had := fun (σ : hM) (hP : PX σ0 V R σ) => (x_addAll (fb := fb) (d := d) (s := a) (e := e) hP hB hCk.2.2.2.1 (by omega) g1 g2).mono (Q := fun r σ' => r = some (vI (if C.length + (argL (some t) (sg - 48)).length ≤ 100 then 1 else 0)) ∧ ∃ V2, PX σ0 V2 R σ' ∧ BY V2 tb 100 ((C ++ argL (some t) (sg - 48)).take 100) ∧ FB tb V V2) (fun r σ' h => by
            obtain ⟨rfl, V2, r1, r2, r3⟩ := h
            have e5 : argL (some t) (sg - 48) = seg (lg t) a (e - a).toNat := by
              show lnB t (sg - 48 + 1) = _
              exact g3.symm
            rw [e5]
            exact ⟨by rw [seg_len], V2, r1, r2, r3⟩)
          have hgo := fun (σ : hM) (V2 : qR) (hP : PX σ0 V2 R σ) (hB2 : BY V2 tb 100 ((C ++ argL (some t) (sg - 48)).take 100)) (hF2 : FB tb V V2) (x9 : Option AV) => hcon (argL (some t) (sg - 48)) (i + 2) σ V2 (some (vI bb)) (some (vI sg)) (some (vR none)) x9 (by omega) hP (FB_tr hF hF2) hB2
          have hko := s3.1
          have hk1 : tX (ks + 1) = some (Sum.inl 2) := s3.2.2.2.1.1
          have e2 : i + 1 + 1 = i + 2 := by omega
          obtain ⟨pr, hpr⟩ : ∃ y, prO p = y := ⟨_, rfl⟩
          simp only [hpr] at hpo hvo hgo ⊢
          by_cases c : C.length + (argL (some t) (sg - 48)).length ≤ 100
          · simp only [if_pos c] at hgo had
            refine x_si (ls1 := [some (vR (some 2187)), some (vR (some pr)), some (vR (some tb)), some (vR (some ks)), some (vI 1), some (vI i), some (vI bb), some (vI sg), x8, x9]) T_111_60 rfl ?_
            refine x_lr (z := some pr) T_111_62 rfl ?_
            refine x_li (z := sg) T_111_63 rfl ?_
            refine x_ic T_111_65 ?_
            refine x_ib (w := (sg - 97)) T_111_67 (fun h => absurd h.1 (by decide)) (w32_id (by omega) (by omega)) ?_
            refine x_cv2 T_111_68 mN_107 mL_107 (Nat.le_of_ble_eq_true rfl) mO_107 (hP.o hpo) (Nat.le_of_ble_eq_true rfl) (hvo hP) ?_
            rintro _ σ ⟨rfl, rfl⟩
            refine cR ?_
            refine x_sr (ls1 := [some (vR (some 2187)), some (vR (some pr)), some (vR (some tb)), some (vR (some ks)), some (vI 1), some (vI i), some (vI bb), some (vI sg), some (vR none), x9]) T_111_71 rfl ?_
            refine x_li (z := sg) T_111_73 rfl ?_
            refine x_ic T_111_75 ?_
            refine x_ic2 T_111_77 (fun h => absurd (show sg < 48 from h) (by omega)) (fun _ => ?_)
            refine x_li (z := sg) T_111_80 rfl ?_
            refine x_ic T_111_82 ?_
            refine x_ic2 T_111_84 (fun h => absurd (show 57 < sg from h) (by omega)) (fun _ => ?_)
            refine x_li (z := sg) T_111_87 rfl ?_
            refine x_ic T_111_89 ?_
            refine x_ib (w := (sg - 48)) T_111_91 (fun h => absurd h.1 (by decide)) (w32_id (by omega) (by omega)) ?_
            refine x_ic T_111_92 ?_
            refine x_ib (w := ((sg - 48) + 1)) T_111_93 (fun h => absurd h.1 (by decide)) (w32_id (by omega) (by omega)) ?_
            refine x_si (ls1 := [some (vR (some 2187)), some (vR (some pr)), some (vR (some tb)), some (vR (some ks)), some (vI 1), some (vI i), some (vI bb), some (vI sg), some (vR none), some (vI ((sg - 48) + 1))]) T_111_94 rfl ?_
            refine x_lr (z := some ks) T_111_96 rfl ?_
            refine x_nul T_111_97 (fun h0 => absurd h0 (by simp)) (fun _ _ => ?_)
            refine x_lr (z := some tb) T_111_100 rfl ?_
            refine x_lr (z := some ks) T_111_101 rfl ?_
            refine x_gR (z := some (ks + 1)) T_111_102 F_16_0 (hP.o hko) (hP.rc hko rfl rfl) ?_
            refine x_lr (z := some ks) T_111_105 rfl ?_
            refine x_li (z := ((sg - 48) + 1)) T_111_106 rfl ?_
            refine x_cv2 T_111_108 mN_104 mL_104 (Nat.le_of_ble_eq_true rfl) mO_104 (hP.o hko) (Nat.le_of_ble_eq_true rfl) (hso σ hP) ?_
            rintro _ σ ⟨rfl, rfl⟩
            refine cI ?_
            refine x_lr (z := some ks) T_111_111 rfl ?_
            refine x_li (z := ((sg - 48) + 1)) T_111_112 rfl ?_
            refine x_cv2 T_111_114 mN_106 mL_106 (Nat.le_of_ble_eq_true rfl) mO_106 (hP.o hko) (Nat.le_of_ble_eq_true rfl) (heo σ hP) ?_
            rintro _ σ ⟨rfl, rfl⟩
            refine cI ?_
            refine x_cv4 T_111_117 mN_32 mL_32 (Nat.le_of_ble_eq_true rfl) mO_32 (hP.o htx) (Nat.le_of_ble_eq_true rfl) (had σ hP) ?_
            clear hP
            rintro _ σ ⟨rfl, V2, hP, hB2, hF2⟩
            refine cI ?_
            refine x_if T_111_120 (fun h => absurd (show (1 : Int) = 0 from h) (by decide)) (fun _ => ?_)
            refine x_ic T_111_123 ?_
            refine x_goto T_111_124 ?_
            refine x_si (ls1 := [some (vR (some 2187)), some (vR (some pr)), some (vR (some tb)), some (vR (some ks)), some (vI 1), some (vI i), some (vI bb), some (vI sg), some (vR none), some (vI ((sg - 48) + 1))]) T_111_128 rfl ?_
            refine x_inc (w := (i + 1)) (ls1 := [some (vR (some 2187)), some (vR (some pr)), some (vR (some tb)), some (vR (some ks)), some (vI 1), some (vI (i + 1)), some (vI bb), some (vI sg), some (vR none), some (vI ((sg - 48) + 1))]) T_111_130 rfl (w32_id (by omega) (by omega)) rfl ?_
            refine x_goto T_111_133 ?_
            refine x_inc (w := ((i + 1) + 1)) (ls1 := [some (vR (some 2187)), some (vR (some pr)), some (vR (some tb)), some (vR (some ks)), some (vI 1), some (vI ((i + 1) + 1)), some (vI bb), some (vI sg), some (vR none), some (vI ((sg - 48) + 1))]) T_111_186 rfl (w32_id (by omega) (by omega)) rfl ?_
            refine x_goto T_111_189 ?_
            rw [e2]
            exact hgo σ V2 hP hB2 hF2 _
          · simp only [if_neg c] at hgo had
            refine x_si (ls1 := [some (vR (some 2187)), some (vR (some pr)), some (vR (some tb)), some (vR (some ks)), some (vI 1), some (vI i), some (vI bb), some (vI sg), x8, x9]) T_111_60 rfl ?_
            refine x_lr (z := some pr) T_111_62 rfl ?_
            refine x_li (z := sg) T_111_63 rfl ?_
            refine x_ic T_111_65 ?_
            refine x_ib (w := (sg - 97)) T_111_67 (fun h => absurd h.1 (by decide)) (w32_id (by omega) (by omega)) ?_
            refine x_cv2 T_111_68 mN_107 mL_107 (Nat.le_of_ble_eq_true rfl) mO_107 (hP.o hpo) (Nat.le_of_ble_eq_true rfl) (hvo hP) ?_
            rintro _ σ ⟨rfl, rfl⟩
            refine cR ?_
            refine x_sr (ls1 := [some (vR (some 2187)), some (vR (some pr)), some (vR (some tb)), some (vR (some ks)), some (vI 1), some (vI i), some (vI bb), some (vI sg), some (vR none), x9]) T_111_71 rfl ?_
            refine x_li (z := sg) T_111_73 rfl ?_
            refine x_ic T_111_75 ?_
            refine x_ic2 T_111_77 (fun h => absurd (show sg < 48 from h) (by omega)) (fun _ => ?_)
            refine x_li (z := sg) T_111_80 rfl ?_
            refine x_ic T_111_82 ?_
            refine x_ic2 T_111_84 (fun h => absurd (show 57 < sg from h) (by omega)) (fun _ => ?_)
            refine x_li (z := sg) T_111_87 rfl ?_
            refine x_ic T_111_89 ?_
            refine x_ib (w := (sg - 48)) T_111_91 (fun h => absurd h.1 (by decide)) (w32_id (by omega) (by omega)) ?_
            refine x_ic T_111_92 ?_
            refine x_ib (w := ((sg - 48) + 1)) T_111_93 (fun h => absurd h.1 (by decide)) (w32_id (by omega) (by omega)) ?_
            refine x_si (ls1 := [some (vR (some 2187)), some (vR (some pr)), some (vR (some tb)), some (vR (some ks)), some (vI 1), some (vI i), some (vI bb), some (vI sg), some (vR none), some (vI ((sg - 48) + 1))]) T_111_94 rfl ?_
            refine x_lr (z := some ks) T_111_96 rfl ?_
            refine x_nul T_111_97 (fun h0 => absurd h0 (by simp)) (fun _ _ => ?_)
            refine x_lr (z := some tb) T_111_100 rfl ?_
            refine x_lr (z := some ks) T_111_101 rfl ?_
            refine x_gR (z := some (ks + 1)) T_111_102 F_16_0 (hP.o hko) (hP.rc hko rfl rfl) ?_
            refine x_lr (z := some ks) T_111_105 rfl ?_
            refine x_li (z := ((sg - 48) + 1)) T_111_106 rfl ?_
            refine x_cv2 T_111_108 mN_104 mL_104 (Nat.le_of_ble_eq_true rfl) mO_104 (hP.o hko) (Nat.le_of_ble_eq_true rfl) (hso σ hP) ?_
            rintro _ σ ⟨rfl, rfl⟩
            refine cI ?_
            refine x_lr (z := some ks) T_111_111 rfl ?_
            refine x_li (z := ((sg - 48) + 1)) T_111_112 rfl ?_
            refine x_cv2 T_111_114 mN_106 mL_106 (Nat.le_of_ble_eq_true rfl) mO_106 (hP.o hko) (Nat.le_of_ble_eq_true rfl) (heo σ hP) ?_
            rintro _ σ ⟨rfl, rfl⟩
            refine cI ?_
            refine x_cv4 T_111_117 mN_32 mL_32 (Nat.le_of_ble_eq_true rfl) mO_32 (hP.o htx) (Nat.le_of_ble_eq_true rfl) (had σ hP) ?_
            clear hP
            rintro _ σ ⟨rfl, V2, hP, hB2, hF2⟩
            refine cI ?_
            refine x_if T_111_120 (fun _ => ?_) (fun h => absurd (show (0 : Int) = 0 by rfl) h)
            refine x_ic T_111_127 ?_
            refine x_si (ls1 := [some (vR (some 2187)), some (vR (some pr)), some (vR (some tb)), some (vR (some ks)), some (vI 0), some (vI i), some (vI bb), some (vI sg), some (vR none), some (vI ((sg - 48) + 1))]) T_111_128 rfl ?_
            refine x_inc (w := (i + 1)) (ls1 := [some (vR (some 2187)), some (vR (some pr)), some (vR (some tb)), some (vR (some ks)), some (vI 0), some (vI (i + 1)), some (vI bb), some (vI sg), some (vR none), some (vI ((sg - 48) + 1))]) T_111_130 rfl (w32_id (by omega) (by omega)) rfl ?_
            refine x_goto T_111_133 ?_
            refine x_inc (w := ((i + 1) + 1)) (ls1 := [some (vR (some 2187)), some (vR (some pr)), some (vR (some tb)), some (vR (some ks)), some (vI 0), some (vI ((i + 1) + 1)), some (vI bb), some (vI sg), some (vR none), some (vI ((sg - 48) + 1))]) T_111_186 rfl (w32_id (by omega) (by omega)) rfl ?_
            refine x_goto T_111_189 ?_
            rw [e2]
            exact hgo σ V2 hP hB2 hF2 _
      rw [if_neg a1] at hRS
      by_cases a2 : 97 ≤ sg ∧ sg ≤ 122
      · rw [if_pos a2] at hRS
        rw [← hRS]
        rw [if_pos (show 0 ≤ sg - 97 ∧ sg - 97 < 26 by omega)] at hvo
        have hvB := hlv.2.2.2.2.2 (sg - 97) (by omega) (by omega)
        have hvV := hF.by hvB (by omega)
        obtain ⟨zv, hzv⟩ : ∃ y : Int, ((varL P p (sg - 97)).length : Int) = y := ⟨_, rfl⟩
        have hsv := fun (hP : PX σ0 V R σ) => x_size (fb := fb) (d := d) hP hvV hzv
        have had := fun (hP : PX σ0 V R σ) => (x_addAll (fb := fb) (d := d) (s := 0) (e := zv) hP hB hvV (by omega) (Or.inr (by decide)) (by rw [← hzv]; exact Int.le_refl _)).mono (Q := fun r σ' => r = some (vI (if C.length + (varL P p (sg - 97)).length ≤ 100 then 1 else 0)) ∧ ∃ V2, PX σ0 V2 R σ' ∧ BY V2 tb 100 ((C ++ varL P p (sg - 97)).take 100) ∧ FB tb V V2) (fun r σ' h => by
          obtain ⟨rfl, V2, r1, r2, r3⟩ := h
          have e5 : seg (lg (varL P p (sg - 97))) 0 (zv - 0).toNat = varL P p (sg - 97) := by
            rw [show (zv - 0).toNat = (varL P p (sg - 97)).length by omega]
            exact seg_all
          have e6 : (zv - 0).toNat = (varL P p (sg - 97)).length := by omega
          have r2 : BY V2 tb 100 ((C ++ seg (lg (varL P p (sg - 97))) 0 (zv - 0).toNat).take 100) := r2
          rw [e5] at r2
          exact ⟨by rw [e6], V2, r1, r2, r3⟩)
        obtain ⟨fl, hfl⟩ : ∃ y : Int, (if C.length + (varL P p (sg - 97)).length ≤ 100 then (1 : Int) else 0) = y := ⟨_, rfl⟩
        have hgo := fun (σ : hM) (V2 : qR) (vb : Nat) (hP : PX σ0 V2 R σ) (hB2 : BY V2 tb 100 ((C ++ varL P p (sg - 97)).take 100)) (hF2 : FB tb V V2) (x9 : Option AV) => hcon (varL P p (sg - 97)) (i + 2) σ V2 (some (vI bb)) (some (vI sg)) (some (vR (some vb))) x9 (by omega) hP (FB_tr hF hF2) hB2
        have e2 : i + 1 + 1 = i + 2 := by omega
        have hvt := hvB.1
        obtain ⟨vb, hvb⟩ : ∃ y, prO p + 7 + 2 * (sg - 97).toNat = y := ⟨_, rfl⟩
        obtain ⟨pr, hpr⟩ : ∃ y, prO p = y := ⟨_, rfl⟩
        simp only [hfl, hvb] at hgo had hvo hsv hvt
        simp only [hpr] at hpo hvo hgo ⊢
        refine x_si (ls1 := [some (vR (some 2187)), some (vR (some pr)), some (vR (some tb)), some (vR sc), some (vI 1), some (vI i), some (vI bb), some (vI sg), x8, x9]) T_111_60 rfl ?_
        refine x_lr (z := some pr) T_111_62 rfl ?_
        refine x_li (z := sg) T_111_63 rfl ?_
        refine x_ic T_111_65 ?_
        refine x_ib (w := (sg - 97)) T_111_67 (fun h => absurd h.1 (by decide)) (w32_id (by omega) (by omega)) ?_
        refine x_cv2 T_111_68 mN_107 mL_107 (Nat.le_of_ble_eq_true rfl) mO_107 (hP.o hpo) (Nat.le_of_ble_eq_true rfl) (hvo hP) ?_
        rintro _ σ ⟨rfl, rfl⟩
        refine cR ?_
        refine x_sr (ls1 := [some (vR (some 2187)), some (vR (some pr)), some (vR (some tb)), some (vR sc), some (vI 1), some (vI i), some (vI bb), some (vI sg), some (vR (some vb)), x9]) T_111_71 rfl ?_
        refine x_li (z := sg) T_111_73 rfl ?_
        refine x_ic T_111_75 ?_
        refine x_ic2 T_111_77 (fun h => absurd (show sg < 48 from h) (by omega)) (fun _ => ?_)
        refine x_li (z := sg) T_111_80 rfl ?_
        refine x_ic T_111_82 ?_
        refine x_ic2 T_111_84 (fun _ => ?_) (fun h => absurd (show 57 < sg by omega) h)
        refine x_lr (z := some vb) T_111_136 rfl ?_
        refine x_nul T_111_138 (fun h0 => absurd h0 (by simp)) (fun _ _ => ?_)
        refine x_lr (z := some tb) T_111_141 rfl ?_
        refine x_lr (z := some vb) T_111_142 rfl ?_
        refine x_ic T_111_144 ?_
        refine x_lr (z := some vb) T_111_145 rfl ?_
        refine x_cv1 T_111_147 mN_28 mL_28 (Nat.le_of_ble_eq_true rfl) mO_28 (hP.o hvt) (Nat.le_of_ble_eq_true rfl) (hsv hP) ?_
        rintro _ σ ⟨rfl, rfl⟩
        refine cI ?_
        refine x_cv4 T_111_150 mN_32 mL_32 (Nat.le_of_ble_eq_true rfl) mO_32 (hP.o htx) (Nat.le_of_ble_eq_true rfl) (had hP) ?_
        clear hP
        rintro _ σ ⟨rfl, V2, hP, hB2, hF2⟩
        refine cI ?_
        refine x_si (ls1 := [some (vR (some 2187)), some (vR (some pr)), some (vR (some tb)), some (vR sc), some (vI fl), some (vI i), some (vI bb), some (vI sg), some (vR (some vb)), x9]) T_111_153 rfl ?_
        refine x_inc (w := (i + 1)) (ls1 := [some (vR (some 2187)), some (vR (some pr)), some (vR (some tb)), some (vR sc), some (vI fl), some (vI (i + 1)), some (vI bb), some (vI sg), some (vR (some vb)), x9]) T_111_155 rfl (w32_id (by omega) (by omega)) rfl ?_
        refine x_goto T_111_158 ?_
        refine x_inc (w := ((i + 1) + 1)) (ls1 := [some (vR (some 2187)), some (vR (some pr)), some (vR (some tb)), some (vR sc), some (vI fl), some (vI ((i + 1) + 1)), some (vI bb), some (vI sg), some (vR (some vb)), x9]) T_111_186 rfl (w32_id (by omega) (by omega)) rfl ?_
        refine x_goto T_111_189 ?_
        rw [e2]
        exact hgo σ V2 vb hP hB2 hF2 _
      · rw [if_neg a2] at hRS
        rw [← hRS]
        rw [if_neg (show ¬ (0 ≤ sg - 97 ∧ sg - 97 < 26) by omega)] at hvo
        have had := fun (hP : PX σ0 V R σ) => (x_add (fb := fb) (d := d) (x := bb) hP hB hb0).mono (Q := fun r σ' => r = some (vI (if C.length + [bb].length ≤ 100 then 1 else 0)) ∧ ∃ V2, PX σ0 V2 R σ' ∧ BY V2 tb 100 ((C ++ [bb]).take 100) ∧ FB tb V V2) (fun r σ' h => by
          obtain ⟨rfl, V2, r1, r2, r3⟩ := h
          rw [tk1 h3] at r2
          have e8 : (if (C.length : Int) < ((100 : Nat) : Int) then (1 : Int) else 0) = if C.length + [bb].length ≤ 100 then 1 else 0 := by
            by_cases c : (C.length : Int) < ((100 : Nat) : Int)
            · rw [if_pos c, if_pos (show C.length + [bb].length ≤ 100 by show C.length + 1 ≤ 100; omega)]
            · rw [if_neg c, if_neg (show ¬ C.length + [bb].length ≤ 100 by show ¬ C.length + 1 ≤ 100; omega)]
          exact ⟨by rw [e8], V2, r1, r2, r3⟩)
        obtain ⟨fl, hfl⟩ : ∃ y : Int, (if C.length + [bb].length ≤ 100 then (1 : Int) else 0) = y := ⟨_, rfl⟩
        have hgo := fun (j : Int) (hj : i < j) (σ : hM) (V2 : qR) (hP : PX σ0 V2 R σ) (hB2 : BY V2 tb 100 ((C ++ [bb]).take 100)) (hF2 : FB tb V V2) (x9 : Option AV) => hcon [bb] j σ V2 (some (vI bb)) (some (vI sg)) (some (vR none)) x9 hj hP (FB_tr hF hF2) hB2
        simp only [hfl] at hgo had
        by_cases c : sg = 36
        · rw [if_pos c]
          have hgo := hgo (i + 2) (by omega)
          have e2 : i + 1 + 1 = i + 2 := by omega
          obtain ⟨pr, hpr⟩ : ∃ y, prO p = y := ⟨_, rfl⟩
          simp only [hpr] at hpo hvo hgo ⊢
          refine x_si (ls1 := [some (vR (some 2187)), some (vR (some pr)), some (vR (some tb)), some (vR sc), some (vI 1), some (vI i), some (vI bb), some (vI sg), x8, x9]) T_111_60 rfl ?_
          refine x_lr (z := some pr) T_111_62 rfl ?_
          refine x_li (z := sg) T_111_63 rfl ?_
          refine x_ic T_111_65 ?_
          refine x_ib (w := (sg - 97)) T_111_67 (fun h => absurd h.1 (by decide)) (w32_id (by omega) (by omega)) ?_
          refine x_cv2 T_111_68 mN_107 mL_107 (Nat.le_of_ble_eq_true rfl) mO_107 (hP.o hpo) (Nat.le_of_ble_eq_true rfl) (hvo hP) ?_
          rintro _ σ ⟨rfl, rfl⟩
          refine cR ?_
          refine x_sr (ls1 := [some (vR (some 2187)), some (vR (some pr)), some (vR (some tb)), some (vR sc), some (vI 1), some (vI i), some (vI bb), some (vI sg), some (vR none), x9]) T_111_71 rfl ?_
          refine x_li (z := sg) T_111_73 rfl ?_
          refine x_ic T_111_75 ?_
          refine x_ic2 T_111_77 (fun _ => ?_) (fun h => absurd (show sg < 48 by omega) h)
          refine x_lr (z := none) T_111_136 rfl ?_
          refine x_nul T_111_138 (fun _ => ?_) (fun a0 h0 => absurd h0 (by simp))
          refine x_lr (z := some tb) T_111_161 rfl ?_
          refine x_li (z := bb) T_111_162 rfl ?_
          refine x_cv2 T_111_164 mN_73 mL_73 (Nat.le_of_ble_eq_true rfl) mO_73 (hP.o htx) (Nat.le_of_ble_eq_true rfl) (had hP) ?_
          clear hP
          rintro _ σ ⟨rfl, V2, hP, hB2, hF2⟩
          refine cI ?_
          refine x_si (ls1 := [some (vR (some 2187)), some (vR (some pr)), some (vR (some tb)), some (vR sc), some (vI fl), some (vI i), some (vI bb), some (vI sg), some (vR none), x9]) T_111_167 rfl ?_
          refine x_li (z := i) T_111_169 rfl ?_
          refine x_li (z := sg) T_111_171 rfl ?_
          refine x_ic T_111_173 ?_
          refine x_ic2 T_111_175 (fun h => absurd (show ¬ sg = 36 from h) (by exact fun h => h c)) (fun _ => ?_)
          refine x_ic T_111_178 ?_
          refine x_goto T_111_179 ?_
          refine x_ib (w := (i + 1)) T_111_183 (fun h => absurd h.1 (by decide)) (w32_id (by omega) (by omega)) ?_
          refine x_si (ls1 := [some (vR (some 2187)), some (vR (some pr)), some (vR (some tb)), some (vR sc), some (vI fl), some (vI (i + 1)), some (vI bb), some (vI sg), some (vR none), x9]) T_111_184 rfl ?_
          refine x_inc (w := ((i + 1) + 1)) (ls1 := [some (vR (some 2187)), some (vR (some pr)), some (vR (some tb)), some (vR sc), some (vI fl), some (vI ((i + 1) + 1)), some (vI bb), some (vI sg), some (vR none), x9]) T_111_186 rfl (w32_id (by omega) (by omega)) rfl ?_
          refine x_goto T_111_189 ?_
          rw [e2]
          exact hgo σ V2 hP hB2 hF2 _
        · rw [if_neg c]
          have hgo := hgo (i + 1) (by omega)
          obtain ⟨pr, hpr⟩ : ∃ y, prO p = y := ⟨_, rfl⟩
          simp only [hpr] at hpo hvo hgo ⊢
          refine x_si (ls1 := [some (vR (some 2187)), some (vR (some pr)), some (vR (some tb)), some (vR sc), some (vI 1), some (vI i), some (vI bb), some (vI sg), x8, x9]) T_111_60 rfl ?_
          refine x_lr (z := some pr) T_111_62 rfl ?_
          refine x_li (z := sg) T_111_63 rfl ?_
          refine x_ic T_111_65 ?_
          refine x_ib (w := (sg - 97)) T_111_67 (fun h => absurd h.1 (by decide)) (w32_id (by omega) (by omega)) ?_
          refine x_cv2 T_111_68 mN_107 mL_107 (Nat.le_of_ble_eq_true rfl) mO_107 (hP.o hpo) (Nat.le_of_ble_eq_true rfl) (hvo hP) ?_
          rintro _ σ ⟨rfl, rfl⟩
          refine cR ?_
          refine x_sr (ls1 := [some (vR (some 2187)), some (vR (some pr)), some (vR (some tb)), some (vR sc), some (vI 1), some (vI i), some (vI bb), some (vI sg), some (vR none), x9]) T_111_71 rfl ?_
          refine x_li (z := sg) T_111_73 rfl ?_
          refine x_ic T_111_75 ?_
          refine x_ic2 T_111_77 (fun h77 => ?_) (fun h77 => ?_)
          · replace h77 : sg < 48 := h77
            refine x_lr (z := none) T_111_136 rfl ?_
            refine x_nul T_111_138 (fun _ => ?_) (fun a0 h0 => absurd h0 (by simp))
            refine x_lr (z := some tb) T_111_161 rfl ?_
            refine x_li (z := bb) T_111_162 rfl ?_
            refine x_cv2 T_111_164 mN_73 mL_73 (Nat.le_of_ble_eq_true rfl) mO_73 (hP.o htx) (Nat.le_of_ble_eq_true rfl) (had hP) ?_
            clear hP
            rintro _ σ ⟨rfl, V2, hP, hB2, hF2⟩
            refine cI ?_
            refine x_si (ls1 := [some (vR (some 2187)), some (vR (some pr)), some (vR (some tb)), some (vR sc), some (vI fl), some (vI i), some (vI bb), some (vI sg), some (vR none), x9]) T_111_167 rfl ?_
            refine x_li (z := i) T_111_169 rfl ?_
            refine x_li (z := sg) T_111_171 rfl ?_
            refine x_ic T_111_173 ?_
            refine x_ic2 T_111_175 (fun _ => ?_) (fun h => absurd (show ¬ sg = 36 by exact c) h)
            refine x_ic T_111_182 ?_
            refine x_ib (w := i) T_111_183 (fun h => absurd h.1 (by decide)) (show w32 (i + 0) = i by rw [Int.add_zero]; exact w32_id (by omega) (by omega)) ?_
            refine x_si (ls1 := [some (vR (some 2187)), some (vR (some pr)), some (vR (some tb)), some (vR sc), some (vI fl), some (vI i), some (vI bb), some (vI sg), some (vR none), x9]) T_111_184 rfl ?_
            refine x_inc (w := (i + 1)) (ls1 := [some (vR (some 2187)), some (vR (some pr)), some (vR (some tb)), some (vR sc), some (vI fl), some (vI (i + 1)), some (vI bb), some (vI sg), some (vR none), x9]) T_111_186 rfl (w32_id (by omega) (by omega)) rfl ?_
            refine x_goto T_111_189 ?_
            exact hgo σ V2 hP hB2 hF2 _
          · replace h77 : ¬ (sg < 48) := h77
            refine x_li (z := sg) T_111_80 rfl ?_
            refine x_ic T_111_82 ?_
            refine x_ic2 T_111_84 (fun _ => ?_) (fun h => absurd (show 57 < sg by omega) h)
            refine x_lr (z := none) T_111_136 rfl ?_
            refine x_nul T_111_138 (fun _ => ?_) (fun a0 h0 => absurd h0 (by simp))
            refine x_lr (z := some tb) T_111_161 rfl ?_
            refine x_li (z := bb) T_111_162 rfl ?_
            refine x_cv2 T_111_164 mN_73 mL_73 (Nat.le_of_ble_eq_true rfl) mO_73 (hP.o htx) (Nat.le_of_ble_eq_true rfl) (had hP) ?_
            clear hP
            rintro _ σ ⟨rfl, V2, hP, hB2, hF2⟩
            refine cI ?_
            refine x_si (ls1 := [some (vR (some 2187)), some (vR (some pr)), some (vR (some tb)), some (vR sc), some (vI fl), some (vI i), some (vI bb), some (vI sg), some (vR none), x9]) T_111_167 rfl ?_
            refine x_li (z := i) T_111_169 rfl ?_
            refine x_li (z := sg) T_111_171 rfl ?_
            refine x_ic T_111_173 ?_
            refine x_ic2 T_111_175 (fun _ => ?_) (fun h => absurd (show ¬ sg = 36 by exact c) h)
            refine x_ic T_111_182 ?_
            refine x_ib (w := i) T_111_183 (fun h => absurd h.1 (by decide)) (show w32 (i + 0) = i by rw [Int.add_zero]; exact w32_id (by omega) (by omega)) ?_
            refine x_si (ls1 := [some (vR (some 2187)), some (vR (some pr)), some (vR (some tb)), some (vR sc), some (vI fl), some (vI i), some (vI bb), some (vI sg), some (vR none), x9]) T_111_184 rfl ?_
            refine x_inc (w := (i + 1)) (ls1 := [some (vR (some 2187)), some (vR (some pr)), some (vR (some tb)), some (vR sc), some (vI fl), some (vI (i + 1)), some (vI bb), some (vI sg), some (vR none), x9]) T_111_186 rfl (w32_id (by omega) (by omega)) rfl ?_
            refine x_goto T_111_189 ?_
            exact hgo σ V2 hP hB2 hF2 _
    obtain ⟨pr, hpr⟩ : ∃ y, prO p = y := ⟨_, rfl⟩
    simp only [hpr] at hpo h60 ⊢
    by_cases c1 : bb = 36
    · by_cases c2 : i + 1 < z
      · rw [if_pos ⟨c1, c2⟩] at eN
        rw [if_pos ⟨by omega, by omega⟩, ← eN] at hat1
        refine x_li (z := i) T_111_10 rfl ?_
        refine x_lr (z := some 2187) T_111_12 rfl ?_
        refine x_gR (z := some 2189) T_111_13 F_15_1 (hP.o xo_2187) (hP.rc xo_2187 rfl rfl) ?_
        refine x_cv1 T_111_16 mN_28 mL_28 (Nat.le_of_ble_eq_true rfl) mO_28 (hP.o xo_2189) (Nat.le_of_ble_eq_true rfl) (hsz hP) ?_
        rintro _ σ ⟨rfl, rfl⟩
        refine cI ?_
        refine x_ic2 T_111_19 (fun h => absurd (show z ≤ i from h) (by omega)) (fun _ => ?_)
        refine x_li (z := 1) T_111_22 rfl ?_
        refine x_if T_111_24 (fun h => absurd (show (1 : Int) = 0 from h) (by decide)) (fun _ => ?_)
        refine x_lr (z := some 2187) T_111_27 rfl ?_
        refine x_gR (z := some 2189) T_111_28 F_15_1 (hP.o xo_2187) (hP.rc xo_2187 rfl rfl) ?_
        refine x_li (z := i) T_111_31 rfl ?_
        refine x_cv2 T_111_33 mN_33 mL_33 (Nat.le_of_ble_eq_true rfl) mO_33 (hP.o xo_2189) (Nat.le_of_ble_eq_true rfl) (hat0 hP) ?_
        rintro _ σ ⟨rfl, rfl⟩
        refine cI ?_
        refine x_si (ls1 := [some (vR (some 2187)), some (vR (some pr)), some (vR (some tb)), some (vR sc), some (vI 1), some (vI i), some (vI bb), x7, x8, x9]) T_111_36 rfl ?_
        refine x_li (z := bb) T_111_38 rfl ?_
        refine x_ic T_111_40 ?_
        refine x_ic2 T_111_42 (fun h => absurd (show ¬ bb = 36 from h) (by exact fun h => h c1)) (fun _ => ?_)
        refine x_lr (z := some 2187) T_111_45 rfl ?_
        refine x_gR (z := some 2189) T_111_46 F_15_1 (hP.o xo_2187) (hP.rc xo_2187 rfl rfl) ?_
        refine x_li (z := i) T_111_49 rfl ?_
        refine x_ic T_111_51 ?_
        refine x_ib (w := (i + 1)) T_111_52 (fun h => absurd h.1 (by decide)) (w32_id (by omega) (by omega)) ?_
        refine x_cv2 T_111_53 mN_33 mL_33 (Nat.le_of_ble_eq_true rfl) mO_33 (hP.o xo_2189) (Nat.le_of_ble_eq_true rfl) (hat1 hP) ?_
        rintro _ σ ⟨rfl, rfl⟩
        refine cI ?_
        refine x_goto T_111_56 ?_
        exact h60 _ _ _
      · rw [if_neg (fun h => c2 h.2)] at eN
        rw [if_neg (fun h => c2 (by omega)), ← eN] at hat1
        refine x_li (z := i) T_111_10 rfl ?_
        refine x_lr (z := some 2187) T_111_12 rfl ?_
        refine x_gR (z := some 2189) T_111_13 F_15_1 (hP.o xo_2187) (hP.rc xo_2187 rfl rfl) ?_
        refine x_cv1 T_111_16 mN_28 mL_28 (Nat.le_of_ble_eq_true rfl) mO_28 (hP.o xo_2189) (Nat.le_of_ble_eq_true rfl) (hsz hP) ?_
        rintro _ σ ⟨rfl, rfl⟩
        refine cI ?_
        refine x_ic2 T_111_19 (fun h => absurd (show z ≤ i from h) (by omega)) (fun _ => ?_)
        refine x_li (z := 1) T_111_22 rfl ?_
        refine x_if T_111_24 (fun h => absurd (show (1 : Int) = 0 from h) (by decide)) (fun _ => ?_)
        refine x_lr (z := some 2187) T_111_27 rfl ?_
        refine x_gR (z := some 2189) T_111_28 F_15_1 (hP.o xo_2187) (hP.rc xo_2187 rfl rfl) ?_
        refine x_li (z := i) T_111_31 rfl ?_
        refine x_cv2 T_111_33 mN_33 mL_33 (Nat.le_of_ble_eq_true rfl) mO_33 (hP.o xo_2189) (Nat.le_of_ble_eq_true rfl) (hat0 hP) ?_
        rintro _ σ ⟨rfl, rfl⟩
        refine cI ?_
        refine x_si (ls1 := [some (vR (some 2187)), some (vR (some pr)), some (vR (some tb)), some (vR sc), some (vI 1), some (vI i), some (vI bb), x7, x8, x9]) T_111_36 rfl ?_
        refine x_li (z := bb) T_111_38 rfl ?_
        refine x_ic T_111_40 ?_
        refine x_ic2 T_111_42 (fun h => absurd (show ¬ bb = 36 from h) (by exact fun h => h c1)) (fun _ => ?_)
        refine x_lr (z := some 2187) T_111_45 rfl ?_
        refine x_gR (z := some 2189) T_111_46 F_15_1 (hP.o xo_2187) (hP.rc xo_2187 rfl rfl) ?_
        refine x_li (z := i) T_111_49 rfl ?_
        refine x_ic T_111_51 ?_
        refine x_ib (w := (i + 1)) T_111_52 (fun h => absurd h.1 (by decide)) (w32_id (by omega) (by omega)) ?_
        refine x_cv2 T_111_53 mN_33 mL_33 (Nat.le_of_ble_eq_true rfl) mO_33 (hP.o xo_2189) (Nat.le_of_ble_eq_true rfl) (hat1 hP) ?_
        rintro _ σ ⟨rfl, rfl⟩
        refine cI ?_
        refine x_goto T_111_56 ?_
        exact h60 _ _ _
    · rw [if_neg (fun h => c1 h.1)] at eN
      subst eN
      refine x_li (z := i) T_111_10 rfl ?_
      refine x_lr (z := some 2187) T_111_12 rfl ?_
      refine x_gR (z := some 2189) T_111_13 F_15_1 (hP.o xo_2187) (hP.rc xo_2187 rfl rfl) ?_
      refine x_cv1 T_111_16 mN_28 mL_28 (Nat.le_of_ble_eq_true rfl) mO_28 (hP.o xo_2189) (Nat.le_of_ble_eq_true rfl) (hsz hP) ?_
      rintro _ σ ⟨rfl, rfl⟩
      refine cI ?_
      refine x_ic2 T_111_19 (fun h => absurd (show z ≤ i from h) (by omega)) (fun _ => ?_)
      refine x_li (z := 1) T_111_22 rfl ?_
      refine x_if T_111_24 (fun h => absurd (show (1 : Int) = 0 from h) (by decide)) (fun _ => ?_)
      refine x_lr (z := some 2187) T_111_27 rfl ?_
      refine x_gR (z := some 2189) T_111_28 F_15_1 (hP.o xo_2187) (hP.rc xo_2187 rfl rfl) ?_
      refine x_li (z := i) T_111_31 rfl ?_
      refine x_cv2 T_111_33 mN_33 mL_33 (Nat.le_of_ble_eq_true rfl) mO_33 (hP.o xo_2189) (Nat.le_of_ble_eq_true rfl) (hat0 hP) ?_
      rintro _ σ ⟨rfl, rfl⟩
      refine cI ?_
      refine x_si (ls1 := [some (vR (some 2187)), some (vR (some pr)), some (vR (some tb)), some (vR sc), some (vI 1), some (vI i), some (vI bb), x7, x8, x9]) T_111_36 rfl ?_
      refine x_li (z := bb) T_111_38 rfl ?_
      refine x_ic T_111_40 ?_
      refine x_ic2 T_111_42 (fun _ => ?_) (fun h => absurd (show ¬ bb = 36 by exact c1) h)
      refine x_ic T_111_59 ?_
      exact h60 _ _ _
theorem x_expand (hP : PX σ0 W R σ) (hp : 0 ≤ p ∧ p < 8) (hlv : LIV W R P p) (hS : BY W 2189 100 src) (htb : 2191 ≤ tb) (hSH : SH tb 100) (hsc : SCP W tb ar sc) : CL fb (d + 1) 111 [vR (some 2187), vR (some (prO p)), vR (some tb), vR sc] σ (XEX σ0 W R tb (exL P p ar 1 src)) := by
  have hpo := prO_o hp
  have htx := hSH.1
  have hcl := x_clear0 (fb := fb) (d := d) hP hSH
  have hlo := fun (σ : hM) (V : qR) (hP : PX σ0 V R σ) (hB : BY V tb 100 []) (hF : FB tb W V) => exp_loop (fb := fb) (d := d) (σ0 := σ0) (R := R) (P := P) hp hlv hS htb htx hsc src.length 0 [] σ V none none none none (by omega) (by decide) (by decide) hP hF hB
  obtain ⟨pr, hpr⟩ : ∃ y, prO p = y := ⟨_, rfl⟩
  simp only [hpr] at hpo hlo ⊢
  refine CL_in mL_111 rfl ?_
  show WP fb _ 111 0 [some (vR (some 2187)), some (vR (some pr)), some (vR (some tb)), some (vR sc), none, none, none, none, none, none] [] σ _
  refine x_ic T_111_0 ?_
  refine x_si (ls1 := [some (vR (some 2187)), some (vR (some pr)), some (vR (some tb)), some (vR sc), some (vI 1), none, none, none, none, none]) T_111_1 rfl ?_
  refine x_lr (z := some tb) T_111_3 rfl ?_
  refine x_cv1 T_111_4 mN_27 mL_27 (Nat.le_of_ble_eq_true rfl) mO_27 (hP.o htx) (Nat.le_of_ble_eq_true rfl) (hcl) ?_
  clear hP
  rintro _ σ ⟨rfl, V, hP, hB, hF⟩
  refine cV ?_
  refine x_ic T_111_7 ?_
  refine x_si (ls1 := [some (vR (some 2187)), some (vR (some pr)), some (vR (some tb)), some (vR sc), some (vI 1), some (vI 0), none, none, none, none]) T_111_8 rfl ?_
  exact hlo σ V hP hB hF
end XSHE
