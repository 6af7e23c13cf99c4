/-! A word as a path: its bytes behind where the process is, its names, its plain form. -/
theorem T_328_54 : hTab 328 54 = some ((3, 6, 0, []), 56) := rfl
theorem T_328_56 : hTab 328 56 = some ((3, 0, 2, []), 57) := rfl
theorem T_328_57 : hTab 328 57 = some ((24, 17, Int.ofNat 56, []), 60) := rfl
theorem T_328_60 : hTab 328 60 = some ((3, 1, 0, []), 61) := rfl
theorem T_328_61 : hTab 328 61 = some ((26, 0, 0, []), 62) := rfl
theorem T_328_62 : hTab 328 62 = some ((19, 3, Int.ofNat 107, []), 65) := rfl
theorem T_328_65 : hTab 328 65 = some ((3, 5, 0, []), 67) := rfl
theorem T_328_67 : hTab 328 67 = some ((18, 0, Int.ofNat 107, []), 70) := rfl
theorem T_328_70 : hTab 328 70 = some ((3, 0, 2, []), 71) := rfl
theorem T_328_71 : hTab 328 71 = some ((24, 17, Int.ofNat 78, []), 74) := rfl
theorem T_328_74 : hTab 328 74 = some ((3, 0, 2, []), 75) := rfl
theorem T_328_75 : hTab 328 75 = some ((24, 17, Int.ofNat 79, []), 78) := rfl
theorem T_328_78 : hTab 328 78 = some ((3, 0, 2, []), 79) := rfl
theorem T_328_79 : hTab 328 79 = some ((24, 17, Int.ofNat 55, []), 82) := rfl
theorem T_328_82 : hTab 328 82 = some ((0, 0, 60, []), 84) := rfl
theorem T_328_84 : hTab 328 84 = some ((3, 1, 0, []), 85) := rfl
theorem T_328_85 : hTab 328 85 = some ((10, 2, 0, []), 86) := rfl
theorem T_328_86 : hTab 328 86 = some ((3, 6, 0, []), 88) := rfl
theorem T_328_88 : hTab 328 88 = some ((10, 0, 0, []), 89) := rfl
theorem T_328_89 : hTab 328 89 = some ((26, 0, 0, []), 90) := rfl
theorem T_328_90 : hTab 328 90 = some ((27, 0, 0, []), 91) := rfl
theorem T_328_91 : hTab 328 91 = some ((3, 0, 2, []), 92) := rfl
theorem T_328_92 : hTab 328 92 = some ((6, 0, 0, []), 93) := rfl
theorem T_328_93 : hTab 328 93 = some ((24, 17, Int.ofNat 79, []), 96) := rfl
theorem T_328_96 : hTab 328 96 = some ((0, 0, 1, []), 97) := rfl
theorem T_328_97 : hTab 328 97 = some ((10, 0, 0, []), 98) := rfl
theorem T_328_98 : hTab 328 98 = some ((25, 17, Int.ofNat 79, []), 101) := rfl
theorem T_328_101 : hTab 328 101 = some ((5, 6, 1, []), 104) := rfl
theorem T_328_104 : hTab 328 104 = some ((22, 0, Int.ofNat 54, []), 107) := rfl
theorem T_328_136 : hTab 328 136 = some ((3, 6, 0, []), 138) := rfl
theorem T_328_138 : hTab 328 138 = some ((3, 4, 0, []), 140) := rfl
theorem T_328_140 : hTab 328 140 = some ((19, 3, Int.ofNat 177, []), 143) := rfl
theorem T_328_143 : hTab 328 143 = some ((3, 0, 2, []), 144) := rfl
theorem T_328_144 : hTab 328 144 = some ((24, 17, Int.ofNat 78, []), 147) := rfl
theorem T_328_147 : hTab 328 147 = some ((3, 0, 2, []), 148) := rfl
theorem T_328_148 : hTab 328 148 = some ((24, 17, Int.ofNat 79, []), 151) := rfl
theorem T_328_151 : hTab 328 151 = some ((3, 0, 2, []), 152) := rfl
theorem T_328_152 : hTab 328 152 = some ((24, 17, Int.ofNat 73, []), 155) := rfl
theorem T_328_155 : hTab 328 155 = some ((3, 3, 0, []), 156) := rfl
theorem T_328_156 : hTab 328 156 = some ((3, 6, 0, []), 158) := rfl
theorem T_328_158 : hTab 328 158 = some ((10, 0, 0, []), 159) := rfl
theorem T_328_159 : hTab 328 159 = some ((26, 0, 0, []), 160) := rfl
theorem T_328_160 : hTab 328 160 = some ((27, 0, 0, []), 161) := rfl
theorem T_328_161 : hTab 328 161 = some ((3, 0, 2, []), 162) := rfl
theorem T_328_162 : hTab 328 162 = some ((6, 0, 0, []), 163) := rfl
theorem T_328_163 : hTab 328 163 = some ((24, 17, Int.ofNat 79, []), 166) := rfl
theorem T_328_166 : hTab 328 166 = some ((0, 0, 1, []), 167) := rfl
theorem T_328_167 : hTab 328 167 = some ((10, 0, 0, []), 168) := rfl
theorem T_328_168 : hTab 328 168 = some ((25, 17, Int.ofNat 79, []), 171) := rfl
theorem T_328_171 : hTab 328 171 = some ((5, 6, 1, []), 174) := rfl
theorem T_328_174 : hTab 328 174 = some ((22, 0, Int.ofNat 136, []), 177) := rfl
theorem T_330_17 : hTab 330 17 = some ((3, 3, 0, []), 18) := rfl
theorem T_330_18 : hTab 330 18 = some ((3, 0, 2, []), 19) := rfl
theorem T_330_19 : hTab 330 19 = some ((24, 17, Int.ofNat 79, []), 22) := rfl
theorem T_330_22 : hTab 330 22 = some ((19, 3, Int.ofNat 42, []), 25) := rfl
theorem T_330_25 : hTab 330 25 = some ((3, 0, 2, []), 26) := rfl
theorem T_330_26 : hTab 330 26 = some ((24, 17, Int.ofNat 78, []), 29) := rfl
theorem T_330_29 : hTab 330 29 = some ((3, 3, 0, []), 30) := rfl
theorem T_330_30 : hTab 330 30 = some ((26, 0, 0, []), 31) := rfl
theorem T_330_31 : hTab 330 31 = some ((0, 0, 47, []), 33) := rfl
theorem T_330_33 : hTab 330 33 = some ((19, 0, Int.ofNat 42, []), 36) := rfl
theorem T_330_36 : hTab 330 36 = some ((5, 3, 1, []), 39) := rfl
theorem T_330_39 : hTab 330 39 = some ((22, 0, Int.ofNat 17, []), 42) := rfl
theorem F_17_55 : (hFd 17 55).2.2.1 = 4 := rfl
theorem F_17_56 : (hFd 17 56).2.2.1 = 4 := rfl
theorem F_17_73 : (hFd 17 73).2.2.1 = 4 := rfl
theorem F_17_79 : (hFd 17 79).2.2.1 = 0 := rfl
theorem mN_328 : hmN 328 = 3 := by decide +kernel
theorem mL_328 : hmL 328 = 7 := by decide +kernel
theorem mK_328 : hmK 328 = 1 := by decide +kernel
theorem mO_328 : hmO 328 = 17 := by decide +kernel
theorem mN_330 : hmN 330 = 2 := by decide +kernel
theorem mL_330 : hmL 330 = 6 := by decide +kernel
theorem mK_330 : hmK 330 = 1 := by decide +kernel
theorem mO_330 : hmO 330 = 17 := by decide +kernel
def SX (rows : List Nat) (sc : List Int) (S S1 : qR) : Prop := (∀ k : Int, sc.elem k = false → S1 2281 k = S 2281 k) ∧ ∀ (f : Nat) (k : Int), scrR f = true → rows.elem f = false → S1 f k = S f k
def spR : List Nat := [2346, 2347, 2348, 2349]
def spN : List Int := [79, 80, 83, 85]
def swR : List Nat := [2285, 2286, 2287, 2288, 2350, 2351, 2352, 2353, 2354, 2346, 2347, 2348, 2349]
def swN : List Int := [4, 6, 7, 8, 9, 12, 91, 92, 79, 80, 83, 85]
def RAWS (S : qR) (l : List Int) : Prop := S 2281 79 = (l.length : Int) ∧ l.length ≤ 200 ∧ byt l ∧ ∀ i : Int, 0 ≤ i → i < l.length → S 2346 i = lg l i
def NMS (S : qR) (ns : List (Int × Int)) : Prop := S 2281 83 = (ns.length : Int) ∧ ∀ i : Nat, i < ns.length → S 2347 (i : Int) = (ns.getD i (0, 0)).1 ∧ S 2348 (i : Int) = (ns.getD i (0, 0)).2
def PLS (S : qR) (l : List Int) : Prop := S 2281 85 = (l.length : Int) ∧ l.length ≤ 60 ∧ ∀ i : Int, 0 ≤ i → i < l.length → S 2349 i = lg l i
/-- where a name ends -/
def seE (f : Int → Int) (z : Int) : Nat → Int → Int
  | 0, e => e
  | m + 1, e => if e < z ∧ ¬ f e = 47 then seE f z m (e + 1) else e
/-- the names from there on -/
def cuL (f : Int → Int) (z : Int) : Nat → Int → List (Int × Int) → List (Int × Int)
  | 0, _, ns => ns
  | m + 1, k, ns => if z ≤ k then ns else cuL f z m (seE f z z.toNat k + 1) (if seE f z z.toNat k = k + 2 ∧ f k = 46 ∧ f (k + 1) = 46 then ns.dropLast else if k < seE f z z.toNat k ∧ ¬ (seE f z z.toNat k = k + 1 ∧ f k = 46) then ns ++ [(k, seE f z z.toNat k)] else ns)
section MPATH
variable {fb : Bool} {d : Nat} {σ0 σ : hM} {P Q R S S1 S2 : qR} {T U s w f g u p k e t z : Int} {l nm : List Int} {h : List Ch} {a : Int → Int} {rows : List Nat} {sc : List Int} {ns : List (Int × Int)}
theorem SX_rfl : SX rows sc S S := ⟨fun _ _ => rfl, fun _ _ _ _ => rfl⟩
theorem SX_tr (h1 : SX rows sc S S1) (h2 : SX rows sc S1 S2) : SX rows sc S S2 := ⟨fun k a => (h2.1 k a).trans (h1.1 k a), fun f k a b => (h2.2 f k a b).trans (h1.2 f k a b)⟩
theorem SX_up {f : Nat} {j v : Int} (h : SX rows sc S S1) (hf : rows.elem f = true) (h0 : Nat.beq f 2281 = false) : SX rows sc S (rU S1 f j v) := ⟨fun k a => (rU_f (fun q => by rw [← q] at h0; exact absurd h0 (by decide))).trans (h.1 k a), fun g k a b => (rU_f (fun q => by rw [q, hf] at b; cases b)).trans (h.2 g k a b)⟩
theorem SX_un {j v : Int} (h : SX rows sc S S1) (hf : sc.elem j = true) : SX rows sc S (rU S1 2281 j v) := ⟨fun k a => (rU_k (fun q => by rw [q, hf] at a; cases a)).trans (h.1 k a), fun g k a b => (rU_f (fun q => by rw [q] at a; exact absurd a (by decide))).trans (h.2 g k a b)⟩
theorem SX.mono {rows2 : List Nat} {sc2 : List Int} (h : SX rows sc S S1) (h1 : ∀ f, rows2.elem f = false → rows.elem f = false) (h2 : ∀ k, sc2.elem k = false → sc.elem k = false) : SX rows2 sc2 S S1 := ⟨fun k a => h.1 k (h2 k a), fun f k a b => h.2 f k a (h1 f b)⟩
theorem elem_sub {α : Type} [BEq α] [LawfulBEq α] {l1 l2 : List α} (h : l1.all (fun x => l2.elem x) = true) {x : α} (hx : l2.elem x = false) : l1.elem x = false := by
  cases e : l1.elem x with
  | false => rfl
  | true =>
    have h1 := List.all_eq_true.mp h x (List.elem_iff.mp e)
    rw [h1] at hx
    cases hx
theorem SX_sp (h : SX spR spN S S1) : SX swR swN S S1 := h.mono (fun _ => elem_sub (by decide)) (fun _ => elem_sub (by decide))
theorem SK.sw (h : SK S S1) : SX swR swN S S1 := ⟨fun k a => by
    have n : ∀ j, swN.elem j = true → k ≠ j := fun j q e => by rw [e, q] at a; cases a
    exact h.1 k (n 4 rfl) (n 6 rfl) (n 7 rfl) (n 8 rfl) (n 9 rfl) (n 12 rfl) (n 91 rfl) (n 92 rfl), fun f k a b => by
    have n : ∀ j, swR.elem j = true → f ≠ j := fun j q e => by rw [e, q] at b; cases b
    exact h.2 f k a (n _ rfl) (n _ rfl) (n _ rfl) (n _ rfl) (n _ rfl) (n _ rfl) (n _ rfl) (n _ rfl) (n _ rfl)⟩
theorem RAWS.snoc {x : Int} (h : RAWS S l) (hx : 0 ≤ x ∧ x ≤ 255) (hl : l.length < 200) : RAWS (rU (rU S 2346 (l.length : Int) x) 2281 79 ((l.length : Int) + 1)) (l ++ [x]) := by
  refine ⟨by rw [rU_s, List.length_append]; rfl, by rw [List.length_append]; exact hl, byt_app h.2.2.1 (by rw [show [x] = leb 1 x by rw [leb_one hx]]; exact byt_leb 1 x), fun i h0 h1 => ?_⟩
  rw [List.length_append] at h1
  have h1 : i < ((l.length + 1 : Nat) : Int) := h1
  rw [rU_f (by decide), lg_app h0]
  by_cases q : i = (l.length : Int)
  · rw [q, rU_s, if_neg (by omega), show (l.length : Int) - l.length = 0 by omega]
    rfl
  · rw [rU_k q, if_pos (by omega)]
    exact h.2.2.2 i h0 (by omega)
theorem RAWS.iv {x : Int} (hJ : IV true T U S) (h : RAWS S l) (hx : 0 ≤ x ∧ x ≤ 255) (hl : l.length < 200) : IV true T U (rU (rU S 2346 (l.length : Int) x) 2281 79 ((l.length : Int) + 1)) := (hJ.uA 2346 rfl hx).uN 79 79 rfl (by show 0 ≤ (l.length : Int) + 1 ∧ (l.length : Int) + 1 ≤ 200; omega)
theorem RAWS.of (h : RAWS S l) (h1 : S1 2281 79 = S 2281 79) (h2 : ∀ i, S1 2346 i = S 2346 i) : RAWS S1 l := ⟨h1.trans h.1, h.2.1, h.2.2.1, fun i a b => (h2 i).trans (h.2.2.2 i a b)⟩
theorem seE_rng {f : Int → Int} : ∀ (m : Nat) (e : Int), e ≤ seE f z m e ∧ (e ≤ z → seE f z m e ≤ z)
  | 0, e => ⟨Int.le_refl _, fun q => q⟩
  | m + 1, e => by
    unfold seE
    split
    · have := seE_rng (f := f) m (e + 1)
      exact ⟨by omega, fun _ => this.2 (by omega)⟩
    · exact ⟨Int.le_refl _, fun q => q⟩
theorem seE_more {f : Int → Int} : ∀ (m n : Nat) (e : Int), z ≤ e + m → z ≤ e + n → seE f z m e = seE f z n e
  | 0, 0, e, _, _ => rfl
  | 0, n + 1, e, h1, h2 => by
    unfold seE
    rw [if_neg (by omega)]
  | m + 1, 0, e, h1, h2 => by
    unfold seE
    rw [if_neg (by omega)]
  | m + 1, n + 1, e, h1, h2 => by
    unfold seE
    split
    · exact seE_more m n (e + 1) (by omega) (by omega)
    · rfl
theorem m_parse_dots {from_ size own : Int} (hI : IV false T U P) (hp : 0 ≤ p ∧ p < 8) {Q : Option AV → hM → Prop} (ho : own = 0 ∨ own = 1) (hQ : ∀ (σ : hM) (S1 : qR) (l6 : Option AV), PM σ0 P S1 σ → IV true T U S1 → SX spR spN S S1 → RAWS S1 (if own = 0 then [] else seg (fun x => P 2325 (60 * p + x)) 0 (P 2326 p).toNat) → WP fb d 328 107 [some (vR (some 2281)), some (vI p), some (vI w), some (vI from_), some (vI size), some (vI own), l6] [] σ Q) : ∀ (m : Nat) (i : Int) (σ : hM) (S1 : qR), i + m = P 2326 p → 0 ≤ i → (own = 0 → i = 0) → PM σ0 P S1 σ → IV true T U S1 → SX spR spN S S1 → RAWS S1 (seg (fun x => P 2325 (60 * p + x)) 0 i.toNat) → WP fb d 328 54 [some (vR (some 2281)), some (vI p), some (vI w), some (vI from_), some (vI size), some (vI own), some (vI i)] [] σ Q := by
  have bz : 0 ≤ P 2326 p ∧ P 2326 p ≤ 60 := IV.a hI 2326 0 8 rfl rfl rfl (by omega) (by omega)
  intro m
  induction m with
  | zero =>
    intro i σ S1 h1 h2 h3 hP hJ hX hR
    rcases ho with rfl | rfl
    · have i0 : i = 0 := h3 rfl
      subst i0
      have hQ2 := hQ σ S1 (some (vI 0)) hP hJ hX (by rw [if_pos rfl]; exact hR)
      refine x_li (z := 0) T_328_54 rfl ?_
      refine x_lr (z := some 2281) T_328_56 rfl ?_
      refine x_gR (z := some 2326) T_328_57 F_17_56 (PM.t hP) (PM.r hP 56 2326 rfl) ?_
      refine x_li (z := p) T_328_60 rfl ?_
      refine x_alI (z := P 2326 p) T_328_61 (by decide) (PM.ta hP 2326 0 8 rfl rfl) (by omega) (by omega) (PM.aP hP 2326 rfl rfl (by omega)) ?_
      refine x_ic2 T_328_62 (fun _ => ?_) (fun h => absurd (show P 2326 p ≤ 0 by omega) h)
      exact hQ2
    · have hQ2 := hQ σ S1 (some (vI i)) hP hJ hX (by rw [if_neg (by decide), show P 2326 p = i by omega]; exact hR)
      refine x_li (z := i) T_328_54 rfl ?_
      refine x_lr (z := some 2281) T_328_56 rfl ?_
      refine x_gR (z := some 2326) T_328_57 F_17_56 (PM.t hP) (PM.r hP 56 2326 rfl) ?_
      refine x_li (z := p) T_328_60 rfl ?_
      refine x_alI (z := P 2326 p) T_328_61 (by decide) (PM.ta hP 2326 0 8 rfl rfl) (by omega) (by omega) (PM.aP hP 2326 rfl rfl (by omega)) ?_
      refine x_ic2 T_328_62 (fun _ => ?_) (fun h => absurd (show P 2326 p ≤ i by omega) h)
      exact hQ2
  | succ m ih =>
    intro i σ S1 h1 h2 h3 hP hJ hX hR
    rcases ho with rfl | rfl
    · have i0 : i = 0 := h3 rfl
      subst i0
      have hQ2 := hQ σ S1 (some (vI 0)) hP hJ hX (by rw [if_pos rfl]; exact hR)
      refine x_li (z := 0) T_328_54 rfl ?_
      refine x_lr (z := some 2281) T_328_56 rfl ?_
      refine x_gR (z := some 2326) T_328_57 F_17_56 (PM.t hP) (PM.r hP 56 2326 rfl) ?_
      refine x_li (z := p) T_328_60 rfl ?_
      refine x_alI (z := P 2326 p) T_328_61 (by decide) (PM.ta hP 2326 0 8 rfl rfl) (by omega) (by omega) (PM.aP hP 2326 rfl rfl (by omega)) ?_
      refine x_ic2 T_328_62 (fun h => absurd (show P 2326 p ≤ 0 from h) (by omega)) (fun _ => ?_)
      refine x_li (z := 0) T_328_65 rfl ?_
      refine x_if T_328_67 (fun _ => ?_) (fun h => absurd (show (0 : Int) = 0 by decide) h)
      exact hQ2
    · have bx : 0 ≤ P 2325 (60 * p + i) ∧ P 2325 (60 * p + i) ≤ 255 := IV.a hI 2325 0 480 rfl rfl rfl (by omega) (by omega)
      have hlen : ((seg (fun x => P 2325 (60 * p + x)) 0 i.toNat).length : Int) = i := by rw [seg_len]; omega
      have hz := hR.1
      rw [hlen] at hz
      refine x_li (z := i) T_328_54 rfl ?_
      refine x_lr (z := some 2281) T_328_56 rfl ?_
      refine x_gR (z := some 2326) T_328_57 F_17_56 (PM.t hP) (PM.r hP 56 2326 rfl) ?_
      refine x_li (z := p) T_328_60 rfl ?_
      refine x_alI (z := P 2326 p) T_328_61 (by decide) (PM.ta hP 2326 0 8 rfl rfl) (by omega) (by omega) (PM.aP hP 2326 rfl rfl (by omega)) ?_
      refine x_ic2 T_328_62 (fun h => absurd (show P 2326 p ≤ i from h) (by omega)) (fun _ => ?_)
      refine x_li (z := 1) T_328_65 rfl ?_
      refine x_if T_328_67 (fun h => absurd (show (1 : Int) = 0 from h) (by decide)) (fun _ => ?_)
      refine x_lr (z := some 2281) T_328_70 rfl ?_
      refine x_gR (z := some 2346) T_328_71 F_17_78 (PM.t hP) (PM.r hP 78 2346 rfl) ?_
      refine x_lr (z := some 2281) T_328_74 rfl ?_
      refine x_gI (z := i) T_328_75 (Or.inl F_17_79) (PM.t hP) (Eq.trans (PM.nS hP 2281 79 79 rfl rfl rfl) hz) ?_
      refine x_lr (z := some 2281) T_328_78 rfl ?_
      refine x_gR (z := some 2325) T_328_79 F_17_55 (PM.t hP) (PM.r hP 55 2325 rfl) ?_
      refine x_ic T_328_82 ?_
      refine x_li (z := p) T_328_84 rfl ?_
      refine x_ib (w := (60 * p)) T_328_85 (fun h => absurd h.1 (by decide)) (w32_id (by omega) (by omega)) ?_
      refine x_li (z := i) T_328_86 rfl ?_
      refine x_ib (w := ((60 * p) + i)) T_328_88 (fun h => absurd h.1 (by decide)) (w32_id (by omega) (by omega)) ?_
      refine x_alI (z := P 2325 ((60 * p) + i)) T_328_89 (by decide) (PM.ta hP 2325 0 480 rfl rfl) (by omega) (by omega) (PM.aP hP 2325 rfl rfl (by omega)) ?_
      refine y_aIS hP T_328_90 2346 200 rfl rfl rfl (by omega) (by omega) (fun σ hP => ?_)
      refine x_lr (z := some 2281) T_328_91 rfl ?_
      refine x_dupR T_328_92 ?_
      refine x_gI (z := i) T_328_93 (Or.inl F_17_79) (PM.t hP) (Eq.trans (Eq.trans (PM.nS hP 2281 79 79 rfl rfl rfl) (rU_f (Nat.ne_of_beq_eq_false rfl))) hz) ?_
      refine x_ic T_328_96 ?_
      refine x_ib (w := (i + 1)) T_328_97 (fun h => absurd h.1 (by decide)) (w32_id (by omega) (by omega)) ?_
      refine y_pIS hP T_328_98 F_17_79 79 rfl rfl (fun σ hP => ?_)
      refine x_inc (w := (i + 1)) (ls1 := [some (vR (some 2281)), some (vI p), some (vI w), some (vI from_), some (vI size), some (vI 1), some (vI (i + 1))]) T_328_101 rfl (w32_id (by omega) (by omega)) rfl ?_
      refine x_goto T_328_104 ?_
      refine ih (i + 1) σ _ (by omega) (by omega) (fun q => absurd q (by decide)) hP ?_ (SX_un (SX_up hX rfl rfl) rfl) ?_
      · have := RAWS.iv hJ hR bx (by omega)
        rw [hlen] at this
        exact this
      · have := hR.snoc bx (by omega)
        rw [hlen] at this
        rw [show (i + 1).toNat = i.toNat + 1 by omega, seg_snoc, show (0 : Int) + (i.toNat : Int) = i by omega]
        exact this
theorem m_parse_word {from_ size own : Int} {dl : List Int} (hJ0 : IV true T U S) (hfs : 0 ≤ from_ ∧ 0 ≤ size ∧ from_ + size ≤ 100) (hdl : dl.length ≤ 61) {Q : Option AV → hM → Prop} (hQ : ∀ (σ : hM) (S1 : qR) (l6 : Option AV), PM σ0 P S1 σ → IV true T U S1 → SX spR spN S S1 → RAWS S1 (dl ++ seg (S 2343) from_ size.toNat) → WP fb d 328 177 [some (vR (some 2281)), some (vI p), some (vI w), some (vI from_), some (vI size), some (vI own), l6] [] σ Q) : ∀ (m : Nat) (i : Int) (σ : hM) (S1 : qR), i + m = size → 0 ≤ i → PM σ0 P S1 σ → IV true T U S1 → SX spR spN S S1 → RAWS S1 (dl ++ seg (S 2343) from_ i.toNat) → WP fb d 328 136 [some (vR (some 2281)), some (vI p), some (vI w), some (vI from_), some (vI size), some (vI own), some (vI i)] [] σ Q := by
  intro m
  induction m with
  | zero =>
    intro i σ S1 h1 h2 hP hJ hX hR
    have hQ2 := hQ σ S1 (some (vI i)) hP hJ hX (by rw [show size = i by omega]; exact hR)
    refine x_li (z := i) T_328_136 rfl ?_
    refine x_li (z := size) T_328_138 rfl ?_
    refine x_ic2 T_328_140 (fun _ => ?_) (fun h => absurd (show size ≤ i by omega) h)
    exact hQ2
  | succ m ih =>
    intro i σ S1 h1 h2 hP hJ hX hR
    have bx : 0 ≤ S 2343 (from_ + i) ∧ S 2343 (from_ + i) ≤ 255 := IV.a hJ0 2343 0 100 rfl rfl rfl (by omega) (by omega)
    have ex : S1 2343 (from_ + i) = S 2343 (from_ + i) := hX.2 _ _ rfl rfl
    have hlen : ((dl ++ seg (S 2343) from_ i.toNat).length : Int) = dl.length + i := by rw [List.length_append, seg_len]; omega
    have hz := hR.1
    rw [hlen] at hz
    refine x_li (z := i) T_328_136 rfl ?_
    refine x_li (z := size) T_328_138 rfl ?_
    refine x_ic2 T_328_140 (fun h => absurd (show size ≤ i from h) (by omega)) (fun _ => ?_)
    refine x_lr (z := some 2281) T_328_143 rfl ?_
    refine x_gR (z := some 2346) T_328_144 F_17_78 (PM.t hP) (PM.r hP 78 2346 rfl) ?_
    refine x_lr (z := some 2281) T_328_147 rfl ?_
    refine x_gI (z := ((dl.length : Int) + i)) T_328_148 (Or.inl F_17_79) (PM.t hP) (Eq.trans (PM.nS hP 2281 79 79 rfl rfl rfl) hz) ?_
    refine x_lr (z := some 2281) T_328_151 rfl ?_
    refine x_gR (z := some 2343) T_328_152 F_17_73 (PM.t hP) (PM.r hP 73 2343 rfl) ?_
    refine x_li (z := from_) T_328_155 rfl ?_
    refine x_li (z := i) T_328_156 rfl ?_
    refine x_ib (w := (from_ + i)) T_328_158 (fun h => absurd h.1 (by decide)) (w32_id (by omega) (by omega)) ?_
    refine x_alI (z := S 2343 (from_ + i)) T_328_159 (by decide) (PM.ta hP 2343 0 100 rfl rfl) (by omega) (by omega) (Eq.trans (PM.aS hP 2343 rfl rfl (by omega)) ex) ?_
    refine y_aIS hP T_328_160 2346 200 rfl rfl rfl (by omega) (by omega) (fun σ hP => ?_)
    refine x_lr (z := some 2281) T_328_161 rfl ?_
    refine x_dupR T_328_162 ?_
    refine x_gI (z := ((dl.length : Int) + i)) T_328_163 (Or.inl F_17_79) (PM.t hP) (Eq.trans (Eq.trans (PM.nS hP 2281 79 79 rfl rfl rfl) (rU_f (Nat.ne_of_beq_eq_false rfl))) hz) ?_
    refine x_ic T_328_166 ?_
    refine x_ib (w := (((dl.length : Int) + i) + 1)) T_328_167 (fun h => absurd h.1 (by decide)) (w32_id (by omega) (by omega)) ?_
    refine y_pIS hP T_328_168 F_17_79 79 rfl rfl (fun σ hP => ?_)
    refine x_inc (w := (i + 1)) (ls1 := [some (vR (some 2281)), some (vI p), some (vI w), some (vI from_), some (vI size), some (vI own), some (vI (i + 1))]) T_328_171 rfl (w32_id (by omega) (by omega)) rfl ?_
    refine x_goto T_328_174 ?_
    refine ih (i + 1) σ _ (by omega) (by omega) hP ?_ (SX_un (SX_up hX rfl rfl) rfl) ?_
    · have := RAWS.iv hJ hR bx (by omega)
      rw [hlen] at this
      exact this
    · have := hR.snoc bx (by omega)
      rw [hlen, List.append_assoc] at this
      rw [show (i + 1).toNat = i.toNat + 1 by omega, seg_snoc, show from_ + (i.toNat : Int) = from_ + i by omega]
      exact this
theorem m_cut_end {b k : Int} (hR : RAWS S l) (hP : PM σ0 P S σ) (hz : (l.length : Int) = z) {Q : Option AV → hM → Prop} {l4 l5 : Option AV} (hQ : WP fb d 330 42 [some (vR (some 2281)), some (vI b), some (vI k), some (vI (seE (lg l) z z.toNat k)), l4, l5] [] σ Q) (hk : 0 ≤ k ∧ k < z) : ∀ (m : Nat) (e : Int), e + m = z → k ≤ e → seE (lg l) z m e = seE (lg l) z z.toNat k → WP fb d 330 17 [some (vR (some 2281)), some (vI b), some (vI k), some (vI e), l4, l5] [] σ Q := by
  have h79 := hR.1
  have hl := hR.2.1
  intro m
  induction m with
  | zero =>
    intro e h1 h2 h3
    rw [← h3] at hQ
    have hQ : WP fb d 330 42 [some (vR (some 2281)), some (vI b), some (vI k), some (vI e), l4, l5] [] σ Q := hQ
    refine x_li (z := e) T_330_17 rfl ?_
    refine x_lr (z := some 2281) T_330_18 rfl ?_
    refine x_gI (z := (l.length : Int)) T_330_19 (Or.inl F_17_79) (PM.t hP) (Eq.trans (PM.nS hP 2281 79 79 rfl rfl rfl) h79) ?_
    refine x_ic2 T_330_22 (fun _ => ?_) (fun h => absurd (show (l.length : Int) ≤ e by omega) h)
    exact hQ
  | succ m ih =>
    intro e h1 h2 h3
    have hx := hR.2.2.2 e (by omega) (by omega)
    by_cases q : lg l e = 47
    · rw [show seE (lg l) z (m + 1) e = e from if_neg (fun c => c.2 q)] at h3
      rw [← h3] at hQ
      refine x_li (z := e) T_330_17 rfl ?_
      refine x_lr (z := some 2281) T_330_18 rfl ?_
      refine x_gI (z := (l.length : Int)) T_330_19 (Or.inl F_17_79) (PM.t hP) (Eq.trans (PM.nS hP 2281 79 79 rfl rfl rfl) h79) ?_
      refine x_ic2 T_330_22 (fun h => absurd (show (l.length : Int) ≤ e from h) (by omega)) (fun _ => ?_)
      refine x_lr (z := some 2281) T_330_25 rfl ?_
      refine x_gR (z := some 2346) T_330_26 F_17_78 (PM.t hP) (PM.r hP 78 2346 rfl) ?_
      refine x_li (z := e) T_330_29 rfl ?_
      refine x_alI (z := lg l e) T_330_30 (by decide) (PM.ta hP 2346 0 200 rfl rfl) (by omega) (by omega) (Eq.trans (PM.aS hP 2346 rfl rfl (by omega)) hx) ?_
      refine x_ic T_330_31 ?_
      refine x_ic2 T_330_33 (fun _ => ?_) (fun h => absurd (show lg l e = 47 by exact q) h)
      exact hQ
    · rw [show seE (lg l) z (m + 1) e = seE (lg l) z m (e + 1) from if_pos ⟨by omega, q⟩] at h3
      refine x_li (z := e) T_330_17 rfl ?_
      refine x_lr (z := some 2281) T_330_18 rfl ?_
      refine x_gI (z := (l.length : Int)) T_330_19 (Or.inl F_17_79) (PM.t hP) (Eq.trans (PM.nS hP 2281 79 79 rfl rfl rfl) h79) ?_
      refine x_ic2 T_330_22 (fun h => absurd (show (l.length : Int) ≤ e from h) (by omega)) (fun _ => ?_)
      refine x_lr (z := some 2281) T_330_25 rfl ?_
      refine x_gR (z := some 2346) T_330_26 F_17_78 (PM.t hP) (PM.r hP 78 2346 rfl) ?_
      refine x_li (z := e) T_330_29 rfl ?_
      refine x_alI (z := lg l e) T_330_30 (by decide) (PM.ta hP 2346 0 200 rfl rfl) (by omega) (by omega) (Eq.trans (PM.aS hP 2346 rfl rfl (by omega)) hx) ?_
      refine x_ic T_330_31 ?_
      refine x_ic2 T_330_33 (fun h => absurd (show lg l e = 47 from h) (by exact q)) (fun _ => ?_)
      refine x_inc (w := (e + 1)) (ls1 := [some (vR (some 2281)), some (vI b), some (vI k), some (vI (e + 1)), l4, l5]) T_330_36 rfl (w32_id (by omega) (by omega)) rfl ?_
      refine x_goto T_330_39 ?_
      exact ih (e + 1) (by omega) (by omega) h3
end MPATH
