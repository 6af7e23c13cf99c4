/-! The class's servers: why a file may not be removed. -/
theorem T_42_0 : hTab 42 0 = some ((3, 1, 2, []), 1) := rfl
theorem T_42_1 : hTab 42 1 = some ((24, 9, Int.ofNat 3, []), 4) := rfl
theorem T_42_4 : hTab 42 4 = some ((4, 2, 2, []), 5) := rfl
theorem T_42_5 : hTab 42 5 = some ((3, 2, 2, []), 6) := rfl
theorem T_42_6 : hTab 42 6 = some ((20, 1, Int.ofNat 11, []), 9) := rfl
theorem T_42_11 : hTab 42 11 = some ((3, 0, 2, []), 12) := rfl
theorem T_42_12 : hTab 42 12 = some ((24, 7, Int.ofNat 1, []), 15) := rfl
theorem T_42_15 : hTab 42 15 = some ((18, 1, Int.ofNat 40, []), 18) := rfl
theorem T_42_18 : hTab 42 18 = some ((3, 2, 2, []), 19) := rfl
theorem T_42_19 : hTab 42 19 = some ((24, 8, Int.ofNat 1, []), 22) := rfl
theorem T_42_22 : hTab 42 22 = some ((20, 0, Int.ofNat 40, []), 25) := rfl
theorem T_42_25 : hTab 42 25 = some ((3, 2, 2, []), 26) := rfl
theorem T_42_26 : hTab 42 26 = some ((24, 8, Int.ofNat 1, []), 29) := rfl
theorem T_42_29 : hTab 42 29 = some ((3, 1, 2, []), 30) := rfl
theorem T_42_30 : hTab 42 30 = some ((24, 9, Int.ofNat 2, []), 33) := rfl
theorem T_42_33 : hTab 42 33 = some ((0, 0, 2, []), 34) := rfl
theorem T_42_34 : hTab 42 34 = some ((31, 43, 0, []), 37) := rfl
theorem T_42_37 : hTab 42 37 = some ((18, 1, Int.ofNat 42, []), 40) := rfl
theorem T_42_40 : hTab 42 40 = some ((0, 0, 3, []), 41) := rfl
theorem T_42_41 : hTab 42 41 = some ((33, 1, 0, []), 42) := rfl
theorem T_42_42 : hTab 42 42 = some ((0, 0, 0, []), 43) := rfl
theorem T_42_43 : hTab 42 43 = some ((4, 3, 0, []), 44) := rfl
theorem T_42_44 : hTab 42 44 = some ((3, 3, 0, []), 45) := rfl
theorem T_42_45 : hTab 42 45 = some ((3, 0, 2, []), 46) := rfl
theorem T_42_46 : hTab 42 46 = some ((24, 7, Int.ofNat 6, []), 49) := rfl
theorem T_42_49 : hTab 42 49 = some ((19, 3, Int.ofNat 74, []), 52) := rfl
theorem T_42_52 : hTab 42 52 = some ((3, 0, 2, []), 53) := rfl
theorem T_42_53 : hTab 42 53 = some ((24, 7, Int.ofNat 2, []), 56) := rfl
theorem T_42_56 : hTab 42 56 = some ((3, 3, 0, []), 57) := rfl
theorem T_42_57 : hTab 42 57 = some ((26, 10, 0, []), 58) := rfl
theorem T_42_58 : hTab 42 58 = some ((24, 8, Int.ofNat 1, []), 61) := rfl
theorem T_42_61 : hTab 42 61 = some ((3, 2, 2, []), 62) := rfl
theorem T_42_62 : hTab 42 62 = some ((21, 1, Int.ofNat 68, []), 65) := rfl
theorem T_42_65 : hTab 42 65 = some ((0, 0, 11, []), 67) := rfl
theorem T_42_67 : hTab 42 67 = some ((33, 1, 0, []), 68) := rfl
theorem T_42_68 : hTab 42 68 = some ((5, 3, 1, []), 71) := rfl
theorem T_42_71 : hTab 42 71 = some ((22, 0, Int.ofNat 44, []), 74) := rfl
theorem T_42_74 : hTab 42 74 = some ((0, 0, 0, []), 75) := rfl
theorem T_42_75 : hTab 42 75 = some ((33, 1, 0, []), 76) := rfl
theorem F_7_1 : (hFd 7 1).2.2.1 = 2 := rfl
theorem mN_42 : hmN 42 = 2 := by decide +kernel
theorem mL_42 : hmL 42 = 4 := by decide +kernel
theorem mK_42 : hmK 42 = 1 := by decide +kernel
theorem mO_42 : hmO 42 = 7 := by decide +kernel
/-- whether a directory has any file from i on -/
def kdB (P : qR) (s : Int) (ord : List Int) (n : Int) : Nat → Int → Bool
  | 0, _ => false
  | m + 1, i => decide (¬ lg ord i = 0 ∧ qUp P s (lg ord i) = n) || kdB P s ord n m (i + 1)
section XREF
variable {fb : Bool} {d S a b : Nat} {σ0 σ : hM} {W W0 W1 W2 P : qR} {R R2 : rR} {i k x z v s e w c f u y n p T U : Int} {l l2 ord : List Int} {t : Nat → Nat}
theorem kdB_iff : ∀ (m : Nat) (i : Int), kdB P s ord n m i = true ↔ ∃ k, i ≤ k ∧ k < i + m ∧ ¬ lg ord k = 0 ∧ qUp P s (lg ord k) = n
  | 0, i => ⟨fun h => absurd (show false = true from h) (by decide), fun ⟨k, h1, h2, _⟩ => by omega⟩
  | m + 1, i => by
    have ih := kdB_iff m (i + 1)
    show (decide (¬ lg ord i = 0 ∧ qUp P s (lg ord i) = n) || kdB P s ord n m (i + 1)) = true ↔ _
    rw [Bool.or_eq_true, decide_eq_true_eq, ih]
    constructor
    · rintro (h | ⟨k, h1, h2, h3⟩)
      · exact ⟨i, Int.le_refl i, by omega, h⟩
      · exact ⟨k, by omega, by omega, h3⟩
    · rintro ⟨k, h1, h2, h3⟩
      by_cases e : k = i
      · rw [e] at h3
        exact Or.inl h3
      · exact Or.inr ⟨k, by omega, by omega, h3⟩
theorem kdB_all : kdB P s ord n ord.length 0 = true ↔ ∃ m ∈ ord, ¬ m = 0 ∧ qUp P s m = n := by
  rw [kdB_iff]
  constructor
  · rintro ⟨k, h1, h2, h3⟩
    exact ⟨_, lg_mem h1 (by omega), h3⟩
  · rintro ⟨m, hm, h3⟩
    obtain ⟨k, k0, k1, rfl⟩ := mem_lg hm
    exact ⟨k, k0, by omega, h3⟩
/-- a tree's directory has an entry where some file stands in it -/
theorem enI_ex : ∀ (m : Nat) (f g : Int), 1 ≤ f → f + m = 64 → (0 ≤ enI P s n z m f g ↔ 0 ≤ g ∨ ∃ k, f ≤ k ∧ k < 64 ∧ ¬ P 2289 (64 * s + k) = 0 ∧ P 2290 (64 * s + k) = n ∧ z < P 2291 (64 * s + k))
  | 0, f, g, h1, h2 => ⟨fun h => Or.inl h, fun h => h.elim id (fun ⟨k, a, b, _⟩ => by omega)⟩
  | m + 1, f, g, h1, h2 => by
    have ih := fun g => enI_ex m (f + 1) g (by omega) (by omega)
    unfold enI
    rw [ih]
    by_cases q : ¬ P 2289 (64 * s + f) = 0 ∧ P 2290 (64 * s + f) = n ∧ z < P 2291 (64 * s + f)
    · constructor
      · intro _
        exact Or.inr ⟨f, Int.le_refl f, by omega, q⟩
      · intro _
        left
        by_cases q2 : g < 0 ∨ P 2291 (64 * s + f) < P 2291 (64 * s + g)
        · rw [if_pos ⟨q, q2⟩]
          omega
        · rw [if_neg (fun c => q2 c.2)]
          omega
    · rw [if_neg (fun c => q c.1)]
      constructor
      · rintro (h | ⟨k, a, b, c⟩)
        · exact Or.inl h
        · exact Or.inr ⟨k, by omega, b, c⟩
      · rintro (h | ⟨k, a, b, c⟩)
        · exact Or.inl h
        · by_cases e : k = f
          · rw [e] at c
            exact absurd c q
          · exact Or.inr ⟨k, by omega, b, c⟩
/-- what a file's directory is like, and where the root is -/
def TRX (P : qR) (s : Int) (ord : List Int) : Prop := (0 < ord.length ∧ lg ord 0 = 0) ∧ qPath P s 0 = 0 ∧ (∀ m, isN P s m → isN P s (qUp P s m)) ∧ ∀ m, isN P s m → ¬ m = 0 → qMode P s (qUp P s m) < 0
theorem path_pos (hT : NT W R P S s ord t) (hR : TRX P s ord) (hm : n ∈ ord) (h0 : ¬ n = 0) : 0 < qPath P s n := by
  obtain ⟨k, k0, k1, rfl⟩ := mem_lg hm
  have hk : k ≠ 0 := fun c => h0 (by rw [c]; exact hR.1.2)
  have hp := List.pairwise_iff_getElem.mp hT.1.2.2.2 0 k.toNat (by omega) (by omega) (by omega)
  have e0 : ord[0]'(by omega) = 0 := by
    have := hR.1.2
    unfold lg at this
    rw [List.getD_eq_getElem?_getD, List.getElem?_eq_getElem (by omega)] at this
    exact this
  have ek : ord[k.toNat]'(by omega) = lg ord k := by
    unfold lg
    rw [List.getD_eq_getElem?_getD, List.getElem?_eq_getElem (by omega)]
    rfl
  rw [e0, ek, hR.2.1] at hp
  exact hp
theorem kd_ent (hT : NT W R P S s ord t) (hR : TRX P s ord) (hI : IV false T U P) (hs : 0 ≤ s ∧ s < 2) : kdB P s ord n ord.length 0 = true ↔ qMode P s n < 0 ∧ 0 ≤ qEnt P s n 0 := by
  rw [kdB_all]
  unfold qEnt
  rw [if_neg (by omega)]
  show _ ↔ _ ∧ 0 ≤ enI P s n 0 63 1 (-1)
  rw [enI_ex 63 1 (-1) (by decide) (by decide)]
  constructor
  · rintro ⟨m, hm, h0, hu⟩
    have hl := (hT.1.1 m).mp hm
    refine ⟨by rw [← hu]; exact hR.2.2.2 m hl h0, Or.inr ⟨m, ?_⟩⟩
    have hp := path_pos hT hR hm h0
    rcases hl with ⟨l1, l2, l3, l4⟩ | l1
    · unfold qUp at hu
      unfold qPath at hp
      rw [if_pos hs.2] at hu hp
      exact ⟨by omega, l3, by omega, hu, hp⟩
    · omega
  · rintro ⟨hd, h | ⟨k, k0, k1, k2, k3, k4⟩⟩
    · omega
    · have hb : 0 ≤ P 2289 (64 * s + k) ∧ P 2289 (64 * s + k) ≤ 1 := IV.a (k := 64 * s + k) hI 2289 2 128 rfl rfl rfl (by omega) (by omega)
      refine ⟨k, (hT.1.1 k).mpr (Or.inl ⟨hs.2, by omega, k1, by omega⟩), by omega, ?_⟩
      unfold qUp
      rw [if_pos hs.2]
      exact k3
theorem x_ref_loop (hP : PX σ0 W R σ) (hS : VS S s) (hT : NT W R P S s ord t) (hR : TRX P s ord) (hn : n ∈ ord) (hb : noA S ord t n = some b) : ∀ (m : Nat) (i : Int), i + m = ord.length → 0 ≤ i → WP fb d 42 44 [some (vR (some S)), some (vR (some a)), some (vR (some b)), some (vI i)] [] σ (rP (if kdB P s ord n m i = true then 11 else 0) σ) := by
  have hO := hS.o
  have hA := hS.an
  have hl := hT.1.2.1
  obtain ⟨C, hC⟩ : ∃ C : Int, (ord.length : Int) = C := ⟨_, rfl⟩
  have hcn : W S 2230 = C := hT.1.2.2.1.trans hC
  have hbo : tX b = some (Sum.inl 8) := by
    obtain ⟨k, k0, k1, rfl⟩ := mem_lg hn
    rw [noA_get hT.nodup k0 k1] at hb
    cases hb
    exact hS.nd (hT.2.1.1 _ (by omega))
  intro m
  induction m with
  | zero =>
    intro i h1 h2
    have h1 : i + ((0 : Nat) : Int) = ord.length := h1
    rw [if_neg (show ¬ kdB P s ord n 0 i = true from fun c => by cases c)]
    refine x_li (z := i) T_42_44 rfl ?_
    refine x_lr (z := some S) T_42_45 rfl ?_
    refine x_gI (z := C) T_42_46 (Or.inl F_7_6) (hP.o hO) (Eq.trans (hP.gi hO (key := 2230) rfl) hcn) ?_
    refine x_ic2 T_42_49 (fun _ => ?_) (fun h => absurd (show C ≤ i by omega) h)
    refine x_ic T_42_74 ?_
    refine x_ri T_42_75 ?_
    exact ⟨rfl, rfl⟩
  | succ m ih =>
    intro i h1 h2
    have hgo := ih (i + 1) (by omega) (by omega)
    have hnd := hT.2.2.1 i h2 (by omega)
    have hno := hS.nd (j := t i.toNat) (hT.2.1.1 i.toNat (by omega))
    have hui := up_iff hT hR.2.2.1 hn h2 (show i < ord.length by omega)
    rw [hb] at hui
    have hprg : hK ≤ (R (S + 6 + 3 * t i.toNat) 2257).getD hK := by
      rw [hT.2.2.2.2 i h2 (by omega)]
      split
      · exact Nat.le_refl _
      · unfold noA
        split
        · show 128 ≤ S + 6 + _
          have := hS.2
          omega
        · exact Nat.le_refl _
    have ek : kdB P s ord n (m + 1) i = (decide (¬ lg ord i = 0 ∧ qUp P s (lg ord i) = n) || kdB P s ord n m (i + 1)) := rfl
    rw [ek]
    obtain ⟨na, hna⟩ : ∃ na, S + 6 + 3 * t i.toNat = na := ⟨_, rfl⟩
    rw [hna] at hnd hno hui hprg
    obtain ⟨pr, hpr⟩ : ∃ pr, R na 2257 = pr := ⟨_, rfl⟩
    rw [hpr] at hui hprg
    by_cases q : ¬ lg ord i = 0 ∧ qUp P s (lg ord i) = n
    · have q2 := hui.mpr q
      subst q2
      rw [decide_eq_true q, Bool.true_or, if_pos rfl]
      refine x_li (z := i) T_42_44 rfl ?_
      refine x_lr (z := some S) T_42_45 rfl ?_
      refine x_gI (z := C) T_42_46 (Or.inl F_7_6) (hP.o hO) (Eq.trans (hP.gi hO (key := 2230) rfl) hcn) ?_
      refine x_ic2 T_42_49 (fun h => absurd (show C ≤ i from h) (by omega)) (fun _ => ?_)
      refine x_lr (z := some S) T_42_52 rfl ?_
      refine x_gR (z := some (S + 1)) T_42_53 F_7_2 (hP.o hO) (hP.rc hO rfl rfl) ?_
      refine x_li (z := i) T_42_56 rfl ?_
      refine x_alR (z := some na) T_42_57 (hP.ta hA) (by decide) (by omega) (by omega) (Eq.trans (hP.arm hA rfl (by omega)) hnd) ?_
      refine x_gR (z := some b) T_42_58 F_8_1 (hP.o hno) (Eq.trans (hP.rm hno rfl (key := 2257) rfl) hpr) ?_
      refine x_lr (z := some b) T_42_61 rfl ?_
      refine x_ane T_42_62 (tX_o hbo).1 (tX_o hbo).1 (fun h0 => absurd h0 (by exact fun c => c rfl)) (fun _ => ?_)
      refine x_ic T_42_65 ?_
      refine x_ri T_42_67 ?_
      exact ⟨rfl, rfl⟩
    · have q2 : pr ≠ some b := fun c => q (hui.mp c)
      rw [decide_eq_false q, Bool.false_or]
      refine x_li (z := i) T_42_44 rfl ?_
      refine x_lr (z := some S) T_42_45 rfl ?_
      refine x_gI (z := C) T_42_46 (Or.inl F_7_6) (hP.o hO) (Eq.trans (hP.gi hO (key := 2230) rfl) hcn) ?_
      refine x_ic2 T_42_49 (fun h => absurd (show C ≤ i from h) (by omega)) (fun _ => ?_)
      refine x_lr (z := some S) T_42_52 rfl ?_
      refine x_gR (z := some (S + 1)) T_42_53 F_7_2 (hP.o hO) (hP.rc hO rfl rfl) ?_
      refine x_li (z := i) T_42_56 rfl ?_
      refine x_alR (z := some na) T_42_57 (hP.ta hA) (by decide) (by omega) (by omega) (Eq.trans (hP.arm hA rfl (by omega)) hnd) ?_
      refine x_gR (z := pr) T_42_58 F_8_1 (hP.o hno) (Eq.trans (hP.rm hno rfl (key := 2257) rfl) hpr) ?_
      refine x_lr (z := some b) T_42_61 rfl ?_
      refine x_ane T_42_62 (tX_o hbo).1 hprg (fun _ => ?_) (fun h0 => absurd h0 (by exact q2))
      refine x_inc (w := (i + 1)) (ls1 := [some (vR (some S)), some (vR (some a)), some (vR (some b)), some (vI (i + 1))]) T_42_68 rfl (w32_id (by omega) (by omega)) rfl ?_
      refine x_goto T_42_71 ?_
      exact hgo
theorem x_refusal (hP : PX σ0 W R σ) (hS : VS S s) (hT : NT W R P S s ord t) (hR : TRX P s ord) (hI : IV false T U P) (ha : tX a = some (Sum.inl 9)) (hn : n ∈ ord) (hf : R a 2291 = noA S ord t n) (hu : W a 2290 = u) (hsh : W S 2225 = if s < 2 then 0 else 1) : CL fb (d + 1) 42 [vR (some S), vR (some a)] σ (rP (qRem P s n u) σ) := by
  have hO := hS.o
  have hsr := hS.1
  obtain ⟨b, hb⟩ : ∃ b, noA S ord t n = some b := by
    unfold noA
    rw [if_pos hn]
    exact ⟨_, rfl⟩
  rw [hb] at hf
  have hbo : tX b = some (Sum.inl 8) ∧ R b 2257 = if n = 0 then none else noA S ord t (qUp P s n) := by
    obtain ⟨k, k0, k1, rfl⟩ := mem_lg hn
    rw [noA_get hT.nodup k0 k1] at hb
    cases hb
    have hl := hT.1.2.1
    exact ⟨hS.nd (hT.2.1.1 _ (by omega)), hT.2.2.2.2 k k0 k1⟩
  obtain ⟨hbo, hpr⟩ := hbo
  unfold qRem
  by_cases q1 : s < 2
  · rw [if_pos q1] at hsh
    by_cases q2 : n = 0
    · rw [if_pos q2] at hpr
      rw [if_pos (Or.inr (Or.inl q2))]
      refine CL_in mL_42 rfl ?_
      show WP fb _ 42 0 [some (vR (some S)), some (vR (some a)), none, none] [] σ _
      refine x_lr (z := some a) T_42_0 rfl ?_
      refine x_gR (z := some b) T_42_1 F_9_3 (hP.o ha) (Eq.trans (hP.rm ha rfl (key := 2291) rfl) hf) ?_
      refine x_sr (ls1 := [some (vR (some S)), some (vR (some a)), some (vR (some b)), none]) T_42_4 rfl ?_
      refine x_lr (z := some b) T_42_5 rfl ?_
      refine x_nnul T_42_6 (fun _ _ => ?_) (fun h0 => absurd h0 (by simp))
      refine x_lr (z := some S) T_42_11 rfl ?_
      refine x_gI (z := 0) T_42_12 (Or.inr (Or.inl F_7_1)) (hP.o hO) (Eq.trans (hP.gi hO (key := 2225) rfl) hsh) ?_
      refine x_if T_42_15 (fun h => absurd (show ¬ (0 : Int) = 0 from h) (by decide)) (fun _ => ?_)
      refine x_lr (z := some b) T_42_18 rfl ?_
      refine x_gR (z := none) T_42_19 F_8_1 (hP.o hbo) (Eq.trans (hP.rm hbo rfl (key := 2257) rfl) hpr) ?_
      refine x_nul T_42_22 (fun _ => ?_) (fun a0 h0 => absurd h0 (by simp))
      refine x_ic T_42_40 ?_
      refine x_ri T_42_41 ?_
      exact ⟨rfl, rfl⟩
    · rw [if_neg q2] at hpr
      have hum : qUp P s n ∈ ord := (hT.1.1 _).mpr (hR.2.2.1 _ ((hT.1.1 _).mp hn))
      obtain ⟨pa, hpa⟩ : ∃ pa, noA S ord t (qUp P s n) = some pa := by
        unfold noA
        rw [if_pos hum]
        exact ⟨_, rfl⟩
      rw [hpa] at hpr
      have hNp : ND W P pa s (qUp P s n) := by
        obtain ⟨k, k0, k1, hk⟩ := mem_lg hum
        rw [← hk, noA_get hT.nodup k0 k1] at hpa
        cases hpa
        rw [← hk]
        exact hT.2.2.2.1 k k0 k1
      have hlt := x_lets (fb := fb) (d := d) (u := u) (w := 2) hP hNp.1 hNp.2.1.1 hNp.2.2.2.2.1.1 hNp.2.2.2.2.2.1.1 hNp.2.1.2
      have eq : qMv P s (qUp P s n) u 2 = and32 (ltB (qMode P s (qUp P s n)) (qUid P s (qUp P s n)) (qGid P s (qUp P s n)) u) 2 := rfl
      rw [eq]
      obtain ⟨y, hy⟩ : ∃ y, ltB (qMode P s (qUp P s n)) (qUid P s (qUp P s n)) (qGid P s (qUp P s n)) u = y := ⟨_, rfl⟩
      rw [hy] at hlt ⊢
      by_cases q3 : and32 y 2 = 0
      · rw [if_neg (by rw [q3]; decide)] at hlt
        rw [if_pos (Or.inr (Or.inr q3))]
        refine CL_in mL_42 rfl ?_
        show WP fb _ 42 0 [some (vR (some S)), some (vR (some a)), none, none] [] σ _
        refine x_lr (z := some a) T_42_0 rfl ?_
        refine x_gR (z := some b) T_42_1 F_9_3 (hP.o ha) (Eq.trans (hP.rm ha rfl (key := 2291) rfl) hf) ?_
        refine x_sr (ls1 := [some (vR (some S)), some (vR (some a)), some (vR (some b)), none]) T_42_4 rfl ?_
        refine x_lr (z := some b) T_42_5 rfl ?_
        refine x_nnul T_42_6 (fun _ _ => ?_) (fun h0 => absurd h0 (by simp))
        refine x_lr (z := some S) T_42_11 rfl ?_
        refine x_gI (z := 0) T_42_12 (Or.inr (Or.inl F_7_1)) (hP.o hO) (Eq.trans (hP.gi hO (key := 2225) rfl) hsh) ?_
        refine x_if T_42_15 (fun h => absurd (show ¬ (0 : Int) = 0 from h) (by decide)) (fun _ => ?_)
        refine x_lr (z := some b) T_42_18 rfl ?_
        refine x_gR (z := some pa) T_42_19 F_8_1 (hP.o hbo) (Eq.trans (hP.rm hbo rfl (key := 2257) rfl) hpr) ?_
        refine x_nul T_42_22 (fun h0 => absurd h0 (by simp)) (fun _ _ => ?_)
        refine x_lr (z := some b) T_42_25 rfl ?_
        refine x_gR (z := some pa) T_42_26 F_8_1 (hP.o hbo) (Eq.trans (hP.rm hbo rfl (key := 2257) rfl) hpr) ?_
        refine x_lr (z := some a) T_42_29 rfl ?_
        refine x_gI (z := u) T_42_30 (Or.inl F_9_2) (hP.o ha) (Eq.trans (hP.gi ha (key := 2290) rfl) hu) ?_
        refine x_ic T_42_33 ?_
        refine x_cv3 T_42_34 mN_43 mL_43 (Nat.le_of_ble_eq_true rfl) mO_43 (hP.o hNp.1) (Nat.le_of_ble_eq_true rfl) (hlt) ?_
        rintro _ σ ⟨rfl, rfl⟩
        refine cI ?_
        refine x_if T_42_37 (fun h => absurd (show ¬ (0 : Int) = 0 from h) (by decide)) (fun _ => ?_)
        refine x_ic T_42_40 ?_
        refine x_ri T_42_41 ?_
        exact ⟨rfl, rfl⟩
      · rw [if_pos (show and32 y 2 = 2 from and32_bit (j := 1) (by decide) q3)] at hlt
        rw [if_neg (fun c => by rcases c with c | c | c
                                · omega
                                · exact q2 c
                                · exact q3 c)]
        have hgo := x_ref_loop (fb := fb) (d := d + 1) (a := a) hP hS hT hR hn hb ord.length 0 (by omega) (by decide)
        rw [ifc (kd_ent hT hR hI ⟨hsr.1, q1⟩)] at hgo
        refine CL_in mL_42 rfl ?_
        show WP fb _ 42 0 [some (vR (some S)), some (vR (some a)), none, none] [] σ _
        refine x_lr (z := some a) T_42_0 rfl ?_
        refine x_gR (z := some b) T_42_1 F_9_3 (hP.o ha) (Eq.trans (hP.rm ha rfl (key := 2291) rfl) hf) ?_
        refine x_sr (ls1 := [some (vR (some S)), some (vR (some a)), some (vR (some b)), none]) T_42_4 rfl ?_
        refine x_lr (z := some b) T_42_5 rfl ?_
        refine x_nnul T_42_6 (fun _ _ => ?_) (fun h0 => absurd h0 (by simp))
        refine x_lr (z := some S) T_42_11 rfl ?_
        refine x_gI (z := 0) T_42_12 (Or.inr (Or.inl F_7_1)) (hP.o hO) (Eq.trans (hP.gi hO (key := 2225) rfl) hsh) ?_
        refine x_if T_42_15 (fun h => absurd (show ¬ (0 : Int) = 0 from h) (by decide)) (fun _ => ?_)
        refine x_lr (z := some b) T_42_18 rfl ?_
        refine x_gR (z := some pa) T_42_19 F_8_1 (hP.o hbo) (Eq.trans (hP.rm hbo rfl (key := 2257) rfl) hpr) ?_
        refine x_nul T_42_22 (fun h0 => absurd h0 (by simp)) (fun _ _ => ?_)
        refine x_lr (z := some b) T_42_25 rfl ?_
        refine x_gR (z := some pa) T_42_26 F_8_1 (hP.o hbo) (Eq.trans (hP.rm hbo rfl (key := 2257) rfl) hpr) ?_
        refine x_lr (z := some a) T_42_29 rfl ?_
        refine x_gI (z := u) T_42_30 (Or.inl F_9_2) (hP.o ha) (Eq.trans (hP.gi ha (key := 2290) rfl) hu) ?_
        refine x_ic T_42_33 ?_
        refine x_cv3 T_42_34 mN_43 mL_43 (Nat.le_of_ble_eq_true rfl) mO_43 (hP.o hNp.1) (Nat.le_of_ble_eq_true rfl) (hlt) ?_
        rintro _ σ ⟨rfl, rfl⟩
        refine cI ?_
        refine x_if T_42_37 (fun _ => ?_) (fun h => absurd (show ¬ (1 : Int) = 0 by decide) h)
        refine x_ic T_42_42 ?_
        refine x_si (ls1 := [some (vR (some S)), some (vR (some a)), some (vR (some b)), some (vI 0)]) T_42_43 rfl ?_
        exact hgo
  · rw [if_neg q1] at hsh
    rw [if_pos (Or.inl (by omega))]
    refine CL_in mL_42 rfl ?_
    show WP fb _ 42 0 [some (vR (some S)), some (vR (some a)), none, none] [] σ _
    refine x_lr (z := some a) T_42_0 rfl ?_
    refine x_gR (z := some b) T_42_1 F_9_3 (hP.o ha) (Eq.trans (hP.rm ha rfl (key := 2291) rfl) hf) ?_
    refine x_sr (ls1 := [some (vR (some S)), some (vR (some a)), some (vR (some b)), none]) T_42_4 rfl ?_
    refine x_lr (z := some b) T_42_5 rfl ?_
    refine x_nnul T_42_6 (fun _ _ => ?_) (fun h0 => absurd h0 (by simp))
    refine x_lr (z := some S) T_42_11 rfl ?_
    refine x_gI (z := 1) T_42_12 (Or.inr (Or.inl F_7_1)) (hP.o hO) (Eq.trans (hP.gi hO (key := 2225) rfl) hsh) ?_
    refine x_if T_42_15 (fun _ => ?_) (fun h => absurd (show ¬ (1 : Int) = 0 by decide) h)
    refine x_ic T_42_40 ?_
    refine x_ri T_42_41 ?_
    exact ⟨rfl, rfl⟩
end XREF
