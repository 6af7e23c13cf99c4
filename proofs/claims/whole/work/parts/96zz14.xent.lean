/-! The class's files of a server: in the order of their paths; what a directory has by a name. -/
theorem T_56_0 : hTab 56 0 = some ((3, 0, 2, []), 1) := rfl
theorem T_56_1 : hTab 56 1 = some ((24, 7, Int.ofNat 9, []), 4) := rfl
theorem T_56_4 : hTab 56 4 = some ((3, 2, 0, []), 5) := rfl
theorem T_56_5 : hTab 56 5 = some ((3, 3, 0, []), 6) := rfl
theorem T_56_6 : hTab 56 6 = some ((0, 0, 2, []), 7) := rfl
theorem T_56_7 : hTab 56 7 = some ((31, 57, 0, []), 10) := rfl
theorem T_56_10 : hTab 56 10 = some ((18, 0, Int.ofNat 29, []), 13) := rfl
theorem T_56_13 : hTab 56 13 = some ((3, 1, 2, []), 14) := rfl
theorem T_56_14 : hTab 56 14 = some ((24, 8, Int.ofNat 1, []), 17) := rfl
theorem T_56_17 : hTab 56 17 = some ((20, 1, Int.ofNat 24, []), 20) := rfl
theorem T_56_20 : hTab 56 20 = some ((3, 1, 2, []), 21) := rfl
theorem T_56_21 : hTab 56 21 = some ((22, 0, Int.ofNat 28, []), 24) := rfl
theorem T_56_24 : hTab 56 24 = some ((3, 1, 2, []), 25) := rfl
theorem T_56_25 : hTab 56 25 = some ((24, 8, Int.ofNat 1, []), 28) := rfl
theorem T_56_28 : hTab 56 28 = some ((33, 4, 0, []), 29) := rfl
theorem T_56_29 : hTab 56 29 = some ((0, 0, 0, []), 30) := rfl
theorem T_56_30 : hTab 56 30 = some ((4, 4, 0, []), 32) := rfl
theorem T_56_32 : hTab 56 32 = some ((3, 4, 0, []), 34) := rfl
theorem T_56_34 : hTab 56 34 = some ((3, 0, 2, []), 35) := rfl
theorem T_56_35 : hTab 56 35 = some ((24, 7, Int.ofNat 6, []), 38) := rfl
theorem T_56_38 : hTab 56 38 = some ((19, 3, Int.ofNat 91, []), 41) := rfl
theorem T_56_41 : hTab 56 41 = some ((3, 0, 2, []), 42) := rfl
theorem T_56_42 : hTab 56 42 = some ((24, 7, Int.ofNat 2, []), 45) := rfl
theorem T_56_45 : hTab 56 45 = some ((3, 4, 0, []), 47) := rfl
theorem T_56_47 : hTab 56 47 = some ((26, 10, 0, []), 48) := rfl
theorem T_56_48 : hTab 56 48 = some ((24, 8, Int.ofNat 1, []), 51) := rfl
theorem T_56_51 : hTab 56 51 = some ((3, 1, 2, []), 52) := rfl
theorem T_56_52 : hTab 56 52 = some ((21, 1, Int.ofNat 85, []), 55) := rfl
theorem T_56_55 : hTab 56 55 = some ((3, 0, 2, []), 56) := rfl
theorem T_56_56 : hTab 56 56 = some ((24, 7, Int.ofNat 9, []), 59) := rfl
theorem T_56_59 : hTab 56 59 = some ((3, 2, 0, []), 60) := rfl
theorem T_56_60 : hTab 56 60 = some ((3, 3, 0, []), 61) := rfl
theorem T_56_61 : hTab 56 61 = some ((3, 0, 2, []), 62) := rfl
theorem T_56_62 : hTab 56 62 = some ((24, 7, Int.ofNat 2, []), 65) := rfl
theorem T_56_65 : hTab 56 65 = some ((3, 4, 0, []), 67) := rfl
theorem T_56_67 : hTab 56 67 = some ((26, 10, 0, []), 68) := rfl
theorem T_56_68 : hTab 56 68 = some ((24, 8, Int.ofNat 0, []), 71) := rfl
theorem T_56_71 : hTab 56 71 = some ((31, 58, 0, []), 74) := rfl
theorem T_56_74 : hTab 56 74 = some ((18, 0, Int.ofNat 85, []), 77) := rfl
theorem T_56_77 : hTab 56 77 = some ((3, 0, 2, []), 78) := rfl
theorem T_56_78 : hTab 56 78 = some ((24, 7, Int.ofNat 2, []), 81) := rfl
theorem T_56_81 : hTab 56 81 = some ((3, 4, 0, []), 83) := rfl
theorem T_56_83 : hTab 56 83 = some ((26, 10, 0, []), 84) := rfl
theorem T_56_84 : hTab 56 84 = some ((33, 4, 0, []), 85) := rfl
theorem T_56_85 : hTab 56 85 = some ((5, 4, 1, []), 88) := rfl
theorem T_56_88 : hTab 56 88 = some ((22, 0, Int.ofNat 32, []), 91) := rfl
theorem T_56_91 : hTab 56 91 = some ((2, 0, 0, []), 92) := rfl
theorem T_56_92 : hTab 56 92 = some ((33, 4, 0, []), 93) := rfl
theorem F_7_2 : (hFd 7 2).2.2.1 = 4 := rfl
theorem F_7_6 : (hFd 7 6).2.2.1 = 0 := rfl
theorem F_7_9 : (hFd 7 9).2.2.1 = 4 := rfl
theorem mN_56 : hmN 56 = 4 := by decide +kernel
theorem mL_56 : hmL 56 = 5 := by decide +kernel
theorem mK_56 : hmK 56 = 1 := by decide +kernel
theorem mO_56 : hmO 56 = 7 := by decide +kernel
/-- a file that is there -/
def isN (P : qR) (s n : Int) : Prop := (s < 2 ∧ 0 ≤ n ∧ n < 64 ∧ P 2289 (64 * s + n) = 1) ∨ (s = 2 ∧ (n = 0 ∨ n = 1 ∨ (16 ≤ n ∧ n < 144 ∧ n % 16 ≤ 2 ∧ ¬ P 2320 (n / 16 - 1) = 0)))
/-- the object of a file: t is where the files of ord stand -/
def noA (S : Nat) (ord : List Int) (t : Nat → Nat) (n : Int) : Option Nat := if n ∈ ord then some (S + 6 + 3 * t (ord.idxOf n)) else none
def NT (W : qR) (R : rR) (P : qR) (S : Nat) (s : Int) (ord : List Int) (t : Nat → Nat) : Prop := ((∀ n, n ∈ ord ↔ isN P s n) ∧ ord.length ≤ 64 ∧ W S 2230 = (ord.length : Int) ∧ ord.Pairwise (fun a b => qPath P s a < qPath P s b)) ∧ ((∀ i, i < 64 → t i < 64) ∧ (∀ i j, i < 64 → j < 64 → t i = t j → i = j)) ∧ (∀ i : Int, 0 ≤ i → i < 64 → R (S + 1) i = some (S + 6 + 3 * t i.toNat)) ∧ (∀ i : Int, 0 ≤ i → i < ord.length → ND W P (S + 6 + 3 * t i.toNat) s (lg ord i)) ∧ ∀ i : Int, 0 ≤ i → i < ord.length → R (S + 6 + 3 * t i.toNat) 2257 = if lg ord i = 0 then none else noA S ord t (qUp P s (lg ord i))
/-- the first file from i on that a directory has by a name -/
def enR (P : qR) (S : Nat) (s : Int) (ord : List Int) (t : Nat → Nat) (n : Int) (nm : List Int) : Nat → Int → Option Nat
  | 0, _ => none
  | m + 1, i => if ¬ lg ord i = 0 ∧ qUp P s (lg ord i) = n ∧ qNm P s (lg ord i) = nm then some (S + 6 + 3 * t i.toNat) else enR P S s ord t n nm m (i + 1)
section XENT
variable {fb : Bool} {d S a b q rp mb N j : Nat} {σ0 σ : hM} {W W0 W1 W2 P : qR} {R : rR} {i k x z v s e w c f u y n : Int} {l nm ord : List Int} {r : Option Nat} {t : Nat → Nat}
theorem VS.nd (h : VS S s) (hj : j < 64) : tX (S + 6 + 3 * j) = some (Sum.inl 8) := by
  have := tX_nd s.toNat (by have := h.1; omega) j hj
  rw [show S + 6 + 3 * j = 1299 + 294 * s.toNat + 3 * j by have := h.2; omega]
  exact this
theorem VS.mutN (h : VS S s) : mutA (S + 1) 18 64 = true := rfl
theorem NT.nodup (h : NT W R P S s ord t) : ord.Nodup := h.1.2.2.2.imp (fun hab c => by rw [c] at hab; exact absurd hab (Int.lt_irrefl _))
theorem idx_get (hn : ord.Nodup) (h0 : 0 ≤ i) (h1 : i < ord.length) : ord.idxOf (lg ord i) = i.toNat := by
  unfold lg
  rw [List.getD_eq_getElem?_getD, List.getElem?_eq_getElem (by omega)]
  exact hn.idxOf_getElem i.toNat (by omega)
theorem lg_mem (h0 : 0 ≤ i) (h1 : i < ord.length) : lg ord i ∈ ord := by
  unfold lg
  rw [List.getD_eq_getElem?_getD, List.getElem?_eq_getElem (by omega)]
  exact List.getElem_mem _
theorem mem_lg (h : n ∈ ord) : ∃ i : Int, 0 ≤ i ∧ i < ord.length ∧ lg ord i = n := by
  obtain ⟨i, hi, rfl⟩ := List.mem_iff_getElem.mp h
  refine ⟨i, by omega, by omega, ?_⟩
  unfold lg
  rw [List.getD_eq_getElem?_getD, Int.toNat_natCast, List.getElem?_eq_getElem hi]
  rfl
theorem noA_get (hn : ord.Nodup) (h0 : 0 ≤ i) (h1 : i < ord.length) : noA S ord t (lg ord i) = some (S + 6 + 3 * t i.toNat) := by
  unfold noA
  rw [if_pos (lg_mem h0 h1), idx_get hn h0 h1]
/-- two files are the same object where they are the same -/
theorem noA_inj (h : NT W R P S s ord t) {m : Int} (hn : n ∈ ord) (hm : m ∈ ord) : noA S ord t n = noA S ord t m ↔ n = m := by
  obtain ⟨i, i0, i1, rfl⟩ := mem_lg hn
  obtain ⟨k, k0, k1, rfl⟩ := mem_lg hm
  have hl := h.1.2.1
  rw [noA_get h.nodup i0 i1, noA_get h.nodup k0 k1]
  constructor
  · intro e
    have e2 : t i.toNat = t k.toNat := by have := Option.some.inj e; omega
    have := h.2.1.2 _ _ (by omega) (by omega) e2
    rw [show i = k by omega]
  · intro e
    have h1 := idx_get h.nodup i0 i1
    rw [e, idx_get h.nodup k0 k1] at h1
    rw [h1]
/-- whether a file stands in a directory, as the class sees it -/
theorem up_iff (h : NT W R P S s ord t) (hup : ∀ m, isN P s m → isN P s (qUp P s m)) (hn : n ∈ ord) (h0 : 0 ≤ i) (h1 : i < ord.length) : R (S + 6 + 3 * t i.toNat) 2257 = noA S ord t n ↔ ¬ lg ord i = 0 ∧ qUp P s (lg ord i) = n := by
  rw [h.2.2.2.2 i h0 h1]
  by_cases q : lg ord i = 0
  · rw [if_pos q]
    constructor
    · intro c
      unfold noA at c
      rw [if_pos hn] at c
      cases c
    · exact fun c => absurd q c.1
  · rw [if_neg q, noA_inj h ((h.1.1 _).mpr (hup _ ((h.1.1 _).mp (lg_mem h0 h1)))) hn]
    exact ⟨fun c => ⟨q, c⟩, fun c => c.2⟩
theorem x_entry_loop (hP : PX σ0 W R σ) (hS : VS S s) (hT : NT W R P S s ord t) (hup : ∀ m, isN P s m → isN P s (qUp P s m)) (hr : R S 2233 = some mb) (hB : BY W mb N l) (hn : n ∈ ord) (ha : noA S ord t n = some a) (h0 : 0 ≤ u ∧ u ≤ e ∧ e ≤ l.length) : ∀ (m : Nat) (i : Int), i + m = ord.length → 0 ≤ i → WP fb (d + 1) 56 32 [some (vR (some S)), some (vR (some a)), some (vI u), some (vI e), some (vI i)] [] σ (rPR (enR P S s ord t n (seg (lg l) u (e - u).toNat) m i) σ) := by
  have hO := hS.o
  have hA := hS.an
  have hl := hT.1.2.1
  obtain ⟨C, hC⟩ : ∃ C : Int, (ord.length : Int) = C := ⟨_, rfl⟩
  obtain ⟨z, hz⟩ : ∃ C : Int, (l.length : Int) = C := ⟨_, rfl⟩
  have hcn : W S 2230 = C := hT.1.2.2.1.trans hC
  have hbo := hB.1
  have hlz := hB.2.2.2.2.1
  have hn1 := hB.2.2.1
  have hao : tX a = some (Sum.inl 8) := by
    obtain ⟨k, k0, k1, rfl⟩ := mem_lg hn
    rw [noA_get hT.nodup k0 k1] at ha
    cases ha
    exact hS.nd (hT.2.1.1 _ (by omega))
  intro m
  induction m with
  | zero =>
    intro i h1 h2
    have h1 : i + ((0 : Nat) : Int) = ord.length := h1
    rw [show enR P S s ord t n (seg (lg l) u (e - u).toNat) 0 i = none from rfl]
    refine x_li (z := i) T_56_32 rfl ?_
    refine x_lr (z := some S) T_56_34 rfl ?_
    refine x_gI (z := C) T_56_35 (Or.inl F_7_6) (hP.o hO) (Eq.trans (hP.gi hO (key := 2230) rfl) hcn) ?_
    refine x_ic2 T_56_38 (fun _ => ?_) (fun h => absurd (show C ≤ i by omega) h)
    refine x_nu T_56_91 ?_
    refine x_rr T_56_92 ?_
    exact ⟨rfl, rfl⟩
  | succ m ih =>
    intro i h1 h2
    have hgo := ih (i + 1) (by omega) (by omega)
    obtain ⟨nm, hnm⟩ : ∃ nm, seg (lg l) u (e - u).toNat = nm := ⟨_, rfl⟩
    have ef : enR P S s ord t n nm (m + 1) i = if ¬ lg ord i = 0 ∧ qUp P s (lg ord i) = n ∧ qNm P s (lg ord i) = nm then some (S + 6 + 3 * t i.toNat) else enR P S s ord t n nm m (i + 1) := rfl
    have hnd := hT.2.2.1 i h2 (by omega)
    have hti := hT.2.1.1 i.toNat (by omega)
    have hno := hS.nd (j := t i.toNat) hti
    obtain ⟨g1, -, -, -, -, -, -, -, hNm, -⟩ := hT.2.2.2.1 i h2 (by omega)
    have hui := up_iff hT hup hn h2 (show i < ord.length by omega)
    rw [ha] at hui
    have hma := x_matches (fb := fb) (d := d) (s := u) (e := e) hP hB hNm hz ⟨by omega, by omega⟩ ⟨by omega, by omega⟩
    rw [hnm] at hma hgo ⊢
    rw [ef]
    obtain ⟨x0, hx0⟩ : ∃ x, lg ord i = x := ⟨_, rfl⟩
    rw [hx0] at hui hma ⊢
    obtain ⟨na, hna⟩ : ∃ na, S + 6 + 3 * t i.toNat = na := ⟨_, rfl⟩
    rw [hna] at hnd hno hui hma hNm ⊢
    obtain ⟨pr, hpr⟩ : ∃ pr, R na 2257 = pr := ⟨_, rfl⟩
    rw [hpr] at hui
    have hprg : hK ≤ pr.getD hK := by
      rw [← hpr, ← hna]
      rw [hT.2.2.2.2 i h2 (by omega)]
      split
      · exact Nat.le_refl _
      · unfold noA
        split
        · show 128 ≤ S + 6 + _
          have := hS.2
          omega
        · exact Nat.le_refl _
    by_cases q1 : ¬ x0 = 0 ∧ qUp P s x0 = n
    · have q2 := hui.mpr q1
      subst q2
      by_cases q3 : qNm P s x0 = nm
      · rw [if_pos ⟨⟨h0.1, by omega⟩, h0.2.1, q3.symm⟩] at hma
        rw [if_pos ⟨q1.1, q1.2, q3⟩]
        refine x_li (z := i) T_56_32 rfl ?_
        refine x_lr (z := some S) T_56_34 rfl ?_
        refine x_gI (z := C) T_56_35 (Or.inl F_7_6) (hP.o hO) (Eq.trans (hP.gi hO (key := 2230) rfl) hcn) ?_
        refine x_ic2 T_56_38 (fun h => absurd (show C ≤ i from h) (by omega)) (fun _ => ?_)
        refine x_lr (z := some S) T_56_41 rfl ?_
        refine x_gR (z := some (S + 1)) T_56_42 F_7_2 (hP.o hO) (hP.rc hO rfl rfl) ?_
        refine x_li (z := i) T_56_45 rfl ?_
        refine x_alR (z := some na) T_56_47 (hP.ta hA) (by decide) (by omega) (by omega) (Eq.trans (hP.arm hA rfl (by omega)) hnd) ?_
        refine x_gR (z := some a) T_56_48 F_8_1 (hP.o hno) (Eq.trans (hP.rm hno rfl (key := 2257) rfl) hpr) ?_
        refine x_lr (z := some a) T_56_51 rfl ?_
        refine x_ane T_56_52 (tX_o hao).1 (tX_o hao).1 (fun h0 => absurd h0 (by exact fun c => c rfl)) (fun _ => ?_)
        refine x_lr (z := some S) T_56_55 rfl ?_
        refine x_gR (z := some mb) T_56_56 F_7_9 (hP.o hO) (Eq.trans (hP.rm hO rfl (key := 2233) rfl) hr) ?_
        refine x_li (z := u) T_56_59 rfl ?_
        refine x_li (z := e) T_56_60 rfl ?_
        refine x_lr (z := some S) T_56_61 rfl ?_
        refine x_gR (z := some (S + 1)) T_56_62 F_7_2 (hP.o hO) (hP.rc hO rfl rfl) ?_
        refine x_li (z := i) T_56_65 rfl ?_
        refine x_alR (z := some na) T_56_67 (hP.ta hA) (by decide) (by omega) (by omega) (Eq.trans (hP.arm hA rfl (by omega)) hnd) ?_
        refine x_gR (z := some (na + 1)) T_56_68 F_8_0 (hP.o hno) (hP.rc hno rfl rfl) ?_
        refine x_cv4 T_56_71 mN_58 mL_58 (Nat.le_of_ble_eq_true rfl) mO_58 (hP.o hbo) (Nat.le_of_ble_eq_true rfl) (hma) ?_
        rintro _ σ ⟨rfl, rfl⟩
        refine cI ?_
        refine x_if T_56_74 (fun h => absurd (show (1 : Int) = 0 from h) (by decide)) (fun _ => ?_)
        refine x_lr (z := some S) T_56_77 rfl ?_
        refine x_gR (z := some (S + 1)) T_56_78 F_7_2 (hP.o hO) (hP.rc hO rfl rfl) ?_
        refine x_li (z := i) T_56_81 rfl ?_
        refine x_alR (z := some na) T_56_83 (hP.ta hA) (by decide) (by omega) (by omega) (Eq.trans (hP.arm hA rfl (by omega)) hnd) ?_
        refine x_rr T_56_84 ?_
        exact ⟨rfl, rfl⟩
      · rw [if_neg (fun c => q3 c.2.2.symm)] at hma
        rw [if_neg (fun c => q3 c.2.2)]
        refine x_li (z := i) T_56_32 rfl ?_
        refine x_lr (z := some S) T_56_34 rfl ?_
        refine x_gI (z := C) T_56_35 (Or.inl F_7_6) (hP.o hO) (Eq.trans (hP.gi hO (key := 2230) rfl) hcn) ?_
        refine x_ic2 T_56_38 (fun h => absurd (show C ≤ i from h) (by omega)) (fun _ => ?_)
        refine x_lr (z := some S) T_56_41 rfl ?_
        refine x_gR (z := some (S + 1)) T_56_42 F_7_2 (hP.o hO) (hP.rc hO rfl rfl) ?_
        refine x_li (z := i) T_56_45 rfl ?_
        refine x_alR (z := some na) T_56_47 (hP.ta hA) (by decide) (by omega) (by omega) (Eq.trans (hP.arm hA rfl (by omega)) hnd) ?_
        refine x_gR (z := some a) T_56_48 F_8_1 (hP.o hno) (Eq.trans (hP.rm hno rfl (key := 2257) rfl) hpr) ?_
        refine x_lr (z := some a) T_56_51 rfl ?_
        refine x_ane T_56_52 (tX_o hao).1 (tX_o hao).1 (fun h0 => absurd h0 (by exact fun c => c rfl)) (fun _ => ?_)
        refine x_lr (z := some S) T_56_55 rfl ?_
        refine x_gR (z := some mb) T_56_56 F_7_9 (hP.o hO) (Eq.trans (hP.rm hO rfl (key := 2233) rfl) hr) ?_
        refine x_li (z := u) T_56_59 rfl ?_
        refine x_li (z := e) T_56_60 rfl ?_
        refine x_lr (z := some S) T_56_61 rfl ?_
        refine x_gR (z := some (S + 1)) T_56_62 F_7_2 (hP.o hO) (hP.rc hO rfl rfl) ?_
        refine x_li (z := i) T_56_65 rfl ?_
        refine x_alR (z := some na) T_56_67 (hP.ta hA) (by decide) (by omega) (by omega) (Eq.trans (hP.arm hA rfl (by omega)) hnd) ?_
        refine x_gR (z := some (na + 1)) T_56_68 F_8_0 (hP.o hno) (hP.rc hno rfl rfl) ?_
        refine x_cv4 T_56_71 mN_58 mL_58 (Nat.le_of_ble_eq_true rfl) mO_58 (hP.o hbo) (Nat.le_of_ble_eq_true rfl) (hma) ?_
        rintro _ σ ⟨rfl, rfl⟩
        refine cI ?_
        refine x_if T_56_74 (fun _ => ?_) (fun h => absurd (show (0 : Int) = 0 by decide) h)
        refine x_inc (w := (i + 1)) (ls1 := [some (vR (some S)), some (vR (some a)), some (vI u), some (vI e), some (vI (i + 1))]) T_56_85 rfl (w32_id (by omega) (by omega)) rfl ?_
        refine x_goto T_56_88 ?_
        exact hgo
    · have q2 : pr ≠ some a := fun c => q1 (hui.mp c)
      rw [if_neg (fun c => q1 ⟨c.1, c.2.1⟩)]
      refine x_li (z := i) T_56_32 rfl ?_
      refine x_lr (z := some S) T_56_34 rfl ?_
      refine x_gI (z := C) T_56_35 (Or.inl F_7_6) (hP.o hO) (Eq.trans (hP.gi hO (key := 2230) rfl) hcn) ?_
      refine x_ic2 T_56_38 (fun h => absurd (show C ≤ i from h) (by omega)) (fun _ => ?_)
      refine x_lr (z := some S) T_56_41 rfl ?_
      refine x_gR (z := some (S + 1)) T_56_42 F_7_2 (hP.o hO) (hP.rc hO rfl rfl) ?_
      refine x_li (z := i) T_56_45 rfl ?_
      refine x_alR (z := some na) T_56_47 (hP.ta hA) (by decide) (by omega) (by omega) (Eq.trans (hP.arm hA rfl (by omega)) hnd) ?_
      refine x_gR (z := pr) T_56_48 F_8_1 (hP.o hno) (Eq.trans (hP.rm hno rfl (key := 2257) rfl) hpr) ?_
      refine x_lr (z := some a) T_56_51 rfl ?_
      refine x_ane T_56_52 (tX_o hao).1 hprg (fun _ => ?_) (fun h0 => absurd h0 (by exact q2))
      refine x_inc (w := (i + 1)) (ls1 := [some (vR (some S)), some (vR (some a)), some (vI u), some (vI e), some (vI (i + 1))]) T_56_85 rfl (w32_id (by omega) (by omega)) rfl ?_
      refine x_goto T_56_88 ?_
      exact hgo
theorem x_entry (hP : PX σ0 W R σ) (hS : VS S s) (hT : NT W R P S s ord t) (hup : ∀ m, isN P s m → isN P s (qUp P s m)) (hr : R S 2233 = some mb) (hB : BY W mb N l) (hn : n ∈ ord) (ha : noA S ord t n = some a) (h0 : 0 ≤ u ∧ u ≤ e ∧ e ≤ l.length) : CL fb (d + 1) 56 [vR (some S), vR (some a), vI u, vI e] σ (rPR (if seg (lg l) u (e - u).toNat = [46, 46] then (if n = 0 then some a else noA S ord t (qUp P s n)) else enR P S s ord t n (seg (lg l) u (e - u).toNat) ord.length 0) σ) := by
  have hO := hS.o
  have hbo := hB.1
  have hlz := hB.2.2.2.2.1
  have hn1 := hB.2.2.1
  obtain ⟨z, hz⟩ : ∃ C : Int, (l.length : Int) = C := ⟨_, rfl⟩
  have hlp := x_entry_loop (fb := fb) (d := d) hP hS hT hup hr hB hn ha h0 ord.length 0 (by omega) (by decide)
  have hdt := x_areDots (fb := fb) (d := d) (s := u) (e := e) (k := 2) hP hB hz ⟨by omega, by omega⟩ ⟨by omega, by omega⟩ (by decide)
  have hao : tX a = some (Sum.inl 8) ∧ R a 2257 = if n = 0 then none else noA S ord t (qUp P s n) := by
    obtain ⟨k, k0, k1, rfl⟩ := mem_lg hn
    rw [noA_get hT.nodup k0 k1] at ha
    cases ha
    have hl := hT.1.2.1
    exact ⟨hS.nd (hT.2.1.1 _ (by omega)), hT.2.2.2.2 k k0 k1⟩
  obtain ⟨hao, hpr⟩ := hao
  by_cases q : seg (lg l) u (e - u).toNat = [46, 46]
  · rw [if_pos q]
    have hlen : e - u = 2 := by
      have := congrArg List.length q
      rw [seg_len] at this
      have this : (e - u).toNat = 2 := this
      omega
    rw [if_pos ⟨⟨h0.1, by omega⟩, hlen, by rw [show (2 : Int).toNat = (e - u).toNat by omega, q, hlen]; rfl⟩] at hdt
    by_cases q2 : n = 0
    · rw [if_pos q2] at hpr ⊢
      refine CL_in mL_56 rfl ?_
      show WP fb _ 56 0 [some (vR (some S)), some (vR (some a)), some (vI u), some (vI e), none] [] σ _
      refine x_lr (z := some S) T_56_0 rfl ?_
      refine x_gR (z := some mb) T_56_1 F_7_9 (hP.o hO) (Eq.trans (hP.rm hO rfl (key := 2233) rfl) hr) ?_
      refine x_li (z := u) T_56_4 rfl ?_
      refine x_li (z := e) T_56_5 rfl ?_
      refine x_ic T_56_6 ?_
      refine x_cv4 T_56_7 mN_57 mL_57 (Nat.le_of_ble_eq_true rfl) mO_57 (hP.o hbo) (Nat.le_of_ble_eq_true rfl) (hdt) ?_
      rintro _ σ ⟨rfl, rfl⟩
      refine cI ?_
      refine x_if T_56_10 (fun h => absurd (show (1 : Int) = 0 from h) (by decide)) (fun _ => ?_)
      refine x_lr (z := some a) T_56_13 rfl ?_
      refine x_gR (z := none) T_56_14 F_8_1 (hP.o hao) (Eq.trans (hP.rm hao rfl (key := 2257) rfl) hpr) ?_
      refine x_nnul T_56_17 (fun a0 h0 => absurd h0 (by simp)) (fun _ => ?_)
      refine x_lr (z := some a) T_56_20 rfl ?_
      refine x_goto T_56_21 ?_
      refine x_rr T_56_28 ?_
      exact ⟨rfl, rfl⟩
    · rw [if_neg q2] at hpr ⊢
      obtain ⟨pa, hpa⟩ : ∃ pa, noA S ord t (qUp P s n) = some pa := by
        unfold noA
        rw [if_pos ((hT.1.1 _).mpr (hup _ ((hT.1.1 _).mp hn)))]
        exact ⟨_, rfl⟩
      rw [hpa] at hpr ⊢
      refine CL_in mL_56 rfl ?_
      show WP fb _ 56 0 [some (vR (some S)), some (vR (some a)), some (vI u), some (vI e), none] [] σ _
      refine x_lr (z := some S) T_56_0 rfl ?_
      refine x_gR (z := some mb) T_56_1 F_7_9 (hP.o hO) (Eq.trans (hP.rm hO rfl (key := 2233) rfl) hr) ?_
      refine x_li (z := u) T_56_4 rfl ?_
      refine x_li (z := e) T_56_5 rfl ?_
      refine x_ic T_56_6 ?_
      refine x_cv4 T_56_7 mN_57 mL_57 (Nat.le_of_ble_eq_true rfl) mO_57 (hP.o hbo) (Nat.le_of_ble_eq_true rfl) (hdt) ?_
      rintro _ σ ⟨rfl, rfl⟩
      refine cI ?_
      refine x_if T_56_10 (fun h => absurd (show (1 : Int) = 0 from h) (by decide)) (fun _ => ?_)
      refine x_lr (z := some a) T_56_13 rfl ?_
      refine x_gR (z := some pa) T_56_14 F_8_1 (hP.o hao) (Eq.trans (hP.rm hao rfl (key := 2257) rfl) hpr) ?_
      refine x_nnul T_56_17 (fun _ _ => ?_) (fun h0 => absurd h0 (by simp))
      refine x_lr (z := some a) T_56_24 rfl ?_
      refine x_gR (z := some pa) T_56_25 F_8_1 (hP.o hao) (Eq.trans (hP.rm hao rfl (key := 2257) rfl) hpr) ?_
      refine x_rr T_56_28 ?_
      exact ⟨rfl, rfl⟩
  · rw [if_neg q]
    rw [if_neg (fun c => q (by rw [c.2.1, c.2.2]; rfl))] at hdt
    refine CL_in mL_56 rfl ?_
    show WP fb _ 56 0 [some (vR (some S)), some (vR (some a)), some (vI u), some (vI e), none] [] σ _
    refine x_lr (z := some S) T_56_0 rfl ?_
    refine x_gR (z := some mb) T_56_1 F_7_9 (hP.o hO) (Eq.trans (hP.rm hO rfl (key := 2233) rfl) hr) ?_
    refine x_li (z := u) T_56_4 rfl ?_
    refine x_li (z := e) T_56_5 rfl ?_
    refine x_ic T_56_6 ?_
    refine x_cv4 T_56_7 mN_57 mL_57 (Nat.le_of_ble_eq_true rfl) mO_57 (hP.o hbo) (Nat.le_of_ble_eq_true rfl) (hdt) ?_
    rintro _ σ ⟨rfl, rfl⟩
    refine cI ?_
    refine x_if T_56_10 (fun _ => ?_) (fun h => absurd (show (0 : Int) = 0 by decide) h)
    refine x_ic T_56_29 ?_
    refine x_si (ls1 := [some (vR (some S)), some (vR (some a)), some (vI u), some (vI e), some (vI 0)]) T_56_30 rfl ?_
    exact hlp
end XENT
