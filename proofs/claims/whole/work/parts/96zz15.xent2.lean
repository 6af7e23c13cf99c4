/-! What a directory has by a name: the class finds the same file as the reference, where names of a directory are distinct. -/
/-- m stands in the directory n by the name nm -/
def kidN (P : qR) (s n : Int) (nm : List Int) (m : Int) : Prop := isN P s m ∧ ¬ m = 0 ∧ qUp P s m = n ∧ qNm P s m = nm
/-- names of a directory are distinct -/
def UNq (P : qR) (s : Int) : Prop := ∀ (n : Int) (nm : List Int) (m m2 : Int), kidN P s n nm m → kidN P s n nm m2 → m = m2
section XENT2
variable {S : Nat} {W P : qR} {R : rR} {i k x z v s e w c f u y n p j T U : Int} {l nm ord : List Int} {t : Nat → Nat}
theorem enR_none : ∀ (m : Nat) (i : Int), enR P S s ord t n nm m i = none → ∀ k, i ≤ k → k < i + m → ¬ (¬ lg ord k = 0 ∧ qUp P s (lg ord k) = n ∧ qNm P s (lg ord k) = nm)
  | 0, i, _, k, h1, h2 => by omega
  | m + 1, i, h, k, h1, h2 => by
    unfold enR at h
    by_cases q : ¬ lg ord i = 0 ∧ qUp P s (lg ord i) = n ∧ qNm P s (lg ord i) = nm
    · rw [if_pos q] at h
      cases h
    · rw [if_neg q] at h
      by_cases e : k = i
      · rw [e]
        exact q
      · exact enR_none m (i + 1) h k (by omega) (by omega)
theorem enR_some {a : Nat} : ∀ (m : Nat) (i : Int), enR P S s ord t n nm m i = some a → ∃ k, i ≤ k ∧ k < i + m ∧ (¬ lg ord k = 0 ∧ qUp P s (lg ord k) = n ∧ qNm P s (lg ord k) = nm) ∧ a = S + 6 + 3 * t k.toNat
  | 0, i, h => by cases h
  | m + 1, i, h => by
    unfold enR at h
    by_cases q : ¬ lg ord i = 0 ∧ qUp P s (lg ord i) = n ∧ qNm P s (lg ord i) = nm
    · rw [if_pos q] at h
      exact ⟨i, Int.le_refl i, by omega, q, (Option.some.inj h).symm⟩
    · rw [if_neg q] at h
      obtain ⟨k, h1, h2, h3⟩ := enR_some m (i + 1) h
      exact ⟨k, by omega, by omega, h3⟩
theorem enR_eq (hT : NT W R P S s ord t) (hU : UNq P s) (h1 : 0 ≤ f → kidN P s n nm f) (h2 : f < 0 → ∀ m, ¬ kidN P s n nm m) : enR P S s ord t n nm ord.length 0 = if f < 0 then none else noA S ord t f := by
  have hmem : ∀ k : Int, 0 ≤ k → k < ord.length → (¬ lg ord k = 0 ∧ qUp P s (lg ord k) = n ∧ qNm P s (lg ord k) = nm) → kidN P s n nm (lg ord k) := fun k k0 k1 q => ⟨(hT.1.1 _).mp (lg_mem k0 k1), q⟩
  cases hr : enR P S s ord t n nm ord.length 0 with
  | none =>
    have hno := enR_none _ _ hr
    by_cases q : f < 0
    · rw [if_pos q]
    · exfalso
      obtain ⟨a1, a2⟩ := h1 (by omega)
      obtain ⟨k, k0, k1, hk⟩ := mem_lg ((hT.1.1 f).mpr a1)
      exact hno k k0 (by omega) (by rw [hk]; exact a2)
  | some a =>
    obtain ⟨k, k0, k1, q, rfl⟩ := enR_some _ _ hr
    have hc := hmem k k0 (by omega) q
    by_cases q2 : f < 0
    · exact absurd hc (h2 q2 _)
    · rw [if_neg q2, ← hU n nm _ _ hc (h1 (by omega)), noA_get hT.nodup k0 (by omega)]
/-- the reference's find, trees -/
theorem fiF_kid (hI : IV false T U P) (hs : 0 ≤ s ∧ s < 2) (nm : List Int) : ∀ (m : Nat) (f : Int), 1 ≤ f → f + m = 64 → (0 ≤ fiF P s n nm m f → kidN P s n nm (fiF P s n nm m f)) ∧ (fiF P s n nm m f < 0 → ∀ k, f ≤ k → ¬ kidN P s n nm k)
  | 0, f, h1, h2 => by
    refine ⟨fun h => ?_, fun _ k hk c => ?_⟩
    · have h : (0 : Int) ≤ -1 := h
      omega
    · rcases c.1 with q | q
      · omega
      · omega
  | m + 1, f, h1, h2 => by
    obtain ⟨ih1, ih2⟩ := fiF_kid hI hs nm m (f + 1) (by omega) (by omega)
    have hb : 0 ≤ P 2289 (64 * s + f) ∧ P 2289 (64 * s + f) ≤ 1 := IV.a (k := 64 * s + f) hI 2289 2 128 rfl rfl rfl (by omega) (by omega)
    have eu : qUp P s f = P 2290 (64 * s + f) := if_pos hs.2
    unfold fiF
    by_cases q : ¬ P 2289 (64 * s + f) = 0 ∧ P 2290 (64 * s + f) = n ∧ qNm P s f = nm
    · rw [if_pos q]
      exact ⟨fun _ => ⟨Or.inl ⟨hs.2, by omega, by omega, by omega⟩, by omega, by rw [eu]; exact q.2.1, q.2.2⟩, fun h => by omega⟩
    · rw [if_neg q]
      refine ⟨ih1, fun h k hk c => ?_⟩
      by_cases e : k = f
      · subst e
        rcases c.1 with c1 | c1
        · exact q ⟨by omega, by rw [← eu]; exact c.2.2.1, c.2.2.2⟩
        · omega
      · exact ih2 h k (by omega) c
/-- the entries of the root of server 2 -/
theorem enP_spec : ∀ (m : Nat) (p j g : Int), 0 ≤ p → p + m = 8 → 1 ≤ j → (enP P m p j g = g ∧ True) ∨ ∃ q, p ≤ q ∧ q < 8 ∧ ¬ P 2320 q = 0 ∧ enP P m p j g = 16 * q + 16
  | 0, p, j, g, _, _, _ => Or.inl ⟨rfl, trivial⟩
  | m + 1, p, j, g, h0, h1, h2 => by
    unfold enP
    by_cases q : P 2320 p = 0
    · rw [if_pos q]
      rcases enP_spec m (p + 1) j g (by omega) (by omega) h2 with c | ⟨r, a, b, c, e⟩
      · exact Or.inl c
      · exact Or.inr ⟨r, by omega, b, c, e⟩
    · rw [if_neg q]
      by_cases q2 : j + (-1) = 0
      · rw [if_pos q2]
        have hneg : ∀ (m : Nat) (p j g : Int), j ≤ 0 → enP P m p j g = g := by
          intro m
          induction m with
          | zero => intro p j g _; rfl
          | succ m ih =>
            intro p j g hj
            unfold enP
            split
            · exact ih _ _ _ hj
            · rw [if_neg (by omega)]
              exact ih _ _ _ (by omega)
        rw [hneg _ _ _ _ (by omega)]
        exact Or.inr ⟨p, Int.le_refl p, by omega, q, rfl⟩
      · rw [if_neg q2]
        rcases enP_spec m (p + 1) (j + (-1)) g (by omega) (by omega) (by omega) with c | ⟨r, a, b, c, e⟩
        · exact Or.inl c
        · exact Or.inr ⟨r, by omega, b, c, e⟩
theorem enP_neg : ∀ (m : Nat) (p j g : Int), j ≤ 0 → enP P m p j g = g
  | 0, _, _, _, _ => rfl
  | m + 1, p, j, g, hj => by
    unfold enP
    split
    · exact enP_neg m _ _ _ hj
    · rw [if_neg (by omega)]
      exact enP_neg m _ _ _ (by omega)
/-- every living process is some entry -/
theorem enP_all : ∀ (m : Nat) (p g q : Int), 0 ≤ p → p + m = 8 → p ≤ q → q < 8 → ¬ P 2320 q = 0 → ∃ j : Int, 1 ≤ j ∧ j ≤ m ∧ enP P m p j g = 16 * q + 16
  | 0, p, g, q, _, h1, h2, h3, _ => by omega
  | m + 1, p, g, q, h0, h1, h2, h3, h4 => by
    by_cases e : q = p
    · subst e
      refine ⟨1, by decide, by omega, ?_⟩
      unfold enP
      rw [if_neg h4, if_pos (by decide)]
      exact enP_neg m _ _ _ (by decide)
    · by_cases c : P 2320 p = 0
      · obtain ⟨j, j1, j2, j3⟩ := enP_all m (p + 1) g q (by omega) (by omega) (by omega) h3 h4
        refine ⟨j, j1, by omega, ?_⟩
        unfold enP
        rw [if_pos c]
        exact j3
      · obtain ⟨j, j1, j2, j3⟩ := enP_all m (p + 1) g q (by omega) (by omega) (by omega) h3 h4
        refine ⟨j + 1, by omega, by omega, ?_⟩
        unfold enP
        rw [if_neg c, if_neg (by omega), show j + 1 + (-1) = j by omega]
        exact j3
/-- entries of a directory of server 2 are its children, and all of them -/
theorem qEnt2 (hn : n = 0 ∨ (16 ≤ n ∧ n < 144 ∧ n % 16 = 0 ∧ ¬ P 2320 (n / 16 - 1) = 0)) (hk : 0 ≤ k) : 0 ≤ qEnt P 2 n k → isN P 2 (qEnt P 2 n k) ∧ ¬ qEnt P 2 n k = 0 ∧ qUp P 2 (qEnt P 2 n k) = n := by
  unfold qEnt
  rw [if_pos rfl]
  intro h
  rcases hn with rfl | ⟨n1, n2, n3, n4⟩
  · rw [if_neg (by decide)] at h ⊢
    by_cases q : k = 0
    · rw [q, if_pos rfl, enP_neg _ _ _ _ (Int.le_refl 0)]
      exact ⟨Or.inr ⟨rfl, Or.inr (Or.inl rfl)⟩, by decide, rfl⟩
    · rw [if_neg q] at h ⊢
      rcases enP_spec (P := P) 8 0 k (-1) (by decide) (by decide) (by omega) with c | ⟨r, a, b, c, e⟩
      · rw [c.1] at h
        omega
      · rw [e]
        refine ⟨Or.inr ⟨rfl, Or.inr (Or.inr ⟨by omega, by omega, by omega, ?_⟩)⟩, by omega, ?_⟩
        · rw [show (16 * r + 16) / 16 - 1 = r by omega]
          exact c
        · unfold qUp
          rw [if_neg (by decide), if_pos (Or.inr (by omega))]
  · rw [if_pos (by omega)] at h ⊢
    by_cases q : k < 2
    · rw [if_pos q]
      refine ⟨Or.inr ⟨rfl, Or.inr (Or.inr ⟨by omega, by omega, by omega, ?_⟩)⟩, by omega, ?_⟩
      · rw [show (n + 1 + k) / 16 - 1 = n / 16 - 1 by omega]
        exact n4
      · unfold qUp
        rw [if_neg (by decide), if_neg (by omega)]
        omega
    · rw [if_neg q] at h
      omega
theorem qEnt2_all (hn : n = 0 ∨ (16 ≤ n ∧ n < 144 ∧ n % 16 = 0 ∧ ¬ P 2320 (n / 16 - 1) = 0)) {m : Int} (hm : isN P 2 m) (h0 : ¬ m = 0) (hu : qUp P 2 m = n) : ∃ k : Int, 0 ≤ k ∧ k < 9 ∧ qEnt P 2 n k = m := by
  unfold qUp at hu
  rw [if_neg (by decide)] at hu
  have eq : ∀ k, qEnt P 2 n k = if 0 < n then (if k < 2 then n + 1 + k else -1) else enP P 8 0 k (if k = 0 then 1 else -1) := fun k => if_pos rfl
  have hm : m = 0 ∨ m = 1 ∨ (16 ≤ m ∧ m < 144 ∧ m % 16 ≤ 2 ∧ ¬ P 2320 (m / 16 - 1) = 0) := by
    rcases hm with c | c
    · omega
    · exact c.2
  rcases hm with c | c | ⟨m1, m2, m3, m4⟩
  · exact absurd c h0
  · rw [if_pos (Or.inl (by omega))] at hu
    subst hu
    refine ⟨0, by decide, by decide, ?_⟩
    rw [eq, if_neg (by decide), if_pos rfl, enP_neg _ _ _ _ (Int.le_refl 0), c]
  · by_cases q : m % 16 = 0
    · rw [if_pos (Or.inr q)] at hu
      subst hu
      obtain ⟨j, j1, j2, j3⟩ := enP_all (P := P) 8 0 (-1) (m / 16 - 1) (by decide) (by decide) (by omega) (by omega) m4
      refine ⟨j, by omega, by omega, ?_⟩
      rw [eq, if_neg (by decide), if_neg (by omega), j3]
      omega
    · rw [if_neg (by omega)] at hu
      refine ⟨m % 16 - 1, by omega, by omega, ?_⟩
      rw [eq, if_pos (by omega), if_pos (by omega)]
      omega
theorem fiE_kid (hn : n = 0 ∨ (16 ≤ n ∧ n < 144 ∧ n % 16 = 0 ∧ ¬ P 2320 (n / 16 - 1) = 0)) (nm : List Int) : ∀ (m : Nat) (k : Int), 0 ≤ k → k + m = 9 → (0 ≤ fiE P n nm m k → kidN P 2 n nm (fiE P n nm m k)) ∧ (fiE P n nm m k < 0 → ∀ j, k ≤ j → j < 9 → ¬ (0 ≤ qEnt P 2 n j ∧ qNm P 2 (qEnt P 2 n j) = nm))
  | 0, k, h1, h2 => ⟨fun h => by have h : (0 : Int) ≤ -1 := h; omega, fun _ j _ _ => by omega⟩
  | m + 1, k, h1, h2 => by
    obtain ⟨ih1, ih2⟩ := fiE_kid hn nm m (k + 1) (by omega) (by omega)
    unfold fiE
    by_cases q : 0 ≤ qEnt P 2 n k ∧ qNm P 2 (qEnt P 2 n k) = nm
    · rw [if_pos q]
      obtain ⟨g1, g2, g3⟩ := qEnt2 hn h1 q.1
      exact ⟨fun _ => ⟨g1, g2, g3, q.2⟩, fun h => by omega⟩
    · rw [if_neg q]
      refine ⟨ih1, fun h j hj hj2 c => ?_⟩
      by_cases e : j = k
      · rw [e] at c
        exact q c
      · exact ih2 h j (by omega) hj2 c
/-- a directory of server 2, or any file of a tree -/
def dirN (P : qR) (s n : Int) : Prop := s = 2 → n = 0 ∨ (16 ≤ n ∧ n < 144 ∧ n % 16 = 0 ∧ ¬ P 2320 (n / 16 - 1) = 0)
theorem qFind_kid (hI : IV false T U P) (hs : 0 ≤ s ∧ s < 3) (hd : dirN P s n) : (0 ≤ qFind P s n nm → kidN P s n nm (qFind P s n nm)) ∧ (qFind P s n nm < 0 → ∀ m, ¬ kidN P s n nm m) := by
  unfold qFind
  by_cases q : s < 2
  · rw [if_pos q]
    obtain ⟨h1, h2⟩ := fiF_kid (n := n) hI ⟨hs.1, q⟩ nm 63 1 (by decide) (by decide)
    refine ⟨h1, fun h m c => h2 h m ?_ c⟩
    have := c.2.1
    rcases c.1 with c1 | c1 <;> omega
  · rw [if_neg q]
    have e : s = 2 := by omega
    subst e
    obtain ⟨h1, h2⟩ := fiE_kid (hd rfl) nm 9 0 (by decide) (by decide)
    refine ⟨h1, fun h m c => ?_⟩
    obtain ⟨k, k0, k1, k2⟩ := qEnt2_all (hd rfl) c.1 c.2.1 c.2.2.1
    refine h2 h k k0 k1 ⟨?_, ?_⟩
    · rw [k2]
      rcases c.1 with c1 | c1 <;> omega
    · rw [k2]
      exact c.2.2.2
/-- the class finds what the reference finds -/
theorem enR_find (hT : NT W R P S s ord t) (hU : UNq P s) (hI : IV false T U P) (hs : 0 ≤ s ∧ s < 3) (hd : dirN P s n) : enR P S s ord t n nm ord.length 0 = if qFind P s n nm < 0 then none else noA S ord t (qFind P s n nm) := enR_eq hT hU (qFind_kid hI hs hd).1 (qFind_kid hI hs hd).2
end XENT2
