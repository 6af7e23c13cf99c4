/-! The class's servers: the entries of a directory, in the order of their paths. -/
/-- what stands in a directory -/
def kids (P : qR) (s n : Int) (ord : List Int) : List Int := ord.filter (fun m => decide (¬ m = 0 ∧ qUp P s m = n))
/-- processes that live, as files -/
def lvL (P : qR) : Nat → Int → List Int
  | 0, _ => []
  | m + 1, p => (if P 2320 p = 0 then [] else [16 * p + 16]) ++ lvL P m (p + 1)
section XKID
variable {S : Nat} {W P : qR} {R : rR} {i j k x z v s e w c f u n p T U l : Int} {ord : List Int} {t : Nat → Nat}
theorem srt_eq {g : Int → Int} : ∀ (a b : List Int), a.Pairwise (fun x y => g x < g y) → b.Pairwise (fun x y => g x < g y) → (∀ x, x ∈ a ↔ x ∈ b) → a = b
  | [], [], _, _, _ => rfl
  | [], y :: b, _, _, h => absurd ((h y).mpr List.mem_cons_self) (fun c => by cases c)
  | x :: a, [], _, _, h => absurd ((h x).mp List.mem_cons_self) (fun c => by cases c)
  | x :: a, y :: b, ha, hb, h => by
    obtain ⟨ha1, ha2⟩ := List.pairwise_cons.mp ha
    obtain ⟨hb1, hb2⟩ := List.pairwise_cons.mp hb
    have hxy : x = y := by
      rcases List.mem_cons.mp ((h x).mp List.mem_cons_self) with q | q
      · exact q
      · rcases List.mem_cons.mp ((h y).mpr List.mem_cons_self) with q2 | q2
        · exact q2.symm
        · have h1 := hb1 x q
          have h2 := ha1 y q2
          omega
    subst hxy
    rw [srt_eq a b ha2 hb2 (fun z => ?_)]
    constructor
    · intro q
      rcases List.mem_cons.mp ((h z).mp (List.mem_cons_of_mem _ q)) with q2 | q2
      · have := ha1 z q
        rw [q2] at this
        omega
      · exact q2
    · intro q
      rcases List.mem_cons.mp ((h z).mpr (List.mem_cons_of_mem _ q)) with q2 | q2
      · have := hb1 z q
        rw [q2] at this
        omega
      · exact q2
theorem mem_kids : k ∈ kids P s n ord ↔ k ∈ ord ∧ ¬ k = 0 ∧ qUp P s k = n := by
  unfold kids
  rw [List.mem_filter, decide_eq_true_eq]
theorem kids_srt (h : NT W R P S s ord t) : (kids P s n ord).Pairwise (fun a b => qPath P s a < qPath P s b) := h.1.2.2.2.sublist List.filter_sublist
/-- the least path beyond l -/
theorem enI_least : ∀ (m : Nat) (f g : Int), (g < 0 ∨ 0 ≤ g) → 1 ≤ f → (0 ≤ enI P s n l m f g → (0 ≤ g → P 2291 (64 * s + enI P s n l m f g) ≤ P 2291 (64 * s + g)) ∧ ∀ i, f ≤ i → i < f + m → ¬ P 2289 (64 * s + i) = 0 → P 2290 (64 * s + i) = n → l < P 2291 (64 * s + i) → P 2291 (64 * s + enI P s n l m f g) ≤ P 2291 (64 * s + i))
  | 0, f, g, _, _ => fun _ => ⟨fun _ => Int.le_refl _, fun i h1 h2 => by omega⟩
  | m + 1, f, g, hg, hf => fun h => by
    unfold enI at h ⊢
    by_cases q : (¬ P 2289 (64 * s + f) = 0 ∧ P 2290 (64 * s + f) = n ∧ l < P 2291 (64 * s + f)) ∧ (g < 0 ∨ P 2291 (64 * s + f) < P 2291 (64 * s + g))
    · rw [if_pos q] at h ⊢
      obtain ⟨h1, h2⟩ := enI_least m (f + 1) f (Or.inr (by omega)) (by omega) h
      have h1 := h1 (by omega)
      refine ⟨fun _ => by omega, fun i i0 i1 a b c => ?_⟩
      by_cases e : i = f
      · rw [e]
        exact h1
      · exact h2 i (by omega) (by omega) a b c
    · rw [if_neg q] at h ⊢
      obtain ⟨h1, h2⟩ := enI_least m (f + 1) g hg (by omega) h
      refine ⟨h1, fun i i0 i1 a b c => ?_⟩
      by_cases e : i = f
      · subst e
        have hg0 : 0 ≤ g := by
          apply Decidable.byContradiction
          intro c2
          exact q ⟨⟨a, b, c⟩, Or.inl (by omega)⟩
        have := h1 hg0
        have : P 2291 (64 * s + g) ≤ P 2291 (64 * s + i) := by
          apply Decidable.byContradiction
          intro c2
          exact q ⟨⟨a, b, c⟩, Or.inr (by omega)⟩
        omega
      · exact h2 i (by omega) (by omega) a b c
theorem hN1 (hs : s < 2) (h1 : 1 ≤ f) (h2 : f < 64) (h3 : ¬ P 2289 (64 * s + f) = 0) (hb : 0 ≤ P 2289 (64 * s + f) ∧ P 2289 (64 * s + f) ≤ 1) : isN P s f := Or.inl ⟨hs, by omega, h2, by omega⟩
theorem enO_kids (hI : IV false T U P) (hs : 0 ≤ s ∧ s < 2) (hk : ∀ m, m ∈ ord ↔ isN P s m) : ∀ (k : Nat) (D : List Int) (l : Int), D.Pairwise (fun a b => qPath P s a < qPath P s b) → (∀ m, m ∈ D ↔ (m ∈ ord ∧ ¬ m = 0 ∧ qUp P s m = n) ∧ l < qPath P s m) → 0 ≤ l → enO P s n k l = if (k : Int) < D.length then lg D k else -1 := by
  have hp : ∀ m, qPath P s m = P 2291 (64 * s + m) := fun m => if_pos hs.2
  have hu : ∀ m, qUp P s m = P 2290 (64 * s + m) := fun m => if_pos hs.2
  have first : ∀ (D : List Int) (l : Int), D.Pairwise (fun a b => qPath P s a < qPath P s b) → (∀ m, m ∈ D ↔ (m ∈ ord ∧ ¬ m = 0 ∧ qUp P s m = n) ∧ l < qPath P s m) → (enI P s n l 63 1 (-1) < 0 ∧ D = []) ∨ (0 ≤ enI P s n l 63 1 (-1) ∧ ∃ r, D = enI P s n l 63 1 (-1) :: r) := fun D l hD hm => by
    obtain ⟨g, hg⟩ : ∃ g, enI P s n l 63 1 (-1) = g := ⟨_, rfl⟩
    have h1 := enI_get (P := P) (s := s) (n := n) (l := l) 63 1 (-1) (by decide) (by decide) (Or.inl (by decide))
    have h2 := enI_least (P := P) (s := s) (n := n) (l := l) 63 1 (-1) (Or.inl (by decide)) (by decide)
    have h3 := enI_none (P := P) (s := s) (n := n) (l := l) 63 1 (-1) (by decide)
    rw [hg] at h1 h2 h3 ⊢
    cases hDD : D with
    | nil =>
      refine Or.inl ⟨?_, rfl⟩
      apply Decidable.byContradiction
      intro c
      obtain ⟨a1, a2, a3, a4, a5⟩ := h1.resolve_left c
      have hb : isN P s g := (hN1 hs.2 a1 a2 a3 (IV.a hI 2289 2 128 rfl rfl rfl (by omega) (by omega)))
      have := (hm g).mpr ⟨⟨(hk g).mpr hb, by omega, by rw [hu]; exact a4⟩, by rw [hp]; exact a5⟩
      rw [hDD] at this
      cases this
    | cons d r =>
      have hd := (hm d).mp (by rw [hDD]; exact List.mem_cons_self)
      have hdl := isN_lt hs.2 ((hk d).mp hd.1.1)
      have hg0 : 0 ≤ g := by
        apply Decidable.byContradiction
        intro c
        exact (h3 (by omega)).2 d (by omega) (by omega) ⟨by omega, by rw [← hu]; exact hd.1.2.2, by rw [← hp]; exact hd.2⟩
      refine Or.inr ⟨hg0, r, ?_⟩
      obtain ⟨a1, a2, a3, a4, a5⟩ := h1.resolve_left (by omega)
      have hgm := (hm g).mpr ⟨⟨(hk g).mpr (hN1 hs.2 a1 a2 a3 (IV.a hI 2289 2 128 rfl rfl rfl (by omega) (by omega))), by omega, by rw [hu]; exact a4⟩, by rw [hp]; exact a5⟩
      have hle := (h2 hg0).2 d (by omega) (by omega) (by omega) (by rw [← hu]; exact hd.1.2.2) (by rw [← hp]; exact hd.2)
      rw [hDD] at hgm hD
      rcases List.mem_cons.mp hgm with q | q
      · rw [q]
      · have := (List.pairwise_cons.mp hD).1 g q
        rw [hp, hp] at this
        omega
  intro k
  induction k with
  | zero =>
    intro D l hD hm hl
    show enI P s n l 63 1 (-1) = _
    have hr := (enI_rng P s n l 63 1 (-1) (by decide) (by decide) (by decide)).1
    rcases first D l hD hm with ⟨q1, q2⟩ | ⟨q1, r, q2⟩
    · rw [q2, if_neg (by show ¬ ((0 : Nat) : Int) < 0; decide)]
      omega
    · rw [q2, if_pos (by rw [List.length_cons]; omega)]
      rfl
  | succ k ih =>
    intro D l hD hm hl
    show (if enI P s n l 63 1 (-1) < 0 then -1 else enO P s n k (P 2291 (64 * s + enI P s n l 63 1 (-1)))) = _
    rcases first D l hD hm with ⟨q1, q2⟩ | ⟨q1, r, q2⟩
    · rw [if_pos q1, q2, if_neg (by show ¬ ((k + 1 : Nat) : Int) < 0; omega)]
    · obtain ⟨g, hg⟩ : ∃ g, enI P s n l 63 1 (-1) = g := ⟨_, rfl⟩
      rw [hg] at q1 q2 ⊢
      have hgm := (hm g).mp (by rw [q2]; exact List.mem_cons_self)
      have hgp := hgm.2
      rw [hp] at hgp
      rw [q2] at hD
      obtain ⟨d1, d2⟩ := List.pairwise_cons.mp hD
      rw [if_neg (by omega), ih r _ d2 (fun m => ?_) (by omega), q2, List.length_cons]
      · by_cases c : (k : Int) < r.length
        · rw [if_pos c, if_pos (by omega)]
          unfold lg
          rw [List.getD_eq_getElem?_getD, List.getD_eq_getElem?_getD, show ((k + 1 : Nat) : Int).toNat = (k : Int).toNat + 1 by omega, List.getElem?_cons_succ]
        · rw [if_neg c, if_neg (by omega)]
      · constructor
        · intro q
          have h1 := (hm m).mp (by rw [q2]; exact List.mem_cons_of_mem _ q)
          have h2 := d1 m q
          rw [hp g] at h2
          exact ⟨h1.1, h2⟩
        · rintro ⟨q3, q4⟩
          have h1 := (hm m).mpr ⟨q3, by rw [hp] at q4 ⊢; omega⟩
          rw [q2] at h1
          rcases List.mem_cons.mp h1 with q | q
          · rw [q, hp] at q4
            omega
          · exact q
theorem mem_lv : ∀ (m : Nat) (p : Int), 0 ≤ p → (x ∈ lvL P m p ↔ ∃ q, p ≤ q ∧ q < p + m ∧ ¬ P 2320 q = 0 ∧ x = 16 * q + 16)
  | 0, p, _ => ⟨fun h => (by cases h), fun ⟨q, h1, h2, _⟩ => by omega⟩
  | m + 1, p, h0 => by
    have ih := mem_lv m (p + 1) (by omega)
    show x ∈ _ ++ _ ↔ _
    rw [List.mem_append, ih]
    constructor
    · rintro (h | ⟨q, h1, h2, h3⟩)
      · split at h
        · cases h
        · rename_i c
          rw [List.mem_singleton] at h
          exact ⟨p, Int.le_refl p, by omega, c, h⟩
      · exact ⟨q, by omega, by omega, h3⟩
    · rintro ⟨q, h1, h2, h3, h4⟩
      by_cases e : q = p
      · left
        rw [← e, if_neg h3, List.mem_singleton]
        exact h4
      · exact Or.inr ⟨q, by omega, by omega, h3, h4⟩
theorem lv_srt : ∀ (m : Nat) (p : Int), 0 ≤ p → (lvL P m p).Pairwise (fun a b => a < b) ∧ ∀ x ∈ lvL P m p, 16 * p + 16 ≤ x
  | 0, p, _ => ⟨List.Pairwise.nil, fun x h => by cases h⟩
  | m + 1, p, h0 => by
    obtain ⟨h1, h2⟩ := lv_srt m (p + 1) (by omega)
    show ((if P 2320 p = 0 then [] else [16 * p + 16]) ++ lvL P m (p + 1)).Pairwise _ ∧ ∀ x ∈ (if P 2320 p = 0 then [] else [16 * p + 16]) ++ lvL P m (p + 1), _
    split
    · exact ⟨h1, fun x hx => by have := h2 x hx; omega⟩
    · rw [List.singleton_append]
      refine ⟨List.pairwise_cons.mpr ⟨fun x hx => by have := h2 x hx; omega, h1⟩, fun x hx => ?_⟩
      rcases List.mem_cons.mp hx with q | q
      · omega
      · have := h2 x q
        omega
theorem enP_lv : ∀ (m : Nat) (p j : Int), 1 ≤ j → enP P m p j (-1) = if j - 1 < (lvL P m p).length then lg (lvL P m p) (j - 1) else -1
  | 0, p, j, h => by
    rw [if_neg (by show ¬ j - 1 < ((0 : Nat) : Int); omega)]
    rfl
  | m + 1, p, j, h => by
    have el : lvL P (m + 1) p = (if P 2320 p = 0 then [] else [16 * p + 16]) ++ lvL P m (p + 1) := rfl
    unfold enP
    rw [el]
    by_cases q : P 2320 p = 0
    · rw [if_pos q, if_pos q, List.nil_append]
      exact enP_lv m (p + 1) j h
    · rw [if_neg q, if_neg q, List.singleton_append, List.length_cons]
      by_cases e : j = 1
      · rw [e, if_pos (by decide), if_pos (by omega), (enP_neg m (p + 1) (1 + (-1)) (16 * p + 16) (by decide))]
        rfl
      · rw [if_neg (by omega), enP_lv m (p + 1) (j + (-1)) (by omega)]
        by_cases c : j + (-1) - 1 < ((lvL P m (p + 1)).length : Int)
        · rw [if_pos c, if_pos (by omega)]
          unfold lg
          rw [List.getD_eq_getElem?_getD, List.getD_eq_getElem?_getD, show (j - 1).toNat = (j + (-1) - 1).toNat + 1 by omega, List.getElem?_cons_succ]
        · rw [if_neg c, if_neg (by omega)]
/-- a directory's entries, by their number -/
theorem qEnt_kids (h : NT W R P S s ord t) (hG : GI T U P) (hs : 0 ≤ s ∧ s < 3) (hd : dirN P s n) (hk : 0 ≤ k) : qEnt P s n k = if k < (kids P s n ord).length then lg (kids P s n ord) k else -1 := by
  have hsr := kids_srt (n := n) h
  unfold qEnt
  by_cases q : s = 2
  · rw [if_pos q]
    subst q
    have hp : ∀ m, qPath P 2 m = m := fun m => if_neg (by decide)
    rcases hd rfl with rfl | ⟨d1, d2, d3, d4⟩
    · rw [if_neg (by decide)]
      obtain ⟨l1, l2⟩ := lv_srt (P := P) 8 0 (by decide)
      have e : kids P 2 0 ord = 1 :: lvL P 8 0 := by
        refine srt_eq (g := qPath P 2) _ _ hsr ?_ (fun x => ?_)
        · refine List.pairwise_cons.mpr ⟨fun x hx => ?_, l1.imp (fun hab => by rw [hp, hp]; exact hab)⟩
          have := l2 x hx
          rw [hp, hp]
          omega
        · rw [mem_kids, h.1.1, List.mem_cons, mem_lv 8 0 (by decide), show qUp P 2 x = if x < 16 ∨ x % 16 = 0 then 0 else x / 16 * 16 from if_neg (by decide)]
          constructor
          · rintro ⟨a1, a2, a3⟩
            rcases a1 with a | a
            · omega
            · rcases a.2 with c | c | c
              · omega
              · exact Or.inl c
              · right
                by_cases c2 : x < 16 ∨ x % 16 = 0
                · exact ⟨x / 16 - 1, by omega, by omega, c.2.2.2, by omega⟩
                · rw [if_neg c2] at a3
                  omega
          · rintro (rfl | ⟨q, q1, q2, q3, rfl⟩)
            · exact ⟨Or.inr ⟨rfl, Or.inr (Or.inl rfl)⟩, by decide, by decide⟩
            · refine ⟨Or.inr ⟨rfl, Or.inr (Or.inr ⟨by omega, by omega, by omega, ?_⟩)⟩, by omega, if_pos (Or.inr (by omega))⟩
              rw [show (16 * q + 16) / 16 - 1 = q by omega]
              exact q3
      rw [e, List.length_cons]
      by_cases c : k = 0
      · rw [c, if_pos rfl, enP_neg 8 0 0 1 (by decide), if_pos (by omega)]
        rfl
      · rw [if_neg c, enP_lv 8 0 k (by omega)]
        by_cases c2 : k - 1 < ((lvL P 8 0).length : Int)
        · rw [if_pos c2, if_pos (by omega)]
          unfold lg
          rw [List.getD_eq_getElem?_getD, List.getD_eq_getElem?_getD, show k.toNat = (k - 1).toNat + 1 by omega, List.getElem?_cons_succ]
        · rw [if_neg c2, if_neg (by omega)]
    · rw [if_pos (by omega)]
      have e : kids P 2 n ord = [n + 1, n + 2] := by
        refine srt_eq (g := qPath P 2) _ _ hsr ?_ (fun x => ?_)
        · refine List.pairwise_cons.mpr ⟨fun x hx => ?_, List.pairwise_cons.mpr ⟨fun x hx => (by cases hx), List.Pairwise.nil⟩⟩
          rw [List.mem_singleton] at hx
          rw [hp, hp, hx]
          omega
        · rw [mem_kids, h.1.1, show qUp P 2 x = if x < 16 ∨ x % 16 = 0 then 0 else x / 16 * 16 from if_neg (by decide)]
          constructor
          · rintro ⟨a1, a2, a3⟩
            rcases a1 with a | a
            · omega
            · by_cases c2 : x < 16 ∨ x % 16 = 0
              · rw [if_pos c2] at a3
                omega
              · rw [if_neg c2] at a3
                have : x = n + 1 ∨ x = n + 2 := by omega
                rcases this with rfl | rfl
                · exact List.mem_cons_self
                · exact List.mem_cons_of_mem _ List.mem_cons_self
          · intro a
            have hx : x = n + 1 ∨ x = n + 2 := by
              rcases List.mem_cons.mp a with a | a
              · exact Or.inl a
              · rw [List.mem_singleton] at a
                exact Or.inr a
            refine ⟨Or.inr ⟨rfl, Or.inr (Or.inr ⟨by omega, by omega, by omega, ?_⟩)⟩, by omega, ?_⟩
            · rw [show x / 16 - 1 = n / 16 - 1 by omega]
              exact d4
            · rw [if_neg (by omega)]
              omega
      rw [e, show (([n + 1, n + 2] : List Int).length : Int) = 2 from rfl]
      by_cases c : k < 2
      · rw [if_pos c, if_pos c]
        have : k = 0 ∨ k = 1 := by omega
        rcases this with rfl | rfl
        · show n + 1 + 0 = n + 1
          omega
        · show n + 1 + 1 = n + 2
          omega
      · rw [if_neg c, if_neg c]
  · rw [if_neg q]
    have hs2 : 0 ≤ s ∧ s < 2 := by omega
    have hpos : ∀ m, m ∈ kids P s n ord → 0 < qPath P s m := fun m hm => by
      have h1 := mem_kids.mp hm
      have h2 := isN_lt hs2.2 ((h.1.1 m).mp h1.1)
      have h3 := (hG.2.1.2.1 s m hs2.1 hs2.2 (by omega) h2.2.1 (by omega)).2.2
      rw [show qPath P s m = P 2291 (64 * s + m) from if_pos hs2.2]
      omega
    have := enO_kids (n := n) hG.iv hs2 h.1.1 k.toNat (kids P s n ord) 0 hsr (fun m => ⟨fun hm => ⟨mem_kids.mp hm, hpos m hm⟩, fun hm => mem_kids.mpr hm.1⟩) (by decide)
    rw [show ((k.toNat : Nat) : Int) = k by omega] at this
    exact this
end XKID
