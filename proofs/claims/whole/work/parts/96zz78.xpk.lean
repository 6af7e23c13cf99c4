/-! What a message keeps true of names, paths, fids open to write. -/
/-- what holds of the reference's rows beside their bounds -/
def PKK (P : qR) : Prop := TI P ∧ CTW P ∧ WDW P
section XPK
variable {S a b mb : Nat} {W W1 W2 P Q Q1 Q2 : qR} {R R1 R2 : rR} {i j k x z v s e w f u n p g T U c m y : Int} {l nm ord : List Int} {t : Nat → Nat}
theorem sgn32 (hx : -2147483648 ≤ x ∧ x ≤ 2147483647) : (BitVec.ofInt 32 x).msb = false ↔ 0 ≤ x := by
  have h2 : (BitVec.ofInt 32 x).toInt = x := by
    rw [BitVec.toInt_ofInt]
    exact Int.bmod_eq_of_le (by omega) (by omega)
  have h3 := BitVec.msb_eq_toInt (x := BitVec.ofInt 32 x)
  rw [h2] at h3
  rw [h3, decide_eq_false_iff_not]
  omega
theorem msb_pos {q : BitVec 32} : q.msb = false ↔ 0 ≤ q.toInt := by
  rw [BitVec.msb_eq_toInt, decide_eq_false_iff_not]
  omega
theorem and_pos (hx : -2147483648 ≤ x ∧ x ≤ 2147483647) (h : 0 ≤ x) : 0 ≤ and32 x y := by
  unfold and32
  show 0 ≤ (BitVec.ofInt 32 x &&& BitVec.ofInt 32 y).toInt
  rw [← msb_pos, BitVec.msb_and, (sgn32 hx).mpr h, Bool.false_and]
theorem and_pos2 (hx : -2147483648 ≤ y ∧ y ≤ 2147483647) (h : 0 ≤ y) : 0 ≤ and32 x y := by
  unfold and32
  show 0 ≤ (BitVec.ofInt 32 x &&& BitVec.ofInt 32 y).toInt
  rw [← msb_pos, BitVec.msb_and, (sgn32 hx).mpr h, Bool.and_false]
theorem or_pos (hx : -2147483648 ≤ x ∧ x ≤ 2147483647) (hy : -2147483648 ≤ y ∧ y ≤ 2147483647) (h : 0 ≤ x) (h2 : 0 ≤ y) : 0 ≤ or32 x y := by
  unfold or32
  show 0 ≤ (BitVec.ofInt 32 x ||| BitVec.ofInt 32 y).toInt
  rw [← msb_pos, BitVec.msb_or, (sgn32 hx).mpr h, (sgn32 hy).mpr h2, Bool.or_false]
/-- the new mode is a directory's only where that was asked -/
theorem creM_pos (hp : prmR p m = 0) (hm : 0 ≤ m ∧ m ≤ 255) (h1 : 1 ≤ and32 m 3) : 0 ≤ creM P s n p := by
  obtain ⟨b1, b2, b3, b4⟩ := m81 hm
  unfold prmR at hp
  by_cases c1 : (¬ and64 p (-512) = 0 ∧ ¬ and64 p (-512) = 1073741824 ∧ ¬ and64 p (-512) = 2147483648) ∨ 3 < and32 m (-65)
  · rw [if_pos c1] at hp
    omega
  rw [if_neg c1] at hp
  by_cases c2 : and64 p (-512) = 2147483648 ∧ ¬ and32 m (-65) = 0
  · rw [if_pos c2] at hp
    omega
  have c3 : and64 p (-512) = 0 ∨ and64 p (-512) = 1073741824 := by
    by_cases c4 : and64 p (-512) = 2147483648
    · exfalso
      have c5 : and32 m (-65) = 0 := by
        apply Decidable.byContradiction
        intro c6
        exact c2 ⟨c4, c6⟩
      have c7 := b4.mp c5
      have c8 := b3 (by omega)
      omega
    · omega
  unfold creM
  refine or_pos (w32_rng _) (and32_rng _ _) ?_ (and_pos (and32_rng _ _) (and_pos2 (by decide) (by decide)))
  rcases c3 with c3 | c3 <;> (rw [c3]; decide)
/-- a fid is moved and opened -/
theorem TI.fid1 (h : TI P) (hk : 0 ≤ k ∧ k < 192) (hq : ∀ (f : Nat) (j : Int), ([2306, 2307, 2309, 2311, 2312] : List Nat).elem f = false → Q f j = P f j) (ho : ∀ (f : Nat) (j : Int), j ≠ k → Q f j = P f j) (hm : 0 ≤ Q 2309 k) (hd : 1 ≤ and32 (Q 2309 k) 3 → and32 (Q 2309 k) 3 ≤ 2 → 0 ≤ P 2293 (64 * (k / 96) + Q 2306 k)) : TI Q := by
  obtain ⟨h1, h2, h3, h4, h5, h6⟩ := h
  have hfe : FE Q P := fun f j hf => hq f j (by
    cases e : ([2306, 2307, 2309, 2311, 2312] : List Nat).elem f
    · rfl
    · exfalso
      have := List.elem_iff.mp e
      simp only [List.mem_cons, List.not_mem_nil, or_false] at this
      rcases this with rfl | rfl | rfl | rfl | rfl <;> exact absurd hf (by decide))
  refine ⟨fun s s0 s1 n nm m m2 g1 g2 => h1 s s0 s1 n nm m m2 ?_ ?_, fun s n s0 s1 q => ?_, fun j k0 k1 q => ?_, fun j k0 k1 g1 g2 g3 g4 g5 => ?_, fun j k0 k1 g1 g2 => ?_, fun j k0 k1 g1 => ?_⟩
  · obtain ⟨a1, a2, a3, a4⟩ := g1
    exact ⟨hfe.live.mp a1, a2, by rw [← hfe.up]; exact a3, by rw [← hfe.nam]; exact a4⟩
  · obtain ⟨a1, a2, a3, a4⟩ := g2
    exact ⟨hfe.live.mp a1, a2, by rw [← hfe.up]; exact a3, by rw [← hfe.nam]; exact a4⟩
  · rw [hq _ _ rfl, hq _ _ rfl]
    exact h2 s n s0 s1 (hfe.live.mp q)
  · rw [hq _ _ rfl] at q ⊢
    exact h3 j k0 k1 q
  · rw [hq 2293 _ rfl]
    by_cases e : j = k
    · rw [e] at g4 g5 ⊢
      exact hd g4 g5
    · rw [ho _ _ e] at g1 g2 g3 g4 g5
      rw [ho _ _ e]
      exact h4 j k0 k1 g1 g2 g3 g4 g5
  · rw [ho _ _ (by omega)] at g1 g2
    rw [ho _ _ (by omega)]
    exact hfe.live.mpr (h5 j k0 k1 g1 g2)
  · by_cases e : j = k
    · rw [e] at g1
      omega
    · rw [ho _ _ e] at g1
      rw [ho _ _ e, ho _ _ e]
      exact h6 j k0 k1 g1
/-- some files look otherwise, and names stay distinct -/
theorem TI.files (h : TI P) (e1 : ∀ s : Int, 0 ≤ s → s < 2 → UNq Q s) (e2 : ∀ s n : Int, 0 ≤ s → s < 2 → isN Q s n → Q 2291 (64 * s + n) ≤ Q 2303 s) (e3 : ∀ k : Int, 0 ≤ k → k < 128 → Q 2293 k < 0 → Q 2297 k = 0) (e4 : ∀ k : Int, 0 ≤ k → k < 192 → ¬ P 2304 k = 0 → P 2310 k = 0 → 0 ≤ P 2293 (64 * (k / 96) + P 2306 k) → 0 ≤ Q 2293 (64 * (k / 96) + P 2306 k)) (hf : ∀ (f : Nat) (k : Int), fidL.elem f = true → Q f k = P f k) (e13 : ∀ k, Q 2320 k = P 2320 k) : TI Q := by
  obtain ⟨h1, h2, h3, h4, h5, h6⟩ := h
  refine ⟨e1, e2, e3, fun k k0 k1 g1 g2 g3 g4 g5 => ?_, fun k k0 k1 g1 g2 => ?_, fun k k0 k1 g1 => ?_⟩
  · rw [hf 2304 _ rfl] at g1
    rw [hf 2310 _ rfl] at g2
    rw [hf 2309 _ rfl] at g3 g4 g5
    rw [hf 2306 _ rfl]
    exact e4 k k0 k1 g1 g2 (h4 k k0 k1 g1 g2 g3 g4 g5)
  · rw [hf 2304 _ rfl] at g1
    rw [hf 2310 _ rfl] at g2
    rw [hf 2306 _ rfl]
    have g := h5 k k0 k1 g1 g2
    unfold isN at g ⊢
    rw [e13]
    rcases g with g | g
    · omega
    · exact Or.inr g
  · rw [hf 2309 _ rfl] at g1
    rw [hf 2311 _ rfl, hf 2312 _ rfl]
    exact h6 k k0 k1 g1
theorem ns_rng (hI : IV false T U P) (hs : 0 ≤ s ∧ s < 2) (hn : 0 ≤ n ∧ n < 64) : 0 ≤ qNs P s n ∧ qNs P s n ≤ 12 := by
  have : 0 ≤ P 2299 (64 * s + n) ∧ P 2299 (64 * s + n) ≤ 12 := IV.a hI 2299 0 128 rfl rfl rfl (by omega) (by omega)
  rw [show qNs P s n = P 2299 (64 * s + n) from if_pos hs.2]
  exact this
theorem gNew_name_o {nn into md : Int} (h : k < 12 * (64 * s + nn) ∨ 12 * (64 * s + nn) + 12 ≤ k) (hl : nm.length ≤ 12) : gNew P s nn into md u nm 2298 k = P 2298 k := by
  unfold gNew gName
  rw [rU_f (by decide), rU_f (by decide), rW_o (by omega), rU_f (by decide), rU_f (by decide), rU_f (by decide), rU_f (by decide), rU_f (by decide), rU_f (by decide), rU_f (by decide), rU_f (by decide), rU_f (by decide), rU_f (by decide)]
/-- a file is made -/
theorem TI.newf {nn into md : Int} (h : TI P) (hG : GI T U P) (hs : 0 ≤ s ∧ s < 2) (hnn : 1 ≤ nn ∧ nn < 64 ∧ P 2289 (64 * s + nn) = 0) (hi : isN P s into) (hl : nm.length ≤ 12) (hu : ∀ m, ¬ kidN P s into nm m) : TI (gNew P s nn into md u nm) := by
  have hI := hG.iv
  obtain ⟨g1, g2, g3, g4, g5, g6, g7, g8, g9, g10, g11⟩ := gNew_at (P := P) (s := s) (nn := nn) (into := into) (md := md) (u := u) (nm := nm)
  have hfid : ∀ (f : Nat) (k : Int), fidL.elem f = true → gNew P s nn into md u nm f k = P f k := fun f k hf => gNew_f (by
    cases e : ([2289, 2290, 2303, 2291, 2292, 2293, 2294, 2295, 2296, 2297, 2298, 2299, 2302] : List Nat).elem f
    · rfl
    · exfalso
      have := List.elem_iff.mp e
      simp only [List.mem_cons, List.not_mem_nil, or_false] at this
      rcases this with rfl | rfl | rfl | rfl | rfl | rfl | rfl | rfl | rfl | rfl | rfl | rfl | rfl <;> exact absurd hf (by decide))
  have hEN : ∀ s2 m, 0 ≤ s2 → s2 < 2 → 0 ≤ m → m < 64 → ¬ (s2 = s ∧ m = nn) → EN (gNew P s nn into md u nm) P s2 m := fun s2 m s0 s1 m0 m1 hne => by
    have hns := ns_rng hI ⟨s0, s1⟩ ⟨m0, m1⟩
    exact EN_tree s1 (fun f hf => gNew_o (by omega) (fun c => by rw [c] at hf; exact absurd hf (by decide)) (fun c => by rw [c] at hf; exact absurd hf (by decide)) (fun c => by rw [c] at hf; exact absurd hf (by decide))) (fun k k0 k1 => gNew_name_o (by omega) hl)
  have hL : ∀ s2 m, 0 ≤ s2 → s2 < 2 → isN (gNew P s nn into md u nm) s2 m → (s2 = s ∧ m = nn) ∨ (¬ (s2 = s ∧ m = nn) ∧ isN P s2 m) := fun s2 m s0 s1 c => by
    obtain ⟨c1, c2, c3⟩ := isN_lt s1 c
    by_cases e : s2 = s ∧ m = nn
    · exact Or.inl e
    · rw [gNew_o (by omega) (by decide) (by decide) (by decide)] at c3
      exact Or.inr ⟨e, Or.inl ⟨s1, c1, c2, c3⟩⟩
  have eup : qUp (gNew P s nn into md u nm) s nn = into := (if_pos hs.2).trans g2
  have eNs : qNs (gNew P s nn into md u nm) s nn = (nm.length : Int) := (if_pos hs.2).trans g10
  have eNm : qNm (gNew P s nn into md u nm) s nn = nm := by
    unfold qNm
    rw [eNs]
    exact seg_eq.mpr ⟨by omega, fun j j0 j1 => by
      unfold qNb
      rw [if_pos hs.2, Int.zero_add, gNew_name ⟨j0, by omega⟩]⟩
  have hK : ∀ s2 n2 nm2 m, 0 ≤ s2 → s2 < 2 → kidN (gNew P s nn into md u nm) s2 n2 nm2 m → (s2 = s ∧ m = nn ∧ n2 = into ∧ nm2 = nm) ∨ kidN P s2 n2 nm2 m := fun s2 n2 nm2 m s0 s1 c => by
    obtain ⟨c1, c2, c3, c4⟩ := c
    rcases hL s2 m s0 s1 c1 with ⟨rfl, rfl⟩ | ⟨d1, d2⟩
    · exact Or.inl ⟨rfl, rfl, c3.symm.trans eup, c4.symm.trans eNm⟩
    · have hlt := isN_lt s1 d2
      have hE := hEN s2 m s0 s1 hlt.1 hlt.2.1 d1
      exact Or.inr ⟨d2, c2, hE.2.2.2.symm.trans c3, hE.2.1.symm.trans c4⟩
  refine h.files (fun s2 s0 s1 n2 nm2 m m2 c1 c2 => ?_) (fun s2 n2 s0 s1 q => ?_) (fun k k0 k1 q => ?_) (fun k k0 k1 c1 c2 c3 => ?_) hfid (fun k => gNew_f rfl)
  · rcases hK s2 n2 nm2 m s0 s1 c1 with ⟨a1, a2, a3, a4⟩ | a
    · rcases hK s2 n2 nm2 m2 s0 s1 c2 with ⟨b1, b2, b3, b4⟩ | b
      · omega
      · rw [a1, a3, a4] at b
        exact absurd b (hu m2)
    · rcases hK s2 n2 nm2 m2 s0 s1 c2 with ⟨b1, b2, b3, b4⟩ | b
      · rw [b1, b3, b4] at a
        exact absurd a (hu m)
      · exact h.1 s2 s0 s1 n2 nm2 m m2 a b
  · rcases hL s2 n2 s0 s1 q with ⟨rfl, rfl⟩ | ⟨d1, d2⟩
    · rw [g3, g11]
      exact Int.le_refl _
    · have hlt := isN_lt s1 d2
      have h9 := h.2.1 s2 n2 s0 s1 d2
      rw [gNew_o (by omega) (by decide) (by decide) (by decide)]
      by_cases e : s2 = s
      · rw [e] at h9 ⊢
        rw [g11]
        omega
      · have e3 : gNew P s nn into md u nm 2303 s2 = P 2303 s2 := by
          unfold gNew
          rw [rU_f (by decide), gName_f (by decide) (by decide), rU_f (by decide), rU_f (by decide), rU_f (by decide), rU_f (by decide), rU_f (by decide), rU_f (by decide), rU_f (by decide), rU_k e, rU_f (by decide), rU_f (by decide)]
        rw [e3]
        exact h9
  · by_cases e : k = 64 * s + nn
    · rw [e, g9]
    · rw [gNew_o e (by decide) (by decide) (by decide)] at q ⊢
      exact h.2.2.1 k k0 k1 q
  · have hf := hG.1.2 k k0 k1 c1 c2
    rw [gNew_o (fun e => by rw [e] at hf; omega) (by decide) (by decide) (by decide)]
    exact c3
theorem TI.cre {nn into : Int} (h : TI P) (hG : GI T U P) (hs : 0 ≤ s ∧ s < 2) (hk : 96 * s ≤ k ∧ k < 96 * s + 96) (hnn : 1 ≤ nn ∧ nn < 64 ∧ P 2289 (64 * s + nn) = 0) (hi : isN P s into) (hl : nm.length ≤ 12) (hu : ∀ m, ¬ kidN P s into nm m) (hm : 0 ≤ m ∧ m ≤ 255) (hp : prmR p m = 0) : TI (gCre P s k p m into nn u nm) := by
  have h1 := (h.newf (md := creM P s into p) (u := u) hG hs hnn hi hl hu).grow (s := s) (n := into) (u := u)
  rw [gCre_eq]
  refine h1.fid1 (k := k) ⟨by omega, by omega⟩ (fun f j hf => ?_) (fun f j hj => ?_) ?_ (fun c1 c2 => ?_)
  · have e : f ≠ 2306 ∧ f ≠ 2307 ∧ f ≠ 2309 ∧ f ≠ 2311 ∧ f ≠ 2312 := ⟨fun c => by rw [c] at hf; exact absurd hf (by decide), fun c => by rw [c] at hf; exact absurd hf (by decide), fun c => by rw [c] at hf; exact absurd hf (by decide), fun c => by rw [c] at hf; exact absurd hf (by decide), fun c => by rw [c] at hf; exact absurd hf (by decide)⟩
    rw [gOpn_f e.2.2.1 e.2.2.2.1 e.2.2.2.2, rU_f e.2.1, rU_f e.1]
  · rw [gOpn_o hj]
    unfold rU
    rw [if_neg (fun c => hj c.2), if_neg (fun c => hj c.2)]
  · rw [gOpn_at.1]
    exact hm.1
  · have e1 : gOpen (rU (rU (gGrow (gNew P s nn into (creM P s into p) u nm) s into u) 2306 k nn) 2307 k (P 2303 s + 1)) k m 2306 k = nn := by
      rw [gOpn_f (by decide) (by decide) (by decide), rU_f (by decide), rU_s]
    rw [gOpn_at.1] at c1
    rw [e1, gGrow_f (by decide) (by decide), show 64 * (k / 96) + nn = 64 * s + nn by omega, gNew_at.2.2.2.2.1]
    exact creM_pos hp hm c1
theorem TI.name1 (h : TI P) (hG : GI T U P) (hs : 0 ≤ s ∧ s < 2) (hn : 0 ≤ n ∧ n < 64) (hl : nm.length ≤ 12) (hu : ∀ m, kidN P s (qUp P s n) nm m → m = n) : TI (gName P s n nm) := by
  have hI := hG.iv
  have hfr : ∀ (f : Nat) (k : Int), f ≠ 2298 → f ≠ 2299 → gName P s n nm f k = P f k := fun f k q1 q2 => gName_f q1 q2
  have hEN : ∀ s2 m, 0 ≤ s2 → s2 < 2 → 0 ≤ m → m < 64 → ¬ (s2 = s ∧ m = n) → EN (gName P s n nm) P s2 m := fun s2 m s0 s1 m0 m1 hne => by
    have hns := ns_rng hI ⟨s0, s1⟩ ⟨m0, m1⟩
    refine EN_tree s1 (fun f hf => ?_) (fun k k0 k1 => ?_)
    · by_cases q : f = 2299
      · rw [q]
        unfold gName
        rw [rU_k (by omega), rW_f (by decide)]
      · exact hfr _ _ (fun c => by rw [c] at hf; exact absurd hf (by decide)) q
    · unfold gName
      rw [rU_f (by decide), rW_o (by omega)]
  have hL : ∀ s2 m, s2 < 2 → isN (gName P s n nm) s2 m → isN P s2 m := fun s2 m s1 c => (isN_tree s1 (fun k => hfr _ _ (by decide) (by decide))).mp c
  have eup : ∀ s2 m, qUp (gName P s n nm) s2 m = qUp P s2 m := fun s2 m => by unfold qUp; rw [hfr _ _ (by decide) (by decide)]
  have eNs : qNs (gName P s n nm) s n = (nm.length : Int) := by
    unfold qNs gName
    rw [if_pos hs.2, rU_s]
  have eNm : qNm (gName P s n nm) s n = nm := by
    unfold qNm
    rw [eNs]
    exact seg_eq.mpr ⟨by omega, fun j j0 j1 => by
      unfold qNb gName
      rw [if_pos hs.2, Int.zero_add, rU_f (by decide), rW_i (by omega), show 12 * (64 * s + n) + j - 12 * (64 * s + n) = j by omega]⟩
  have hK : ∀ s2 n2 nm2 m, 0 ≤ s2 → s2 < 2 → kidN (gName P s n nm) s2 n2 nm2 m → (s2 = s ∧ m = n ∧ n2 = qUp P s n ∧ nm2 = nm) ∨ (¬ (s2 = s ∧ m = n) ∧ kidN P s2 n2 nm2 m) := fun s2 n2 nm2 m s0 s1 c => by
    obtain ⟨c1, c2, c3, c4⟩ := c
    by_cases e : s2 = s ∧ m = n
    · refine Or.inl ⟨e.1, e.2, ?_, ?_⟩
      · rw [← c3, eup, e.1, e.2]
      · rw [← c4, e.1, e.2, eNm]
    · have d2 := hL s2 m s1 c1
      have hlt := isN_lt s1 d2
      have hE := hEN s2 m s0 s1 hlt.1 hlt.2.1 e
      exact Or.inr ⟨e, d2, c2, hE.2.2.2.symm.trans c3, hE.2.1.symm.trans c4⟩
  refine h.files (fun s2 s0 s1 n2 nm2 m m2 c1 c2 => ?_) (fun s2 n2 s0 s1 q => ?_) (fun k k0 k1 q => ?_) (fun k k0 k1 c1 c2 c3 => ?_) (fun f k hf => hfr f k (fun c => by rw [c] at hf; exact absurd hf (by decide)) (fun c => by rw [c] at hf; exact absurd hf (by decide))) (fun k => hfr _ _ (by decide) (by decide))
  · rcases hK s2 n2 nm2 m s0 s1 c1 with ⟨a1, a2, a3, a4⟩ | ⟨a0, a⟩
    · rcases hK s2 n2 nm2 m2 s0 s1 c2 with ⟨b1, b2, b3, b4⟩ | ⟨b0, b⟩
      · omega
      · rw [a1, a3, a4] at b
        exact a2.trans (hu m2 b).symm
    · rcases hK s2 n2 nm2 m2 s0 s1 c2 with ⟨b1, b2, b3, b4⟩ | ⟨b0, b⟩
      · rw [b1, b3, b4] at a
        exact (hu m a).trans b2.symm
      · exact h.1 s2 s0 s1 n2 nm2 m m2 a b
  · rw [hfr _ _ (by decide) (by decide), hfr _ _ (by decide) (by decide)]
    exact h.2.1 s2 n2 s0 s1 (hL s2 n2 s1 q)
  · rw [hfr _ _ (by decide) (by decide)] at q ⊢
    exact h.2.2.1 k k0 k1 q
  · rw [hfr _ _ (by decide) (by decide)]
    exact c3
theorem TI.mode1 (h : TI P) (hd : 0 ≤ v ↔ 0 ≤ P 2293 k) : TI (rU P 2293 k v) := by
  have hq : ∀ (f : Nat) (j : Int), f ≠ 2293 → rU P 2293 k v f j = P f j := fun f j q => rU_f q
  have hL : ∀ s2 m, s2 < 2 → isN (rU P 2293 k v) s2 m → isN P s2 m := fun s2 m s1 c => (isN_tree s1 (fun k => hq _ _ (by decide))).mp c
  have hv : ∀ j, 0 ≤ rU P 2293 k v 2293 j ↔ 0 ≤ P 2293 j := fun j => by
    by_cases e : j = k
    · rw [e, rU_s]
      exact hd
    · rw [rU_k e]
  refine h.files (fun s2 s0 s1 n2 nm2 m m2 c1 c2 => ?_) (fun s2 n2 s0 s1 q => ?_) (fun k k0 k1 q => ?_) (fun k k0 k1 c1 c2 c3 => (hv _).mpr c3) (fun f k hf => hq f k (fun c => by rw [c] at hf; exact absurd hf (by decide))) (fun k => hq _ _ (by decide))
  · obtain ⟨-, -, -, -, -, -, e7⟩ := q_same (n := m) s1 hq
    obtain ⟨-, -, -, -, -, -, e8⟩ := q_same (n := m2) s1 hq
    have eup : ∀ m, qUp (rU P 2293 k v) s2 m = qUp P s2 m := fun m => by unfold qUp; rw [hq _ _ (by decide)]
    exact h.1 s2 s0 s1 n2 nm2 m m2 ⟨hL _ _ s1 c1.1, c1.2.1, (eup m).symm.trans c1.2.2.1, (e7 (by decide) (by decide)).1.symm.trans c1.2.2.2⟩ ⟨hL _ _ s1 c2.1, c2.2.1, (eup m2).symm.trans c2.2.2.1, (e8 (by decide) (by decide)).1.symm.trans c2.2.2.2⟩
  · rw [hq _ _ (by decide), hq _ _ (by decide)]
    exact h.2.1 s2 n2 s0 s1 (hL s2 n2 s1 q)
  · rw [hq _ _ (by decide)]
    refine h.2.2.1 k k0 k1 ?_
    have := hv k
    omega
theorem TI.chg {md ln : Int} (h : TI P) (hG : GI T U P) (hs : 0 ≤ s ∧ s < 2) (hn : isN P s n) (hq : qChg P s n u md ln y nm = 0) : TI (gChg P s n u md ln y nm) := by
  have hlt := isN_lt hs.2 hn
  rw [qChg_chain] at hq
  have q1 : nrE P s n u y nm = 0 := by
    apply Decidable.byContradiction
    intro c
    rw [if_pos c] at hq
    exact c hq
  rw [if_neg (fun c => c q1)] at hq
  have q2 : ¬ ln = -1 → lrE P s n u ln = 0 := fun c1 => by
    apply Decidable.byContradiction
    intro c
    rw [if_pos ⟨c1, c⟩] at hq
    exact c hq
  rw [if_neg (fun c => c.2 (q2 c.1))] at hq
  have q3 : ¬ md = 4294967295 → mrE P s n u md = 0 := fun c1 => by
    rw [if_pos c1] at hq
    exact hq
  have emd : qMode P s n = P 2293 (64 * s + n) := if_pos hs.2
  have h1 : TI (gCh1 P s n y nm) := by
    unfold gCh1
    by_cases c : 0 < y
    · rw [if_pos c]
      unfold nrE at q1
      by_cases c0 : n = 0
      · rw [if_pos ⟨c, c0⟩] at q1
        omega
      rw [if_neg (fun q => c0 q.2)] at q1
      by_cases c1 : nmOk nm = true
      rotate_left
      · rw [if_pos ⟨c, c1⟩] at q1
        omega
      rw [if_neg (fun q => q.2 c1)] at q1
      by_cases c2 : 0 ≤ qFind P s (P 2290 (64 * s + n)) nm ∧ ¬ qFind P s (P 2290 (64 * s + n)) nm = n
      · rw [if_pos ⟨c, c2⟩] at q1
        omega
      have eup : qUp P s n = P 2290 (64 * s + n) := if_pos hs.2
      have hfk := qFind_kid (nm := nm) (n := qUp P s n) hG.iv ⟨hs.1, by omega⟩ (fun c => by omega)
      rw [← eup] at c2
      refine h.name1 hG hs ⟨hlt.1, hlt.2.1⟩ (nmOk_no c1).2.2 (fun m hm => ?_)
      by_cases c3 : 0 ≤ qFind P s (qUp P s n) nm
      · have c4 : qFind P s (qUp P s n) nm = n := by
          apply Decidable.byContradiction
          intro c5
          exact c2 ⟨c3, c5⟩
        have := hfk.1 c3
        rw [c4] at this
        exact h.1 s hs.1 hs.2 _ _ _ _ hm this
      · exact absurd hm (hfk.2 (by omega) m)
    · rw [if_neg c]
      exact h
  have em1 : ∀ k, gCh1 P s n y nm 2293 k = P 2293 k := fun k => by
    unfold gCh1
    split
    · exact gName_f (by decide) (by decide)
    · rfl
  have h2 : TI (gCh2 (gCh1 P s n y nm) s n ln) := by
    unfold gCh2
    by_cases c : ¬ ln = -1
    · rw [if_pos c]
      have c1 := q2 c
      unfold lrE at c1
      have hd : 0 ≤ P 2293 (64 * s + n) := by
        apply Decidable.byContradiction
        intro c2
        rw [if_pos (by omega)] at c1
        omega
      exact (h1.size (s := s) (n := n) (z := ln) (by rw [em1]; exact hd)).rf (L := [2292]) (RF_up RF_rfl rfl) rfl rfl rfl rfl rfl rfl rfl rfl rfl rfl rfl rfl rfl rfl rfl
    · rw [if_neg c]
      exact h1
  have em2 : ∀ k, gCh2 (gCh1 P s n y nm) s n ln 2293 k = P 2293 k := fun k => by
    unfold gCh2
    split
    · rw [rU_f (by decide), gSize_f (by decide) (by decide) (by decide), em1]
    · exact em1 k
  have h3 : TI (gCh3 (gCh2 (gCh1 P s n y nm) s n ln) s n md) := by
    unfold gCh3
    by_cases c : ¬ md = 4294967295
    · rw [if_pos c]
      refine h2.mode1 ?_
      rw [em2]
      have c1 := q3 c
      unfold mrE at c1
      by_cases d1 : ¬ u = P 2294 (64 * s + n)
      · rw [if_pos d1] at c1
        omega
      rw [if_neg d1] at c1
      by_cases d2 : ¬ and32 (xor32 (w32 md) (P 2293 (64 * s + n))) (-1073742336) = 0 ∨ (qMode P s n < 0 ∧ ¬ and32 (xor32 (w32 md) (P 2293 (64 * s + n))) 1073741824 = 0)
      · rw [if_pos d2] at c1
        omega
      have br : -2147483648 ≤ P 2293 (64 * s + n) ∧ P 2293 (64 * s + n) ≤ 2147483647 := IV.a hG.iv 2293 0 128 rfl rfl rfl (by omega) (by omega)
      exact xor_sign (w32_rng md) br (Decidable.byContradiction fun c4 => d2 (Or.inl c4))
    · rw [if_neg c]
      exact h2
  exact h3.rf (L := [2296]) (RF_up RF_rfl rfl) rfl rfl rfl rfl rfl rfl rfl rfl rfl rfl rfl rfl rfl rfl rfl
end XPK
