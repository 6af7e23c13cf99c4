/-! The class's servers: what stands where behind a version that grew, a file that was removed. -/
/-- what is true of the trees beside GI: names, paths, lengths of directories, what fids are open to write -/
def TI (P : qR) : Prop := (∀ s : Int, 0 ≤ s → s < 2 → UNq P s) ∧ (∀ s n : Int, 0 ≤ s → s < 2 → isN P s n → P 2291 (64 * s + n) ≤ P 2303 s) ∧ (∀ k : Int, 0 ≤ k → k < 128 → P 2293 k < 0 → P 2297 k = 0) ∧ (∀ k : Int, 0 ≤ k → k < 192 → ¬ P 2304 k = 0 → P 2310 k = 0 → 0 ≤ P 2309 k → 1 ≤ and32 (P 2309 k) 3 → and32 (P 2309 k) 3 ≤ 2 → 0 ≤ P 2293 (64 * (k / 96) + P 2306 k)) ∧ (∀ k : Int, 192 ≤ k → k < 288 → ¬ P 2304 k = 0 → P 2310 k = 0 → isN P 2 (P 2306 k)) ∧ ∀ k : Int, 0 ≤ k → k < 288 → P 2309 k < 0 → P 2311 k = 0 ∧ P 2312 k = 0
/-- rows of fids -/
def fidL : List Nat := [2304, 2305, 2306, 2307, 2308, 2309, 2310, 2311, 2312]
section XDLM
variable {S a b rp m : Nat} {W W1 W2 P Q : qR} {R R1 R2 : rR} {i j k x z v s e w c f u y n p K C T U : Int} {l nm ord : List Int} {t : Nat → Nat} {r : Option Nat}
theorem FD.key (h : FD W R P S s ord t) (hk : k < 2288 ∨ 2296 < k) : FD (rU W b k v) R P S s ord t := fun i h0 h1 => by
  obtain ⟨a1, a2, a3⟩ := h i h0 h1
  refine ⟨(rU_j (by omega)).trans a1, fun q => ?_, a3⟩
  obtain ⟨b1, b2, b3, b4, b5, b6, b7, b8⟩ := a2 q
  exact ⟨(rU_j (by omega)).trans b1, (rU_j (by omega)).trans b2, (rU_j (by omega)).trans b3, (rU_j (by omega)).trans b4, (rU_j (by omega)).trans b5, (rU_j (by omega)).trans b6, (rU_j (by omega)).trans b7, b8⟩
theorem FD.pp (h : FD W R P S s ord t) (hq : ∀ (f : Nat) (k : Int), fidL.elem f = true → Q f k = P f k) : FD W R Q S s ord t := fun i h0 h1 => by
  obtain ⟨a1, a2, a3⟩ := h i h0 h1
  rw [hq 2304 _ rfl]
  refine ⟨a1, fun q => ?_, a3⟩
  have := a2 q
  unfold FDu at this ⊢
  rw [hq 2305 _ rfl, hq 2308 _ rfl, hq 2307 _ rfl, hq 2309 _ rfl, hq 2311 _ rfl, hq 2312 _ rfl, hq 2310 _ rfl, hq 2306 _ rfl]
  exact this
theorem gGrow_at {j : Int} {g : Nat} (h : j ≠ 64 * s + n) : gGrow P s n u g j = P g j := by
  unfold gGrow
  by_cases q : g = 2296
  · rw [q, rU_k h, rU_f (by decide)]
  · rw [rU_f q]
    by_cases q2 : g = 2292
    · rw [q2, rU_k h]
    · rw [rU_f q2]
theorem gGrow_two {j : Int} {g : Nat} (hv : ∀ k, Q 2292 k = P 2292 k) (h : Q g j = P g j) : gGrow Q s n u g j = gGrow P s n u g j := by
  unfold gGrow
  rw [hv]
  unfold rU
  split
  · rfl
  · split
    · rfl
    · exact h
theorem isN_tree (hs : s < 2) (h : ∀ k, Q 2289 k = P 2289 k) : isN Q s n ↔ isN P s n := by
  unfold isN
  rw [h]
  constructor
  · rintro (q | q)
    · exact Or.inl q
    · omega
  · rintro (q | q)
    · exact Or.inl q
    · omega
theorem isN_lt (hs : s < 2) (h : isN P s n) : 0 ≤ n ∧ n < 64 ∧ P 2289 (64 * s + n) = 1 := by
  rcases h with h | h
  · exact h.2
  · omega
/-- a version grows -/
theorem NT.grow (h : NT W R P S s ord t) (hS : VS S s) (hs : s < 2) (hi : 0 ≤ i ∧ i < ord.length) (ha : S + 6 + 3 * t i.toNat = a) (hn : lg ord i = n) (hv : qVer P s n = v) (hv2 : v < 2147483647) (hu : 0 ≤ u ∧ u ≤ 3) : NT (rU (rU W a 2261 (v + 1)) a 2265 u) R (gGrow P s n u) S s ord t := by
  have hsr := hS.1
  have hN := h.2.2.2.1 i hi.1 hi.2
  rw [ha, hn] at hN
  have hnl := isN_lt hs ((h.1.1 _).mp (by rw [← hn]; exact lg_mem hi.1 hi.2) : isN P s n)
  refine h.one hi ha (fun x k _ _ q _ _ _ => ?_) (fun _ => rfl) (fun _ => rfl) (fun m => isN_tree hs (fun k => gGrow_f (by decide) (by decide))) (fun m hm hne => ?_) ?_ ?_ ?_
  · rw [rU_f q, rU_f q]
  · have hml := isN_lt hs ((h.1.1 _).mp hm)
    rw [hn] at hne
    exact EN_tree hs (fun f _ => gGrow_at (by omega)) (fun k _ _ => gGrow_f (by decide) (by decide))
  · unfold qPath
    rw [gGrow_f (by decide) (by decide)]
  · unfold qUp
    rw [gGrow_f (by decide) (by decide)]
  · rw [hn]
    obtain ⟨a1, a2, a3, a4, a5, a6, a7, a8, a9, a10⟩ := hN
    have em : qMode (gGrow P s n u) s n = qMode P s n := by unfold qMode; rw [gGrow_f (by decide) (by decide)]
    have ep : qPath (gGrow P s n u) s n = qPath P s n := by unfold qPath; rw [gGrow_f (by decide) (by decide)]
    have ev : qVer (gGrow P s n u) s n = v + 1 := by
      unfold qVer at hv ⊢
      rw [if_pos hs] at hv ⊢
      unfold gGrow
      rw [rU_f (by decide), rU_s, hv]
    have eu : qUid (gGrow P s n u) s n = qUid P s n := by unfold qUid; rw [if_pos hs, if_pos hs, gGrow_f (by decide) (by decide)]
    have eg : qGid (gGrow P s n u) s n = qGid P s n := by unfold qGid; rw [if_pos hs, if_pos hs, gGrow_f (by decide) (by decide)]
    have ek : qMuid (gGrow P s n u) s n = u := by unfold qMuid; rw [if_pos hs]; exact rU_s
    have el : qLen (gGrow P s n u) s n = qLen P s n := by unfold qLen; rw [em, gGrow_f (by decide) (by decide)]
    have es : qNs (gGrow P s n u) s n = qNs P s n := by unfold qNs; rw [gGrow_f (by decide) (by decide)]
    have en : qNm (gGrow P s n u) s n = qNm P s n := by
      unfold qNm
      rw [es]
      exact seg_seg.mpr (fun j _ _ => by unfold qNb; rw [gGrow_f (by decide) (by decide)])
    unfold ND
    rw [em, ep, ev, eu, eg, ek, el, es, en]
    refine ⟨a1, ⟨by rw [rU_j (by decide), rU_j (by decide)]; exact a2.1, a2.2⟩, ⟨by rw [rU_j (by decide), rU_j (by decide)]; exact a3.1, a3.2⟩, ⟨by rw [rU_j (by decide), rU_s], by omega, by omega⟩, ⟨by rw [rU_j (by decide), rU_j (by decide)]; exact a5.1, a5.2⟩, ⟨by rw [rU_j (by decide), rU_j (by decide)]; exact a6.1, a6.2⟩, ⟨rU_s, hu⟩, ⟨by rw [rU_j (by decide), rU_j (by decide)]; exact a8.1, a8.2⟩, (a9.key (by decide) (by decide)).key (by decide) (by decide), a10⟩
theorem XV.len6 (hI : IV false T U P) (hs : 0 ≤ s) : ∀ n, s < 2 → isN P s n → P 2297 (64 * s + n) ≤ 600 := fun n hs2 hn => by
  have h1 := isN_lt hs2 hn
  have : 0 ≤ P 2297 (64 * s + n) ∧ P 2297 (64 * s + n) ≤ 600 := IV.a hI 2297 0 128 rfl rfl rfl (by omega) (by omega)
  exact this.2
theorem SZ.grow (h : SZ W P S s) : SZ (rU (rU W a 2261 v) a 2265 w) (gGrow P s n u) S s := by
  obtain ⟨h1, h2, h3, h4⟩ := h
  have e : ∀ (x : Nat) (k : Int), k ≠ 2261 → k ≠ 2265 → rU (rU W a 2261 v) a 2265 w x k = W x k := fun x k q1 q2 => (rU_j q2).trans (rU_j q1)
  unfold SZ
  rw [e _ _ (by decide) (by decide), e _ _ (by decide) (by decide), e _ _ (by decide) (by decide), e _ _ (by decide) (by decide), e _ _ (by decide) (by decide), gGrow_f (by decide) (by decide), gGrow_f (by decide) (by decide), gGrow_f (by decide) (by decide), gGrow_f (by decide) (by decide)]
  exact ⟨h1, h2, h3, h4⟩
theorem XV.grow (h : XV W R P S s ord t) (hS : VS S s) (h6 : ∀ n, s < 2 → isN P s n → P 2297 (64 * s + n) ≤ 600) (hs : s < 2) (hi : 0 ≤ i ∧ i < ord.length) (ha : S + 6 + 3 * t i.toNat = a) (hn : lg ord i = n) (hv : qVer P s n = v) (hv2 : v < 2147483647) (hu : 0 ≤ u ∧ u ≤ 3) : XV (rU (rU W a 2261 (v + 1)) a 2265 u) R (gGrow P s n u) S s ord t := by
  have hm : ∀ n, n ∈ ord → isN P s n := fun n hn => (h.1.1.1 n).mp hn
  refine ⟨h.1.grow hS hs hi ha hn hv hv2 hu, ((h.2.1.key (by decide)).key (by decide)).pp (fun f k hf => gGrow_f (fun q => by rw [q] at hf; exact absurd hf (by decide)) (fun q => by rw [q] at hf; exact absurd hf (by decide))), h.2.2.1.grow, ?_⟩
  have hd := (h.2.2.2.key (b := a) (v := v + 1) (k := 2261) (by decide) (by decide) h6 hm).key (b := a) (v := u) (k := 2265) (by decide) (by decide) h6 hm
  exact fun i i0 i1 => (hd i i0 i1).pp (fun _ => gGrow_f (by decide) (by decide)) (fun _ _ _ _ => gGrow_f (by decide) (by decide))
/-- a file is removed: its directory grows, it goes -/
theorem XV.rem (h : XV W R P S s ord t) (hS : VS S s) (hG : GI T U P) (hD : TI P) (hs : s < 2) (hi : 0 ≤ i ∧ i < C) (hC : (ord.length : Int) = C) (hb : S + 6 + 3 * t i.toNat = b) (hn : lg ord i = n) (hr : qRem P s n u = 0) (hj : 0 ≤ j ∧ j < C) (ha : S + 6 + 3 * t j.toNat = a) (hm : lg ord j = qUp P s n) (hv : qVer P s (qUp P s n) = v) (hv2 : v < 2147483647) (hu : 0 ≤ u ∧ u ≤ 3) : XV (tkW (rU (rU W a 2261 (v + 1)) a 2265 u) S b C (P 2301 s - P 2297 (64 * s + n))) (tkR R S b i C) (gRem P s n u) S s (ord.eraseIdx i.toNat) (tkT t i C) := by
  have hsr := hS.1
  have hg := h.grow hS (XV.len6 hG.iv hsr.1) hs (by omega) ha hm hv hv2 hu
  have hnl := isN_lt hs ((h.1.1.1 _).mp (by rw [← hn]; exact lg_mem hi.1 (by omega)) : isN P s n)
  have hno := qRem_none hr hG.2.1 hsr ⟨hnl.1, hnl.2.1⟩
  have eup : qUp P s n = P 2290 (64 * s + n) := if_pos hs
  have e1 : ∀ (g : Nat) (k : Int), g ≠ 2310 → g ≠ 2289 → g ≠ 2302 → g ≠ 2301 → g ≠ 2297 → gRem P s n u g k = gGrow P s (qUp P s n) u g k := fun g k q0 q1 q2 q3 q4 => by
    show gGone (gRem0 P s n u) _ _ _ g k = _
    rw [gGone_f q0, eup]
    exact gGrow_two (fun k => by rw [rU_f (by decide), rU_f (by decide), rU_f (by decide), rU_f (by decide)]) (by rw [rU_f q4, rU_f q3, rU_f q2, rU_f q1])
  have e2 : ∀ k, gRem P s n u 2297 k = if k = 64 * s + n then 0 else P 2297 k := fun k => gRem_len
  have hlive : ∀ m, isN (gRem P s n u) s m ↔ isN (gGrow P s (qUp P s n) u) s m ∧ m ≠ lg ord i := fun m => by
    rw [isN_tree hs (fun k => gGrow_f (by decide) (by decide) : ∀ k, gGrow P s (qUp P s n) u 2289 k = P 2289 k), hn]
    constructor
    · intro q
      obtain ⟨q1, q2, q3⟩ := isN_lt hs q
      rw [gRem_isFile] at q3
      by_cases e : 64 * s + m = 64 * s + n
      · rw [if_pos e] at q3
        omega
      · rw [if_neg e] at q3
        exact ⟨Or.inl ⟨hs, q1, q2, q3⟩, by omega⟩
    · rintro ⟨q, q4⟩
      obtain ⟨q1, q2, q3⟩ := isN_lt hs q
      refine Or.inl ⟨hs, q1, q2, ?_⟩
      rw [gRem_isFile, if_neg (by omega)]
      exact q3
  have hEN : ∀ m ∈ ord, m ≠ lg ord i → EN (gRem P s n u) (gGrow P s (qUp P s n) u) s m := fun m hm hne => by
    have hml := isN_lt hs ((h.1.1.1 _).mp hm)
    rw [hn] at hne
    refine EN_tree hs (fun f hf => ?_) (fun k _ _ => e1 _ _ (by decide) (by decide) (by decide) (by decide) (by decide))
    by_cases q : f = 2297
    · rw [q, e2, if_neg (by omega), gGrow_f (by decide) (by decide)]
    · exact e1 _ _ (fun c => by rw [c] at hf; exact absurd hf (by decide)) (fun c => by rw [c] at hf; exact absurd hf (by decide)) (fun c => by rw [c] at hf; exact absurd hf (by decide)) (fun c => by rw [c] at hf; exact absurd hf (by decide)) q
  refine ⟨hg.1.take hi hC hb hlive hEN (fun m hm hm0 => ?_), hg.2.1.take hg.1 hi hC hb (fun k k0 k1 => ?_), ?_, hg.2.2.2.take hg.1 hi hC hb (fun m _ hm => ?_) (fun m _ hm hne => ?_) hS.rng.2.1⟩
  · obtain ⟨q1, q2⟩ := (hlive m).mp hm
    have q3 := isN_lt hs ((isN_tree hs (fun k => gGrow_f (by decide) (by decide))).mp q1 : isN P s m)
    have g := hG.2.1.2.1 s m hsr.1 hs (by omega) q3.2.1 (by omega)
    have ba : 0 ≤ P 2290 (64 * s + m) ∧ P 2290 (64 * s + m) ≤ 63 := IV.a hG.iv 2290 0 128 rfl rfl rfl (by omega) (by omega)
    have eu : qUp (gRem P s n u) s m = P 2290 (64 * s + m) := by
      unfold qUp
      rw [if_pos hs, e1 _ _ (by decide) (by decide) (by decide) (by decide) (by decide), gGrow_f (by decide) (by decide)]
    rw [eu, hlive, isN_tree hs (fun k => gGrow_f (by decide) (by decide) : ∀ k, gGrow P s (qUp P s n) u 2289 k = P 2289 k), hn]
    exact ⟨Or.inl ⟨hs, ba.1, by omega, g.1⟩, fun q => hno m (by omega) q3.2.1 (by omega) q⟩
  · have f : ∀ g : Nat, fidL.elem g = true → g ≠ 2310 → gRem P s n u g k = gGrow P s (qUp P s n) u g k := fun g hg hg2 => e1 _ _ hg2 (fun c => by rw [c] at hg; exact absurd hg (by decide)) (fun c => by rw [c] at hg; exact absurd hg (by decide)) (fun c => by rw [c] at hg; exact absurd hg (by decide)) (fun c => by rw [c] at hg; exact absurd hg (by decide))
    refine ⟨f _ rfl (by decide), f _ rfl (by decide), f _ rfl (by decide), f _ rfl (by decide), f _ rfl (by decide), f _ rfl (by decide), f _ rfl (by decide), f _ rfl (by decide), fun q => ?_⟩
    rw [gRem_gone ⟨k0, k1⟩, gGrow_f (by decide) (by decide), gGrow_f (by decide) (by decide), hn]
    rw [gGrow_f (by decide) (by decide)] at q
    constructor
    · intro c
      by_cases c2 : ¬ P 2310 k = 0 ∨ (¬ P 2304 k = 0 ∧ P 2306 k = n)
      · rw [if_pos c2] at c
        omega
      · exact ⟨by omega, by omega⟩
    · intro c
      exact if_neg (by omega)
  · obtain ⟨z1, z2, z3, z4⟩ := h.2.2.1
    have k2 : ∀ (x : Nat) (k : Int), ¬ (x = S ∧ (k = 2230 ∨ k = 2231)) → k ≠ 2266 → k ≠ 2261 → k ≠ 2265 → tkW (rU (rU W a 2261 (v + 1)) a 2265 u) S b C (P 2301 s - P 2297 (64 * s + n)) x k = W x k := fun x k q1 q2 q3 q4 => (tkW_o q1 (fun c => q2 c.2)).trans ((rU_j q4).trans (rU_j q3))
    refine ⟨?_, ?_, ?_, fun _ => ⟨?_, ?_⟩, fun c => by omega⟩
    · rw [k2 _ _ (by omega) (by decide) (by decide) (by decide), e1 _ _ (by decide) (by decide) (by decide) (by decide) (by decide), gGrow_f (by decide) (by decide)]
      exact z1
    · rw [k2 _ _ (by omega) (by decide) (by decide) (by decide), e1 _ _ (by decide) (by decide) (by decide) (by decide) (by decide), gGrow_f (by decide) (by decide)]
      exact z2
    · rw [k2 _ _ (by omega) (by decide) (by decide) (by decide)]
      exact z3
    · unfold tkW
      rw [rU_j (by decide), rU_s]
      show _ = gGone (gRem0 P s n u) _ _ _ 2301 s
      rw [gGone_f (by decide)]
      unfold gRem0
      rw [gGrow_f (by decide) (by decide), rU_f (by decide), rU_s]
    · rw [k2 _ _ (by omega) (by decide) (by decide) (by decide), e1 _ _ (by decide) (by decide) (by decide) (by decide) (by decide), gGrow_f (by decide) (by decide)]
      exact (z4.1 hs).2
  · rw [gGrow_f (by decide) (by decide)]
    exact XV.len6 hG.iv hsr.1 m hs ((isN_tree hs (fun k => gGrow_f (by decide) (by decide))).mp hm)
  · have hml := isN_lt hs ((isN_tree hs (fun k => gGrow_f (by decide) (by decide))).mp hm : isN P s m)
    rw [hn] at hne
    refine ⟨by rw [e2, if_neg (by omega), gGrow_f (by decide) (by decide)], fun i _ _ => e1 _ _ (by decide) (by decide) (by decide) (by decide) (by decide)⟩
end XDLM
