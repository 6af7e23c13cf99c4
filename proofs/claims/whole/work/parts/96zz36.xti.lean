/-! What stays true of names, paths, lengths of directories: files removed, fids that go. -/
section XTI
variable {m2 : Nat} {P Q : qR} {i j k x z v s e w f u n p g K T U c : Int} {l nm : List Int}
theorem TI.of (h : TI P) (e1 : ∀ k, Q 2289 k = 1 → P 2289 k = 1) (e2 : ∀ k, Q 2290 k = P 2290 k) (e3 : ∀ k, Q 2298 k = P 2298 k) (e4 : ∀ k, Q 2299 k = P 2299 k) (e5 : ∀ k, Q 2291 k = P 2291 k) (e6 : ∀ k, Q 2303 k = P 2303 k) (e7 : ∀ k, Q 2293 k = P 2293 k) (e8 : ∀ k : Int, 0 ≤ k → k < 128 → P 2293 k < 0 → Q 2297 k = P 2297 k ∨ Q 2297 k = 0) (e9 : ∀ k, ¬ Q 2304 k = 0 → ¬ P 2304 k = 0) (e10 : ∀ k, ¬ Q 2304 k = 0 → Q 2310 k = 0 → P 2310 k = 0) (e11 : ∀ k, Q 2309 k = P 2309 k) (e12 : ∀ k, Q 2306 k = P 2306 k) (e13 : ∀ k, Q 2320 k = P 2320 k) (e14 : ∀ k, Q 2311 k = P 2311 k) (e15 : ∀ k, Q 2312 k = P 2312 k) : TI Q := by
  obtain ⟨h1, h2, h3, h4, h5, h6⟩ := h
  have hl : ∀ s n, s < 2 → isN Q s n → isN P s n := fun s n hs q => by
    have := isN_lt hs q
    exact Or.inl ⟨hs, this.1, this.2.1, e1 _ this.2.2⟩
  have hn : ∀ s m, s < 2 → qNm Q s m = qNm P s m := fun s m hs => by
    have en : qNs Q s m = qNs P s m := by unfold qNs; rw [e4]
    unfold qNm
    rw [en]
    exact seg_seg.mpr (fun j _ _ => by unfold qNb; rw [e3])
  have hk : ∀ s n nm m, s < 2 → kidN Q s n nm m → kidN P s n nm m := fun s n nm m hs q => by
    obtain ⟨q1, q2, q3, q4⟩ := q
    refine ⟨hl s m hs q1, q2, ?_, (hn s m hs).symm.trans q4⟩
    rw [← q3]
    unfold qUp
    rw [if_pos hs, if_pos hs, e2]
  refine ⟨fun s s0 s1 n nm m m2 g1 g2 => h1 s s0 s1 n nm m m2 (hk s n nm m s1 g1) (hk s n nm m2 s1 g2), fun s n s0 s1 q => ?_, fun k k0 k1 q => ?_, fun k k0 k1 g1 g2 g3 g4 g5 => ?_, fun k k0 k1 g1 g2 => ?_, fun k k0 k1 g1 => ?_⟩
  · rw [e5, e6]
    exact h2 s n s0 s1 (hl s n s1 q)
  · rw [e7] at q
    rcases e8 k k0 k1 q with q2 | q2
    · rw [q2]
      exact h3 k k0 k1 q
    · exact q2
  · rw [e11] at g3 g4 g5
    rw [e7, e12]
    exact h4 k k0 k1 (e9 k g1) (e10 k g1 g2) g3 g4 g5
  · have g := h5 k k0 k1 (e9 k g1) (e10 k g1 g2)
    rw [e12]
    unfold isN at g ⊢
    rw [e13]
    rcases g with g | g
    · omega
    · exact Or.inr g
  · rw [e11] at g1
    rw [e14, e15]
    exact h6 k k0 k1 g1
theorem TI.rf {L : List Nat} (h : TI P) (r : RF L Q P) (h1 : L.elem 2289 = false) (h2 : L.elem 2290 = false) (h3 : L.elem 2298 = false) (h4 : L.elem 2299 = false) (h5 : L.elem 2291 = false) (h6 : L.elem 2303 = false) (h7 : L.elem 2293 = false) (h8 : L.elem 2297 = false) (h9 : L.elem 2304 = false) (h10 : L.elem 2310 = false) (h11 : L.elem 2309 = false) (h12 : L.elem 2306 = false) (h13 : L.elem 2320 = false) (h14 : L.elem 2311 = false) (h15 : L.elem 2312 = false) : TI Q := h.of (fun k q => by rw [← r _ _ h1]; exact q) (fun k => r _ _ h2) (fun k => r _ _ h3) (fun k => r _ _ h4) (fun k => r _ _ h5) (fun k => r _ _ h6) (fun k => r _ _ h7) (fun k _ _ _ => Or.inl (r _ _ h8)) (fun k q => by rw [← r _ _ h9]; exact q) (fun k _ q => by rw [← r _ _ h10]; exact q) (fun k => r _ _ h11) (fun k => r _ _ h12) (fun k => r _ _ h13) (fun k => r _ _ h14) (fun k => r _ _ h15)
theorem TI.grow (h : TI P) : TI (gGrow P s n u) := h.rf (L := [2292, 2296]) (RF_gGrow RF_rfl rfl rfl) rfl rfl rfl rfl rfl rfl rfl rfl rfl rfl rfl rfl rfl rfl rfl
theorem TI.rem (h : TI P) : TI (gRem P s n u) := by
  have r : ∀ f k, [2289, 2302, 2301, 2297, 2292, 2296, 2310].elem f = false → gRem P s n u f k = P f k := RF_gRem
  refine h.of (fun k q => ?_) (fun k => r _ _ rfl) (fun k => r _ _ rfl) (fun k => r _ _ rfl) (fun k => r _ _ rfl) (fun k => r _ _ rfl) (fun k => r _ _ rfl) (fun k _ _ _ => ?_) (fun k q => by rw [← r _ _ rfl]; exact q) (fun k _ q => ?_) (fun k => r _ _ rfl) (fun k => r _ _ rfl) (fun k => r _ _ rfl) (fun k => r _ _ rfl) (fun k => r _ _ rfl)
  · rw [gRem_isFile] at q
    by_cases e : k = 64 * s + n
    · rw [if_pos e] at q
      omega
    · rw [if_neg e] at q
      exact q
  · rw [gRem_len]
    by_cases e : k = 64 * s + n
    · rw [if_pos e]
      exact Or.inr rfl
    · rw [if_neg e]
      exact Or.inl rfl
  · by_cases e : 96 * s ≤ k ∧ k < 96 * s + 96
    · rw [gRem_gone e] at q
      by_cases e2 : ¬ P 2310 k = 0 ∨ (¬ P 2304 k = 0 ∧ P 2306 k = n)
      · rw [if_pos e2] at q
        omega
      · omega
    · rw [gRem_gone2 e] at q
      exact q
theorem TI.clunk (h : TI P) : TI (gClunk P s k) := by
  unfold gClunk
  split
  · exact h.rem.isFid
  · exact h.isFid
theorem TI.clA (h : TI P) : ∀ m : Nat, TI (clA P s c m) := fun m => by
  induction m generalizing P with
  | zero => exact h
  | succ m ih =>
    show TI (if qLeast P s c < 0 then P else _)
    split
    · exact h
    · exact ih h.clunk
/-- a fid is made at a file that is there -/
theorem TI.make (h : TI P) (hs : 0 ≤ s ∧ s < 3) (hi : 0 ≤ i ∧ i < 96) (hn : isN P s n) : TI (gMake P (96 * s + i) v n u) := by
  have r : ∀ f k1, [2307, 2304, 2305, 2306, 2308, 2309, 2310, 2311, 2312].elem f = false → gMake P (96 * s + i) v n u f k1 = P f k1 := RF_gMake
  obtain ⟨h1, h2, h3, h4, h5, h6⟩ := h
  have hfe : FE (gMake P (96 * s + i) v n u) P := gMake_fe
  refine ⟨fun s s0 s1 n nm m m2 g1 g2 => ?_, fun s n s0 s1 q => ?_, fun k k0 k1 q => ?_, fun k k0 k1 g1 g2 g3 g4 g5 => ?_, fun k k0 k1 g1 g2 => ?_, fun k k0 k1 g1 => ?_⟩
  · refine h1 s s0 s1 n nm m m2 ?_ ?_
    · obtain ⟨a1, a2, a3, a4⟩ := g1
      exact ⟨hfe.live.mp a1, a2, by rw [← hfe.up]; exact a3, by rw [← hfe.nam]; exact a4⟩
    · obtain ⟨a1, a2, a3, a4⟩ := g2
      exact ⟨hfe.live.mp a1, a2, by rw [← hfe.up]; exact a3, by rw [← hfe.nam]; exact a4⟩
  · rw [r _ _ rfl, r _ _ rfl]
    exact h2 s n s0 s1 (hfe.live.mp q)
  · rw [r _ _ rfl] at q ⊢
    exact h3 k k0 k1 q
  · by_cases e : k = 96 * s + i
    · rw [e, gMake_mode] at g3
      omega
    · rw [gMake_o e] at g1 g2 g3 g4 g5
      rw [r 2293 _ rfl, gMake_o e]
      exact h4 k k0 k1 g1 g2 g3 g4 g5
  · by_cases e : k = 96 * s + i
    · rw [e, gMake_node]
      have hs2 : s = 2 := by omega
      rw [← hs2]
      exact hfe.live.mpr hn
    · rw [gMake_o e] at g1 g2
      rw [gMake_o e]
      exact hfe.live.mpr (h5 k k0 k1 g1 g2)
  · by_cases e : k = 96 * s + i
    · rw [e]
      unfold gMake
      refine ⟨?_, rU_s⟩
      rw [rU_f (by decide), rU_s]
    · rw [gMake_o e] at g1
      rw [gMake_o e, gMake_o e]
      exact h6 k k0 k1 g1
/-- a fid gets its mode -/
theorem TI.opn (h : TI P) (hw0 : 0 ≤ w) (hm : k < 192 → 0 ≤ w → 1 ≤ and32 w 3 → and32 w 3 ≤ 2 → 0 ≤ P 2293 (64 * (k / 96) + P 2306 k)) : TI (gOpen P k w) := by
  have r : ∀ f k1, [2309, 2311, 2312].elem f = false → gOpen P k w f k1 = P f k1 := RF_up (RF_up (RF_up RF_rfl rfl) rfl) rfl
  obtain ⟨h1, h2, h3, h4, h5, h6⟩ := h
  have hfe : FE (gOpen P k w) P := fun f j hf => r f j (by
    cases e : [2309, 2311, 2312].elem f
    · rfl
    · exfalso
      have := List.elem_iff.mp e
      simp only [List.mem_cons, List.not_mem_nil, or_false] at this
      rcases this with rfl | rfl | rfl <;> exact absurd hf (by decide))
  refine ⟨fun s s0 s1 n nm m m2 g1 g2 => ?_, fun s n s0 s1 q => ?_, fun k k0 k1 q => ?_, fun j k0 k1 g1 g2 g3 g4 g5 => ?_, fun k k0 k1 g1 g2 => ?_, fun j k0 k1 g1 => ?_⟩
  · refine h1 s s0 s1 n nm m m2 ?_ ?_
    · obtain ⟨a1, a2, a3, a4⟩ := g1
      exact ⟨hfe.live.mp a1, a2, by rw [← hfe.up]; exact a3, by rw [← hfe.nam]; exact a4⟩
    · obtain ⟨a1, a2, a3, a4⟩ := g2
      exact ⟨hfe.live.mp a1, a2, by rw [← hfe.up]; exact a3, by rw [← hfe.nam]; exact a4⟩
  · rw [r _ _ rfl, r _ _ rfl]
    exact h2 s n s0 s1 (hfe.live.mp q)
  · rw [r _ _ rfl] at q ⊢
    exact h3 k k0 k1 q
  · have e0 : gOpen P k w 2309 j = if j = k then w else P 2309 j := by
      unfold gOpen
      rw [rU_f (by decide), rU_f (by decide)]
      by_cases e : j = k
      · rw [if_pos e, e, rU_s]
      · rw [if_neg e, rU_k e]
    rw [r _ _ rfl] at g1 g2
    rw [e0] at g3 g4 g5
    rw [r _ _ rfl, r _ _ rfl]
    by_cases e : j = k
    · rw [if_pos e] at g3 g4 g5
      rw [e]
      rw [e] at k1
      exact hm k1 g3 g4 g5
    · rw [if_neg e] at g3 g4 g5
      exact h4 j k0 k1 g1 g2 g3 g4 g5
  · rw [r _ _ rfl] at g1 g2
    rw [r _ _ rfl]
    exact hfe.live.mpr (h5 k k0 k1 g1 g2)
  · by_cases e : j = k
    · rw [e] at g1
      have e0 : gOpen P k w 2309 k = w := by
        unfold gOpen
        rw [rU_f (by decide), rU_f (by decide), rU_s]
      omega
    · have eo : ∀ g : Nat, gOpen P k w g j = P g j := fun g => by
        have e2 : ∀ (Q : qR) (f : Nat) (w : Int), rU Q f k w g j = Q g j := fun Q f w => if_neg (fun q => e q.2)
        unfold gOpen
        rw [e2, e2, e2]
      rw [eo] at g1
      rw [eo, eo]
      exact h6 j k0 k1 g1
theorem TI.size (h : TI P) (hd : 0 ≤ P 2293 (64 * s + n)) : TI (gSize P s n z) := by
  have r : ∀ f k, [2300, 2301, 2297].elem f = false → gSize P s n z f k = P f k := RF_gSize
  refine h.of (fun k q => by rw [← r _ _ rfl]; exact q) (fun k => r _ _ rfl) (fun k => r _ _ rfl) (fun k => r _ _ rfl) (fun k => r _ _ rfl) (fun k => r _ _ rfl) (fun k => r _ _ rfl) (fun k _ _ q => ?_) (fun k q => by rw [← r _ _ rfl]; exact q) (fun k _ q => by rw [← r _ _ rfl]; exact q) (fun k => r _ _ rfl) (fun k => r _ _ rfl) (fun k => r _ _ rfl) (fun k => r _ _ rfl) (fun k => r _ _ rfl)
  rw [gSize_len, if_neg (fun e => by rw [e] at q; omega)]
  exact Or.inl rfl
end XTI
