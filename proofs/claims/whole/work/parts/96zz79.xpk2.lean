/-! What a message keeps true, all messages. -/
section XPKB
variable {S a b mb : Nat} {W W1 W2 P Q Q1 Q2 : qR} {R R1 R2 : rR} {i j k x z v s e w f u n p g T U c m y : Int} {l nm ord : List Int} {t : Nat → Nat}
/-- names of server 2 are distinct -/
theorem UNq2 : UNq P 2 := fun n nm m m2 h1 h2 => by
  obtain ⟨a1, a2, a3, a4⟩ := h1
  obtain ⟨b1, b2, b3, b4⟩ := h2
  have e : ∀ k, qNm P 2 k = qNm2 k := fun k => by
    have e1 : qNs P 2 k = ((qNm2 k).length : Int) := if_neg (by decide)
    unfold qNm
    rw [e1, show ((qNm2 k).length : Int).toNat = (qNm2 k).length by omega]
    refine Eq.trans (seg_seg.mpr (fun j _ _ => ?_)) (seg_all (l := qNm2 k))
    show qNb P 2 k (0 + j) = lg (qNm2 k) (0 + j)
    unfold qNb
    rw [if_neg (by decide)]
  rw [e] at a4 b4
  have a5 := a4.trans b4.symm
  clear e a4 b4
  have up : ∀ k, qUp P 2 k = if k < 16 ∨ k % 16 = 0 then 0 else k / 16 * 16 := fun k => if_neg (by decide)
  rw [up] at a3 b3
  have f1 : m = 1 ∨ (16 ≤ m ∧ m < 144 ∧ m % 16 ≤ 2) := by
    rcases a1 with q | q <;> omega
  have f2 : m2 = 1 ∨ (16 ≤ m2 ∧ m2 < 144 ∧ m2 % 16 ≤ 2) := by
    rcases b1 with q | q <;> omega
  have g : ∀ k, (k = 1 ∨ (16 ≤ k ∧ k < 144 ∧ k % 16 ≤ 2)) → (k = 1 ∧ qNm2 k = [99, 111, 110, 115]) ∨ (¬ k = 1 ∧ k % 16 = 0 ∧ qNm2 k = [47 + k / 16]) ∨ (¬ k = 1 ∧ k % 16 = 1 ∧ qNm2 k = [115, 116, 97, 116, 117, 115]) ∨ (k % 16 = 2 ∧ qNm2 k = [99, 116, 108]) := fun k hk => by
    unfold qNm2
    rcases hk with rfl | hk
    · exact Or.inl ⟨rfl, by decide⟩
    · rw [if_neg (by omega), if_neg (by omega)]
      by_cases c0 : k % 16 = 0
      · rw [if_pos c0]
        exact Or.inr (Or.inl ⟨by omega, c0, rfl⟩)
      · rw [if_neg c0]
        by_cases c1 : k % 16 = 1
        · rw [if_pos c1]
          exact Or.inr (Or.inr (Or.inl ⟨by omega, c1, rfl⟩))
        · rw [if_neg c1]
          exact Or.inr (Or.inr (Or.inr ⟨by omega, rfl⟩))
  rcases g m f1 with ⟨d1, d2⟩ | ⟨d1, d2, d3⟩ | ⟨d1, d2, d3⟩ | ⟨d2, d3⟩
  · rcases g m2 f2 with ⟨e1, e2⟩ | ⟨e1, e2, e3⟩ | ⟨e1, e2, e3⟩ | ⟨e2, e3⟩
    · rw [d2, e2] at a5
      omega
    · rw [d2, e3] at a5
      have := congrArg List.length a5
      simp only [List.length_cons, List.length_nil] at this
      omega
    · rw [d2, e3] at a5
      have := congrArg List.length a5
      simp only [List.length_cons, List.length_nil] at this
      omega
    · rw [d2, e3] at a5
      have := congrArg List.length a5
      simp only [List.length_cons, List.length_nil] at this
      omega
  · rcases g m2 f2 with ⟨e1, e2⟩ | ⟨e1, e2, e3⟩ | ⟨e1, e2, e3⟩ | ⟨e2, e3⟩
    · rw [d3, e2] at a5
      have := congrArg List.length a5
      simp only [List.length_cons, List.length_nil] at this
      omega
    · rw [d3, e3] at a5
      have := (List.cons.inj a5).1
      omega
    · rw [d3, e3] at a5
      have := congrArg List.length a5
      simp only [List.length_cons, List.length_nil] at this
      omega
    · rw [d3, e3] at a5
      have := congrArg List.length a5
      simp only [List.length_cons, List.length_nil] at this
      omega
  · rcases g m2 f2 with ⟨e1, e2⟩ | ⟨e1, e2, e3⟩ | ⟨e1, e2, e3⟩ | ⟨e2, e3⟩
    · rw [d3, e2] at a5
      have := congrArg List.length a5
      simp only [List.length_cons, List.length_nil] at this
      omega
    · rw [d3, e3] at a5
      have := congrArg List.length a5
      simp only [List.length_cons, List.length_nil] at this
      omega
    · rw [d3, e3] at a5
      rw [if_neg (by omega)] at a3 b3
      omega
    · rw [d3, e3] at a5
      have := congrArg List.length a5
      simp only [List.length_cons, List.length_nil] at this
      omega
  · rcases g m2 f2 with ⟨e1, e2⟩ | ⟨e1, e2, e3⟩ | ⟨e1, e2, e3⟩ | ⟨e2, e3⟩
    · rw [d3, e2] at a5
      have := congrArg List.length a5
      simp only [List.length_cons, List.length_nil] at this
      omega
    · rw [d3, e3] at a5
      have := congrArg List.length a5
      simp only [List.length_cons, List.length_nil] at this
      omega
    · rw [d3, e3] at a5
      have := congrArg List.length a5
      simp only [List.length_cons, List.length_nil] at this
      omega
    · rw [d3, e3] at a5
      rw [if_neg (by omega)] at a3 b3
      omega
/-- a fid of server 2 that may be opened -/
theorem open_two (h : qOpn P 2 n u m = 0) (hm : 0 ≤ m ∧ m ≤ 255) : (16 ≤ n → n % 16 = 2 → and32 m 3 = 1) ∧ ((n = 0 ∨ n % 16 = 0) → and32 m 3 = 0) := by
  obtain ⟨b1, b2, b3, b4⟩ := m81 hm
  obtain ⟨hw, hhw⟩ : ∃ q, and32 m (-81) = q := ⟨_, rfl⟩
  rw [hhw] at b1 b2 b3 b4
  unfold qOpn at h
  rw [hhw] at h
  by_cases c1 : 3 < hw
  · rw [if_pos c1] at h
    omega
  rw [if_neg c1] at h
  have b3 := b3 (by omega)
  have e : ¬ (2 : Int) < 2 := by decide
  refine ⟨fun q1 q2 => ?_, fun q1 => ?_⟩
  · have e1 : qMode P 2 n = 128 := by
      unfold qMode
      rw [if_neg e, if_neg (by omega), if_neg (by omega), if_neg (by omega)]
    have e2 : ∀ w, qMv P 2 n u w = and32 (if u = qUid P 2 n then 2 else if u = qGid P 2 n then 16 else 128) w := fun w => by
      unfold qMv
      rw [e1, show shr32 128 6 = 2 by decide, show shr32 128 3 = 16 by decide]
    have eg : qGid P 2 n = qUid P 2 n := if_neg e
    rw [eg] at e2
    have e3 : ∀ w, qMv P 2 n u w = if u = qUid P 2 n then and32 2 w else and32 128 w := fun w => by
      rw [e2]
      by_cases c : u = qUid P 2 n
      · rw [if_pos c, if_pos c]
      · rw [if_neg c, if_neg c, if_neg c]
    rw [if_neg (by omega), e3, e3, e3] at h
    rw [b3]
    by_cases c : u = qUid P 2 n
    · rw [if_pos c, if_pos c, if_pos c, show and32 2 4 = 0 by decide, show and32 2 2 = 2 by decide, show and32 2 1 = 0 by decide] at h
      by_cases c2 : ((hw = 0 ∨ hw = 2) ∧ (0 : Int) = 0) ∨ ((hw = 1 ∨ hw = 2 ∨ ¬ and32 m 16 = 0) ∧ (2 : Int) = 0) ∨ (hw = 3 ∧ (0 : Int) = 0)
      · rw [if_pos c2] at h
        omega
      · omega
    · rw [if_neg c, if_neg c, if_neg c, show and32 128 4 = 0 by decide, show and32 128 2 = 0 by decide, show and32 128 1 = 0 by decide] at h
      by_cases c2 : ((hw = 0 ∨ hw = 2) ∧ (0 : Int) = 0) ∨ ((hw = 1 ∨ hw = 2 ∨ ¬ and32 m 16 = 0) ∧ (0 : Int) = 0) ∨ (hw = 3 ∧ (0 : Int) = 0)
      · rw [if_pos c2] at h
        omega
      · omega
  · have e1 : qMode P 2 n < 0 := by
      unfold qMode
      rw [if_neg e]
      by_cases c : n = 1
      · omega
      · rw [if_neg c, if_pos q1]
        decide
    rw [b3]
    by_cases c2 : qMode P 2 n < 0 ∧ (0 < hw ∨ ¬ and32 m 16 = 0)
    · rw [if_pos c2] at h
      omega
    · omega
theorem CTW.of (h : CTW P) (e1 : ∀ k, 192 ≤ k → k < 288 → ¬ Q 2304 k = 0 → 0 ≤ Q 2309 k → ¬ P 2304 k = 0 ∧ Q 2309 k = P 2309 k ∧ Q 2306 k = P 2306 k) : CTW Q := fun k k0 k1 g1 g2 g3 g4 => by
  obtain ⟨a1, a2, a3⟩ := e1 k k0 k1 g1 g2
  rw [a2] at g2 ⊢
  rw [a3] at g3 g4
  exact h k k0 k1 a1 g2 g3 g4
theorem WDW.of (h : WDW P) (e1 : ∀ k, 192 ≤ k → k < 288 → ¬ Q 2304 k = 0 → Q 2310 k = 0 → 0 ≤ Q 2309 k → ¬ P 2304 k = 0 ∧ P 2310 k = 0 ∧ Q 2309 k = P 2309 k ∧ Q 2306 k = P 2306 k) : WDW Q := fun k k0 k1 g1 g2 g3 g4 g5 => by
  obtain ⟨a1, a2, a3, a4⟩ := e1 k k0 k1 g1 g2 g3
  rw [a3] at g3 g4 g5
  rw [a4]
  exact h k k0 k1 a1 a2 g3 g4 g5
/-- both, where fids of server 2 stay or go -/
theorem PKK.of (h : PKK P) (hT : TI Q) (e1 : ∀ k, 192 ≤ k → k < 288 → ¬ Q 2304 k = 0 → 0 ≤ Q 2309 k → ¬ P 2304 k = 0 ∧ (Q 2310 k = 0 → P 2310 k = 0) ∧ Q 2309 k = P 2309 k ∧ Q 2306 k = P 2306 k) : PKK Q := ⟨hT, h.2.1.of (fun k k0 k1 g1 g2 => by
  obtain ⟨a1, a2, a3, a4⟩ := e1 k k0 k1 g1 g2
  exact ⟨a1, a3, a4⟩), h.2.2.of (fun k k0 k1 g1 g2 g3 => by
  obtain ⟨a1, a2, a3, a4⟩ := e1 k k0 k1 g1 g3
  exact ⟨a1, a2 g2, a3, a4⟩)⟩
theorem PKK.rf {L : List Nat} (h : PKK P) (hT : TI Q) (r : RF L Q P) (h9 : L.elem 2304 = false) (h10 : L.elem 2310 = false) (h11 : L.elem 2309 = false) (h12 : L.elem 2306 = false) : PKK Q := h.of hT (fun k _ _ g1 _ => ⟨by rw [← r _ _ h9]; exact g1, fun c => by rw [← r _ _ h10]; exact c, r _ _ h11, r _ _ h12⟩)
/-- a message to server 0, 1 -/
theorem PKK.ow (h : PKK P) (hT : TI Q) (hs : s < 2) (hq : OW s Q P) : PKK Q := h.of hT (fun k k0 k1 g1 _ => by
  have e : ∀ f : Nat, ownF f = true → f ≠ 2298 → f ≠ 2300 → f ≠ 2313 → ownN f = false → ownT f = false → Q f k = P f k := fun f hf n1 n2 n3 n4 n5 => hq f k (fun c => by
    rcases c with c | c | c | c | c | c | c
    · rw [n4] at c
      exact absurd c.1 (by decide)
    · exact n1 c.1
    · exact n2 c.1
    · rw [n5] at c
      exact absurd c.1 (by decide)
    · omega
    · exact n3 c.1
    · omega)
  exact ⟨by rw [← e 2304 rfl (by decide) (by decide) (by decide) rfl rfl]; exact g1, fun c => by rw [← e 2310 rfl (by decide) (by decide) (by decide) rfl rfl]; exact c, e 2309 rfl (by decide) (by decide) (by decide) rfl rfl, e 2306 rfl (by decide) (by decide) (by decide) rfl rfl⟩)
theorem PKK.isFid (h : PKK P) : PKK (rU P 2304 k 0) := h.of h.1.isFid (fun j _ _ g1 _ => by
  refine ⟨fun c => g1 ?_, fun c => by rw [rU_f (by decide)] at c; exact c, rU_f (by decide), rU_f (by decide)⟩
  by_cases e : j = k
  · rw [e, rU_s]
  · rw [rU_k e]
    exact c)
theorem PKK.clunk (h : PKK P) (hG : GI T U P) (hs : 0 ≤ s ∧ s < 3) (hk : 96 * s ≤ k ∧ k < 96 * s + 96) : PKK (gClunk P s k) := by
  by_cases q : s < 2
  · exact h.ow h.1.clunk q (OW_gClunk hG hs hk)
  · have e : ¬ qTake P s k := fun c => by
      have := qRem_0 c.2
      omega
    rw [gClunk_no e]
    exact h.isFid
theorem PKK.clA (hs : 0 ≤ s ∧ s < 3) (hc : c = 0 ∨ c = 1) : ∀ (m : Nat) (T : Int) (P : qR), GI T U P → PKK P → PKK (clA P s c m) := fun m => by
  induction m with
  | zero => intro T P _ h; exact h
  | succ m ih =>
    intro T P hG h
    show PKK (if qLeast P s c < 0 then P else _)
    by_cases q : qLeast P s c < 0
    · rw [if_pos q]
      exact h
    · rw [if_neg q]
      have hr := lsF_rng (P := P) (lo := 48 * (2 * s + c)) 48 (48 * (2 * s + c)) (-1) (by omega) (by omega) (Or.inl rfl)
      have e : lsF P 48 (48 * (2 * s + c)) (-1) = qLeast P s c := rfl
      rw [e] at hr
      have hk : 96 * s ≤ qLeast P s c ∧ qLeast P s c < 96 * s + 96 := by omega
      have hf : ¬ P 2304 (qLeast P s c) = 0 := by
        rcases hr with hr | hr
        · exfalso
          omega
        · exact hr.2.2
      exact ih (T + 1) _ (GI_gClunk hG hs hk hf) (h.clunk hG hs hk)
theorem PKK.make (h : PKK P) (hs : 0 ≤ s ∧ s < 3) (hi : 0 ≤ i ∧ i < 96) (hn : isN P s n) : PKK (gMake P (96 * s + i) v n u) := h.of (h.1.make hs hi hn) (fun k _ _ g1 g2 => by
  have e : k ≠ 96 * s + i := fun c => by
    rw [c, gMake_mode] at g2
    omega
  rw [gMake_o e] at g1
  exact ⟨g1, fun c => by rw [gMake_o e] at c; exact c, gMake_o e, gMake_o e⟩)
theorem PKK.opn1 (h : PKK P) (hG : GI T U P) (hs : 0 ≤ s ∧ s < 3) (hk : 96 * s ≤ k ∧ k < 96 * s + 96) (hf : ¬ P 2304 k = 0) (hg : P 2310 k = 0) (hm : 0 ≤ m ∧ m ≤ 255) (hq : qOpn P s (P 2306 k) (P 2308 k) m = 0) : PKK (opG P s k m) := by
  obtain ⟨n1, n2⟩ := fid_node hG hs hk
  obtain ⟨b1, b2, b3, b4⟩ := m81 hm
  have hd : qMode P s (P 2306 k) < 0 → and32 m (-81) = 0 ∧ and32 m 16 = 0 := fun q => by
    unfold qOpn at hq
    by_cases c1 : 3 < and32 m (-81)
    · rw [if_pos c1] at hq
      omega
    rw [if_neg c1] at hq
    by_cases c2 : qMode P s (P 2306 k) < 0 ∧ (0 < and32 m (-81) ∨ ¬ and32 m 16 = 0)
    · rw [if_pos c2] at hq
      omega
    · omega
  by_cases qs : s < 2
  · have emd : qMode P s (P 2306 k) = P 2293 (64 * s + P 2306 k) := if_pos qs
    have hT1 : TI (if ¬ and32 m 16 = 0 ∧ s < 2 ∧ and32 (qMode P s (P 2306 k)) 1073741824 = 0 then gGrow (gSize P s (P 2306 k) 0) s (P 2306 k) (P 2308 k) else P) := by
      split
      · rename_i c
        exact (h.1.size (by rw [← emd]; apply Decidable.byContradiction; intro c2; have := hd (by omega); exact c.1 this.2)).grow
      · exact h.1
    have hT : TI (opG P s k m) := by
      unfold opG
      refine hT1.opn hm.1 (fun k2 _ c1 c2 => ?_)
      have e1 : ∀ (f : Nat) (j : Int), f = 2293 ∨ f = 2306 → (if ¬ and32 m 16 = 0 ∧ s < 2 ∧ and32 (qMode P s (P 2306 k)) 1073741824 = 0 then gGrow (gSize P s (P 2306 k) 0) s (P 2306 k) (P 2308 k) else P) f j = P f j := fun f j hf => by
        split
        · rcases hf with rfl | rfl
          · rw [gGrow_f (by decide) (by decide), gSize_f (by decide) (by decide) (by decide)]
          · rw [gGrow_f (by decide) (by decide), gSize_f (by decide) (by decide) (by decide)]
        · rfl
      rw [e1 _ _ (Or.inl rfl), e1 _ _ (Or.inr rfl), show k / 96 = s by omega, ← emd]
      apply Decidable.byContradiction
      intro c3
      have c4 := hd (by omega)
      have c5 := b3 (by omega)
      omega
    refine h.ow hT qs (OW_tr (OW_gOpen hk) (OW_if (fun q => ?_) (fun _ => OW_rfl)))
    have hn : 0 ≤ P 2306 k ∧ P 2306 k < 64 := ⟨n1.2.2.1, n1.2.2.2.2 qs⟩
    exact OW_tr (OW_gGrow hn) (OW_gSize hn (len_rng hG.iv ⟨hs.1, qs⟩ hn).1 (by decide))
  · have e2 : s = 2 := by omega
    subst e2
    have eo : opG P 2 k m = gOpen P k m := by
      unfold opG
      rw [if_neg (fun c => qs c.2.1)]
    rw [eo]
    have hT : TI (gOpen P k m) := h.1.opn hm.1 (fun k2 _ _ _ => by omega)
    obtain ⟨o1, o2⟩ := open_two hq hm
    have hnd := h.1.2.2.2.2.1 k (by omega) (by omega) hf hg
    have ho : ∀ (f : Nat) (j : Int), j ≠ k → gOpen P k m f j = P f j := fun f j hj => gOpn_o hj
    have hb : ∀ (f : Nat) (j : Int), f ≠ 2309 → f ≠ 2311 → f ≠ 2312 → gOpen P k m f j = P f j := fun f j => gOpn_f
    refine ⟨hT, fun j j0 j1 g1 g2 g3 g4 => ?_, fun j j0 j1 g1 g2 g3 g4 g5 => ?_⟩
    · by_cases e : j = k
      · rw [e] at g3 g4 ⊢
        rw [hb _ _ (by decide) (by decide) (by decide)] at g3 g4
        rw [gOpn_at.1]
        exact o1 g3 g4
      · rw [ho _ _ e] at g1 g2 g3 g4 ⊢
        exact h.2.1 j j0 j1 g1 g2 g3 g4
    · by_cases e : j = k
      · rw [e] at g4 g5 ⊢
        rw [gOpn_at.1] at g4 g5
        rw [hb _ _ (by decide) (by decide) (by decide)]
        refine ⟨fun c => ?_, fun c => ?_⟩
        · have := o2 (Or.inl c)
          omega
        · have := o2 (Or.inr c)
          omega
      · rw [ho _ _ e] at g1 g2 g3 g4 g5 ⊢
        exact h.2.2 j j0 j1 g1 g2 g3 g4 g5
end XPKB
