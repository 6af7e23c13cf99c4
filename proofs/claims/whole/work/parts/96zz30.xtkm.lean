/-! The class's servers: what stands where behind a file that went. -/
/-- which object stands where, behind the file at place p that went -/
def tkT (t : Nat → Nat) (p C : Int) : Nat → Nat := fun i => if (i : Int) < p then t i else if (i : Int) < C - 1 then t (i + 1) else if (i : Int) = C - 1 then t p.toNat else t i
section XTKM
variable {S a b rp m : Nat} {W W1 W2 P Q : qR} {R R1 R2 : rR} {i j k x z v s e w c f u y n p K C : Int} {l nm ord : List Int} {t : Nat → Nat} {r : Option Nat}
theorem tkT_lt (h : (a : Int) < p) : tkT t p C a = t a := if_pos h
theorem tkT_ge (h : p ≤ (a : Int)) (h2 : (a : Int) < C - 1) : tkT t p C a = t (a + 1) := by
  unfold tkT
  rw [if_neg (by omega), if_pos h2]
theorem tkT_at (h : 0 ≤ p ∧ p < C) : tkT t p C (C - 1).toNat = t p.toNat := by
  unfold tkT
  by_cases q : p = C - 1
  · rw [if_neg (by omega), if_neg (by omega), if_pos (by omega)]
  · rw [if_neg (by omega), if_neg (by omega), if_pos (by omega)]
theorem tkT_hi (h : p < C) (h2 : C ≤ (a : Int)) : tkT t p C a = t a := by
  unfold tkT
  rw [if_neg (by omega), if_neg (by omega), if_neg (by omega)]
/-- the place in the old order -/
def tkI (p C : Int) (i : Nat) : Nat := if (i : Int) < p then i else if (i : Int) < C - 1 then i + 1 else if (i : Int) = C - 1 then p.toNat else i
theorem tkT_I : tkT t p C a = t (tkI p C a) := by
  unfold tkT tkI
  (repeat' split) <;> rfl
theorem tkI_inj (h : 0 ≤ p ∧ p < C) (e : tkI p C a = tkI p C b) : a = b := by
  unfold tkI at e
  (repeat' split at e) <;> omega
theorem tkI_lt (h : 0 ≤ p ∧ p < C) (hC : C ≤ 64) (ha : a < 64) : tkI p C a < 64 := by
  unfold tkI
  (repeat' split) <;> omega
theorem lg_erase (hp : 0 ≤ p) (hi : 0 ≤ i) : lg (ord.eraseIdx p.toNat) i = if i < p then lg ord i else lg ord (i + 1) := by
  unfold lg
  rw [List.getD_eq_getElem?_getD, List.getElem?_eraseIdx]
  by_cases q : i < p
  · rw [if_pos q, if_pos (by omega), List.getD_eq_getElem?_getD]
  · rw [if_neg q, if_neg (by omega), List.getD_eq_getElem?_getD, show i.toNat + 1 = (i + 1).toNat by omega]
theorem erase_len (hp : 0 ≤ p ∧ p < ord.length) : ((ord.eraseIdx p.toNat).length : Int) = (ord.length : Int) - 1 := by
  rw [List.length_eraseIdx, if_pos (by omega)]
  omega
theorem mem_erase (hn : ord.Nodup) (hp : 0 ≤ p ∧ p < ord.length) : n ∈ ord.eraseIdx p.toNat ↔ n ∈ ord ∧ n ≠ lg ord p := by
  have hl := erase_len hp
  constructor
  · intro h
    obtain ⟨i, i0, i1, rfl⟩ := mem_lg h
    rw [lg_erase hp.1 i0]
    split
    · refine ⟨lg_mem i0 (by omega), fun q => ?_⟩
      have h1 := idx_get hn i0 (show i < ord.length by omega)
      rw [q, idx_get hn hp.1 hp.2] at h1
      omega
    · refine ⟨lg_mem (by omega) (by omega), fun q => ?_⟩
      have h1 := idx_get hn (show 0 ≤ i + 1 by omega) (show i + 1 < ord.length by omega)
      rw [q, idx_get hn hp.1 hp.2] at h1
      omega
  · rintro ⟨h, h2⟩
    obtain ⟨i, i0, i1, rfl⟩ := mem_lg h
    have hne : i ≠ p := fun q => h2 (by rw [q])
    by_cases q : i < p
    · have := lg_erase (ord := ord) hp.1 i0
      rw [if_pos q] at this
      rw [← this]
      exact lg_mem i0 (by omega)
    · have := lg_erase (ord := ord) (i := i - 1) hp.1 (by omega)
      rw [if_neg (by omega), show i - 1 + 1 = i by omega] at this
      rw [← this]
      exact lg_mem (by omega) (by omega)
/-- files that stay stand at the same objects -/
theorem noA_take (hn : ord.Nodup) (hp : 0 ≤ p ∧ p < ord.length) (hm : n ≠ lg ord p) : noA S (ord.eraseIdx p.toNat) (tkT t p ord.length) n = noA S ord t n := by
  by_cases q : n ∈ ord
  · have q2 := (mem_erase hn hp).mpr ⟨q, hm⟩
    have hn2 : (ord.eraseIdx p.toNat).Nodup := hn.sublist (List.eraseIdx_sublist _ _)
    have hl := erase_len hp
    obtain ⟨i, i0, i1, e⟩ := mem_lg q2
    rw [← e, noA_get hn2 i0 i1, lg_erase hp.1 i0]
    split
    · rw [noA_get hn i0 (by omega), tkT_lt (by omega)]
    · rw [noA_get hn (by omega) (by omega), tkT_ge (by omega) (by omega), show i.toNat + 1 = (i + 1).toNat by omega]
  · unfold noA
    rw [if_neg q, if_neg (fun c => q ((mem_erase hn hp).mp c).1)]
theorem tkR_n (hp : 0 ≤ p ∧ p < C) (hC : C ≤ 64) (hN : ∀ i : Int, 0 ≤ i → i < 64 → R (S + 1) i = some (S + 6 + 3 * t i.toNat)) (hb : S + 6 + 3 * t p.toNat = b) (hi : 0 ≤ i ∧ i < 64) : tkR R S b p C (S + 1) i = some (S + 6 + 3 * tkT t p C i.toNat) := by
  unfold tkR
  rw [oU_j (by omega), oU_j (by omega)]
  by_cases q : i = C - 1
  · rw [q, oU_s, tkT_at hp, hb]
  · rw [oU_j q]
    unfold mvR
    by_cases q2 : p ≤ i ∧ i + 1 < C
    · rw [if_pos ⟨rfl, q2⟩]
      unfold gnR
      rw [if_neg (fun c => by omega), hN _ (by omega) (by omega), tkT_ge (by omega) (by omega), show i.toNat + 1 = (i + 1).toNat by omega]
    · rw [if_neg (fun c => q2 c.2)]
      unfold gnR
      rw [if_neg (fun c => by omega), hN _ hi.1 hi.2]
      by_cases q3 : i < p
      · rw [tkT_lt (by omega)]
      · rw [tkT_hi hp.2 (by omega)]
theorem tkR_o {x : Nat} (h1 : x ≠ b) (hk : 2000 ≤ k) (hk2 : k ≠ 2291) (hC : C ≤ 64) : tkR R S b p C x k = R x k := by
  unfold tkR
  rw [oU_f h1, oU_f h1]
  by_cases q : x = S + 1 ∧ k = C - 1
  · omega
  · rw [show oU (mvR (gnR R S b 96) S p C) (S + 1) (C - 1) (some b) x k = mvR (gnR R S b 96) S p C x k from if_neg q]
    unfold mvR
    rw [if_neg (fun c => by omega)]
    unfold gnR
    rw [if_neg (fun c => hk2 c.1)]
theorem tkR_k {x : Nat} (hk : 2000 ≤ k) (hk1 : k ≠ 2257) (hk2 : k ≠ 2258) (hk3 : k ≠ 2291) (hC : C ≤ 64) : tkR R S b p C x k = R x k := by
  unfold tkR
  rw [oU_j hk2, oU_j hk1, oU_j (by omega)]
  unfold mvR
  rw [if_neg (fun c => by omega)]
  unfold gnR
  rw [if_neg (fun c => hk3 c.1)]
theorem tkR_f {x : Nat} (hC : C ≤ 64) : tkR R S b p C x 2291 = if (S + 198 ≤ x ∧ x < S + 198 + 96) ∧ R x 2291 = some b then none else R x 2291 := by
  unfold tkR
  rw [oU_j (by decide), oU_j (by decide), oU_j (by omega)]
  unfold mvR
  rw [if_neg (fun c => by omega)]
  unfold gnR
  by_cases q : (S + 198 ≤ x ∧ x < S + 198 + 96) ∧ R x 2291 = some b
  · rw [if_pos ⟨rfl, q⟩, if_pos q]
  · rw [if_neg (fun c => q c.2), if_neg q]
theorem tkW_o {x : Nat} (h1 : ¬ (x = S ∧ (k = 2230 ∨ k = 2231))) (h2 : ¬ (x = b ∧ k = 2266)) : tkW W S b C v x k = W x k := by
  unfold tkW
  rw [show rU (rU (rU W S 2230 (C - 1)) S 2231 v) b 2266 0 x k = rU (rU W S 2230 (C - 1)) S 2231 v x k from if_neg h2, show rU (rU W S 2230 (C - 1)) S 2231 v x k = rU W S 2230 (C - 1) x k from if_neg (fun c => h1 ⟨c.1, Or.inr c.2⟩)]
  exact if_neg (fun c => h1 ⟨c.1, Or.inl c.2⟩)
theorem NT.take (h : NT W R P S s ord t) (hi : 0 ≤ p ∧ p < C) (hC : (ord.length : Int) = C) (hb : S + 6 + 3 * t p.toNat = b) (hL : ∀ m, isN Q s m ↔ isN P s m ∧ m ≠ lg ord p) (hE : ∀ m ∈ ord, m ≠ lg ord p → EN Q P s m) (hup : ∀ m, isN Q s m → ¬ m = 0 → isN Q s (qUp Q s m)) : NT (tkW W S b C v) (tkR R S b p C) Q S s (ord.eraseIdx p.toNat) (tkT t p C) := by
  have hnd := h.nodup
  have hnA := fun (m : Int) (hm : m ≠ lg ord p) => noA_take (S := S) (t := t) hnd (by omega) hm
  obtain ⟨⟨a1, a2, a3, a4⟩, b1, c1, d1, e1⟩ := h
  have hl := erase_len (ord := ord) (p := p) (by omega)
  have hme := fun n => mem_erase (n := n) hnd (p := p) (by omega)
  have ht : ∀ i : Int, 0 ≤ i → i < C - 1 → lg (ord.eraseIdx p.toNat) i ≠ lg ord p ∧ ∃ j : Int, 0 ≤ j ∧ j < C ∧ j ≠ p ∧ lg (ord.eraseIdx p.toNat) i = lg ord j ∧ tkT t p C i.toNat = t j.toNat := fun i i0 i1 => by
    refine ⟨((hme _).mp (lg_mem i0 (by omega))).2, ?_⟩
    rw [lg_erase hi.1 i0]
    by_cases q : i < p
    · exact ⟨i, i0, by omega, by omega, if_pos q, tkT_lt (by omega)⟩
    · exact ⟨i + 1, by omega, by omega, by omega, if_neg q, by rw [tkT_ge (by omega) (by omega), show i.toNat + 1 = (i + 1).toNat by omega]⟩
  have hbn : ∀ j : Int, 0 ≤ j → j < C → j ≠ p → t j.toNat ≠ t p.toNat := fun j j0 j1 jp q => jp (by have := b1.2 _ _ (by omega) (by omega) q; omega)
  refine ⟨⟨fun n => ?_, by omega, ?_, ?_⟩, ⟨fun i hi2 => ?_, fun i j hi2 hj2 e => ?_⟩, fun i i0 i1 => tkR_n hi (by omega) c1 hb ⟨i0, i1⟩, fun i i0 i1 => ?_, fun i i0 i1 => ?_⟩
  · rw [hme, hL, a1]
  · rw [hl, hC]
    unfold tkW
    rw [rU_j (by decide), rU_j (by decide), rU_s]
  · have h3 := a4.sublist (List.eraseIdx_sublist ord p.toNat)
    rw [List.pairwise_iff_getElem] at h3 ⊢
    intro i j hi2 hj2 hij
    have m1 := (hme _).mp (List.getElem_mem hi2)
    have m2 := (hme _).mp (List.getElem_mem hj2)
    rw [(hE _ m1.1 m1.2).1.2.1, (hE _ m2.1 m2.2).1.2.1]
    exact h3 i j hi2 hj2 hij
  · rw [tkT_I]
    exact b1.1 _ (tkI_lt hi (by omega) hi2)
  · rw [tkT_I, tkT_I] at e
    exact tkI_inj hi (b1.2 _ _ (tkI_lt hi (by omega) hi2) (tkI_lt hi (by omega) hj2) e)
  · obtain ⟨g1, j, j0, j1, j2, j3, j4⟩ := ht i i0 (by omega)
    have g2 := hbn j j0 j1 j2
    have g3 := b1.1 j.toNat (by omega)
    rw [j4, j3]
    rw [j3] at g1
    refine ((d1 j j0 (by omega)).wr (fun k _ _ => ?_) ?_ (fun k _ _ => ?_)).en (hE _ (lg_mem j0 (by omega)) g1)
    · exact tkW_o (by omega) (by omega)
    · exact tkW_o (by omega) (by omega)
    · exact tkW_o (by omega) (by omega)
  · obtain ⟨g1, j, j0, j1, j2, j3, j4⟩ := ht i i0 (by omega)
    have g2 := hbn j j0 j1 j2
    rw [j4, tkR_o (by omega) (by decide) (by decide) (by omega), e1 j j0 (by omega), j3]
    rw [j3] at g1
    by_cases q : lg ord j = 0
    · rw [if_pos q, if_pos q]
    · rw [if_neg q, if_neg q]
      have hm := (hL _).mpr ⟨(a1 _).mp (lg_mem j0 (by omega)), g1⟩
      have hu := (hL _).mp (hup _ hm q)
      have := hnA _ hu.2
      rw [hC] at this
      rw [this, (hE _ (lg_mem j0 (by omega)) g1).2.2.2]
theorem DV.take (h : DV W R P S s ord t) (hT : NT W R P S s ord t) (hi : 0 ≤ p ∧ p < C) (hC : (ord.length : Int) = C) (hb : S + 6 + 3 * t p.toNat = b) (h6 : ∀ n, s < 2 → isN P s n → P 2297 (64 * s + n) ≤ 600) (hQ : ∀ n, s < 2 → isN P s n → n ≠ lg ord p → Q 2297 (64 * s + n) = P 2297 (64 * s + n) ∧ ∀ i : Int, 0 ≤ i → i < P 2297 (64 * s + n) → Q 2300 (600 * (64 * s + n) + i) = P 2300 (600 * (64 * s + n) + i)) (hS : S + 294 ≤ 2372) : DV (tkW W S b C v) (tkR R S b p C) Q S s (ord.eraseIdx p.toNat) (tkT t p C) := fun i i0 i1 => by
  have hnd := hT.nodup
  have hl := erase_len (ord := ord) (p := p) (by omega)
  have b1 := hT.2.1
  have hle := hT.1.2.1
  have ht : lg (ord.eraseIdx p.toNat) i ≠ lg ord p ∧ ∃ j : Int, 0 ≤ j ∧ j < C ∧ j ≠ p ∧ lg (ord.eraseIdx p.toNat) i = lg ord j ∧ tkT t p C i.toNat = t j.toNat := by
    refine ⟨((mem_erase hnd (by omega)).mp (lg_mem i0 i1)).2, ?_⟩
    rw [lg_erase hi.1 i0]
    by_cases q : i < p
    · exact ⟨i, i0, by omega, by omega, if_pos q, tkT_lt (by omega)⟩
    · exact ⟨i + 1, by omega, by omega, by omega, if_neg q, by rw [tkT_ge (by omega) (by omega), show i.toNat + 1 = (i + 1).toNat by omega]⟩
  obtain ⟨g1, j, j0, j1, j2, j3, j4⟩ := ht
  have g2 : t j.toNat ≠ t p.toNat := fun q => j2 (by have := b1.2 _ _ (by omega) (by omega) q; omega)
  have g3 := b1.1 j.toNat (by omega)
  have g4 := b1.1 p.toNat (by omega)
  rw [j4, j3]
  rw [j3] at g1
  have hm := (hT.1.1 _).mp (lg_mem j0 (show j < ord.length by omega))
  refine ((h j j0 (by omega)).fr (tkW_o (by omega) (by omega)) (tkR_o (by omega) (by decide) (by decide) (by omega)) (tkR_o (by omega) (by decide) (by decide) (by omega)) (fun c _ c2 i _ _ => tkW_o (by omega) (by omega)) (fun q => h6 _ q hm)).pp (fun q => (hQ _ q hm g1).1) (fun q => (hQ _ q hm g1).2)
/-- the fids' files: those at the file that went are GONE -/
theorem FD.take (h : FD W R P S s ord t) (hT : NT W R P S s ord t) (hi : 0 ≤ p ∧ p < C) (hC : (ord.length : Int) = C) (hb : S + 6 + 3 * t p.toNat = b) (hG : ∀ k, 96 * s ≤ k → k < 96 * s + 96 → Q 2305 k = P 2305 k ∧ Q 2308 k = P 2308 k ∧ Q 2307 k = P 2307 k ∧ Q 2309 k = P 2309 k ∧ Q 2311 k = P 2311 k ∧ Q 2312 k = P 2312 k ∧ Q 2306 k = P 2306 k ∧ Q 2304 k = P 2304 k ∧ (¬ P 2304 k = 0 → (Q 2310 k = 0 ↔ P 2310 k = 0 ∧ ¬ P 2306 k = lg ord p))) : FD (tkW W S b C v) (tkR R S b p C) Q S s (ord.eraseIdx p.toNat) (tkT t p C) := fun i i0 i1 => by
  have hnd := hT.nodup
  have hle := hT.1.2.1
  have b1 := hT.2.1
  have hp64 := b1.1 p.toNat (by omega)
  obtain ⟨a1, a2, a3⟩ := h i i0 i1
  obtain ⟨q1, q2, q3, q4, q5, q6, q7, q8, q9⟩ := hG (96 * s + i) (by omega) (by omega)
  have hw : ∀ k : Int, 2267 ≤ k → tkW W S b C v (S + 198 + i.toNat) k = W (S + 198 + i.toNat) k := fun k hk => tkW_o (by omega) (by omega)
  have hx := tkR_f (R := R) (S := S) (b := b) (p := p) (C := C) (x := S + 198 + i.toNat) (by omega)
  rw [hw _ (by decide), q8]
  refine ⟨a1, fun c => ?_, fun b2 hb2 => ?_⟩
  · obtain ⟨e1, e2, e3, e4, e5, e6, e7, e8⟩ := a2 c
    unfold FDu
    rw [hw _ (by decide), hw _ (by decide), hw _ (by decide), hw _ (by decide), hw _ (by decide), hw _ (by decide), hw _ (by decide), q1, q2, q3, q4, q5, q6, q7, hx, e8]
    refine ⟨e1, e2, e3, e4, e5, e6, e7, ?_⟩
    have hpa : noA S ord t (lg ord p) = some b := by rw [noA_get hnd hi.1 (by omega), hb]
    by_cases g : P 2310 (96 * s + i) = 0
    · rw [if_pos g]
      by_cases g2 : P 2306 (96 * s + i) = lg ord p
      · rw [g2, hpa, if_pos ⟨⟨by omega, by omega⟩, rfl⟩, if_neg (fun c2 => ((q9 c).mp c2).2 g2)]
      · have hno : noA S ord t (P 2306 (96 * s + i)) ≠ some b := fun c2 => by
          have hmm : P 2306 (96 * s + i) ∈ ord := by
            unfold noA at c2
            split at c2
            · assumption
            · cases c2
          exact g2 ((noA_inj hT hmm (lg_mem hi.1 (by omega))).mp (c2.trans hpa.symm))
        rw [if_neg (fun c2 => hno c2.2), if_pos ((q9 c).mpr ⟨g, g2⟩), ← hC, noA_take hnd (by omega) g2]
    · rw [if_neg g, if_neg (fun c2 => by cases c2.2), if_neg (fun c2 => g ((q9 c).mp c2).1)]
  · rw [hx] at hb2
    split at hb2
    · cases hb2
    · exact a3 b2 hb2
end XTKM
