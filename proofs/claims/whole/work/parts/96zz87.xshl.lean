/-! The class's servers: files come and go one by one, whatever set they are. -/
/-- files of a set: in the order of their paths, and where their objects stand -/
def NTL (L : Int → Prop) (W : qR) (R : rR) (P : qR) (S : Nat) (s : Int) (ord : List Int) (t : Nat → Nat) : Prop := ((∀ n, n ∈ ord ↔ L n) ∧ ord.length ≤ 64 ∧ W S 2230 = (ord.length : Int) ∧ ord.Pairwise (fun a b => qPath P s a < qPath P s b)) ∧ ((∀ i, i < 64 → t i < 64) ∧ (∀ i j, i < 64 → j < 64 → t i = t j → i = j)) ∧ (∀ i : Int, 0 ≤ i → i < 64 → R (S + 1) i = some (S + 6 + 3 * t i.toNat)) ∧ (∀ i : Int, 0 ≤ i → i < ord.length → ND W P (S + 6 + 3 * t i.toNat) s (lg ord i)) ∧ ∀ i : Int, 0 ≤ i → i < ord.length → R (S + 6 + 3 * t i.toNat) 2257 = if lg ord i = 0 then none else noA S ord t (qUp P s (lg ord i))
section XSHL
variable {L L2 : Int → Prop} {S a b rp m : Nat} {W W1 W2 P Q : qR} {R R1 R2 : rR} {i j k x z v s e w c f u y n p q K C T U : Int} {l nm ord : List Int} {t : Nat → Nat} {r : Option Nat}
theorem NTL.nodup (h : NTL L W R P S s ord t) : ord.Nodup := h.1.2.2.2.imp (fun hab c => by rw [c] at hab; exact absurd hab (Int.lt_irrefl _))
theorem NTL_of (h : NT W R P S s ord t) : NTL (fun n => isN P s n) W R P S s ord t := h
theorem NT_of (h : NTL L W R P S s ord t) (hL : ∀ n, L n ↔ isN P s n) : NT W R P S s ord t := ⟨⟨fun n => (h.1.1 n).trans (hL n), h.1.2⟩, h.2⟩
theorem NTL.en (h : NTL L W R P S s ord t) (hE : ∀ m ∈ ord, EN Q P s m) : NTL L W R Q S s ord t := by
  obtain ⟨⟨a1, a2, a3, a4⟩, b1, c1, d1, e1⟩ := h
  refine ⟨⟨a1, a2, a3, ?_⟩, b1, c1, fun j j0 j1 => (d1 j j0 j1).en (hE _ (lg_mem j0 j1)), fun j j0 j1 => ?_⟩
  · rw [List.pairwise_iff_getElem] at a4 ⊢
    intro j k hj hk hjk
    rw [(hE _ (List.getElem_mem _)).1.2.1, (hE _ (List.getElem_mem _)).1.2.1]
    exact a4 j k hj hk hjk
  · rw [e1 j j0 j1, (hE _ (lg_mem j0 j1)).2.2.2]
/-- other objects and places may be written -/
theorem NTL.wr (h : NTL L W R P S s ord t) (hW : W2 S 2230 = W S 2230) (hN : ∀ i : Int, 0 ≤ i → i < ord.length → ND W2 P (S + 6 + 3 * t i.toNat) s (lg ord i)) (hR : ∀ (x : Nat) (k : Int), k < 64 ∨ k = 2257 → R2 x k = R x k) : NTL L W2 R2 P S s ord t := by
  obtain ⟨⟨a1, a2, a3, a4⟩, b1, c1, d1, e1⟩ := h
  exact ⟨⟨a1, a2, hW.trans a3, a4⟩, b1, fun i i0 i1 => (hR _ _ (Or.inl i1)).trans (c1 i i0 i1), hN, fun i i0 i1 => (hR _ _ (Or.inr rfl)).trans (e1 i i0 i1)⟩
theorem NTL.ins (h : NTL L W R P S s ord t) (hq : 0 ≤ q ∧ q ≤ C) (hC : (ord.length : Int) = C) (hC2 : C < 64) (hb : S + 6 + 3 * t C.toNat = b) (hn : n ∉ ord) (hL : ∀ m, L2 m ↔ L m ∨ m = n) (hE : ∀ m ∈ ord, EN Q P s m) (hup : ∀ m ∈ ord, ¬ m = 0 → qUp P s m ∈ ord) (hlo : ∀ i, 0 ≤ i → i < q → qPath P s (lg ord i) < qPath Q s n) (hhi : ∀ i, q ≤ i → i < C → qPath Q s n < qPath P s (lg ord i)) (hcn : W2 S 2230 = C + 1) (hW : ∀ (x : Nat) (k : Int), S ≤ x → x < S + 294 → x ≠ b → x ≠ b + 1 → x ≠ b + 2 → x ≠ S → W2 x k = W x k) (hN : ND W2 Q b s n) (hR1 : ∀ i : Int, 0 ≤ i → i < 64 → R2 (S + 1) i = oU (dnR R S q C) (S + 1) q (some b) (S + 1) i) (hR2 : ∀ x : Nat, x ≠ b → R2 x 2257 = R x 2257) (hdr : R2 b 2257 = if n = 0 then none else noA S ord t (qUp Q s n)) (hnu : ¬ n = 0 → qUp Q s n ∈ ord) : NTL L2 W2 R2 Q S s (ord.insertIdx q.toNat n) (insT t q C) := by
  have hnd := h.nodup
  have hq2 : 0 ≤ q ∧ q ≤ (ord.length : Int) := by omega
  have hnA := fun (m : Int) (hm : m ≠ n) => noA_ins (S := S) (t := t) hnd hq2 hn hm
  rw [hC] at hnA
  obtain ⟨⟨a1, a2, a3, a4⟩, b1, rr, d1, e1⟩ := h
  have hl := ins_len (ord := ord) (n := n) hq2
  have hlg := fun i (h0 : 0 ≤ i) => lg_ins (n := n) hq2 h0
  have hbt : ∀ j : Int, 0 ≤ j → j < C → t j.toNat ≠ t C.toNat := fun j j0 j1 c => by
    have := b1.2 _ _ (by omega) (by omega) c
    omega
  have tb := b1.1 C.toNat (by omega)
  have old : ∀ j : Int, 0 ≤ j → j < C → ND W2 Q (S + 6 + 3 * t j.toNat) s (lg ord j) ∧ R2 (S + 6 + 3 * t j.toNat) 2257 = if lg ord j = 0 then none else noA S (ord.insertIdx q.toNat n) (insT t q C) (qUp Q s (lg ord j)) := fun j j0 j1 => by
    have tj := b1.1 j.toNat (by omega)
    have hne := hbt j j0 j1
    have hm := lg_mem (ord := ord) j0 (by omega)
    refine ⟨((d1 j j0 (by omega)).wr (fun k _ _ => hW _ _ (by omega) (by omega) (by omega) (by omega) (by omega) (by omega)) (hW _ _ (by omega) (by omega) (by omega) (by omega) (by omega) (by omega)) (fun k _ _ => hW _ _ (by omega) (by omega) (by omega) (by omega) (by omega) (by omega))).en (hE _ hm), ?_⟩
    rw [hR2 _ (by omega), e1 j j0 (by omega)]
    by_cases c : lg ord j = 0
    · rw [if_pos c, if_pos c]
    · rw [if_neg c, if_neg c, (hE _ hm).2.2.2, hnA _ (fun c2 => hn (by rw [← c2]; exact hup _ hm c))]
  refine ⟨⟨fun m => ?_, by omega, by rw [hl, hC]; exact hcn, ?_⟩, ⟨fun i hi => ?_, fun i j hi hj e => ?_⟩, fun i i0 i1 => ?_, fun i i0 i1 => ?_, fun i i0 i1 => ?_⟩
  · rw [mem_ins hq2, hL, a1]
    exact ⟨fun c => c.elim Or.inr Or.inl, fun c => c.elim Or.inr Or.inl⟩
  · have eg : ∀ (L : List Int) (i : Nat) (h : i < L.length), L[i] = lg L (i : Int) := fun L i h => by
      unfold lg
      rw [List.getD_eq_getElem?_getD, Int.toNat_natCast, List.getElem?_eq_getElem h]
      rfl
    rw [List.pairwise_iff_getElem] at a4 ⊢
    intro i j hi hj hij
    have hp : ∀ x, 0 ≤ x → x < C → qPath Q s (lg ord x) = qPath P s (lg ord x) := fun x x0 x1 => (hE _ (lg_mem x0 (by omega))).1.2.1
    have hs : ∀ x y : Int, 0 ≤ x → x < y → y < C → qPath P s (lg ord x) < qPath P s (lg ord y) := fun x y x0 x1 x2 => by
      have := a4 x.toNat y.toNat (by omega) (by omega) (by omega)
      rw [eg _ _ (by omega), eg _ _ (by omega), Int.toNat_of_nonneg x0, Int.toNat_of_nonneg (by omega)] at this
      exact this
    rw [eg _ i hi, eg _ j hj, hlg _ (by omega), hlg _ (by omega)]
    by_cases c1 : (i : Int) < q
    · rw [if_pos c1, hp _ (by omega) (by omega)]
      by_cases c2 : (j : Int) < q
      · rw [if_pos c2, hp _ (by omega) (by omega)]
        exact hs _ _ (by omega) (by omega) (by omega)
      · rw [if_neg c2]
        by_cases c3 : (j : Int) = q
        · rw [if_pos c3]
          exact hlo _ (by omega) c1
        · rw [if_neg c3, hp _ (by omega) (by omega)]
          exact hs _ _ (by omega) (by omega) (by omega)
    · rw [if_neg c1, if_neg (show ¬ (j : Int) < q by omega), if_neg (show ¬ (j : Int) = q by omega), hp ((j : Int) - 1) (by omega) (by omega)]
      by_cases c3 : (i : Int) = q
      · rw [if_pos c3]
        exact hhi _ (by omega) (by omega)
      · rw [if_neg c3, hp _ (by omega) (by omega)]
        exact hs _ _ (by omega) (by omega) (by omega)
  · rw [insT_I]
    exact b1.1 _ (insI_lt hq hC2 hi)
  · rw [insT_I, insT_I] at e
    exact insI_inj hq (b1.2 _ _ (insI_lt hq hC2 hi) (insI_lt hq hC2 hj) e)
  · rw [hR1 i i0 i1]
    by_cases c1 : i = q
    · rw [c1, oU_s, insT_at hq.1, hb]
    · rw [oU_j c1]
      unfold dnR
      by_cases c2 : q < i ∧ i ≤ C
      · rw [if_pos ⟨rfl, c2⟩, rr (i - 1) (by omega) (by omega), insT_hi (by omega) (by omega), show i.toNat - 1 = (i - 1).toNat by omega]
      · rw [if_neg (fun c => c2 c.2), rr i i0 i1]
        by_cases c3 : i < q
        · rw [insT_lo (by omega)]
        · rw [insT_out hq.2 (by omega)]
  · rw [hlg i i0]
    by_cases c1 : i < q
    · rw [if_pos c1, insT_lo (by omega)]
      exact (old i i0 (by omega)).1
    · rw [if_neg c1]
      by_cases c2 : i = q
      · rw [if_pos c2, c2, insT_at hq.1, hb]
        exact hN
      · rw [if_neg c2, insT_hi (by omega) (by omega), show i.toNat - 1 = (i - 1).toNat by omega]
        exact (old (i - 1) (by omega) (by omega)).1
  · rw [hlg i i0]
    by_cases c1 : i < q
    · rw [if_pos c1, insT_lo (by omega)]
      exact (old i i0 (by omega)).2
    · rw [if_neg c1]
      by_cases c2 : i = q
      · rw [if_pos c2, c2, insT_at hq.1, hb, hdr]
        by_cases c3 : n = 0
        · rw [if_pos c3, if_pos c3]
        · rw [if_neg c3, if_neg c3, hnA _ (fun c => hn (by rw [← c]; exact hnu c3))]
      · rw [if_neg c2, insT_hi (by omega) (by omega), show i.toNat - 1 = (i - 1).toNat by omega]
        exact (old (i - 1) (by omega) (by omega)).2
theorem FD.insL (h : FD W R P S s ord t) (hT : NTL L W R P S s ord t) (hq : 0 ≤ q ∧ q ≤ C) (hC : (ord.length : Int) = C) (hn : n ∉ ord) (hW : ∀ (i : Int) (k : Int), 0 ≤ i → i < 96 → W2 (S + 198 + i.toNat) k = W (S + 198 + i.toNat) k) (hR : ∀ i : Int, 0 ≤ i → i < 96 → R2 (S + 198 + i.toNat) 2291 = R (S + 198 + i.toNat) 2291) (hQ : ∀ (f : Nat) (k : Int), fidL.elem f = true → Q f k = P f k) (hno : ∀ k, 96 * s ≤ k → k < 96 * s + 96 → ¬ P 2304 k = 0 → P 2310 k = 0 → ¬ P 2306 k = n) : FD W2 R2 Q S s (ord.insertIdx q.toNat n) (insT t q C) := by
  refine FD.pp (P := P) (fun i i0 i1 => ?_) hQ
  obtain ⟨a1, a2, a3⟩ := h i i0 i1
  rw [hW i _ i0 i1, hR i i0 i1]
  refine ⟨a1, fun c => ?_, a3⟩
  obtain ⟨e1, e2, e3, e4, e5, e6, e7, e8⟩ := a2 c
  unfold FDu
  rw [hW i _ i0 i1, hW i _ i0 i1, hW i _ i0 i1, hW i _ i0 i1, hW i _ i0 i1, hW i _ i0 i1, hW i _ i0 i1, hR i i0 i1]
  refine ⟨e1, e2, e3, e4, e5, e6, e7, ?_⟩
  rw [e8]
  by_cases g : P 2310 (96 * s + i) = 0
  · rw [if_pos g, if_pos g, ← hC, noA_ins hT.nodup (by omega) hn (hno _ (by omega) (by omega) c g)]
  · rw [if_neg g, if_neg g]
theorem DV.insL (h : DV W R P S s ord t) (hT : NTL L W R P S s ord t) (hq : 0 ≤ q ∧ q ≤ C) (hC : (ord.length : Int) = C) (hC2 : C < 64) (hb : S + 6 + 3 * t C.toNat = b) (hW : ∀ x : Nat, S ≤ x → x < S + 294 → x ≠ b → W2 x 2259 = W x 2259) (hR : ∀ (x : Nat) (k : Int), x ≠ b → k = 2267 ∨ k = 2258 → R2 x k = R x k) (hc : ∀ (c : Nat) (k : Int), 2372 ≤ c → W2 c k = W c k) (h6 : ∀ n, s < 2 → L n → P 2297 (64 * s + n) ≤ 600) (hQ : ∀ m, s < 2 → m ∈ ord → Q 2297 (64 * s + m) = P 2297 (64 * s + m) ∧ ∀ i : Int, 0 ≤ i → i < P 2297 (64 * s + m) → Q 2300 (600 * (64 * s + m) + i) = P 2300 (600 * (64 * s + m) + i)) (hN : DN W2 R2 Q s b n) : DV W2 R2 Q S s (ord.insertIdx q.toNat n) (insT t q C) := fun i i0 i1 => by
  have hq2 : 0 ≤ q ∧ q ≤ (ord.length : Int) := by omega
  have hl := ins_len (ord := ord) (n := n) hq2
  have b1 := hT.2.1
  have old : ∀ j : Int, 0 ≤ j → j < C → DN W2 R2 Q s (S + 6 + 3 * t j.toNat) (lg ord j) := fun j j0 j1 => by
    have tj := b1.1 j.toNat (by omega)
    have hm := lg_mem (ord := ord) j0 (by omega)
    have hne : t j.toNat ≠ t C.toNat := fun c => by
      have := b1.2 _ _ (by omega) (by omega) c
      omega
    exact ((h j j0 (by omega)).fr (hW _ (by omega) (by omega) (by omega)) (hR _ _ (by omega) (Or.inl rfl)) (hR _ _ (by omega) (Or.inr rfl)) (fun c _ q2 i _ _ => hc c i q2) (fun c => h6 _ c ((hT.1.1 _).mp hm))).pp (fun c => (hQ _ c hm).1) (fun c => (hQ _ c hm).2)
  rw [lg_ins hq2 i0]
  by_cases c1 : i < q
  · rw [if_pos c1, insT_lo (by omega)]
    exact old i i0 (by omega)
  · rw [if_neg c1]
    by_cases c2 : i = q
    · rw [if_pos c2, c2, insT_at hq.1, hb]
      exact hN
    · rw [if_neg c2, insT_hi (by omega) (by omega), show i.toNat - 1 = (i - 1).toNat by omega]
      exact old (i - 1) (by omega) (by omega)
theorem noA_injL (h : NTL L W R P S s ord t) {m : Int} (hn : n ∈ ord) (hm : m ∈ ord) : noA S ord t n = noA S ord t m ↔ n = m := by
  obtain ⟨i, i0, i1, rfl⟩ := mem_lg hn
  obtain ⟨k, k0, k1, rfl⟩ := mem_lg hm
  have hl := h.1.2.1
  rw [noA_get h.nodup i0 i1, noA_get h.nodup k0 k1]
  constructor
  · intro e
    have e2 : t i.toNat = t k.toNat := by have := Option.some.inj e; omega
    have := h.2.1.2 _ _ (by omega) (by omega) e2
    rw [show i = k by omega]
  · intro e
    have h1 := idx_get h.nodup i0 i1
    rw [e, idx_get h.nodup k0 k1] at h1
    rw [h1]
/-- whether a file stands in a directory, as the class sees it -/
theorem NTL.take (h : NTL L W R P S s ord t) (hi : 0 ≤ p ∧ p < C) (hC : (ord.length : Int) = C) (hb : S + 6 + 3 * t p.toNat = b) (hL : ∀ m, L2 m ↔ L m ∧ m ≠ lg ord p) (hE : ∀ m ∈ ord, m ≠ lg ord p → EN Q P s m) (hup : ∀ m, L2 m → ¬ m = 0 → L2 (qUp Q s m)) : NTL L2 (tkW W S b C v) (tkR R S b p C) Q S s (ord.eraseIdx p.toNat) (tkT t p C) := by
  have hnd := h.nodup
  have hnA := fun (m : Int) (hm : m ≠ lg ord p) => noA_take (S := S) (t := t) hnd (by omega) hm
  obtain ⟨⟨a1, a2, a3, a4⟩, b1, c1, d1, e1⟩ := h
  have hl := erase_len (ord := ord) (p := p) (by omega)
  have hme := fun n => mem_erase (n := n) hnd (p := p) (by omega)
  have ht : ∀ i : Int, 0 ≤ i → i < C - 1 → lg (ord.eraseIdx p.toNat) i ≠ lg ord p ∧ ∃ j : Int, 0 ≤ j ∧ j < C ∧ j ≠ p ∧ lg (ord.eraseIdx p.toNat) i = lg ord j ∧ tkT t p C i.toNat = t j.toNat := fun i i0 i1 => by
    refine ⟨((hme _).mp (lg_mem i0 (by omega))).2, ?_⟩
    rw [lg_erase hi.1 i0]
    by_cases q : i < p
    · exact ⟨i, i0, by omega, by omega, if_pos q, tkT_lt (by omega)⟩
    · exact ⟨i + 1, by omega, by omega, by omega, if_neg q, by rw [tkT_ge (by omega) (by omega), show i.toNat + 1 = (i + 1).toNat by omega]⟩
  have hbn : ∀ j : Int, 0 ≤ j → j < C → j ≠ p → t j.toNat ≠ t p.toNat := fun j j0 j1 jp q => jp (by have := b1.2 _ _ (by omega) (by omega) q; omega)
  refine ⟨⟨fun n => ?_, by omega, ?_, ?_⟩, ⟨fun i hi2 => ?_, fun i j hi2 hj2 e => ?_⟩, fun i i0 i1 => tkR_n hi (by omega) c1 hb ⟨i0, i1⟩, fun i i0 i1 => ?_, fun i i0 i1 => ?_⟩
  · rw [hme, hL, a1]
  · rw [hl, hC]
    unfold tkW
    rw [rU_j (by decide), rU_j (by decide), rU_s]
  · have h3 := a4.sublist (List.eraseIdx_sublist ord p.toNat)
    rw [List.pairwise_iff_getElem] at h3 ⊢
    intro i j hi2 hj2 hij
    have m1 := (hme _).mp (List.getElem_mem hi2)
    have m2 := (hme _).mp (List.getElem_mem hj2)
    rw [(hE _ m1.1 m1.2).1.2.1, (hE _ m2.1 m2.2).1.2.1]
    exact h3 i j hi2 hj2 hij
  · rw [tkT_I]
    exact b1.1 _ (tkI_lt hi (by omega) hi2)
  · rw [tkT_I, tkT_I] at e
    exact tkI_inj hi (b1.2 _ _ (tkI_lt hi (by omega) hi2) (tkI_lt hi (by omega) hj2) e)
  · obtain ⟨g1, j, j0, j1, j2, j3, j4⟩ := ht i i0 (by omega)
    have g2 := hbn j j0 j1 j2
    have g3 := b1.1 j.toNat (by omega)
    rw [j4, j3]
    rw [j3] at g1
    refine ((d1 j j0 (by omega)).wr (fun k _ _ => ?_) ?_ (fun k _ _ => ?_)).en (hE _ (lg_mem j0 (by omega)) g1)
    · exact tkW_o (by omega) (by omega)
    · exact tkW_o (by omega) (by omega)
    · exact tkW_o (by omega) (by omega)
  · obtain ⟨g1, j, j0, j1, j2, j3, j4⟩ := ht i i0 (by omega)
    have g2 := hbn j j0 j1 j2
    rw [j4, tkR_o (by omega) (by decide) (by decide) (by omega), e1 j j0 (by omega), j3]
    rw [j3] at g1
    by_cases q : lg ord j = 0
    · rw [if_pos q, if_pos q]
    · rw [if_neg q, if_neg q]
      have hm := (hL _).mpr ⟨(a1 _).mp (lg_mem j0 (by omega)), g1⟩
      have hu := (hL _).mp (hup _ hm q)
      have := hnA _ hu.2
      rw [hC] at this
      rw [this, (hE _ (lg_mem j0 (by omega)) g1).2.2.2]
theorem DV.takeL (h : DV W R P S s ord t) (hT : NTL L W R P S s ord t) (hi : 0 ≤ p ∧ p < C) (hC : (ord.length : Int) = C) (hb : S + 6 + 3 * t p.toNat = b) (h6 : ∀ n, s < 2 → L n → P 2297 (64 * s + n) ≤ 600) (hQ : ∀ n, s < 2 → L n → n ≠ lg ord p → Q 2297 (64 * s + n) = P 2297 (64 * s + n) ∧ ∀ i : Int, 0 ≤ i → i < P 2297 (64 * s + n) → Q 2300 (600 * (64 * s + n) + i) = P 2300 (600 * (64 * s + n) + i)) (hS : S + 294 ≤ 2372) : DV (tkW W S b C v) (tkR R S b p C) Q S s (ord.eraseIdx p.toNat) (tkT t p C) := fun i i0 i1 => by
  have hnd := hT.nodup
  have hl := erase_len (ord := ord) (p := p) (by omega)
  have b1 := hT.2.1
  have hle := hT.1.2.1
  have ht : lg (ord.eraseIdx p.toNat) i ≠ lg ord p ∧ ∃ j : Int, 0 ≤ j ∧ j < C ∧ j ≠ p ∧ lg (ord.eraseIdx p.toNat) i = lg ord j ∧ tkT t p C i.toNat = t j.toNat := by
    refine ⟨((mem_erase hnd (by omega)).mp (lg_mem i0 i1)).2, ?_⟩
    rw [lg_erase hi.1 i0]
    by_cases q : i < p
    · exact ⟨i, i0, by omega, by omega, if_pos q, tkT_lt (by omega)⟩
    · exact ⟨i + 1, by omega, by omega, by omega, if_neg q, by rw [tkT_ge (by omega) (by omega), show i.toNat + 1 = (i + 1).toNat by omega]⟩
  obtain ⟨g1, j, j0, j1, j2, j3, j4⟩ := ht
  have g2 : t j.toNat ≠ t p.toNat := fun q => j2 (by have := b1.2 _ _ (by omega) (by omega) q; omega)
  have g3 := b1.1 j.toNat (by omega)
  have g4 := b1.1 p.toNat (by omega)
  rw [j4, j3]
  rw [j3] at g1
  have hm := (hT.1.1 _).mp (lg_mem j0 (show j < ord.length by omega))
  refine ((h j j0 (by omega)).fr (tkW_o (by omega) (by omega)) (tkR_o (by omega) (by decide) (by decide) (by omega)) (tkR_o (by omega) (by decide) (by decide) (by omega)) (fun c _ c2 i _ _ => tkW_o (by omega) (by omega)) (fun q => h6 _ q hm)).pp (fun q => (hQ _ q hm g1).1) (fun q => (hQ _ q hm g1).2)
theorem FD.takeL (h : FD W R P S s ord t) (hT : NTL L W R P S s ord t) (hi : 0 ≤ p ∧ p < C) (hC : (ord.length : Int) = C) (hb : S + 6 + 3 * t p.toNat = b) (hG : ∀ k, 96 * s ≤ k → k < 96 * s + 96 → Q 2305 k = P 2305 k ∧ Q 2308 k = P 2308 k ∧ Q 2307 k = P 2307 k ∧ Q 2309 k = P 2309 k ∧ Q 2311 k = P 2311 k ∧ Q 2312 k = P 2312 k ∧ Q 2306 k = P 2306 k ∧ Q 2304 k = P 2304 k ∧ (¬ P 2304 k = 0 → (Q 2310 k = 0 ↔ P 2310 k = 0 ∧ ¬ P 2306 k = lg ord p))) : FD (tkW W S b C v) (tkR R S b p C) Q S s (ord.eraseIdx p.toNat) (tkT t p C) := fun i i0 i1 => by
  have hnd := hT.nodup
  have hle := hT.1.2.1
  have b1 := hT.2.1
  have hp64 := b1.1 p.toNat (by omega)
  obtain ⟨a1, a2, a3⟩ := h i i0 i1
  obtain ⟨q1, q2, q3, q4, q5, q6, q7, q8, q9⟩ := hG (96 * s + i) (by omega) (by omega)
  have hw : ∀ k : Int, 2267 ≤ k → tkW W S b C v (S + 198 + i.toNat) k = W (S + 198 + i.toNat) k := fun k hk => tkW_o (by omega) (by omega)
  have hx := tkR_f (R := R) (S := S) (b := b) (p := p) (C := C) (x := S + 198 + i.toNat) (by omega)
  rw [hw _ (by decide), q8]
  refine ⟨a1, fun c => ?_, fun b2 hb2 => ?_⟩
  · obtain ⟨e1, e2, e3, e4, e5, e6, e7, e8⟩ := a2 c
    unfold FDu
    rw [hw _ (by decide), hw _ (by decide), hw _ (by decide), hw _ (by decide), hw _ (by decide), hw _ (by decide), hw _ (by decide), q1, q2, q3, q4, q5, q6, q7, hx, e8]
    refine ⟨e1, e2, e3, e4, e5, e6, e7, ?_⟩
    have hpa : noA S ord t (lg ord p) = some b := by rw [noA_get hnd hi.1 (by omega), hb]
    by_cases g : P 2310 (96 * s + i) = 0
    · rw [if_pos g]
      by_cases g2 : P 2306 (96 * s + i) = lg ord p
      · rw [g2, hpa, if_pos ⟨⟨by omega, by omega⟩, rfl⟩, if_neg (fun c2 => ((q9 c).mp c2).2 g2)]
      · have hno : noA S ord t (P 2306 (96 * s + i)) ≠ some b := fun c2 => by
          have hmm : P 2306 (96 * s + i) ∈ ord := by
            unfold noA at c2
            split at c2
            · assumption
            · cases c2
          exact g2 ((noA_injL hT hmm (lg_mem hi.1 (by omega))).mp (c2.trans hpa.symm))
        rw [if_neg (fun c2 => hno c2.2), if_pos ((q9 c).mpr ⟨g, g2⟩), ← hC, noA_take hnd (by omega) g2]
    · rw [if_neg g, if_neg (fun c2 => by cases c2.2), if_neg (fun c2 => g ((q9 c).mp c2).1)]
  · rw [hx] at hb2
    split at hb2
    · cases hb2
    · exact a3 b2 hb2
end XSHL
