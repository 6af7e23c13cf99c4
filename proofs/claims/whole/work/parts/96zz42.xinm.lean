/-! The class's servers: what stands where behind a file that came; names written over whatever stood there. -/
/-- a row of bytes, whatever it holds -/
def SH (b n : Nat) : Prop := tX b = some (Sum.inl 2) ∧ isA (b + 1) 1 n ∧ n ≤ 1000
def insT (t : Nat → Nat) (q C : Int) : Nat → Nat := fun i => if (i : Int) < q then t i else if (i : Int) = q then t C.toNat else if (i : Int) ≤ C then t (i - 1) else t i
def insI (q C : Int) (i : Nat) : Nat := if (i : Int) < q then i else if (i : Int) = q then C.toNat else if (i : Int) ≤ C then i - 1 else i
section XINM
variable {fb : Bool} {d S a b c rp m N M : Nat} {σ0 σ : hM} {W W1 W2 P Q : qR} {R R1 R2 : rR} {i j k x z v s e w f u n p q g K T U C : Int} {ord l lo nm : List Int} {t : Nat → Nat} {r : Option Nat}
theorem SH.set0 (h : SH b N) : BY (rU W b 2065 0) b N [] := ⟨h.1, h.2.1, h.2.2, rU_s, Nat.zero_le _, byt_nil, fun i h0 h1 => absurd h1 (by show ¬ i < 0; omega)⟩
theorem x_take0 (hP : PX σ0 W R σ) (hB : SH b N) (hC : BY W c M lo) (hcb : c ≠ b) (h : e ≤ s ∨ 0 ≤ s) (he : e ≤ lo.length) : CL fb (d + 1) 31 [vR (some b), vR (some c), vI s, vI e] σ (XB σ0 W R b N ((seg (lg lo) s (e - s).toNat).take N) (some (vI (if (e - s).toNat ≤ N then 1 else 0)))) := by
  have ho := hB.1
  have hgo := fun (σ : hM) (hP : PX σ0 (rU W b 2065 0) R σ) => x_addAll (fb := fb) (d := d) hP hB.set0 (FB_set.by hC hcb) hcb h he
  simp only [List.nil_append, List.length_nil, Nat.zero_add] at hgo
  obtain ⟨r1, hr1⟩ : ∃ r1 : Int, (if (e - s).toNat ≤ N then (1 : Int) else 0) = r1 := ⟨_, rfl⟩
  have hr2 : r1 = 0 ∨ r1 = 1 := by
    rw [← hr1]
    split
    · exact Or.inr rfl
    · exact Or.inl rfl
  rw [hr1] at hgo ⊢
  refine CL_in mL_31 rfl ?_
  show WP fb _ 31 0 [some (vR (some b)), some (vR (some c)), some (vI s), some (vI e)] [] σ _
  refine x_lr (z := some b) T_31_0 rfl ?_
  refine x_ic T_31_1 ?_
  refine z_pI hP T_31_2 F_2_1 ho (key := 2065) rfl (fun σ hP => ?_)
  refine x_lr (z := some b) T_31_5 rfl ?_
  refine x_lr (z := some c) T_31_6 rfl ?_
  refine x_li (z := s) T_31_7 rfl ?_
  refine x_li (z := e) T_31_8 rfl ?_
  refine x_cv4 T_31_9 mN_32 mL_32 (Nat.le_of_ble_eq_true rfl) mO_32 (hP.o ho) (Nat.le_of_ble_eq_true rfl) (hgo σ hP) ?_
  clear hP hgo
  rintro _ σ ⟨rfl, W2, hP, hB2, hF2⟩
  refine cI ?_
  refine x_rz T_31_12 (h01_of (by omega)) ?_
  exact ⟨rfl, W2, hP, hB2, FB_tr FB_set hF2⟩
theorem x_takeText0 (hj : c < 58) (hP : PX σ0 W R σ) (hB : SH b N) (hl : (txt c).length ≤ N) : CL fb (d + 5) 11 [vR (some b), vR (some (4 + 2 * c))] σ (XB σ0 W R b N (txt c) none) := by
  have ho := hB.1
  have p1 := fun (σ : hM) (hP : PX σ0 (rU W b 2065 0) R σ) => x_addText (fb := fb) (d := d) hj hP hB.set0 (by show 0 + _ ≤ N; omega)
  refine CL_in mL_11 rfl ?_
  show WP fb _ 11 0 [some (vR (some b)), some (vR (some (4+2*c)))] [] σ _
  refine x_lr (z := some b) T_11_0 rfl ?_
  refine x_ic T_11_1 ?_
  refine z_pI hP T_11_2 F_2_1 ho (key := 2065) rfl (fun σ hP => ?_)
  refine x_lr (z := some b) T_11_5 rfl ?_
  refine x_lr (z := some (4+2*c)) T_11_6 rfl ?_
  refine x_cv2 T_11_7 mN_12 mL_12 (Nat.le_of_ble_eq_true rfl) mO_12 (hP.o ho) (Nat.le_of_ble_eq_true rfl) (p1 σ hP) ?_
  clear hP p1
  rintro _ σ ⟨rfl, W2, hP, hB2, hF2⟩
  refine cV ?_
  refine x_rv T_11_10 ?_
  exact ⟨rfl, W2, hP, hB2, FB_tr FB_set hF2⟩
theorem x_clear0 (hP : PX σ0 W R σ) (hB : SH b N) : CL fb d 27 [vR (some b)] σ (XB σ0 W R b N [] none) := by
  have ho := hB.1
  refine CL_in mL_27 rfl ?_
  show WP fb _ 27 0 [some (vR (some b))] [] σ _
  refine x_lr (z := some b) T_27_0 rfl ?_
  refine x_ic T_27_1 ?_
  refine z_pI hP T_27_2 F_2_1 ho (key := 2065) rfl (fun σ hP => ?_)
  refine x_rv T_27_5 ?_
  exact ⟨rfl, _, hP, hB.set0, FB_set⟩
theorem SH_nd : ∀ s < 3, ∀ j < 64, tX (1300 + 294 * s + 3 * j) = some (Sum.inl 2) ∧ tX (1301 + 294 * s + 3 * j) = some (Sum.inr (1, 12)) := by decide +kernel
theorem VS.sh (h : VS S s) (hj : a < 64) : SH (S + 7 + 3 * a) 12 := by
  obtain ⟨h1, h2⟩ := SH_nd s.toNat (by have := h.1; omega) a hj
  have e := h.2
  have e1 := h.1
  rw [show 1300 + 294 * s.toNat + 3 * a = S + 7 + 3 * a by omega] at h1
  rw [show 1301 + 294 * s.toNat + 3 * a = S + 7 + 3 * a + 1 by omega] at h2
  exact ⟨h1, ⟨h2, by omega⟩, by decide⟩
theorem insT_I : insT t q C a = t (insI q C a) := by
  unfold insT insI
  (repeat' split) <;> rfl
theorem insI_inj (h : 0 ≤ q ∧ q ≤ C) (e : insI q C a = insI q C b) : a = b := by
  unfold insI at e
  (repeat' split at e) <;> omega
theorem insI_lt (h : 0 ≤ q ∧ q ≤ C) (hC : C < 64) (ha : a < 64) : insI q C a < 64 := by
  unfold insI
  (repeat' split) <;> omega
theorem insT_lo (h : (a : Int) < q) : insT t q C a = t a := if_pos h
theorem insT_at (h : 0 ≤ q) : insT t q C q.toNat = t C.toNat := by
  unfold insT
  rw [if_neg (by omega), if_pos (by omega)]
theorem insT_hi (h : q < (a : Int)) (h2 : (a : Int) ≤ C) : insT t q C a = t (a - 1) := by
  unfold insT
  rw [if_neg (by omega), if_neg (by omega), if_pos h2]
theorem insT_out (h : q ≤ C) (h2 : C < (a : Int)) : insT t q C a = t a := by
  unfold insT
  rw [if_neg (by omega), if_neg (by omega), if_neg (by omega)]
theorem lg_ins (hq : 0 ≤ q ∧ q ≤ ord.length) (hi : 0 ≤ i) : lg (ord.insertIdx q.toNat n) i = if i < q then lg ord i else if i = q then n else lg ord (i - 1) := by
  unfold lg
  rw [List.getD_eq_getElem?_getD, List.getElem?_insertIdx]
  by_cases h1 : i < q
  · rw [if_pos h1, if_pos (by omega), List.getD_eq_getElem?_getD]
  · rw [if_neg h1, if_neg (by omega)]
    by_cases h2 : i = q
    · rw [if_pos h2, if_pos (by omega), if_pos (by omega)]
      rfl
    · rw [if_neg h2, if_neg (by omega), List.getD_eq_getElem?_getD, show i.toNat - 1 = (i - 1).toNat by omega]
theorem ins_len (hq : 0 ≤ q ∧ q ≤ ord.length) : ((ord.insertIdx q.toNat n).length : Int) = (ord.length : Int) + 1 := by
  rw [List.length_insertIdx_of_le_length (by omega)]
  rfl
theorem mem_ins (hq : 0 ≤ q ∧ q ≤ ord.length) : k ∈ ord.insertIdx q.toNat n ↔ k = n ∨ k ∈ ord := by
  have hl := ins_len (n := n) hq
  constructor
  · intro h
    obtain ⟨i, i0, i1, rfl⟩ := mem_lg h
    rw [lg_ins hq i0]
    split
    · exact Or.inr (lg_mem i0 (by omega))
    · split
      · exact Or.inl rfl
      · exact Or.inr (lg_mem (by omega) (by omega))
  · rintro (rfl | h)
    · have := lg_ins (n := k) hq hq.1
      rw [if_neg (by omega), if_pos rfl] at this
      have h2 := lg_mem (ord := ord.insertIdx q.toNat k) hq.1 (by omega)
      rw [this] at h2
      exact h2
    · obtain ⟨i, i0, i1, rfl⟩ := mem_lg h
      by_cases c1 : i < q
      · have := lg_ins (n := n) hq i0
        rw [if_pos c1] at this
        have h2 := lg_mem (ord := ord.insertIdx q.toNat n) i0 (by omega)
        rw [this] at h2
        exact h2
      · have := lg_ins (n := n) (i := i + 1) hq (by omega)
        rw [if_neg (by omega), if_neg (by omega), show i + 1 - 1 = i by omega] at this
        have h2 := lg_mem (ord := ord.insertIdx q.toNat n) (i := i + 1) (by omega) (by omega)
        rw [this] at h2
        exact h2
theorem nodup_ins (hn : ord.Nodup) (hq : 0 ≤ q ∧ q ≤ ord.length) (h : n ∉ ord) : (ord.insertIdx q.toNat n).Nodup := by
  have hl := ins_len (n := n) hq
  rw [List.nodup_iff_pairwise_ne, List.pairwise_iff_getElem]
  intro i j hi hj hij e
  have eg : ∀ (L : List Int) (i : Nat) (h : i < L.length), L[i] = lg L (i : Int) := fun L i h => by
    unfold lg
    rw [List.getD_eq_getElem?_getD, Int.toNat_natCast, List.getElem?_eq_getElem h]
    rfl
  rw [eg _ i hi, eg _ j hj, lg_ins hq (by omega), lg_ins hq (by omega)] at e
  have inj : ∀ a b : Int, 0 ≤ a → a < ord.length → 0 ≤ b → b < ord.length → lg ord a = lg ord b → a = b := fun a b a0 a1 b0 b1 c => by
    have h1 := idx_get hn a0 a1
    rw [c, idx_get hn b0 b1] at h1
    omega
  by_cases c1 : (i : Int) < q
  · rw [if_pos c1] at e
    by_cases c2 : (j : Int) < q
    · rw [if_pos c2] at e
      have := inj _ _ (by omega) (by omega) (by omega) (by omega) e
      omega
    · rw [if_neg c2] at e
      by_cases c3 : (j : Int) = q
      · rw [if_pos c3] at e
        exact h (by rw [← e]; exact lg_mem (by omega) (by omega))
      · rw [if_neg c3] at e
        have := inj _ _ (by omega) (by omega) (by omega) (by omega) e
        omega
  · rw [if_neg c1, if_neg (show ¬ (j : Int) < q by omega), if_neg (show ¬ (j : Int) = q by omega)] at e
    by_cases c3 : (i : Int) = q
    · rw [if_pos c3] at e
      exact h (by rw [e]; exact lg_mem (by omega) (by omega))
    · rw [if_neg c3] at e
      have := inj _ _ (by omega) (by omega) (by omega) (by omega) e
      omega
/-- files that were there stand at the same objects -/
theorem noA_ins (hn : ord.Nodup) (hq : 0 ≤ q ∧ q ≤ ord.length) (h : n ∉ ord) (hk : k ≠ n) : noA S (ord.insertIdx q.toNat n) (insT t q ord.length) k = noA S ord t k := by
  by_cases c : k ∈ ord
  · have hl := ins_len (n := n) hq
    have hn2 := nodup_ins hn hq h
    obtain ⟨i, i0, i1, e⟩ := mem_lg ((mem_ins (n := n) hq).mpr (Or.inr c))
    rw [lg_ins hq i0] at e
    have e2 := noA_get (S := S) (t := insT t q ord.length) hn2 i0 i1
    rw [lg_ins hq i0, e] at e2
    rw [e2]
    by_cases c1 : i < q
    · rw [if_pos c1] at e
      rw [← e, noA_get hn i0 (by omega), insT_lo (by omega)]
    · rw [if_neg c1] at e
      by_cases c2 : i = q
      · rw [if_pos c2] at e
        exact absurd e.symm hk
      · rw [if_neg c2] at e
        rw [← e, noA_get hn (by omega) (by omega), insT_hi (by omega) (by omega), show i.toNat - 1 = (i - 1).toNat by omega]
  · unfold noA
    rw [if_neg c, if_neg (fun c2 => ((mem_ins hq).mp c2).elim hk c)]
theorem noA_new (hn : ord.Nodup) (hq : 0 ≤ q ∧ q ≤ ord.length) (h : n ∉ ord) : noA S (ord.insertIdx q.toNat n) (insT t q ord.length) n = some (S + 6 + 3 * t ord.length) := by
  have hl := ins_len (n := n) hq
  have e := noA_get (S := S) (t := insT t q ord.length) (nodup_ins hn hq h) hq.1 (show q < _ by rw [hl]; omega)
  rw [lg_ins hq hq.1, if_neg (by omega), if_pos rfl, insT_at hq.1, Int.toNat_natCast] at e
  exact e
theorem NT.ins (h : NT W R P S s ord t) (hq : 0 ≤ q ∧ q ≤ C) (hC : (ord.length : Int) = C) (hC2 : C < 64) (hb : S + 6 + 3 * t C.toNat = b) (hn : n ∉ ord) (hL : ∀ m, isN Q s m ↔ isN P s m ∨ m = n) (hE : ∀ m ∈ ord, EN Q P s m) (hup : ∀ m ∈ ord, ¬ m = 0 → qUp P s m ∈ ord) (hlo : ∀ i, 0 ≤ i → i < q → qPath P s (lg ord i) < qPath Q s n) (hhi : ∀ i, q ≤ i → i < C → qPath Q s n < qPath P s (lg ord i)) (hcn : W2 S 2230 = C + 1) (hW : ∀ (x : Nat) (k : Int), S ≤ x → x < S + 294 → x ≠ b → x ≠ b + 1 → x ≠ b + 2 → x ≠ S → W2 x k = W x k) (hN : ND W2 Q b s n) (hR1 : ∀ i : Int, 0 ≤ i → i < 64 → R2 (S + 1) i = oU (dnR R S q C) (S + 1) q (some b) (S + 1) i) (hR2 : ∀ x : Nat, x ≠ b → R2 x 2257 = R x 2257) (hdr : R2 b 2257 = if n = 0 then none else noA S ord t (qUp Q s n)) (hnu : ¬ n = 0 → qUp Q s n ∈ ord) : NT W2 R2 Q S s (ord.insertIdx q.toNat n) (insT t q C) := by
  have hnd := h.nodup
  have hq2 : 0 ≤ q ∧ q ≤ (ord.length : Int) := by omega
  have hnA := fun (m : Int) (hm : m ≠ n) => noA_ins (S := S) (t := t) hnd hq2 hn hm
  rw [hC] at hnA
  obtain ⟨⟨a1, a2, a3, a4⟩, b1, rr, d1, e1⟩ := h
  have hl := ins_len (ord := ord) (n := n) hq2
  have hlg := fun i (h0 : 0 ≤ i) => lg_ins (n := n) hq2 h0
  have hbt : ∀ j : Int, 0 ≤ j → j < C → t j.toNat ≠ t C.toNat := fun j j0 j1 c => by
    have := b1.2 _ _ (by omega) (by omega) c
    omega
  have tb := b1.1 C.toNat (by omega)
  have old : ∀ j : Int, 0 ≤ j → j < C → ND W2 Q (S + 6 + 3 * t j.toNat) s (lg ord j) ∧ R2 (S + 6 + 3 * t j.toNat) 2257 = if lg ord j = 0 then none else noA S (ord.insertIdx q.toNat n) (insT t q C) (qUp Q s (lg ord j)) := fun j j0 j1 => by
    have tj := b1.1 j.toNat (by omega)
    have hne := hbt j j0 j1
    have hm := lg_mem (ord := ord) j0 (by omega)
    refine ⟨((d1 j j0 (by omega)).wr (fun k _ _ => hW _ _ (by omega) (by omega) (by omega) (by omega) (by omega) (by omega)) (hW _ _ (by omega) (by omega) (by omega) (by omega) (by omega) (by omega)) (fun k _ _ => hW _ _ (by omega) (by omega) (by omega) (by omega) (by omega) (by omega))).en (hE _ hm), ?_⟩
    rw [hR2 _ (by omega), e1 j j0 (by omega)]
    by_cases c : lg ord j = 0
    · rw [if_pos c, if_pos c]
    · rw [if_neg c, if_neg c, (hE _ hm).2.2.2, hnA _ (fun c2 => hn (by rw [← c2]; exact hup _ hm c))]
  refine ⟨⟨fun m => ?_, by omega, by rw [hl, hC]; exact hcn, ?_⟩, ⟨fun i hi => ?_, fun i j hi hj e => ?_⟩, fun i i0 i1 => ?_, fun i i0 i1 => ?_, fun i i0 i1 => ?_⟩
  · rw [mem_ins hq2, hL, a1]
    exact ⟨fun c => c.elim Or.inr Or.inl, fun c => c.elim Or.inr Or.inl⟩
  · have eg : ∀ (L : List Int) (i : Nat) (h : i < L.length), L[i] = lg L (i : Int) := fun L i h => by
      unfold lg
      rw [List.getD_eq_getElem?_getD, Int.toNat_natCast, List.getElem?_eq_getElem h]
      rfl
    rw [List.pairwise_iff_getElem] at a4 ⊢
    intro i j hi hj hij
    have hp : ∀ x, 0 ≤ x → x < C → qPath Q s (lg ord x) = qPath P s (lg ord x) := fun x x0 x1 => (hE _ (lg_mem x0 (by omega))).1.2.1
    have hs : ∀ x y : Int, 0 ≤ x → x < y → y < C → qPath P s (lg ord x) < qPath P s (lg ord y) := fun x y x0 x1 x2 => by
      have := a4 x.toNat y.toNat (by omega) (by omega) (by omega)
      rw [eg _ _ (by omega), eg _ _ (by omega), Int.toNat_of_nonneg x0, Int.toNat_of_nonneg (by omega)] at this
      exact this
    rw [eg _ i hi, eg _ j hj, hlg _ (by omega), hlg _ (by omega)]
    by_cases c1 : (i : Int) < q
    · rw [if_pos c1, hp _ (by omega) (by omega)]
      by_cases c2 : (j : Int) < q
      · rw [if_pos c2, hp _ (by omega) (by omega)]
        exact hs _ _ (by omega) (by omega) (by omega)
      · rw [if_neg c2]
        by_cases c3 : (j : Int) = q
        · rw [if_pos c3]
          exact hlo _ (by omega) c1
        · rw [if_neg c3, hp _ (by omega) (by omega)]
          exact hs _ _ (by omega) (by omega) (by omega)
    · rw [if_neg c1, if_neg (show ¬ (j : Int) < q by omega), if_neg (show ¬ (j : Int) = q by omega), hp ((j : Int) - 1) (by omega) (by omega)]
      by_cases c3 : (i : Int) = q
      · rw [if_pos c3]
        exact hhi _ (by omega) (by omega)
      · rw [if_neg c3, hp _ (by omega) (by omega)]
        exact hs _ _ (by omega) (by omega) (by omega)
  · rw [insT_I]
    exact b1.1 _ (insI_lt hq hC2 hi)
  · rw [insT_I, insT_I] at e
    exact insI_inj hq (b1.2 _ _ (insI_lt hq hC2 hi) (insI_lt hq hC2 hj) e)
  · rw [hR1 i i0 i1]
    by_cases c1 : i = q
    · rw [c1, oU_s, insT_at hq.1, hb]
    · rw [oU_j c1]
      unfold dnR
      by_cases c2 : q < i ∧ i ≤ C
      · rw [if_pos ⟨rfl, c2⟩, rr (i - 1) (by omega) (by omega), insT_hi (by omega) (by omega), show i.toNat - 1 = (i - 1).toNat by omega]
      · rw [if_neg (fun c => c2 c.2), rr i i0 i1]
        by_cases c3 : i < q
        · rw [insT_lo (by omega)]
        · rw [insT_out hq.2 (by omega)]
  · rw [hlg i i0]
    by_cases c1 : i < q
    · rw [if_pos c1, insT_lo (by omega)]
      exact (old i i0 (by omega)).1
    · rw [if_neg c1]
      by_cases c2 : i = q
      · rw [if_pos c2, c2, insT_at hq.1, hb]
        exact hN
      · rw [if_neg c2, insT_hi (by omega) (by omega), show i.toNat - 1 = (i - 1).toNat by omega]
        exact (old (i - 1) (by omega) (by omega)).1
  · rw [hlg i i0]
    by_cases c1 : i < q
    · rw [if_pos c1, insT_lo (by omega)]
      exact (old i i0 (by omega)).2
    · rw [if_neg c1]
      by_cases c2 : i = q
      · rw [if_pos c2, c2, insT_at hq.1, hb, hdr]
        by_cases c3 : n = 0
        · rw [if_pos c3, if_pos c3]
        · rw [if_neg c3, if_neg c3, hnA _ (fun c => hn (by rw [← c]; exact hnu c3))]
      · rw [if_neg c2, insT_hi (by omega) (by omega), show i.toNat - 1 = (i - 1).toNat by omega]
        exact (old (i - 1) (by omega) (by omega)).2
theorem FD.ins (h : FD W R P S s ord t) (hT : NT W R P S s ord t) (hq : 0 ≤ q ∧ q ≤ C) (hC : (ord.length : Int) = C) (hn : n ∉ ord) (hW : ∀ (i : Int) (k : Int), 0 ≤ i → i < 96 → W2 (S + 198 + i.toNat) k = W (S + 198 + i.toNat) k) (hR : ∀ i : Int, 0 ≤ i → i < 96 → R2 (S + 198 + i.toNat) 2291 = R (S + 198 + i.toNat) 2291) (hQ : ∀ (f : Nat) (k : Int), fidL.elem f = true → Q f k = P f k) (hno : ∀ k, 96 * s ≤ k → k < 96 * s + 96 → ¬ P 2304 k = 0 → P 2310 k = 0 → ¬ P 2306 k = n) : FD W2 R2 Q S s (ord.insertIdx q.toNat n) (insT t q C) := by
  refine FD.pp (P := P) (fun i i0 i1 => ?_) hQ
  obtain ⟨a1, a2, a3⟩ := h i i0 i1
  rw [hW i _ i0 i1, hR i i0 i1]
  refine ⟨a1, fun c => ?_, a3⟩
  obtain ⟨e1, e2, e3, e4, e5, e6, e7, e8⟩ := a2 c
  unfold FDu
  rw [hW i _ i0 i1, hW i _ i0 i1, hW i _ i0 i1, hW i _ i0 i1, hW i _ i0 i1, hW i _ i0 i1, hW i _ i0 i1, hR i i0 i1]
  refine ⟨e1, e2, e3, e4, e5, e6, e7, ?_⟩
  rw [e8]
  by_cases g : P 2310 (96 * s + i) = 0
  · rw [if_pos g, if_pos g, ← hC, noA_ins hT.nodup (by omega) hn (hno _ (by omega) (by omega) c g)]
  · rw [if_neg g, if_neg g]
theorem DV.ins (h : DV W R P S s ord t) (hT : NT W R P S s ord t) (hq : 0 ≤ q ∧ q ≤ C) (hC : (ord.length : Int) = C) (hC2 : C < 64) (hb : S + 6 + 3 * t C.toNat = b) (hW : ∀ x : Nat, S ≤ x → x < S + 294 → x ≠ b → W2 x 2259 = W x 2259) (hR : ∀ (x : Nat) (k : Int), x ≠ b → k = 2267 ∨ k = 2258 → R2 x k = R x k) (hc : ∀ (c : Nat) (k : Int), 2372 ≤ c → W2 c k = W c k) (h6 : ∀ n, s < 2 → isN P s n → P 2297 (64 * s + n) ≤ 600) (hQ : ∀ m, s < 2 → m ∈ ord → Q 2297 (64 * s + m) = P 2297 (64 * s + m) ∧ ∀ i : Int, 0 ≤ i → i < P 2297 (64 * s + m) → Q 2300 (600 * (64 * s + m) + i) = P 2300 (600 * (64 * s + m) + i)) (hN : DN W2 R2 Q s b n) : DV W2 R2 Q S s (ord.insertIdx q.toNat n) (insT t q C) := fun i i0 i1 => by
  have hq2 : 0 ≤ q ∧ q ≤ (ord.length : Int) := by omega
  have hl := ins_len (ord := ord) (n := n) hq2
  have b1 := hT.2.1
  have old : ∀ j : Int, 0 ≤ j → j < C → DN W2 R2 Q s (S + 6 + 3 * t j.toNat) (lg ord j) := fun j j0 j1 => by
    have tj := b1.1 j.toNat (by omega)
    have hm := lg_mem (ord := ord) j0 (by omega)
    have hne : t j.toNat ≠ t C.toNat := fun c => by
      have := b1.2 _ _ (by omega) (by omega) c
      omega
    exact ((h j j0 (by omega)).fr (hW _ (by omega) (by omega) (by omega)) (hR _ _ (by omega) (Or.inl rfl)) (hR _ _ (by omega) (Or.inr rfl)) (fun c _ q2 i _ _ => hc c i q2) (fun c => h6 _ c ((hT.1.1 _).mp hm))).pp (fun c => (hQ _ c hm).1) (fun c => (hQ _ c hm).2)
  rw [lg_ins hq2 i0]
  by_cases c1 : i < q
  · rw [if_pos c1, insT_lo (by omega)]
    exact old i i0 (by omega)
  · rw [if_neg c1]
    by_cases c2 : i = q
    · rw [if_pos c2, c2, insT_at hq.1, hb]
      exact hN
    · rw [if_neg c2, insT_hi (by omega) (by omega), show i.toNat - 1 = (i - 1).toNat by omega]
      exact old (i - 1) (by omega) (by omega)
/-- how many files there are -/
theorem sm_ind : ∀ (l : List Int), l.Nodup → (∀ n ∈ l, 0 ≤ n ∧ n < 64) → sm (fun n => if n ∈ l then 1 else 0) 0 64 = (l.length : Int)
  | [], _, _ => by
    have := sm_const 0 64 0
    rw [Int.zero_mul] at this
    exact this
  | a :: l, hn, hr => by
    obtain ⟨h1, h2⟩ := List.nodup_cons.mp hn
    have ih := sm_ind l h2 (fun n hn => hr n (List.mem_cons_of_mem _ hn))
    have ha := hr a List.mem_cons_self
    have e := sm_one (f := fun n => if n ∈ a :: l then 1 else 0) (g := fun n => if n ∈ l then 1 else 0) (k := a) 64 0 ha.1 (by omega) (fun i hi => ifc ⟨fun c => (List.mem_cons.mp c).resolve_left hi, fun c => List.mem_cons_of_mem _ c⟩)
    rw [e, ih, if_pos List.mem_cons_self, if_neg h1, List.length_cons]
    omega
theorem sm_shift {f : Int → Int} (c : Int) : ∀ (n : Nat) (o : Int), sm f (o + c) n = sm (fun i => f (i + c)) o n
  | 0, _ => rfl
  | n + 1, o => by
    show f (o + c) + sm f (o + c + 1) n = f (o + c) + sm _ (o + 1) n
    rw [← sm_shift c n (o + 1), show o + c + 1 = o + 1 + c by omega]
theorem NT.count (h : NT W R P S s ord t) (hB : TB P) (hI : IV false T U P) (hs : 0 ≤ s ∧ s < 2) : P 2302 s = (ord.length : Int) := by
  have hm : ∀ n ∈ ord, 0 ≤ n ∧ n < 64 := fun n hn => by
    have := isN_lt hs.2 ((h.1.1 n).mp hn)
    omega
  rw [(hB s hs.1 hs.2).2, ← sm_ind ord h.nodup hm]
  have := sm_shift (f := P 2289) (64 * s) 64 0
  rw [Int.zero_add] at this
  rw [this]
  refine sm_congr 64 0 (fun i i0 i1 => ?_)
  have hb : 0 ≤ P 2289 (64 * s + i) ∧ P 2289 (64 * s + i) ≤ 1 := IV.a hI 2289 2 128 rfl rfl rfl (by omega) (by omega)
  show P 2289 (i + 64 * s) = _
  rw [show i + 64 * s = 64 * s + i by omega]
  by_cases c : i ∈ ord
  · rw [if_pos c]
    exact (isN_lt hs.2 ((h.1.1 i).mp c)).2.2
  · rw [if_neg c]
    apply Decidable.byContradiction
    intro c2
    exact c ((h.1.1 i).mpr (Or.inl ⟨hs.2, i0, by omega, by omega⟩))
end XINM
