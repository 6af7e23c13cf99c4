/-! The class's servers: what a server's objects stand for, as a whole; what leaves it as it is. -/
/-- a file looks the same -/
def EN (Q P : qR) (s m : Int) : Prop := (qMode Q s m = qMode P s m ∧ qPath Q s m = qPath P s m ∧ qVer Q s m = qVer P s m ∧ qUid Q s m = qUid P s m ∧ qGid Q s m = qGid P s m ∧ qMuid Q s m = qMuid P s m ∧ qLen Q s m = qLen P s m) ∧ qNm Q s m = qNm P s m ∧ qNs Q s m = qNs P s m ∧ qUp Q s m = qUp P s m
def fileL : List Nat := [2290, 2291, 2292, 2293, 2294, 2295, 2296, 2297, 2299]
/-- bytes, device and process of a file's object -/
def DN (W : qR) (R : rR) (P : qR) (s : Int) (a : Nat) (n : Int) : Prop := (s < 2 → W a 2259 = 0 ∧ (P 2297 (64 * s + n) = 0 ∨ ∃ c : Nat, R a 2267 = some c ∧ 2372 ≤ c ∧ ∀ i : Int, 0 ≤ i → i < P 2297 (64 * s + n) → W c i = sb8 (P 2300 (600 * (64 * s + n) + i)))) ∧ (s = 2 → W a 2259 = (if n = 1 then 1 else if n < 16 ∨ n % 16 = 0 then 0 else if n % 16 = 1 then 2 else 3) ∧ R a 2258 = if n < 16 then none else some (295 + 125 * (n / 16 - 1).toNat))
def DV (W : qR) (R : rR) (P : qR) (S : Nat) (s : Int) (ord : List Int) (t : Nat → Nat) : Prop := ∀ i : Int, 0 ≤ i → i < ord.length → DN W R P s (S + 6 + 3 * t i.toNat) (lg ord i)
def XV (W : qR) (R : rR) (P : qR) (S : Nat) (s : Int) (ord : List Int) (t : Nat → Nat) : Prop := NT W R P S s ord t ∧ FD W R P S s ord t ∧ SZ W P S s ∧ DV W R P S s ord t
/-- the objects that may have rows of bytes of their own -/
def nA (j : Nat) : Nat := if j < 64 then 1299 + 3 * j else 1593 + 3 * (j - 64)
def cnC (R : rR) : Nat → Int
  | 0 => 0
  | m + 1 => cnC R m + if R (nA m) 2267 = none then 0 else 1
/-- rows of bytes made later: whose they are, and how many there are -/
def CT (K : Int) (W : qR) (R : rR) : Prop := (∀ b c : Nat, R b 2267 = some c → (∃ j, j < 128 ∧ b = nA j) ∧ 2372 ≤ c ∧ (c : Int) < W 0 0) ∧ (∀ b b2 c : Nat, R b 2267 = some c → R b2 2267 = some c → b = b2) ∧ W 0 0 = 2372 + cnC R 128 ∧ W 0 1 = K + 600 * cnC R 128
/-- what a server's work leaves: all but its own objects, their rows of bytes and the reply -/
def FV (S rp : Nat) (W W2 : qR) (R R2 : rR) : Prop := (∀ (x : Nat) (k : Int), 128 ≤ x → (x < S ∨ S + 294 ≤ x) → x < 2372 → ¬ (x = rp ∧ k = 2065) → ¬ (x = rp + 1 ∧ k < 2000) → W2 x k = W x k) ∧ (∀ (x : Nat) (k : Int), (x < S ∨ S + 294 ≤ x) → R2 x k = R x k) ∧ (R2 S 2233 = R S 2233 ∧ R2 S 2234 = R S 2234 ∧ W2 S 2235 = W S 2235) ∧ (∀ (c : Nat) (k : Int), 2372 ≤ c → (c : Int) < W 0 0 → (∀ b, S ≤ b → b < S + 294 → R b 2267 ≠ some c) → W2 c k = W c k) ∧ W 0 0 ≤ W2 0 0 ∧ ∀ b, R2 b 2267 = R b 2267 ∨ (R b 2267 = none ∧ ∃ c : Nat, R2 b 2267 = some c ∧ W 0 0 ≤ (c : Int))
section XSV
variable {S a b rp m : Nat} {W W1 W2 P Q : qR} {R R1 R2 : rR} {i k x z v s e w c f u y n p K : Int} {l nm ord : List Int} {t : Nat → Nat} {r : Option Nat}
theorem EN_rfl : EN P P s n := ⟨⟨rfl, rfl, rfl, rfl, rfl, rfl, rfl⟩, rfl, rfl, rfl⟩
theorem EN_tr {P1 : qR} (h1 : EN P1 Q s n) (h2 : EN Q P s n) : EN P1 P s n := ⟨⟨h1.1.1.trans h2.1.1, h1.1.2.1.trans h2.1.2.1, h1.1.2.2.1.trans h2.1.2.2.1, h1.1.2.2.2.1.trans h2.1.2.2.2.1, h1.1.2.2.2.2.1.trans h2.1.2.2.2.2.1, h1.1.2.2.2.2.2.1.trans h2.1.2.2.2.2.2.1, h1.1.2.2.2.2.2.2.trans h2.1.2.2.2.2.2.2⟩, h1.2.1.trans h2.2.1, h1.2.2.1.trans h2.2.2.1, h1.2.2.2.trans h2.2.2.2⟩
theorem EN_fe (h : FE Q P) : EN Q P s n := ⟨⟨h.mode, h.path, h.ver, h.uid, h.gid, h.muid, h.len⟩, h.nam, h.ns, h.up⟩
theorem EN_tree (hs : s < 2) (hr : ∀ f : Nat, fileL.elem f = true → Q f (64 * s + n) = P f (64 * s + n)) (hn : ∀ k : Int, 0 ≤ k → k < qNs P s n → Q 2298 (12 * (64 * s + n) + k) = P 2298 (12 * (64 * s + n) + k)) : EN Q P s n := by
  have em : qMode Q s n = qMode P s n := by unfold qMode; rw [if_pos hs, if_pos hs, hr 2293 rfl]
  have en : qNs Q s n = qNs P s n := by unfold qNs; rw [if_pos hs, if_pos hs, hr 2299 rfl]
  refine ⟨⟨em, ?_, ?_, ?_, ?_, ?_, ?_⟩, ?_, en, ?_⟩
  · unfold qPath; rw [if_pos hs, if_pos hs, hr 2291 rfl]
  · unfold qVer; rw [if_pos hs, if_pos hs, hr 2292 rfl]
  · unfold qUid; rw [if_pos hs, if_pos hs, hr 2294 rfl]
  · unfold qGid; rw [if_pos hs, if_pos hs, hr 2295 rfl]
  · unfold qMuid; rw [if_pos hs, if_pos hs, hr 2296 rfl]
  · unfold qLen; rw [em, hr 2297 rfl]
  · unfold qNm
    rw [en]
    exact seg_seg.mpr (fun j j0 j1 => by
      unfold qNb
      rw [if_pos hs, if_pos hs, Int.zero_add]
      exact hn j j0 (by omega))
  · unfold qUp; rw [if_pos hs, if_pos hs, hr 2290 rfl]
theorem EN_two (hr : ∀ k, Q 2322 k = P 2322 k) : EN Q P 2 n := by
  have e : ¬ (2 : Int) < 2 := by decide
  have em : qMode Q 2 n = qMode P 2 n := by unfold qMode; rw [if_neg e, if_neg e]
  have eu : qUid Q 2 n = qUid P 2 n := by unfold qUid; rw [if_neg e, if_neg e, hr]
  have en : qNs Q 2 n = qNs P 2 n := by unfold qNs; rw [if_neg e, if_neg e]
  refine ⟨⟨em, ?_, ?_, eu, ?_, ?_, ?_⟩, ?_, en, ?_⟩
  · unfold qPath; rw [if_neg e, if_neg e]
  · unfold qVer; rw [if_neg e, if_neg e]
  · unfold qGid; rw [if_neg e, if_neg e, eu]
  · unfold qMuid; rw [if_neg e, if_neg e, eu]
  · unfold qLen; rw [if_neg (fun c => e c.1), if_neg (fun c => e c.1)]
  · unfold qNm
    rw [en]
    exact seg_seg.mpr (fun j _ _ => by unfold qNb; rw [if_neg e, if_neg e])
  · unfold qUp; rw [if_neg e, if_neg e]
theorem ND.en (h : ND W P a s n) (he : EN Q P s n) : ND W Q a s n := by
  unfold ND at h ⊢
  rw [he.1.1, he.1.2.1, he.1.2.2.1, he.1.2.2.2.1, he.1.2.2.2.2.1, he.1.2.2.2.2.2.1, he.1.2.2.2.2.2.2, he.2.1, he.2.2.1]
  exact h
theorem ND.wr (h : ND W P a s n) (hW : ∀ k : Int, 2259 ≤ k → k ≤ 2266 → W2 a k = W a k) (hN : W2 (a + 1) 2065 = W (a + 1) 2065) (hB : ∀ k : Int, 0 ≤ k → k < 12 → W2 (a + 2) k = W (a + 2) k) : ND W2 P a s n := by
  obtain ⟨a1, a2, a3, a4, a5, a6, a7, a8, ⟨b1, b2, b3, b4, b5, b6, b7⟩, a10⟩ := h
  exact ⟨a1, ⟨(hW _ (by decide) (by decide)).trans a2.1, a2.2⟩, ⟨(hW _ (by decide) (by decide)).trans a3.1, a3.2⟩, ⟨(hW _ (by decide) (by decide)).trans a4.1, a4.2⟩, ⟨(hW _ (by decide) (by decide)).trans a5.1, a5.2⟩, ⟨(hW _ (by decide) (by decide)).trans a6.1, a6.2⟩, ⟨(hW _ (by decide) (by decide)).trans a7.1, a7.2⟩, ⟨(hW _ (by decide) (by decide)).trans a8.1, a8.2⟩, ⟨b1, b2, b3, hN.trans b4, b5, b6, fun i i0 i1 => (hB i i0 (by omega)).trans (b7 i i0 i1)⟩, a10⟩
/-- one file's object is written; the others stay -/
theorem NT.one (h : NT W R P S s ord t) (hi : 0 ≤ i ∧ i < ord.length) (ha : S + 6 + 3 * t i.toNat = a) (hW : ∀ (x : Nat) (k : Int), S ≤ x → x < S + 294 → x ≠ a → x ≠ a + 1 → x ≠ a + 2 → (x = S → k = 2230) → W2 x k = W x k) (hR : ∀ k : Int, R2 (S + 1) k = R (S + 1) k) (hR2 : ∀ x : Nat, R2 x 2257 = R x 2257) (hL : ∀ m, isN Q s m ↔ isN P s m) (hE : ∀ m ∈ ord, m ≠ lg ord i → EN Q P s m) (hp : qPath Q s (lg ord i) = qPath P s (lg ord i)) (hu : qUp Q s (lg ord i) = qUp P s (lg ord i)) (hN : ND W2 Q a s (lg ord i)) : NT W2 R2 Q S s ord t := by
  have hnd := h.nodup
  obtain ⟨⟨a1, a2, a3, a4⟩, b1, c1, d1, e1⟩ := h
  have ha63 := b1.1 i.toNat (by omega)
  have path : ∀ m ∈ ord, qPath Q s m = qPath P s m := fun m hm => by
    by_cases e : m = lg ord i
    · rw [e]; exact hp
    · exact (hE m hm e).1.2.1
  refine ⟨⟨fun n => (a1 n).trans (hL n).symm, a2, (hW S 2230 (by omega) (by omega) (by omega) (by omega) (by omega) (fun _ => rfl)).trans a3, ?_⟩, b1, fun j j0 j1 => (hR j).trans (c1 j j0 j1), fun j j0 j1 => ?_, fun j j0 j1 => ?_⟩
  · rw [List.pairwise_iff_getElem] at a4 ⊢
    intro j k hj hk hjk
    rw [path _ (List.getElem_mem _), path _ (List.getElem_mem _)]
    exact a4 j k hj hk hjk
  · have tj := b1.1 j.toNat (by omega)
    by_cases e : j = i
    · rw [e, ha]
      exact hN
    · have hne : t j.toNat ≠ t i.toNat := fun q => e (by have := b1.2 _ _ (by omega) (by omega) q; omega)
      have hnm : lg ord j ≠ lg ord i := fun q => by
        have h1 := idx_get hnd j0 j1
        rw [q, idx_get hnd hi.1 hi.2] at h1
        omega
      refine ((d1 j j0 j1).wr (fun k _ _ => ?_) ?_ (fun k _ _ => ?_)).en (hE _ (lg_mem j0 j1) hnm)
      · exact hW _ k (by omega) (by omega) (by omega) (by omega) (by omega) (by omega)
      · exact hW _ _ (by omega) (by omega) (by omega) (by omega) (by omega) (by omega)
      · exact hW _ k (by omega) (by omega) (by omega) (by omega) (by omega) (by omega)
  · rw [hR2, e1 j j0 j1]
    by_cases e : lg ord j = lg ord i
    · rw [e, hu]
    · rw [(hE _ (lg_mem j0 j1) e).2.2.2]
theorem DN.fr (h : DN W R P s a n) (h1 : W2 a 2259 = W a 2259) (h2 : R2 a 2267 = R a 2267) (h3 : R2 a 2258 = R a 2258) (h4 : ∀ c : Nat, R a 2267 = some c → 2372 ≤ c → ∀ i : Int, 0 ≤ i → i < 600 → W2 c i = W c i) (h6 : s < 2 → P 2297 (64 * s + n) ≤ 600) : DN W2 R2 P s a n := by
  refine ⟨fun q => ?_, fun q => ?_⟩
  · obtain ⟨g1, g2⟩ := h.1 q
    refine ⟨h1.trans g1, g2.imp id ?_⟩
    rintro ⟨c, c1, c2, c3⟩
    exact ⟨c, h2.trans c1, c2, fun i i0 i1 => (h4 c c1 c2 i i0 (by have := h6 q; omega)).trans (c3 i i0 i1)⟩
  · obtain ⟨g1, g2⟩ := h.2 q
    exact ⟨h1.trans g1, h3.trans g2⟩
theorem DN.pp (h : DN W R P s a n) (h1 : s < 2 → Q 2297 (64 * s + n) = P 2297 (64 * s + n)) (h2 : s < 2 → ∀ i : Int, 0 ≤ i → i < P 2297 (64 * s + n) → Q 2300 (600 * (64 * s + n) + i) = P 2300 (600 * (64 * s + n) + i)) : DN W R Q s a n := by
  refine ⟨fun q => ?_, h.2⟩
  obtain ⟨g1, g2⟩ := h.1 q
  rw [h1 q]
  refine ⟨g1, g2.imp id ?_⟩
  rintro ⟨c, c1, c2, c3⟩
  exact ⟨c, c1, c2, fun i i0 i1 => by rw [h2 q i i0 i1]; exact c3 i i0 i1⟩
theorem DV.key (h : DV W R P S s ord t) (hk : 2000 ≤ k) (hk2 : k ≠ 2259) (h6 : ∀ n, s < 2 → isN P s n → P 2297 (64 * s + n) ≤ 600) (hm : ∀ n, n ∈ ord → isN P s n) : DV (rU W b k v) R P S s ord t := fun i h0 h1 => (h i h0 h1).fr (rU_j (Ne.symm hk2)) rfl rfl (fun c _ _ i i0 i1 => rU_j (by omega)) (fun q => h6 _ q (hm _ (lg_mem h0 h1)))
theorem DV.fb (h : DV W R P S s ord t) (hF : FB b W W2) (hb : b + 1 < 2372) (h6 : ∀ n, s < 2 → isN P s n → P 2297 (64 * s + n) ≤ 600) (hm : ∀ n, n ∈ ord → isN P s n) : DV W2 R P S s ord t := fun i h0 h1 => (h i h0 h1).fr (hF.o (by decide) (by decide)) rfl rfl (fun c _ c2 i i0 i1 => hF c i (by omega) (by omega)) (fun q => h6 _ q (hm _ (lg_mem h0 h1)))
theorem BY.lt (h : BY W b m l) : b + 1 < 2281 := h.2.1.2
theorem FV_rfl : FV S rp W W R R := ⟨fun _ _ _ _ _ _ _ => rfl, fun _ _ _ => rfl, ⟨rfl, rfl, rfl⟩, fun _ _ _ _ _ => rfl, Int.le_refl _, fun _ => Or.inl rfl⟩
theorem FV_tr (h1 : FV S rp W W1 R R1) (h2 : FV S rp W1 W2 R1 R2) : FV S rp W W2 R R2 := by
  obtain ⟨a1, a2, a3, a4, a5, a6⟩ := h1
  obtain ⟨b1, b2, b3, b4, b5, b6⟩ := h2
  refine ⟨fun x k q0 q1 q2 q3 q4 => (b1 x k q0 q1 q2 q3 q4).trans (a1 x k q0 q1 q2 q3 q4), fun x k q => (b2 x k q).trans (a2 x k q), ⟨b3.1.trans a3.1, b3.2.1.trans a3.2.1, b3.2.2.trans a3.2.2⟩, fun c k c0 c1 c2 => (b4 c k c0 (by omega) (fun b h0 h1 h2 => ?_)).trans (a4 c k c0 c1 c2), Int.le_trans a5 b5, fun b => ?_⟩
  · rcases a6 b with q | ⟨q, c', q2, q3⟩
    · rw [q] at h2
      exact c2 b h0 h1 h2
    · rw [q2] at h2
      cases h2
      omega
  · rcases b6 b with q | ⟨q, c', q2, q3⟩
    · rw [q]
      exact a6 b
    · rcases a6 b with p1 | ⟨p1, c2, p2, p3⟩
      · rw [p1] at q
        exact Or.inr ⟨q, c', q2, by omega⟩
      · rw [p2] at q
        cases q
theorem FV_fb (hF : FB rp W W2) (hb : rp + 1 < 2281) (h0 : rp ≠ 0) : FV S rp W W2 R R := ⟨fun x k _ _ _ q3 q4 => hF x k q3 q4, fun _ _ _ => rfl, ⟨rfl, rfl, hF.o (by decide) (by decide)⟩, fun c k c0 _ _ => hF c k (by omega) (by omega), by rw [hF 0 0 (by omega) (by omega)]; exact Int.le_refl _, fun _ => Or.inl rfl⟩
/-- a place of an own object is written -/
theorem FV_own (hb : S ≤ b ∧ b < S + 294) (h0 : 0 < S ∧ S + 294 ≤ 2372) (hk : ¬ (b = S ∧ k = 2235)) : FV S rp W (rU W b k v) R R := ⟨fun x j _ q _ _ _ => rU_f (by omega), fun _ _ _ => rfl, ⟨rfl, rfl, if_neg (fun q => hk ⟨q.1.symm, q.2.symm⟩)⟩, fun c j c0 _ _ => rU_f (by omega), by rw [rU_f (by omega)]; exact Int.le_refl _, fun _ => Or.inl rfl⟩
theorem FV_ref (hb : S ≤ b ∧ b < S + 294) (hk : ¬ (b = S ∧ (k = 2233 ∨ k = 2234))) (hk2 : k ≠ 2267) : FV S rp W W R (oU R b k r) := ⟨fun _ _ _ _ _ _ _ => rfl, fun x j q => oU_f (by omega), ⟨if_neg (fun q => hk ⟨q.1.symm, Or.inl q.2.symm⟩), if_neg (fun q => hk ⟨q.1.symm, Or.inr q.2.symm⟩), rfl⟩, fun _ _ _ _ _ => rfl, Int.le_refl _, fun x => Or.inl (oU_j (Ne.symm hk2))⟩
theorem CT.fv (h : CT K W R) (hc : W2 0 0 = W 0 0) (hc1 : W2 0 1 = W 0 1) (hr : ∀ b, R2 b 2267 = R b 2267) : CT K W2 R2 := by
  obtain ⟨a1, a2, a3, a4⟩ := h
  have e : ∀ m, cnC R2 m = cnC R m := fun m => by
    induction m with
    | zero => rfl
    | succ m ih =>
      show cnC R2 m + (if R2 (nA m) 2267 = none then 0 else 1) = cnC R m + (if R (nA m) 2267 = none then 0 else 1)
      rw [ih, hr]
  refine ⟨fun b c hb => ?_, fun b b2 c h1 h2 => ?_, ?_, ?_⟩
  · rw [hr] at hb
    rw [hc]
    exact a1 b c hb
  · rw [hr] at h1 h2
    exact a2 b b2 c h1 h2
  · rw [hc, e]; exact a3
  · rw [hc1, e]; exact a4
theorem VS.rng (h : VS S s) : 0 < S ∧ S + 294 ≤ 2372 ∧ 1293 ≤ S ∧ S ≤ 1881 := by
  have := h.1
  have := h.2
  omega
theorem FV_w (h : FV S 0 W W2 R R2) : FV S rp W W2 R R2 := ⟨fun x k q0 q1 q2 _ _ => h.1 x k q0 q1 q2 (by omega) (by omega), h.2⟩
theorem FV_by {N : Nat} (hF : FV S rp W W2 R R2) (hB : BY W b N l) (ho : b + 1 < S ∨ S + 294 ≤ b) (hne : b ≠ rp) : BY W2 b N l := by
  have hlt := hB.lt
  obtain ⟨a1, a2, a3, a4, a5, a6, a7⟩ := hB
  have h0 := (tX_o a1).1
  refine ⟨a1, a2, a3, (hF.1 b 2065 h0 (by omega) (by omega) (fun q => hne q.1) (by omega)).trans a4, a5, a6, fun i i0 i1 => ?_⟩
  rw [hF.1 (b + 1) i (by omega) (by omega) (by omega) (by omega) (by omega)]
  exact a7 i i0 i1
end XSV
