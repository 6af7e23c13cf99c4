/-! The class's servers: a file's mode, version, name, last changer. -/
section XCHGB
variable {fb : Bool} {d S a c0 rp mb m0 N M fa pr bb pa f0 : Nat} {σ0 σ σ' : hM} {W W1 W2 W3 P Q : qR} {R R1 R2 : rR} {b i k x z v s e w f u p g ln K T U C c y off cnt n md tb j m : Int} {ord l l2 nm lo D L li : List Int} {t : Nat → Nat} {F : Int → Int}
theorem q_same (hs : s < 2) (h : ∀ (f : Nat) (k : Int), f ≠ f0 → Q f k = P f k) : (f0 ≠ 2293 → qMode Q s n = qMode P s n) ∧ (f0 ≠ 2291 → qPath Q s n = qPath P s n) ∧ (f0 ≠ 2292 → qVer Q s n = qVer P s n) ∧ (f0 ≠ 2294 → qUid Q s n = qUid P s n) ∧ (f0 ≠ 2295 → qGid Q s n = qGid P s n) ∧ (f0 ≠ 2296 → qMuid Q s n = qMuid P s n) ∧ (f0 ≠ 2298 → f0 ≠ 2299 → qNm Q s n = qNm P s n ∧ qNs Q s n = qNs P s n) := by
  refine ⟨fun q => ?_, fun q => ?_, fun q => ?_, fun q => ?_, fun q => ?_, fun q => ?_, fun q q2 => ?_⟩
  · unfold qMode
    rw [if_pos hs, if_pos hs, h _ _ (Ne.symm q)]
  · unfold qPath
    rw [if_pos hs, if_pos hs, h _ _ (Ne.symm q)]
  · unfold qVer
    rw [if_pos hs, if_pos hs, h _ _ (Ne.symm q)]
  · unfold qUid
    rw [if_pos hs, if_pos hs, h _ _ (Ne.symm q)]
  · unfold qGid
    rw [if_pos hs, if_pos hs, h _ _ (Ne.symm q)]
  · unfold qMuid
    rw [if_pos hs, if_pos hs, h _ _ (Ne.symm q)]
  · have e : qNs Q s n = qNs P s n := by
      unfold qNs
      rw [if_pos hs, if_pos hs, h _ _ (Ne.symm q2)]
    refine ⟨?_, e⟩
    unfold qNm
    rw [e]
    exact seg_seg.mpr (fun j _ _ => by
      unfold qNb
      rw [if_pos hs, if_pos hs, h _ _ (Ne.symm q)])
theorem XV.mod1 (h : XV W R P S s ord t) (hS : VS S s) (hs : s < 2) (h6 : ∀ n, s < 2 → isN P s n → P 2297 (64 * s + n) ≤ 600) (hi : 0 ≤ i ∧ i < ord.length) (ha : S + 6 + 3 * t i.toNat = a) (hn : lg ord i = n) (hm : -2147483648 ≤ m ∧ m ≤ 2147483647) (hsg : 0 ≤ m ↔ 0 ≤ qMode P s n) : XV (rU W a 2262 m) R (rU P 2293 (64 * s + n) m) S s ord t := by
  have hrg := hS.rng
  have hND := h.1.2.2.2.1 i hi.1 hi.2
  rw [ha, hn] at hND
  have hq : ∀ (f : Nat) (k : Int), f ≠ 2293 → rU P 2293 (64 * s + n) m f k = P f k := fun f k q => rU_f q
  obtain ⟨-, e2, e3, e4, e5, e6, e7⟩ := q_same (n := n) hs hq
  have e1 : qMode (rU P 2293 (64 * s + n) m) s n = m := by
    unfold qMode
    rw [if_pos hs, rU_s]
  have e8 : qLen (rU P 2293 (64 * s + n) m) s n = qLen P s n := by
    unfold qLen
    rw [e1, ifc (show (s < 2 ∧ 0 ≤ m) ↔ (s < 2 ∧ 0 ≤ qMode P s n) by rw [hsg]), rU_f (by decide)]
  refine h.alt hS hs h6 hi ha hn (fun x k q _ _ => if_neg (fun c => q (by omega))) (fun f k hf => hq f k (fun c => by rw [c] at hf; exact absurd hf (by decide))) (fun f k _ q => if_neg (fun c => q c.2)) (fun _ _ _ _ _ => hq _ _ (by decide)) ?_
  obtain ⟨b1, b2, b3, b4, b5, b6, b7, b8, b9, b10⟩ := hND
  unfold ND
  rw [e1, e2 (by decide), e3 (by decide), e4 (by decide), e5 (by decide), e6 (by decide), (e7 (by decide) (by decide)).1, (e7 (by decide) (by decide)).2, e8, rU_s, rU_k (by decide), rU_k (by decide), rU_k (by decide), rU_k (by decide), rU_k (by decide), rU_k (by decide)]
  exact ⟨b1, ⟨rfl, hm⟩, b3, b4, b5, b6, b7, b8, b9.key (by decide) (by decide), b10⟩
theorem XV.ver1 (h : XV W R P S s ord t) (hS : VS S s) (hs : s < 2) (h6 : ∀ n, s < 2 → isN P s n → P 2297 (64 * s + n) ≤ 600) (hi : 0 ≤ i ∧ i < ord.length) (ha : S + 6 + 3 * t i.toNat = a) (hn : lg ord i = n) (hv : P 2292 (64 * s + n) = v) (hv2 : 0 ≤ v ∧ v < 2147483647) : XV (rU W a 2261 (v + 1)) R (rU P 2292 (64 * s + n) (v + 1)) S s ord t := by
  have hrg := hS.rng
  have hND := h.1.2.2.2.1 i hi.1 hi.2
  rw [ha, hn] at hND
  have hq : ∀ (f : Nat) (k : Int), f ≠ 2292 → rU P 2292 (64 * s + n) (v + 1) f k = P f k := fun f k q => rU_f q
  obtain ⟨e1, e2, -, e4, e5, e6, e7⟩ := q_same (n := n) hs hq
  have e3 : qVer (rU P 2292 (64 * s + n) (v + 1)) s n = v + 1 := by
    unfold qVer
    rw [if_pos hs, rU_s]
  have e8 : qLen (rU P 2292 (64 * s + n) (v + 1)) s n = qLen P s n := by
    unfold qLen
    rw [e1 (by decide), rU_f (by decide)]
  refine h.alt hS hs h6 hi ha hn (fun x k q _ _ => if_neg (fun c => q (by omega))) (fun f k hf => hq f k (fun c => by rw [c] at hf; exact absurd hf (by decide))) (fun f k _ q => if_neg (fun c => q c.2)) (fun _ _ _ _ _ => hq _ _ (by decide)) ?_
  obtain ⟨b1, b2, b3, b4, b5, b6, b7, b8, b9, b10⟩ := hND
  unfold ND
  rw [e1 (by decide), e2 (by decide), e3, e4 (by decide), e5 (by decide), e6 (by decide), (e7 (by decide) (by decide)).1, (e7 (by decide) (by decide)).2, e8, rU_s, rU_k (by decide), rU_k (by decide), rU_k (by decide), rU_k (by decide), rU_k (by decide), rU_k (by decide)]
  exact ⟨b1, b2, b3, ⟨rfl, by omega, by omega⟩, b5, b6, b7, b8, b9.key (by decide) (by decide), b10⟩
theorem XV.mui1 (h : XV W R P S s ord t) (hS : VS S s) (hs : s < 2) (h6 : ∀ n, s < 2 → isN P s n → P 2297 (64 * s + n) ≤ 600) (hi : 0 ≤ i ∧ i < ord.length) (ha : S + 6 + 3 * t i.toNat = a) (hn : lg ord i = n) (hu : 0 ≤ u ∧ u ≤ 3) : XV (rU W a 2265 u) R (rU P 2296 (64 * s + n) u) S s ord t := by
  have hrg := hS.rng
  have hND := h.1.2.2.2.1 i hi.1 hi.2
  rw [ha, hn] at hND
  have hq : ∀ (f : Nat) (k : Int), f ≠ 2296 → rU P 2296 (64 * s + n) u f k = P f k := fun f k q => rU_f q
  obtain ⟨e1, e2, e3, e4, e5, -, e7⟩ := q_same (n := n) hs hq
  have e6 : qMuid (rU P 2296 (64 * s + n) u) s n = u := by
    unfold qMuid
    rw [if_pos hs, rU_s]
  have e8 : qLen (rU P 2296 (64 * s + n) u) s n = qLen P s n := by
    unfold qLen
    rw [e1 (by decide), rU_f (by decide)]
  refine h.alt hS hs h6 hi ha hn (fun x k q _ _ => if_neg (fun c => q (by omega))) (fun f k hf => hq f k (fun c => by rw [c] at hf; exact absurd hf (by decide))) (fun f k _ q => if_neg (fun c => q c.2)) (fun _ _ _ _ _ => hq _ _ (by decide)) ?_
  obtain ⟨b1, b2, b3, b4, b5, b6, b7, b8, b9, b10⟩ := hND
  unfold ND
  rw [e1 (by decide), e2 (by decide), e3 (by decide), e4 (by decide), e5 (by decide), e6, (e7 (by decide) (by decide)).1, (e7 (by decide) (by decide)).2, e8, rU_s, rU_k (by decide), rU_k (by decide), rU_k (by decide), rU_k (by decide), rU_k (by decide), rU_k (by decide)]
  exact ⟨b1, b2, b3, b4, b5, b6, ⟨rfl, hu⟩, b8, b9.key (by decide) (by decide), b10⟩
theorem XV.nam1 (h : XV W R P S s ord t) (hS : VS S s) (hs : s < 2) (h6 : ∀ n, s < 2 → isN P s n → P 2297 (64 * s + n) ≤ 600) (hi : 0 ≤ i ∧ i < ord.length) (ha : S + 6 + 3 * t i.toNat = a) (hn : lg ord i = n) (hF : FB (a + 1) W W2) (hB : BY W2 (a + 1) 12 nm) : XV W2 R (gName P s n nm) S s ord t := by
  have hrg := hS.rng
  have hND := h.1.2.2.2.1 i hi.1 hi.2
  rw [ha, hn] at hND
  have hlen := hB.2.2.2.2.1
  have hq : ∀ (f : Nat) (k : Int), f ≠ 2298 → f ≠ 2299 → gName P s n nm f k = P f k := fun f k q1 q2 => gName_f q1 q2
  have e1 : qMode (gName P s n nm) s n = qMode P s n := by unfold qMode; rw [if_pos hs, if_pos hs, hq _ _ (by decide) (by decide)]
  have e2 : qPath (gName P s n nm) s n = qPath P s n := by unfold qPath; rw [if_pos hs, if_pos hs, hq _ _ (by decide) (by decide)]
  have e3 : qVer (gName P s n nm) s n = qVer P s n := by unfold qVer; rw [if_pos hs, if_pos hs, hq _ _ (by decide) (by decide)]
  have e4 : qUid (gName P s n nm) s n = qUid P s n := by unfold qUid; rw [if_pos hs, if_pos hs, hq _ _ (by decide) (by decide)]
  have e5 : qGid (gName P s n nm) s n = qGid P s n := by unfold qGid; rw [if_pos hs, if_pos hs, hq _ _ (by decide) (by decide)]
  have e6 : qMuid (gName P s n nm) s n = qMuid P s n := by unfold qMuid; rw [if_pos hs, if_pos hs, hq _ _ (by decide) (by decide)]
  have e8 : qLen (gName P s n nm) s n = qLen P s n := by
    unfold qLen
    rw [e1, hq _ _ (by decide) (by decide)]
  have e9 : qNs (gName P s n nm) s n = (nm.length : Int) := by
    unfold qNs gName
    rw [if_pos hs, rU_s]
  have e7 : qNm (gName P s n nm) s n = nm := by
    unfold qNm
    rw [e9]
    exact seg_eq.mpr ⟨by omega, fun j j0 j1 => by
      unfold qNb gName
      rw [if_pos hs, Int.zero_add, rU_f (by decide), rW_i (by omega), show 12 * (64 * s + n) + j - 12 * (64 * s + n) = j by omega]⟩
  refine h.alt hS hs h6 hi ha hn (fun x k q q1 q2 => hF x k (by omega) (by omega)) (fun f k hf => hq f k (fun c => by rw [c] at hf; exact absurd hf (by decide)) (fun c => by rw [c] at hf; exact absurd hf (by decide))) (fun f k q1 q2 => ?_) (fun m k q k0 k1 => ?_) ?_
  · unfold gName
    by_cases q3 : f = 2299
    · rw [q3, rU_k q2, rW_f (by decide)]
    · rw [rU_f q3, rW_f q1]
  · unfold gName
    rw [rU_f (by decide), rW_o (by omega)]
  · obtain ⟨b1, b2, b3, b4, b5, b6, b7, b8, b9, b10⟩ := hND
    unfold ND
    rw [e1, e2, e3, e4, e5, e6, e7, e8, e9, hF.o (by decide) (by decide), hF.o (by decide) (by decide), hF.o (by decide) (by decide), hF.o (by decide) (by decide), hF.o (by decide) (by decide), hF.o (by decide) (by decide), hF.o (by decide) (by decide)]
    exact ⟨b1, b2, b3, b4, b5, b6, b7, b8, hB, rfl⟩
end XCHGB
