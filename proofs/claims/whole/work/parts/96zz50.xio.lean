/-! The class's servers: the screen, the keys and the processes that are to end. -/
/-- the keys pressed, the screen, who is to end -/
def SCR (W P : qR) : Prop := BY W 130 200 (seg (P 2314) 0 (P 2281 39).toNat) ∧ BY W 132 1000 (seg (P 2315) 0 (P 2281 41).toNat) ∧ ∀ p : Int, 0 ≤ p → p < 8 → W (295 + 125 * p.toNat) 2198 = P 2321 p
/-- a place of these -/
def ioP (x : Nat) (k : Int) : Prop := (x = 130 ∧ k = 2065) ∨ (x = 131 ∧ k < 2000) ∨ (x = 132 ∧ k = 2065) ∨ (x = 133 ∧ k < 2000) ∨ k = 2198
/-- what a server's work leaves, these aside -/
def FVX (S rp : Nat) (W W2 : qR) (R R2 : rR) : Prop := (∀ (x : Nat) (k : Int), 128 ≤ x → (x < S ∨ S + 294 ≤ x) → x < 2372 → ¬ (x = rp ∧ k = 2065) → ¬ (x = rp + 1 ∧ k < 2000) → ¬ ioP x k → W2 x k = W x k) ∧ (∀ (x : Nat) (k : Int), (x < S ∨ S + 294 ≤ x) → R2 x k = R x k) ∧ (R2 S 2233 = R S 2233 ∧ R2 S 2234 = R S 2234 ∧ W2 S 2235 = W S 2235) ∧ (∀ (c : Nat) (k : Int), 2372 ≤ c → (c : Int) < W 0 0 → (∀ b, S ≤ b → b < S + 294 → R b 2267 ≠ some c) → W2 c k = W c k) ∧ W 0 0 ≤ W2 0 0 ∧ ∀ b, R2 b 2267 = R b 2267 ∨ (R b 2267 = none ∧ ∃ c : Nat, R2 b 2267 = some c ∧ W 0 0 ≤ (c : Int))
abbrev XT (σ0 : hM) (K : Int) (W : qR) (R : rR) (S rp : Nat) (s e : Int) (Q : qR) (l2 : List Int) : Option AV → hM → Prop := fun r σ' => r = some (vI e) ∧ ∃ W2 R2 ord2 t2 l3, PX σ0 W2 R2 σ' ∧ BY W2 rp 300 l3 ∧ (e = 0 → l3 = l2) ∧ XV W2 R2 Q S s ord2 t2 ∧ CT K W2 R2 ∧ FVX S rp W W2 R R2 ∧ SCR W2 Q
section XIO
variable {fb : Bool} {d S a b c c0 rp mb m0 N M fa pr : Nat} {σ0 σ σ' : hM} {W W1 W2 W3 P Q : qR} {R R1 R2 : rR} {i j k x z v s e w f u p g ln K T U C y off cnt : Int} {ord l l2 nm lo D L li : List Int} {t : Nat → Nat} {r : Option AV} {F : Int → Int} {n : Nat}
theorem FVX_of (h : FV S rp W W2 R R2) : FVX S rp W W2 R R2 := ⟨fun x k q0 q1 q2 q3 q4 _ => h.1 x k q0 q1 q2 q3 q4, h.2⟩
theorem FVX_tr (h1 : FVX S rp W W1 R R1) (h2 : FVX S rp W1 W2 R1 R2) : FVX S rp W W2 R R2 := by
  obtain ⟨a1, a2, a3, a4, a5, a6⟩ := h1
  obtain ⟨b1, b2, b3, b4, b5, b6⟩ := h2
  refine ⟨fun x k q0 q1 q2 q3 q4 q5 => (b1 x k q0 q1 q2 q3 q4 q5).trans (a1 x k q0 q1 q2 q3 q4 q5), fun x k q => (b2 x k q).trans (a2 x k q), ⟨b3.1.trans a3.1, b3.2.1.trans a3.2.1, b3.2.2.trans a3.2.2⟩, fun c k c0 c1 c2 => (b4 c k c0 (by omega) (fun b h0 h1 h2 => ?_)).trans (a4 c k c0 c1 c2), Int.le_trans a5 b5, fun b => ?_⟩
  · rcases a6 b with q | ⟨q, c', q2, q3⟩
    · rw [q] at h2
      exact c2 b h0 h1 h2
    · rw [q2] at h2
      cases h2
      omega
  · rcases b6 b with q | ⟨q, c', q2, q3⟩
    · rw [q]
      exact a6 b
    · rcases a6 b with p1 | ⟨p1, c2, p2, p3⟩
      · rw [p1] at q
        exact Or.inr ⟨q, c', q2, by omega⟩
      · rw [p2] at q
        cases q
/-- only these are written -/
theorem FVX_io (hS : 0 < S ∧ 1171 ≤ S ∧ S + 294 ≤ 2372) (h : ∀ (x : Nat) (k : Int), ¬ ((x = 130 ∧ k = 2065) ∨ (x = 131 ∧ k < 2000) ∨ (x = 132 ∧ k = 2065) ∨ (x = 133 ∧ k < 2000) ∨ (295 ≤ x ∧ x < 1171 ∧ k = 2198)) → W2 x k = W x k) : FVX S rp W W2 R R := by
  refine ⟨fun x k _ _ _ _ _ q => h x k (fun c => q ?_), fun _ _ _ => rfl, ⟨rfl, rfl, h _ _ (by omega)⟩, fun c k c0 _ _ => h _ _ (by omega), by rw [h 0 0 (by omega)]; exact Int.le_refl _, fun _ => Or.inl rfl⟩
  unfold ioP
  omega
theorem XT.tr (hF : FV S rp W W1 R R1) (h : XT σ0 K W1 R1 S rp s e Q L r σ') : XT σ0 K W R S rp s e Q L r σ' := by
  obtain ⟨h1, W3, R3, o3, t3, l3, g1, g2, g3, g4, g5, g6, g7⟩ := h
  exact ⟨h1, W3, R3, o3, t3, l3, g1, g2, g3, g4, g5, FVX_tr (FVX_of hF) g6, g7⟩
theorem SCR.fv (h : SCR W P) (hS : VS S s) (hF : FV S rp W W2 R R2) (h1 : rp ≠ 130) (h2 : rp ≠ 132) : SCR W2 P := by
  have hrg := hS.rng
  obtain ⟨a1, a2, a3⟩ := h
  have hS2 := hS.2
  have hs := hS.1
  exact ⟨FV_by hF a1 (Or.inl (by omega)) (Ne.symm h1), FV_by hF a2 (Or.inl (by omega)) (Ne.symm h2), fun p p0 p1 => (hF.1 _ _ (by omega) (Or.inl (by omega)) (by omega) (fun c => absurd c.2 (by decide)) (fun c => absurd c.2 (by decide))).trans (a3 p p0 p1)⟩
theorem SCR.rows (h : SCR W P) (h1 : ∀ k, Q 2314 k = P 2314 k) (h2 : ∀ k, Q 2315 k = P 2315 k) (h3 : ∀ k, Q 2321 k = P 2321 k) (h4 : Q 2281 39 = P 2281 39) (h5 : Q 2281 41 = P 2281 41) : SCR W Q := by
  obtain ⟨a1, a2, a3⟩ := h
  refine ⟨?_, ?_, fun p p0 p1 => (a3 p p0 p1).trans (h3 p).symm⟩
  · rw [h4, show Q 2314 = P 2314 from funext h1]
    exact a1
  · rw [h5, show Q 2315 = P 2315 from funext h2]
    exact a2
theorem XT_of (h : XS σ0 K W R S rp s e Q L r σ') (hS : VS S s) (hIO : SCR W Q) (h1 : rp ≠ 130) (h2 : rp ≠ 132) : XT σ0 K W R S rp s e Q L r σ' := by
  obtain ⟨g0, W3, R3, o3, t3, l3, g1, g2, g3, g4, g5, g6⟩ := h
  exact ⟨g0, W3, R3, o3, t3, l3, g1, g2, g3, g4, g5, FVX_of g6, hIO.fv hS g6 h1 h2⟩
theorem XV.rest (h : XV W R P S s ord t) (hq : ∀ (f : Nat) (k : Int), f ≠ 2314 → f ≠ 2315 → f ≠ 2321 → f ≠ 2281 → Q f k = P f k) : XV W R Q S s ord t := by
  have hfe : FE Q P := fun f k hf => hq f k (fun c => by rw [c] at hf; exact absurd hf (by decide)) (fun c => by rw [c] at hf; exact absurd hf (by decide)) (fun c => by rw [c] at hf; exact absurd hf (by decide)) (fun c => by rw [c] at hf; exact absurd hf (by decide))
  refine ⟨h.1.fe hfe, h.2.1.pp (fun f k hf => hq f k (fun c => by rw [c] at hf; exact absurd hf (by decide)) (fun c => by rw [c] at hf; exact absurd hf (by decide)) (fun c => by rw [c] at hf; exact absurd hf (by decide)) (fun c => by rw [c] at hf; exact absurd hf (by decide))), ?_, fun i i0 i1 => (h.2.2.2 i i0 i1).pp (fun _ => hq _ _ (by decide) (by decide) (by decide) (by decide)) (fun _ _ _ _ => hq _ _ (by decide) (by decide) (by decide) (by decide))⟩
  obtain ⟨z1, z2, z3, z4⟩ := h.2.2.1
  unfold SZ
  rw [hq _ _ (by decide) (by decide) (by decide) (by decide), hq _ _ (by decide) (by decide) (by decide) (by decide), hq _ _ (by decide) (by decide) (by decide) (by decide), hq _ _ (by decide) (by decide) (by decide) (by decide)]
  exact ⟨z1, z2, z3, z4⟩
/-- the first keys are read -/
theorem gIn_seg (h : 0 ≤ k ∧ k ≤ P 2281 39) : seg (gIn P k 2314) 0 (gIn P k 2281 39).toNat = (seg (P 2314) 0 (P 2281 39).toNat).drop k.toNat := by
  have e1 : gIn P k 2281 39 = P 2281 39 - k := by
    unfold gIn
    rw [gSh_f (by decide), rU_s]
  rw [e1]
  have hd : ∀ (m : Nat) (o : Int) (q : Nat), (seg (P 2314) o (q + m)).drop q = seg (P 2314) (o + q) m := by
    intro m o q
    induction q generalizing o with
    | zero => rw [Nat.zero_add, List.drop_zero, show o + ((0 : Nat) : Int) = o by omega]
    | succ q ih =>
      rw [show q + 1 + m = (q + m) + 1 by omega, seg_cons, List.drop_succ_cons, ih (o + 1), show o + 1 + (q : Int) = o + ((q + 1 : Nat) : Int) by omega]
  rw [show (P 2281 39).toNat = k.toNat + (P 2281 39 - k).toNat by omega, hd, Int.zero_add]
  refine seg_seg.mpr (fun j j0 j1 => ?_)
  unfold gIn
  rw [Int.zero_add]
  show (if _ then _ else _) = _
  rw [if_pos ⟨rfl, j0, by omega⟩, rU_f (by decide)]
  congr 1
  omega
theorem gIn_f {g : Nat} {n : Int} (h1 : g ≠ 2314) (h2 : g ≠ 2281) : gIn P n g k = P g k := by
  unfold gIn
  rw [gSh_f h1, rU_f h2]
theorem SCR.keys (h : SCR W P) (hk : 0 ≤ k ∧ k ≤ P 2281 39) (hI : BY W2 130 200 ((seg (P 2314) 0 (P 2281 39).toNat).drop k.toNat)) (hF : ∀ (x : Nat) (j : Int), (x = 132 ∨ x = 133 ∨ (295 ≤ x ∧ x < 1171 ∧ j = 2198)) → W2 x j = W x j) : SCR W2 (gIn P k) := by
  obtain ⟨a1, ⟨y1, y2, y3, y4, y5, y6, y7⟩, a3⟩ := h
  refine ⟨by rw [gIn_seg hk]; exact hI, ?_, fun p p0 p1 => ?_⟩
  · have e1 : gIn P k 2281 41 = P 2281 41 := by
      unfold gIn
      rw [gSh_f (by decide), rU_k (by decide)]
    rw [e1, show gIn P k 2315 = P 2315 from funext (fun j => gIn_f (by decide) (by decide))]
    exact ⟨y1, y2, y3, (hF _ _ (Or.inl rfl)).trans y4, y5, y6, fun i i0 i1 => (hF _ _ (Or.inr (Or.inl rfl))).trans (y7 i i0 i1)⟩
  · rw [gIn_f (by decide) (by decide), hF _ _ (Or.inr (Or.inr ⟨by omega, by omega, rfl⟩))]
    exact a3 p p0 p1
end XIO
