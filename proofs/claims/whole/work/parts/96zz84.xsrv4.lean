/-! The class's servers: a message served. -/
/-- all three servers, the rows of bytes, the keys and the screen -/
def XQ (K : Int) (W : qR) (R : rR) (P : qR) : Prop := (∀ s : Int, 0 ≤ s → s < 3 → ∃ (ord : List Int) (t : Nat → Nat), XV W R P (1293 + 294 * s.toNat) s ord t) ∧ CT K W R ∧ SCR W P
/-- what a message leaves: all but the servers, the answer's row, the messages kept, the keys, the screen, who is to end -/
def FVS (rp : Nat) (W W2 : qR) (R R2 : rR) : Prop := (∀ (x : Nat) (k : Int), 128 ≤ x → (x < 1293 ∨ 2175 ≤ x) → x < 2372 → ¬ (x = rp ∧ k = 2065) → ¬ (x = rp + 1 ∧ k < 2000) → ¬ ioP x k → ¬ (149 ≤ x ∧ x < 229) → ¬ (x = 129 ∧ (k = 2035 ∨ k = 2036)) → W2 x k = W x k) ∧ ∀ (x : Nat) (k : Int), (x < 1293 ∨ 2175 ≤ x) → R2 x k = R x k
section XSRVD
variable {fb : Bool} {d S rp mb M : Nat} {σ0 σ : hM} {W W2 W3 P Q : qR} {R R2 R3 : rR} {k z s e w K T U c tg : Int} {ord l l2 L : List Int} {t : Nat → Nat}
theorem FVS_rfl : FVS rp W W R R := ⟨fun _ _ _ _ _ _ _ _ _ _ => rfl, fun _ _ _ => rfl⟩
theorem FVS_tr (h1 : FVS rp W W2 R R2) (h2 : FVS rp W2 W3 R2 R3) : FVS rp W W3 R R3 := ⟨fun x k a b c d e f g i => (h2.1 x k a b c d e f g i).trans (h1.1 x k a b c d e f g i), fun x k a => (h2.2 x k a).trans (h1.2 x k a)⟩
theorem FVS_x (hS : VS S s) (h : FVX S rp W W2 R R2) : FVS rp W W2 R R2 := by
  have hrg := hS.rng
  have hS2 := hS.2
  have hsr := hS.1
  exact ⟨fun x k a b c d e f g i => h.1 x k a (by omega) c d e f, fun x k a => h.2.1 x k (by omega)⟩
theorem FVS_fb (h : FB rp W W2) : FVS rp W W2 R R := ⟨fun x k _ _ _ d e _ _ _ => h x k d e, fun _ _ _ => rfl⟩
theorem FVS_fn (h : FN W W2) : FVS rp W W2 R R := ⟨fun x k _ _ _ _ _ _ g i => h x k g i, fun _ _ _ => rfl⟩
/-- a server's own numbers: who asks, the message, the answer -/
def svW (W : qR) (S : Nat) (c : Int) : qR := rU W S 2235 c
def svR (R : rR) (S mb rp : Nat) : rR := oU (oU R S 2233 (some mb)) S 2234 (some rp)
theorem svR_o {x : Nat} {k : Int} (h : x ≠ S ∨ (k ≠ 2233 ∧ k ≠ 2234)) : svR R S mb rp x k = R x k := by
  unfold svR oU
  rw [if_neg (by omega), if_neg (by omega)]
theorem svR_at : svR R S mb rp S 2233 = some mb ∧ svR R S mb rp S 2234 = some rp := by
  unfold svR
  exact ⟨(oU_j (by decide)).trans oU_s, oU_s⟩
theorem XV.sv {S2 : Nat} {s2 : Int} (h : XV W R P S2 s2 ord t) (h6 : ∀ n, s2 < 2 → isN P s2 n → P 2297 (64 * s2 + n) ≤ 600) (hx : tX S = some (Sum.inl 7)) : XV (svW W S c) (svR R S mb rp) P S2 s2 ord t := by
  have hs := tX_o hx
  unfold svW
  have hml : ∀ n, n ∈ ord → isN P s2 n := fun n hn => (h.1.1.1 n).mp hn
  have r1 : ∀ (x : Nat) (k : Int), k ≠ 2233 → k ≠ 2234 → svR R S mb rp x k = R x k := fun x k q1 q2 => svR_o (Or.inr ⟨q1, q2⟩)
  refine ⟨?_, ?_, ?_, fun i i0 i1 => ?_⟩
  · have h1 := ((h.1.key (b := S) (v := c) (k := 2235) ⟨by decide, by decide, by decide, Or.inl (by decide)⟩).ref (b := S) (r := some mb) (k := 2233) (by decide) (by decide)).ref (b := S) (r := some rp) (k := 2234) (by decide) (by decide)
    exact h1
  · intro i i0 i1
    have g := (h.2.1.key (b := S) (v := c) (k := 2235) (Or.inl (by decide))) i i0 i1
    unfold FDu at g ⊢
    rw [r1 _ _ (by decide) (by decide)]
    exact g
  · obtain ⟨z1, z2, z3, z4⟩ := h.2.2.1
    unfold SZ
    rw [rU_j (by decide), rU_j (by decide), rU_j (by decide), rU_j (by decide), rU_j (by decide)]
    exact ⟨z1, z2, z3, z4⟩
  · exact (h.2.2.2 i i0 i1).fr (rU_j (by decide)) (r1 _ _ (by decide) (by decide)) (r1 _ _ (by decide) (by decide)) (fun c _ c2 k _ _ => rU_f (by omega)) (fun q => h6 _ q (hml _ (lg_mem i0 i1)))
theorem CT.sv (h : CT K W R) (hx : tX S = some (Sum.inl 7)) : CT K (svW W S c) (svR R S mb rp) := by
  have hs := tX_o hx
  exact h.fv (rU_f (by omega)) (rU_f (by omega)) (fun _ => svR_o (Or.inr ⟨by decide, by decide⟩))
theorem SCR.sv (h : SCR W P) (hx : tX S = some (Sum.inl 7)) (hne : S ≠ 130 ∧ S ≠ 132) : SCR (svW W S c) P := by
  obtain ⟨a1, a2, a3⟩ := h
  exact ⟨a1.key (by decide) (by decide), a2.key (by decide) (by decide), fun p p0 p1 => (rU_j (by decide)).trans (a3 p p0 p1)⟩
theorem PST.sv {p : Int} {a : Nat} (h : PST W R P p a) (hx : tX S = some (Sum.inl 7)) : PST (svW W S c) (svR R S mb rp) P p a := by
  have r1 : ∀ (x : Nat) (k : Int), k ≠ 2233 → k ≠ 2234 → svR R S mb rp x k = R x k := fun x k q1 q2 => svR_o (Or.inr ⟨q1, q2⟩)
  obtain ⟨a1, a2, ⟨a3, a4⟩, ⟨g, b1, b2, b3, b4⟩, a5⟩ := h
  refine ⟨a1, a2, ⟨(rU_j (by decide)).trans a3, a4⟩, ⟨g, (r1 _ _ (by decide) (by decide)).trans b1, b2, (rU_j (by decide)).trans b3, b4⟩, fun k k0 k1 => ?_⟩
  rw [r1 _ _ (by omega) (by omega)]
  exact a5 k k0 k1
end XSRVD
