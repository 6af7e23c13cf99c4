/-! The class's servers: one file looks otherwise. -/
def chgL : List Nat := [2292, 2293, 2296, 2298, 2299]
section XCHG
variable {fb : Bool} {d S a c0 rp mb m0 N M fa pr bb pa : Nat} {σ0 σ σ' : hM} {W W1 W2 W3 P Q : qR} {R R1 R2 : rR} {b i k x z v s e w f u p g ln K T U C c y off cnt n md tb j m : Int} {ord l l2 nm lo D L li : List Int} {t : Nat → Nat} {F : Int → Int}
theorem fid_chg {f : Nat} (h : fidL.elem f = true) : chgL.elem f = false := by
  cases e : chgL.elem f
  · rfl
  · exfalso
    have := List.elem_iff.mp e
    simp only [chgL, List.mem_cons, List.not_mem_nil, or_false] at this
    rcases this with rfl | rfl | rfl | rfl | rfl <;> exact absurd h (by decide)
theorem FD.fr2 (h : FD W R P S s ord t) (hW : ∀ (x : Nat) (k : Int), S + 198 ≤ x → x < S + 294 → W2 x k = W x k) (hR : ∀ (x : Nat) (k : Int), S ≤ x → x < S + 294 → R2 x k = R x k) : FD W2 R2 P S s ord t := fun i h0 h1 => by
  obtain ⟨a1, a2, a3⟩ := h i h0 h1
  have w : ∀ k : Int, W2 (S + 198 + i.toNat) k = W (S + 198 + i.toNat) k := fun k => hW _ _ (by omega) (by omega)
  have hr : ∀ k : Int, R2 (S + 198 + i.toNat) k = R (S + 198 + i.toNat) k := fun k => hR _ _ (by omega) (by omega)
  rw [w, hr]
  refine ⟨a1, fun q => ?_, a3⟩
  have := a2 q
  unfold FDu at this ⊢
  rw [w, w, w, w, w, w, w, hr]
  exact this
theorem XV.alt (h : XV W R P S s ord t) (hS : VS S s) (hs : s < 2) (h6 : ∀ n, s < 2 → isN P s n → P 2297 (64 * s + n) ≤ 600) (hi : 0 ≤ i ∧ i < ord.length) (ha : S + 6 + 3 * t i.toNat = a) (hn : lg ord i = n) (hW : ∀ (x : Nat) (k : Int), ¬ (x = a ∧ 2260 ≤ k ∧ k ≤ 2266) → x ≠ a + 1 → x ≠ a + 2 → W2 x k = W x k) (hQ : ∀ (f : Nat) (k : Int), chgL.elem f = false → Q f k = P f k) (hQo : ∀ (f : Nat) (k : Int), f ≠ 2298 → k ≠ 64 * s + n → Q f k = P f k) (hQn : ∀ m k : Int, m ≠ n → 0 ≤ k → k < 12 → Q 2298 (12 * (64 * s + m) + k) = P 2298 (12 * (64 * s + m) + k)) (hN : ND W2 Q a s n) : XV W2 R Q S s ord t := by
  have hrg := hS.rng
  have hl := h.1.1.2.1
  have ti := h.1.2.1.1 i.toNat (by omega)
  have hns : ∀ m ∈ ord, qNs P s m ≤ 12 := fun m hm => by
    obtain ⟨b', ix, hb', hix, hbix, hlx, htx, hND⟩ := h.fnode ((h.1.1.1 m).mp hm)
    have h1 := hND.2.2.2.2.2.2.2.2.1.2.2.2.2.1
    have h2 := hND.2.2.2.2.2.2.2.2.2
    omega
  refine ⟨h.1.one hi ha (fun x k x0 x1 q1 q2 q3 q4 => hW x k (by omega) q2 q3) (fun _ => rfl) (fun _ => rfl) (fun m => isN_tree hs (fun k => hQ _ _ rfl)) (fun m hm hne => ?_) ?_ ?_ (by rw [hn]; exact hN), (h.2.1.fr2 (fun x k x0 x1 => hW x k (by omega) (by omega) (by omega)) (fun _ _ _ _ => rfl)).pp (fun f k hf => hQ f k (fid_chg hf)), ?_, fun i2 i0 i1 => ?_⟩
  · rw [hn] at hne
    exact EN_tree hs (fun f hf => by
      by_cases q : f = 2298
      · rw [q] at hf
        exact absurd hf (by decide)
      · exact hQo f _ q (by omega)) (fun k k0 k1 => hQn m k hne k0 (by have := hns m hm; omega))
  · unfold qPath
    rw [if_pos hs, if_pos hs, hQ _ _ rfl]
  · unfold qUp
    rw [if_pos hs, if_pos hs, hQ _ _ rfl]
  · obtain ⟨z1, z2, z3, z4⟩ := h.2.2.1
    unfold SZ
    rw [hW _ _ (by omega) (by omega) (by omega), hW _ _ (by omega) (by omega) (by omega), hW _ _ (by omega) (by omega) (by omega), hW _ _ (by omega) (by omega) (by omega), hW _ _ (by omega) (by omega) (by omega), hQ _ _ rfl, hQ _ _ rfl, hQ _ _ rfl, hQ _ _ rfl]
    exact ⟨z1, z2, z3, z4⟩
  · have t2 := h.1.2.1.1 i2.toNat (by omega)
    exact ((h.2.2.2 i2 i0 i1).fr (hW _ _ (by omega) (by omega) (by omega)) rfl rfl (fun c _ c2 k k0 k1 => hW c k (by omega) (by omega) (by omega)) (fun q => h6 _ q ((h.1.1.1 _).mp (lg_mem i0 i1)))).pp (fun _ => hQ _ _ rfl) (fun _ _ _ _ => hQ _ _ rfl)
end XCHG
