/-! A new row of bytes for a file of the class's servers. -/
/-- the memory with one row of 600 bytes more -/
def nwW (W : qR) : qR := fun g j => if (g : Int) = W 0 0 then 0 else rU (rU W 0 0 (W 0 0 + 1)) 0 1 (W 0 1 + 600) g j
section XNEW
variable {fb : Bool} {d y pc nx : Nat} {ls : hLs} {st : List AV} {Q : Option AV → hM → Prop} {σ0 σ : hM} {W : qR} {R : rR} {a : Nat} {k : Int}
theorem tX_big (h : 2372 ≤ a) : tX a = some (Sum.inr (1, 600)) := by
  unfold tX
  rw [if_neg (by omega), if_neg (by omega), if_neg (by omega), if_neg (by omega), if_neg (by omega), if_neg (by omega), if_neg (by omega), if_neg (by omega)]
theorem inX_big (h : 2372 ≤ a) : inX a = true := tX_in (tX_big h)
theorem nwW_o (hP : PX σ0 W R σ) (ha : (a : Int) ≠ W 0 0) (h0 : a ≠ 0) : nwW W a k = W a k := by
  unfold nwW
  rw [if_neg ha, rU_f h0, rU_f h0]
theorem PX.newB (hP : PX σ0 W R σ) : PX σ0 (nwW W) R (sN σ (Sum.inr (1, 600)) 600) := by
  have hP0 := hP
  obtain ⟨⟨h1, h2, h6⟩, h3, h4, h5, hg, h7⟩ := hP
  have hz : ((0 : Nat) : Int) ≠ W 0 0 := by rw [h2]; omega
  have ht : ∀ b, mT (sN σ (Sum.inr (1, 600)) 600) b = if b = σ.1 then some (Sum.inr (1, 600)) else mT σ b := fun b => rfl
  have hi : ∀ b j, mI (sN σ (Sum.inr (1, 600)) 600) b j = if b = σ.1 then 0 else mI σ b j := fun b j => rfl
  have hr : ∀ b j, mR (sN σ (Sum.inr (1, 600)) 600) b j = if b = σ.1 then none else mR σ b j := fun b j => rfl
  refine ⟨⟨by show 2372 ≤ σ.1 + 1; omega, ?_, ?_⟩, fun b hb hl => ?_, fun b j hb => ?_, fun b j hb hl => ?_, hg, fun b hb => ?_⟩
  · show nwW W 0 0 = ((σ.1 + 1 : Nat) : Int)
    unfold nwW
    rw [if_neg hz, rU_k (by decide), rU_s, h2]
    omega
  · show nwW W 0 1 = ((σ.2.1 + 600 : Nat) : Int)
    unfold nwW
    rw [if_neg hz, rU_s, h6]
    omega
  · rw [ht]
    have hl : b < σ.1 + 1 := hl
    by_cases q : b = σ.1
    · rw [if_pos q, q, tX_big h1]
    · rw [if_neg q]
      exact h3 b hb (by omega)
  · rw [hi]
    by_cases q : b = σ.1
    · rw [if_pos q]
      unfold nwW
      rw [if_pos (by rw [h2, q])]
    · have hb0 : b ≠ 0 := fun e => by
        rw [e] at hb
        exact absurd hb (by decide)
      rw [if_neg q, nwW_o hP0 (by rw [h2]; omega) hb0]
      exact h4 b j hb
  · rw [hr, if_neg (by omega)]
    exact h5 b j hb hl
  · have q : b ≠ σ.1 := fun e => by
      rw [e, inX_big h1] at hb
      cases hb
    rw [ht, if_neg q]
    refine ⟨(h7 b hb).1, fun j => ?_, fun j => ?_⟩
    · rw [hi, if_neg q]
      exact (h7 b hb).2.1 j
    · rw [hr, if_neg q]
      exact (h7 b hb).2.2 j
theorem z_nar (hP : PX σ0 W R σ) (T : hTab y pc = some ((30, 1, 0, []), nx)) (k : ∀ σ, PX σ0 (nwW W) R σ → WP fb d y nx ls (vR (some (W 0 0).toNat) :: st) σ Q) : WP fb d y pc ls (vI 600 :: st) σ Q := by
  refine x_nar T (by decide) (by decide) ?_
  have h2 := hP.1.2.1
  have hk := k _ hP.newB
  rw [show (W 0 0).toNat = σ.1 by rw [h2]; rfl] at hk
  exact hk
/-- a row of bytes made later: its type, its places -/
theorem PX.tc (hP : PX σ0 W R σ) (h : 2372 ≤ a) (hl : (a : Int) < W 0 0) : mT σ a = some (Sum.inr (1, 600)) := (hP.2.1 a (inX_big h) (by have := hP.1.2.1; omega)).trans (tX_big h)
theorem PX.ci (hP : PX σ0 W R σ) (h : 2372 ≤ a) (h0 : 0 ≤ k) : mI σ a k.toNat = W a k := by
  rw [hP.2.2.1 a k.toNat (inX_big h), kX_a (tX_big h), Int.toNat_of_nonneg h0]
theorem PX.cput {v : Int} (hP : PX σ0 W R σ) (h : 2372 ≤ a) (h0 : 0 ≤ k) : PX σ0 (rU W a k v) R (sI σ a k.toNat v) := hP.wI (inX_big h) (kX_ak (tX_big h) h0) (by omega)
end XNEW
