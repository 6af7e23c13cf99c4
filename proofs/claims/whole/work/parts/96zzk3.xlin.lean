/-! The class's line: the typed characters, which no other object knows of. -/
section XLIN
variable {fb : Bool} {d : Nat} {σ0 σ : hM} {W P Q : qR} {R : rR} {v K T U : Int}
/-- the line's rows alone change in the reference -/
theorem XW.lin (h : XW K T U W R P) (hq : ∀ (f : Nat) (k : Int), f ≠ 2281 → f ≠ 2363 → Q f k = P f k) (hn : ∀ k : Int, k ≠ 103 → Q 2281 k = P 2281 k) (hG : GI T U Q) : XW K T U W R Q := by
  obtain ⟨⟨⟨y1, y2, y3, y4, y5⟩, x2, x3, x4, x5, x6, x7⟩, l0, h0⟩ := h
  have r : RF [2281, 2363] Q P := fun f k hf => hq f k (fun c => by rw [c] at hf; exact absurd hf (by decide)) (fun c => by rw [c] at hf; exact absurd hf (by decide))
  have e : ∀ f : Nat, f ≠ 2281 → f ≠ 2363 → Q f = P f := fun f a b => funext (fun k => hq f k a b)
  refine ⟨⟨⟨fun s s0 s1 => ?_, y2, ?_, ?_, fun p p0 p1 => ?_⟩, ?_, ?_, hG, ?_, ?_, ?_⟩, l0, h0⟩
  · obtain ⟨ord, t, x⟩ := y1 s s0 s1
    obtain ⟨z1, z2, z3, z4⟩ := x
    have hfe : FE Q P := fun f k hf => hq f k (fun c => by rw [c] at hf; exact absurd hf (by decide)) (fun c => by rw [c] at hf; exact absurd hf (by decide))
    refine ⟨ord, t, z1.fe hfe, z2.pp (fun f k hf => hq f k (fun c => by rw [c] at hf; exact absurd hf (by decide)) (fun c => by rw [c] at hf; exact absurd hf (by decide))), ?_, fun i i0 i1 => (z4 i i0 i1).pp (fun _ => hq _ _ (by decide) (by decide)) (fun _ _ _ _ => hq _ _ (by decide) (by decide))⟩
    obtain ⟨z1, z2, z3, z4⟩ := z3
    unfold SZ
    rw [hq _ _ (by decide) (by decide), hq _ _ (by decide) (by decide), hq _ _ (by decide) (by decide), hq _ _ (by decide) (by decide)]
    exact ⟨z1, z2, z3, z4⟩
  · rw [e 2314 (by decide) (by decide), hn 39 (by decide)]
    exact y3
  · rw [e 2315 (by decide) (by decide), hn 41 (by decide)]
    exact y4
  · rw [hq 2321 p (by decide) (by decide)]
    exact y5 p p0 p1
  · obtain ⟨m1, m2, m3⟩ := x2
    refine ⟨m1.trans (hn 42 (by decide)).symm, m2.trans (hn 45 (by decide)).symm, fun i i0 i1 => ?_⟩
    rw [hq 2317 _ (by decide) (by decide), e 2316 (by decide) (by decide)]
    exact m3 i i0 i1
  · exact x3.fr x4.iv (fun _ _ _ _ _ => rfl) (fun _ _ _ _ => rfl) (fun f k hf => hq f k (fun c => by rw [c] at hf; exact absurd hf (by decide)) (fun c => by rw [c] at hf; exact absurd hf (by decide)))
  · exact x5.rf (x5.1.rf r rfl rfl rfl rfl rfl rfl rfl rfl rfl rfl rfl rfl rfl rfl rfl) r rfl rfl rfl rfl
  · unfold GO
    rw [e 2320 (by decide) (by decide), e 2327 (by decide) (by decide), e 2330 (by decide) (by decide)]
    exact x6
  · unfold PTS
    rw [e 2334 (by decide) (by decide), e 2337 (by decide) (by decide)]
    exact x7
theorem XW.clr (h : XW K T U W R P) (hv : 0 ≤ v ∧ v ≤ 100) : XW K T U W R (rU P 2281 103 v) := h.lin (fun f k a _ => rU_f a) (fun k a => rU_j a) (GI_num 103 h.1.2.2.2.1 rfl hv)
end XLIN
