/-! What a walk holds: its point is none or one of the group's. -/
/-- none, or a point of the process's group -/
def ptV (P : qR) (p pt : Int) : Prop := pt = -1 ∨ (8 * P 2323 p ≤ pt ∧ pt < 8 * P 2323 p + P 2334 (P 2323 p) ∧ 0 ≤ pt ∧ pt < 64)
section MBIND2
variable {fb : Bool} {d : Nat} {σ0 σ : hM} {P Q R S S1 S2 : qR} {T U s w g u p k e t z o thr pt n : Int} {l nm wd : List Int} {h : List Ch} {c : Ch}
theorem kTry_pt : ∀ (r : List (Int × Int)) (Q : qR) (e : Int), (kTry Q nm e r).2.2.2.2.2.2 = -1
  | [], _, _ => rfl
  | x :: r, Q, e => by
    unfold kTry
    split
    · rfl
    · exact kTry_pt r _ _
theorem kNext_pt : (kNext Q p c nm).2.2.2.2.2.2 = -1 := by
  unfold kNext
  split
  · rfl
  · exact kTry_pt _ _ _
theorem ptV.kf (h : ptV Q p pt) (hk : KF Q P) : ptV P p pt := by
  unfold ptV at h ⊢
  rw [hk 2323 _ rfl (by decide) (by decide) (by decide), hk 2334 _ rfl (by decide) (by decide) (by decide)] at h
  exact h
theorem kThru_pt (hI : IV false T U P) (hp : 0 ≤ p ∧ p < 8) (hk : KF Q P) (hc : ptV P p c.2.2.2.2) : ptV P p (kThru Q p c).2.2.2.2.2.2 := by
  unfold kThru
  split
  · exact hc
  · rename_i q
    show ptV P p (qPoint Q p c.1 c.2.2.1)
    rw [qPoint_kf hk] at q ⊢
    exact qPoint_rng hI hp
theorem kWalkT_pt (hI : IV false T U P) (hp : 0 ≤ p ∧ p < 8) : ∀ (nms : List (List Int)) (Q : qR) (c : Ch), KF Q P → ptV P p c.2.2.2.2 → (∀ (nm : List Int) (Q : qR) (c : Ch), KF Q P → KF (kNext Q p c nm).2.1 P) → ptV P p (kWalkT Q p thr nms c).2.2.2.2.2.2
  | [], Q, c, hk, hc, hn => by
    unfold kWalkT
    split
    · exact hc
    · exact kThru_pt hI hp hk hc
  | nm :: r, Q, c, hk, hc, hn => by
    unfold kWalkT
    split
    · exact hc
    · refine kWalkT_pt hI hp r _ _ (KF_tr KF_tP (hn nm Q c hk)) (Or.inl kNext_pt) hn
theorem kTry_kf : ∀ (r : List (Int × Int)) (Q : qR) (e : Int), KF (kTry Q nm e r).2.1 Q
  | [], _, _ => KF_rfl
  | x :: r, Q, e => by
    unfold kTry
    split
    · exact KF_st
    · exact KF_tr (kTry_kf r _ _) KF_st
theorem kNext_kf : KF (kNext Q p c nm).2.1 Q := by
  unfold kNext
  split
  · exact KF_st
  · exact kTry_kf _ _ _
theorem kWW_pt (hI : IV false T U P) (hp : 0 ≤ p ∧ p < 8) : ptV P p (kWW P p thr wd).2.2.2.2.2.2 := by
  have key : ∀ (nms : List (List Int)) (Q : qR) (c : Ch), KF Q P → c.2.2.2.2 = -1 → ptV P p (kWalkT Q p thr nms c).2.2.2.2.2.2 := fun nms Q c hk hc => kWalkT_pt hI hp nms Q c hk (Or.inl hc) (fun nm Q c hk => KF_tr kNext_kf hk)
  unfold kWW
  split
  · exact Or.inl rfl
  · unfold kWalk
    split
    · split
      · exact Or.inl rfl
      · exact key _ _ _ KF_cp rfl
    · split
      · exact Or.inl rfl
      · exact key _ _ _ KF_at rfl
theorem ptV.many (hI : IV false T U P) (hPT : PTS P) (hp : 0 ≤ p ∧ p < 8) (h : ptV P p pt) (h0 : 0 ≤ pt) : 1 ≤ P 2337 pt ∧ P 2337 pt ≤ 6 ∧ pt < 64 := by
  obtain ⟨q1, q2, q3, q4⟩ := h.resolve_left (by omega)
  have b1 : 0 ≤ P 2323 p ∧ P 2323 p ≤ 7 := IV.a hI 2323 0 8 rfl rfl rfl (by omega) (by omega)
  have h1 := hPT (P 2323 p) (pt - 8 * P 2323 p) (by omega) (by omega) (by omega) (by omega)
  rw [show 8 * P 2323 p + (pt - 8 * P 2323 p) = pt by omega] at h1
  have b2 : 0 ≤ P 2337 pt ∧ P 2337 pt ≤ 6 := IV.a hI 2337 0 64 rfl rfl rfl (by omega) (by omega)
  exact ⟨h1, b2.2, q4⟩
end MBIND2
