/-! What the reference's servers answer: a wstat as a whole. -/
theorem T_302_204 : hTab 302 204 = some ((3, 12, 0, []), 206) := rfl
theorem T_302_206 : hTab 302 206 = some ((0, 0, 4, []), 207) := rfl
theorem T_302_207 : hTab 302 207 = some ((19, 3, Int.ofNat 220, []), 210) := rfl
theorem T_302_210 : hTab 302 210 = some ((3, 0, 2, []), 211) := rfl
theorem T_302_211 : hTab 302 211 = some ((31, 240, 0, []), 214) := rfl
theorem T_302_214 : hTab 302 214 = some ((5, 12, 1, []), 217) := rfl
theorem T_302_217 : hTab 302 217 = some ((22, 0, Int.ofNat 204, []), 220) := rfl
theorem mN_302 : hmN 302 = 3 := by decide +kernel
theorem mL_302 : hmL 302 = 15 := by decide +kernel
theorem mK_302 : hmK 302 = 1 := by decide +kernel
theorem mO_302 : hmO 302 = 17 := by decide +kernel
section MWSTAT2
variable {fb : Bool} {d : Nat} {σ0 σ : hM} {P Q S S1 : qR} {T U s n u c t p z : Int} {st : List (Int × Int)} {q0 q1 q2 q3 : Int × Int}
theorem RS.st2 (h : RS T U S S1 p (q0 :: q1 :: q2 :: st)) : S1 2287 2 = q2.1 ∧ S1 2288 2 = q2.2 := h.2.2.2.2.2.2.2 2 (by show 2 < st.length + 1 + 1 + 1; omega) (by decide)
theorem RS.st3 (h : RS T U S S1 p (q0 :: q1 :: q2 :: q3 :: st)) : S1 2287 3 = q3.1 ∧ S1 2288 3 = q3.2 := h.2.2.2.2.2.2.2 3 (by show 3 < st.length + 1 + 1 + 1 + 1; omega) (by decide)
theorem nv_two {a : Int → Int} {z p q : Int} (hb : ∀ j, 0 ≤ j → j < z → 0 ≤ a j ∧ a j ≤ 255) (h : nv a z p 2 = q) : 0 ≤ q ∧ q ≤ 65535 := by
  rw [← h]
  by_cases c : p < 0 ∨ z < p + ((2 : Nat) : Int)
  · rw [show nv a z p 2 = 0 from if_pos c]
    decide
  · have h1 := nv_ok (a := a) (z := z) (p := p) (n := 2) (by decide) (by omega) hb
    rw [h1.1]
    have h2 : nu a p 2 < 65536 := h1.2.2
    omega
theorem m_wst_loop {v sz oth md ln : Int} {Q : Option AV → hM → Prop} (hb : ∀ j, 0 ≤ j → j < S 2281 4 → 0 ≤ S 2285 j ∧ S 2285 j ≤ 255) : ∀ (m : Nat) (i p : Int) (st : List (Int × Int)) (σ : hM) (S1 : qR), i + m = 4 → 0 ≤ i → PM σ0 P S1 σ → RS T U S S1 p st → (st.length : Int) ≤ i →
    (∀ σ S1 q i st', PM σ0 P S1 σ → RS T U S S1 q st' → (q = wkE (S 2285) (S 2281 4) m p ∨ (q < 0 ∧ wkE (S 2285) (S 2281 4) m p < 0)) → (0 ≤ q → st' = st ++ wkS (S 2285) (S 2281 4) m p) → WP fb (d + 2) 302 220 [some (vR (some 2281)), some (vI s), some (vI c), some (vL v), none, some (vI n), some (vI sz), some (vI oth), some (vL md), none, some (vL ln), none, some (vI i), none, none] [] σ Q) →
    WP fb (d + 2) 302 204 [some (vR (some 2281)), some (vI s), some (vI c), some (vL v), none, some (vI n), some (vI sz), some (vI oth), some (vL md), none, some (vL ln), none, some (vI i), none, none] [] σ Q := by
  intro m
  induction m with
  | zero =>
    intro i p st σ S1 h1 h2 hP hR h4 hQ
    refine x_li (z := i) T_302_204 rfl ?_
    refine x_ic T_302_206 ?_
    refine x_ic2 T_302_207 (fun _ => ?_) (fun h => absurd (show 4 ≤ i by omega) h)
    exact hQ σ S1 p _ st hP hR (Or.inl rfl) (fun _ => (List.append_nil st).symm)
  | succ m ih =>
    intro i p st σ S1 h1 h2 hP hR h4 hQ
    rcases sE_cases (p := p) hb with hc | hc
    · skip
      refine x_li (z := i) T_302_204 rfl ?_
      refine x_ic T_302_206 ?_
      refine x_ic2 T_302_207 (fun h => absurd (show 4 ≤ i from h) (by omega)) (fun _ => ?_)
      refine x_lr (z := some 2281) T_302_210 rfl ?_
      refine x_cv1 T_302_211 mN_240 mL_240 (Nat.le_of_ble_eq_true rfl) mO_240 (PM.t hP) (Nat.le_of_ble_eq_true rfl) (r_string hP hR (by omega)) ?_
      rintro _ σ ⟨rfl, S1, hP, hR⟩
      rw [hc, if_pos (by decide)] at hR
      refine cV ?_
      refine x_inc (w := (i + 1)) (ls1 := [some (vR (some 2281)), some (vI s), some (vI c), some (vL v), none, some (vI n), some (vI sz), some (vI oth), some (vL md), none, some (vL ln), none, some (vI (i + 1)), none, none]) T_302_214 rfl (w32_id (by omega) (by omega)) rfl ?_
      refine x_goto T_302_217 ?_
      refine ih (i + 1) (-1) st σ S1 (by omega) (by omega) hP hR (by omega) (fun σ S1 q i st2 q1 q2 q3 q4 => ?_)
      refine hQ σ S1 q i st2 q1 q2 ?_ ?_
      · rw [show wkE (S 2285) (S 2281 4) (m + 1) p = wkE (S 2285) (S 2281 4) m (-1) by show wkE _ _ m (sE _ _ p) = _; rw [hc]]
        exact q3
      · intro q5
        have := wkE_neg (a := S 2285) (z := S 2281 4) (p := -1) (by decide) m
        omega
    · skip
      refine x_li (z := i) T_302_204 rfl ?_
      refine x_ic T_302_206 ?_
      refine x_ic2 T_302_207 (fun h => absurd (show 4 ≤ i from h) (by omega)) (fun _ => ?_)
      refine x_lr (z := some 2281) T_302_210 rfl ?_
      refine x_cv1 T_302_211 mN_240 mL_240 (Nat.le_of_ble_eq_true rfl) mO_240 (PM.t hP) (Nat.le_of_ble_eq_true rfl) (r_string hP hR (by omega)) ?_
      rintro _ σ ⟨rfl, S1, hP, hR⟩
      rw [if_neg (by omega)] at hR
      refine cV ?_
      refine x_inc (w := (i + 1)) (ls1 := [some (vR (some 2281)), some (vI s), some (vI c), some (vL v), none, some (vI n), some (vI sz), some (vI oth), some (vL md), none, some (vL ln), none, some (vI (i + 1)), none, none]) T_302_214 rfl (w32_id (by omega) (by omega)) rfl ?_
      refine x_goto T_302_217 ?_
      refine ih (i + 1) _ _ σ S1 (by omega) (by omega) hP hR (by rw [List.length_append]; simp only [List.length_cons, List.length_nil]; omega) (fun σ S1 q i st2 q1 q2 q3 q4 => ?_)
      refine hQ σ S1 q i st2 q1 q2 q3 (fun q5 => ?_)
      rw [q4 q5, List.append_assoc]
      congr 1
      rw [show wkS (S 2285) (S 2281 4) (m + 1) p = (p + 2, nu (S 2285) p 2) :: wkS (S 2285) (S 2281 4) m (sE (S 2285) (S 2281 4) p) from if_neg (by omega)]
      rfl
end MWSTAT2
