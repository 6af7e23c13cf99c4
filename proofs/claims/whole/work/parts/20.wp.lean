/-! What a place in a method comes to: rules for the small machine, one an instruction. -/
theorem hx_more {K : Nat} {E : Nat → AV} {T : Nat → Nat → Option (hOp × Nat)} : ∀ (n k d y pc : Nat) (ls : hLs) (st : List AV) (σ : hM) (x : Option AV × hM), hx K E T n d y pc ls st σ = some x → hx K E T (n + k) d y pc ls st σ = some x := by
  intro n
  induction n with
  | zero => intro k d y pc ls st σ x h; cases h
  | succ n ih =>
    intro k d y pc ls st σ x h
    rw [show n + 1 + k = (n + k) + 1 by omega]
    unfold hx at h ⊢
    cases e : T y pc with
    | none => rw [e] at h; cases h
    | some w =>
      obtain ⟨op, nx⟩ := w
      rw [e] at h
      dsimp only at h ⊢
      cases e2 : hstep K E d y op nx ls st σ with
      | none => rw [e2] at h; cases h
      | some z =>
        rw [e2] at h
        rcases z with ⟨pc1, la1, st1, σ2⟩ | ⟨y1, as, pc1, la1, st1⟩ | r1
        · exact ih k _ _ _ _ _ _ _ h
        · dsimp only at h ⊢
          cases d with
          | zero => cases h
          | succ d1 =>
            dsimp only at h ⊢
            cases e3 : hx K E T n d1 y1 0 (hpad (hent as) (hmL y1)) [] σ with
            | none => rw [e3] at h; cases h
            | some w =>
              obtain ⟨rc, σ2⟩ := w
              rw [e3] at h
              rw [ih k _ _ _ _ _ _ _ e3]
              exact ih k _ _ _ _ _ _ _ h
        · exact h
def WP (fb : Bool) (d y pc : Nat) (ls : hLs) (st : List AV) (σ : hM) (Q : Option AV → hM → Prop) : Prop := ∃ n r σ1, hx hK (hE fb) hTab n d y pc ls st σ = some (r, σ1) ∧ Q r σ1
/-- a method, called with these -/
def CL (fb : Bool) (d y : Nat) (as : List AV) (σ : hM) (Q : Option AV → hM → Prop) : Prop := WP fb d y 0 (hpad (hent as) (hmL y)) [] σ Q
section WPR
variable {fb : Bool} {d y pc nx : Nat} {ls ls1 : hLs} {st : List AV} {σ : hM} {Q : Option AV → hM → Prop}
theorem WP.mono {Q1 : Option AV → hM → Prop} (h : WP fb d y pc ls st σ Q1) (k : ∀ r σ1, Q1 r σ1 → Q r σ1) : WP fb d y pc ls st σ Q := by
  obtain ⟨n, r, σ1, h1, h2⟩ := h
  exact ⟨n, r, σ1, h1, k _ _ h2⟩
theorem wp_go {op : hOp} {pc1 : Nat} {st1 : List AV} {σ1 : hM} (T : hTab y pc = some (op, nx)) (e : hstep hK (hE fb) d y op nx ls st σ = some (Sum.inl (pc1, ls1, st1, σ1))) (k : WP fb d y pc1 ls1 st1 σ1 Q) : WP fb d y pc ls st σ Q := by
  obtain ⟨n, r, σ2, h1, h2⟩ := k
  refine ⟨n + 1, r, σ2, ?_, h2⟩
  unfold hx
  rw [T]
  dsimp only
  rw [e]
  exact h1
theorem wp_end {op : hOp} {r : Option AV} (T : hTab y pc = some (op, nx)) (e : hstep hK (hE fb) d y op nx ls st σ = some (Sum.inr (Sum.inr r))) (k : Q r σ) : WP fb d y pc ls st σ Q := by
  refine ⟨1, r, σ, ?_, k⟩
  unfold hx
  rw [T]
  dsimp only
  rw [e]
theorem wp_cl {op : hOp} {y1 : Nat} {as : List AV} {pc1 : Nat} {st1 : List AV} (T : hTab y pc = some (op, nx)) (e : hstep hK (hE fb) (d + 1) y op nx ls st σ = some (Sum.inr (Sum.inl (y1, as, pc1, ls1, st1)))) {Q1 : Option AV → hM → Prop}
    (c : CL fb d y1 as σ Q1) (k : ∀ r σ1, Q1 r σ1 → WP fb (d + 1) y pc1 ls1 (r.toList ++ st1) σ1 Q) : WP fb (d + 1) y pc ls st σ Q := by
  obtain ⟨n1, r1, σ1, h1, h2⟩ := c
  obtain ⟨n2, r2, σ2, g1, g2⟩ := k _ _ h2
  refine ⟨(n1 + n2) + 1, r2, σ2, ?_, g2⟩
  unfold hx
  rw [T]
  dsimp only
  rw [e]
  dsimp only
  rw [hx_more n1 n2 _ _ _ _ _ _ _ h1]
  dsimp only
  rw [Nat.add_comm n1 n2]
  exact hx_more n2 n1 _ _ _ _ _ _ _ g1
theorem x_ic {b : Int} (T : hTab y pc = some ((0, 0, b, []), nx)) (k : WP fb d y nx ls (vI b :: st) σ Q) : WP fb d y pc ls st σ Q := wp_go T rfl k
theorem x_lc {b : Int} (T : hTab y pc = some ((1, 0, b, []), nx)) (k : WP fb d y nx ls (vL b :: st) σ Q) : WP fb d y pc ls st σ Q := wp_go T rfl k
theorem x_nu (T : hTab y pc = some ((2, 0, 0, []), nx)) (k : WP fb d y nx ls (vR none :: st) σ Q) : WP fb d y pc ls st σ Q := wp_go T rfl k
theorem x_li {i : Nat} {z : Int} (T : hTab y pc = some ((3, i, 0, []), nx)) (e : ls.getD i none = some (vI z)) (k : WP fb d y nx ls (vI z :: st) σ Q) : WP fb d y pc ls st σ Q := wp_go T (by simp only [hstep, e]; rfl) k
theorem x_ll {i : Nat} {z : Int} (T : hTab y pc = some ((3, i, 1, []), nx)) (e : ls.getD i none = some (vL z)) (k : WP fb d y nx ls (vL z :: st) σ Q) : WP fb d y pc ls st σ Q := wp_go T (by simp only [hstep, e]; rfl) k
theorem x_lr {i : Nat} {z : Option Nat} (T : hTab y pc = some ((3, i, 2, []), nx)) (e : ls.getD i none = some (vR z)) (k : WP fb d y nx ls (vR z :: st) σ Q) : WP fb d y pc ls st σ Q := wp_go T (by simp only [hstep, e]; rfl) k
theorem x_si {i : Nat} {z : Int} (T : hTab y pc = some ((4, i, 0, []), nx)) (e : hsto ls i (vI z) = ls1) (k : WP fb d y nx ls1 st σ Q) : WP fb d y pc ls (vI z :: st) σ Q := wp_go T (by rw [← e]; rfl) k
theorem x_sl {i : Nat} {z : Int} (T : hTab y pc = some ((4, i, 1, []), nx)) (e : hsto ls i (vL z) = ls1) (k : WP fb d y nx ls1 st σ Q) : WP fb d y pc ls (vL z :: st) σ Q := wp_go T (by rw [← e]; rfl) k
theorem x_sr {i : Nat} {z : Option Nat} (T : hTab y pc = some ((4, i, 2, []), nx)) (e : hsto ls i (vR z) = ls1) (k : WP fb d y nx ls1 st σ Q) : WP fb d y pc ls (vR z :: st) σ Q := wp_go T (by rw [← e]; rfl) k
theorem x_inc {i : Nat} {b z : Int} (T : hTab y pc = some ((5, i, b, []), nx)) (e : ls.getD i none = some (vI z)) {w : Int} (hw : w32 (z + b) = w) (e1 : hsto ls i (vI w) = ls1) (k : WP fb d y nx ls1 st σ Q) : WP fb d y pc ls st σ Q := wp_go T (by simp only [hstep, e]; rw [hw, e1]) k
theorem x_dupI {z : Int} (T : hTab y pc = some ((6, 0, 0, []), nx)) (k : WP fb d y nx ls (vI z :: vI z :: st) σ Q) : WP fb d y pc ls (vI z :: st) σ Q := wp_go T rfl k
theorem x_dupR {z : Option Nat} (T : hTab y pc = some ((6, 0, 0, []), nx)) (k : WP fb d y nx ls (vR z :: vR z :: st) σ Q) : WP fb d y pc ls (vR z :: st) σ Q := wp_go T rfl k
theorem x_popI {z : Int} (T : hTab y pc = some ((7, 0, 0, []), nx)) (k : WP fb d y nx ls st σ Q) : WP fb d y pc ls (vI z :: st) σ Q := wp_go T rfl k
theorem x_popR {z : Option Nat} (T : hTab y pc = some ((7, 0, 0, []), nx)) (k : WP fb d y nx ls st σ Q) : WP fb d y pc ls (vR z :: st) σ Q := wp_go T rfl k
theorem x_dup2 {z : Int} {r : Option Nat} (T : hTab y pc = some ((8, 0, 0, []), nx)) (k : WP fb d y nx ls (vI z :: vR r :: vI z :: vR r :: st) σ Q) : WP fb d y pc ls (vI z :: vR r :: st) σ Q := wp_go T rfl k
theorem x_pop2 {z : Int} (T : hTab y pc = some ((9, 0, 0, []), nx)) (k : WP fb d y nx ls st σ Q) : WP fb d y pc ls (vL z :: st) σ Q := wp_go T rfl k
theorem x_ib {j : Nat} {u v w : Int} (T : hTab y pc = some ((10, j, 0, []), nx)) (hj : ¬ ((j = 3 ∨ j = 4) ∧ v = 0)) (hw : hIB j u v = w) (k : WP fb d y nx ls (vI w :: st) σ Q) : WP fb d y pc ls (vI v :: vI u :: st) σ Q := wp_go T (by simp only [hstep]; rw [decide_eq_true hj, hw]; rfl) k
theorem x_lb {j : Nat} {u v w : Int} (T : hTab y pc = some ((11, j, 0, []), nx)) (hj : ¬ ((j = 3 ∨ j = 4) ∧ v = 0)) (hw : hLB j u v = w) (k : WP fb d y nx ls (vL w :: st) σ Q) : WP fb d y pc ls (vL v :: vL u :: st) σ Q := wp_go T (by simp only [hstep]; rw [decide_eq_true hj, hw]; rfl) k
theorem x_lh {j : Nat} {u v w : Int} (T : hTab y pc = some ((12, j, 0, []), nx)) (hw : hLH j u v = w) (k : WP fb d y nx ls (vL w :: st) σ Q) : WP fb d y pc ls (vI v :: vL u :: st) σ Q := wp_go T (by simp only [hstep]; rw [hw]) k
theorem x_neg {u w : Int} (T : hTab y pc = some ((13, 0, 0, []), nx)) (hw : w32 (-u) = w) (k : WP fb d y nx ls (vI w :: st) σ Q) : WP fb d y pc ls (vI u :: st) σ Q := wp_go T (by simp only [hstep]; rw [hw]) k
theorem x_i2l {u : Int} (T : hTab y pc = some ((14, 0, 0, []), nx)) (k : WP fb d y nx ls (vL u :: st) σ Q) : WP fb d y pc ls (vI u :: st) σ Q := wp_go T rfl k
theorem x_l2i {u w : Int} (T : hTab y pc = some ((15, 0, 0, []), nx)) (hw : w32 u = w) (k : WP fb d y nx ls (vI w :: st) σ Q) : WP fb d y pc ls (vL u :: st) σ Q := wp_go T (by simp only [hstep]; rw [hw]) k
theorem x_i2b {u w : Int} (T : hTab y pc = some ((16, 0, 0, []), nx)) (hw : sb8 u = w) (k : WP fb d y nx ls (vI w :: st) σ Q) : WP fb d y pc ls (vI u :: st) σ Q := wp_go T (by simp only [hstep]; rw [hw]) k
theorem x_i2c {u w : Int} (T : hTab y pc = some ((35, 0, 0, []), nx)) (hw : ch16 u = w) (k : WP fb d y nx ls (vI w :: st) σ Q) : WP fb d y pc ls (vI u :: st) σ Q := wp_go T (by simp only [hstep]; rw [hw]) k
theorem x_lcmp {u v : Int} (T : hTab y pc = some ((17, 0, 0, []), nx)) (k : WP fb d y nx ls (vI (cmp64 u v) :: st) σ Q) : WP fb d y pc ls (vL v :: vL u :: st) σ Q := wp_go T rfl k
/-- branches: both ways, or one by what is known -/
theorem x_if {j tn : Nat} {u : Int} (T : hTab y pc = some ((18, j, Int.ofNat tn, []), nx)) (kt : hcmp j u 0 → WP fb d y tn ls st σ Q) (kf : ¬ hcmp j u 0 → WP fb d y nx ls st σ Q) : WP fb d y pc ls (vI u :: st) σ Q := by
  by_cases h : hcmp j u 0
  · exact wp_go T (by simp only [hstep]; rw [(hcmpB_iff j u 0).mpr h]; rfl) (kt h)
  · exact wp_go T (by simp only [hstep]; rw [Bool.eq_false_iff.mpr (fun z => h ((hcmpB_iff j u 0).mp z))]; rfl) (kf h)
theorem x_ic2 {j tn : Nat} {u v : Int} (T : hTab y pc = some ((19, j, Int.ofNat tn, []), nx)) (kt : hcmp j u v → WP fb d y tn ls st σ Q) (kf : ¬ hcmp j u v → WP fb d y nx ls st σ Q) : WP fb d y pc ls (vI v :: vI u :: st) σ Q := by
  by_cases h : hcmp j u v
  · exact wp_go T (by simp only [hstep]; rw [(hcmpB_iff j u v).mpr h]; rfl) (kt h)
  · exact wp_go T (by simp only [hstep]; rw [Bool.eq_false_iff.mpr (fun z => h ((hcmpB_iff j u v).mp z))]; rfl) (kf h)
theorem x_nul {tn : Nat} {q : Option Nat} (T : hTab y pc = some ((20, 0, Int.ofNat tn, []), nx)) (kt : q = none → WP fb d y tn ls st σ Q) (kf : ∀ a, q = some a → WP fb d y nx ls st σ Q) : WP fb d y pc ls (vR q :: st) σ Q := by
  cases q with
  | none => exact wp_go T rfl (kt rfl)
  | some a => exact wp_go T rfl (kf a rfl)
theorem x_nnul {tn : Nat} {q : Option Nat} (T : hTab y pc = some ((20, 1, Int.ofNat tn, []), nx)) (kt : ∀ a, q = some a → WP fb d y tn ls st σ Q) (kf : q = none → WP fb d y nx ls st σ Q) : WP fb d y pc ls (vR q :: st) σ Q := by
  cases q with
  | none => exact wp_go T rfl (kf rfl)
  | some a => exact wp_go T rfl (kt a rfl)
theorem x_aeq {tn : Nat} {p q : Option Nat} (T : hTab y pc = some ((21, 0, Int.ofNat tn, []), nx)) (hq : hK ≤ q.getD hK) (hp : hK ≤ p.getD hK) (kt : p = q → WP fb d y tn ls st σ Q) (kf : p ≠ q → WP fb d y nx ls st σ Q) : WP fb d y pc ls (vR q :: vR p :: st) σ Q := by
  by_cases h : p = q
  · exact wp_go T (by simp only [hstep]; rw [decide_eq_true hq, decide_eq_true hp, decide_eq_true h]; rfl) (kt h)
  · exact wp_go T (by simp only [hstep]; rw [decide_eq_true hq, decide_eq_true hp, decide_eq_false h]; rfl) (kf h)
theorem x_ane {tn : Nat} {p q : Option Nat} (T : hTab y pc = some ((21, 1, Int.ofNat tn, []), nx)) (hq : hK ≤ q.getD hK) (hp : hK ≤ p.getD hK) (kt : p ≠ q → WP fb d y tn ls st σ Q) (kf : p = q → WP fb d y nx ls st σ Q) : WP fb d y pc ls (vR q :: vR p :: st) σ Q := by
  by_cases h : p = q
  · exact wp_go T (by simp only [hstep]; rw [decide_eq_true hq, decide_eq_true hp, decide_eq_true h]; rfl) (kf h)
  · exact wp_go T (by simp only [hstep]; rw [decide_eq_true hq, decide_eq_true hp, decide_eq_false h]; rfl) (kt h)
theorem x_goto {tn : Nat} (T : hTab y pc = some ((22, 0, Int.ofNat tn, []), nx)) (k : WP fb d y tn ls st σ Q) : WP fb d y pc ls st σ Q := wp_go T rfl k
theorem x_swIn {df : Nat} {lo u : Int} {tg : List Int} {j : Nat} (T : hTab y pc = some ((23, df, lo, tg), nx)) (h1 : lo ≤ u) (h2 : u < lo + tg.length) (e : (tg.getD (u - lo).toNat 0).toNat = j) (k : WP fb d y j ls st σ Q) : WP fb d y pc ls (vI u :: st) σ Q := wp_go T (by simp only [hstep]; rw [if_neg (by omega), e]) k
theorem x_swOut {df : Nat} {lo u : Int} {tg : List Int} (T : hTab y pc = some ((23, df, lo, tg), nx)) (h : u < lo ∨ lo + tg.length ≤ u) (k : WP fb d y df ls st σ Q) : WP fb d y pc ls (vI u :: st) σ Q := wp_go T (by simp only [hstep]; rw [if_pos h]) k
/-- fields -/
theorem hIsO_some {a c : Nat} (h : mT σ a = some (Sum.inl c)) : hIsO σ (some a) c = true := decide_eq_true h
theorem x_gI {c j a : Nat} {z : Int} (T : hTab y pc = some ((24, c, Int.ofNat j, []), nx)) (F : (hFd c j).2.2.1 = 0 ∨ (hFd c j).2.2.1 = 2 ∨ (hFd c j).2.2.1 = 1) (ho : mT σ a = some (Sum.inl c)) (e : mI σ a j = z) (k : WP fb d y nx ls (vI z :: st) σ Q) : WP fb d y pc ls (vR (some a) :: st) σ Q :=
  wp_go T (by
    simp only [hstep]
    rw [hIsO_some ho]
    have e2 : hld σ (hFd c j).2.2.1 a j = vI z := by
      unfold hld
      rw [if_neg (by rcases F with h | h | h <;> rw [h] <;> decide), if_neg (by rcases F with h | h | h <;> rw [h] <;> decide), e]
    show some _ = _
    rw [← e2]
    rfl) k
theorem x_gL {c j a : Nat} {z : Int} (T : hTab y pc = some ((24, c, Int.ofNat j, []), nx)) (F : (hFd c j).2.2.1 = 3) (ho : mT σ a = some (Sum.inl c)) (e : mI σ a j = z) (k : WP fb d y nx ls (vL z :: st) σ Q) : WP fb d y pc ls (vR (some a) :: st) σ Q :=
  wp_go T (by
    simp only [hstep]
    rw [hIsO_some ho]
    have e2 : hld σ (hFd c j).2.2.1 a j = vL z := by
      unfold hld
      rw [if_neg (by rw [F]; decide), if_pos F, e]
    show some _ = _
    rw [← e2]
    rfl) k
theorem x_gR {c j a : Nat} {z : Option Nat} (T : hTab y pc = some ((24, c, Int.ofNat j, []), nx)) (F : (hFd c j).2.2.1 = 4) (ho : mT σ a = some (Sum.inl c)) (e : mR σ a j = z) (k : WP fb d y nx ls (vR z :: st) σ Q) : WP fb d y pc ls (vR (some a) :: st) σ Q :=
  wp_go T (by
    simp only [hstep]
    rw [hIsO_some ho]
    have e2 : hld σ (hFd c j).2.2.1 a j = vR z := by
      unfold hld
      rw [if_pos F, e]
    show some _ = _
    rw [← e2]
    rfl) k
theorem x_pI {c j a : Nat} {z : Int} (T : hTab y pc = some ((25, c, Int.ofNat j, []), nx)) (F : (hFd c j).2.2.1 = 0) (ho : mT σ a = some (Sum.inl c)) (ha : hK ≤ a) (k : WP fb d y nx ls st (sI σ a j z) Q) : WP fb d y pc ls (vI z :: vR (some a) :: st) σ Q :=
  wp_go T (by
    simp only [hstep]
    rw [hIsO_some ho, show (Int.ofNat j).toNat = j from rfl, F]
    show hif (true && decide (hK ≤ a) && _) _ = _
    rw [decide_eq_true ha]
    rfl) k
theorem x_pZ {c j a : Nat} {z : Int} (T : hTab y pc = some ((25, c, Int.ofNat j, []), nx)) (F : (hFd c j).2.2.1 = 2) (ho : mT σ a = some (Sum.inl c)) (ha : hK ≤ a) (hz : h01 z = true) (k : WP fb d y nx ls st (sI σ a j z) Q) : WP fb d y pc ls (vI z :: vR (some a) :: st) σ Q :=
  wp_go T (by
    simp only [hstep]
    rw [hIsO_some ho, show (Int.ofNat j).toNat = j from rfl, F, hz]
    show hif (true && decide (hK ≤ a) && _) _ = _
    rw [decide_eq_true ha]
    rfl) k
theorem x_pL {c j a : Nat} {z : Int} (T : hTab y pc = some ((25, c, Int.ofNat j, []), nx)) (F : (hFd c j).2.2.1 = 3) (ho : mT σ a = some (Sum.inl c)) (ha : hK ≤ a) (k : WP fb d y nx ls st (sI σ a j z) Q) : WP fb d y pc ls (vL z :: vR (some a) :: st) σ Q :=
  wp_go T (by
    simp only [hstep]
    rw [hIsO_some ho, show (Int.ofNat j).toNat = j from rfl, F]
    show hif (true && decide (hK ≤ a) && _) _ = _
    rw [decide_eq_true ha]
    rfl) k
theorem x_pR {c j a : Nat} {z : Option Nat} (T : hTab y pc = some ((25, c, Int.ofNat j, []), nx)) (F : (hFd c j).2.2.1 = 4) (ho : mT σ a = some (Sum.inl c)) (ha : hK ≤ a) (k : WP fb d y nx ls st (sR σ a j z) Q) : WP fb d y pc ls (vR z :: vR (some a) :: st) σ Q :=
  wp_go T (by
    simp only [hstep]
    rw [hIsO_some ho, show (Int.ofNat j).toNat = j from rfl, F]
    show hif (true && decide (hK ≤ a) && _) _ = _
    rw [decide_eq_true ha]
    rfl) k
/-- arrays -/
theorem hIsA_some {a t len ty : Nat} {j : Int} (h : mT σ a = some (Sum.inr (t, len))) (ht : hak ty t = true) (h0 : 0 ≤ j) (h1 : j < len) : hIsA σ (some a) ty j = true := by
  unfold hIsA
  dsimp only
  rw [h]
  dsimp only
  rw [ht, decide_eq_true h0, decide_eq_true h1]
  rfl
theorem x_alI {ty a len : Nat} {j z : Int} (T : hTab y pc = some ((26, ty, 0, []), nx)) (hty : ty < 3) (ho : mT σ a = some (Sum.inr (ty, len))) (h0 : 0 ≤ j) (h1 : j < len) (e : mI σ a j.toNat = z) (k : WP fb d y nx ls (vI z :: st) σ Q) : WP fb d y pc ls (vI j :: vR (some a) :: st) σ Q :=
  wp_go T (by
    simp only [hstep]
    rw [hIsA_some ho (by unfold hak; rw [if_neg (by omega)]; exact decide_eq_true rfl) h0 h1]
    have e2 : hld σ (if ty = 10 then 4 else ty) a j.toNat = vI z := by
      unfold hld
      rw [if_neg (show ¬ ty = 10 by omega), if_neg (by omega), if_neg (by omega), e]
    show some _ = _
    rw [← e2]
    rfl) k
theorem x_alL {a len : Nat} {j z : Int} (T : hTab y pc = some ((26, 3, 0, []), nx)) (ho : mT σ a = some (Sum.inr (3, len))) (h0 : 0 ≤ j) (h1 : j < len) (e : mI σ a j.toNat = z) (k : WP fb d y nx ls (vL z :: st) σ Q) : WP fb d y pc ls (vI j :: vR (some a) :: st) σ Q :=
  wp_go T (by
    simp only [hstep]
    rw [hIsA_some ho rfl h0 h1]
    show some (Sum.inl (nx, ls, vL (mI σ a j.toNat) :: st, σ)) = _
    rw [e]) k
theorem x_alR {t a len : Nat} {j : Int} {z : Option Nat} (T : hTab y pc = some ((26, 10, 0, []), nx)) (ho : mT σ a = some (Sum.inr (t, len))) (ht : 10 ≤ t) (h0 : 0 ≤ j) (h1 : j < len) (e : mR σ a j.toNat = z) (k : WP fb d y nx ls (vR z :: st) σ Q) : WP fb d y pc ls (vI j :: vR (some a) :: st) σ Q :=
  wp_go T (by
    simp only [hstep]
    rw [hIsA_some (ty := 10) ho (show hak 10 t = true from decide_eq_true ht) h0 h1]
    show some (Sum.inl (nx, ls, vR (mR σ a j.toNat) :: st, σ)) = _
    rw [e]) k
theorem x_asI {a len : Nat} {j z : Int} (T : hTab y pc = some ((27, 0, 0, []), nx)) (ho : mT σ a = some (Sum.inr (0, len))) (ha : hK ≤ a) (h0 : 0 ≤ j) (h1 : j < len) (k : WP fb d y nx ls st (sI σ a j.toNat z) Q) : WP fb d y pc ls (vI z :: vI j :: vR (some a) :: st) σ Q :=
  wp_go T (by
    simp only [hstep]
    rw [hIsA_some ho rfl h0 h1]
    show hif (true && decide (hK ≤ a) && _) _ = _
    rw [decide_eq_true ha]
    rfl) k
theorem x_asB {a len : Nat} {j z w : Int} (T : hTab y pc = some ((27, 1, 0, []), nx)) (ho : mT σ a = some (Sum.inr (1, len))) (ha : hK ≤ a) (h0 : 0 ≤ j) (h1 : j < len) (hw : sb8 z = w) (k : WP fb d y nx ls st (sI σ a j.toNat w) Q) : WP fb d y pc ls (vI z :: vI j :: vR (some a) :: st) σ Q :=
  wp_go T (by
    simp only [hstep]
    rw [hIsA_some ho rfl h0 h1]
    show hif (true && decide (hK ≤ a) && _) _ = _
    rw [decide_eq_true ha, ← hw]
    rfl) k
theorem x_asZ {a len : Nat} {j z : Int} (T : hTab y pc = some ((27, 2, 0, []), nx)) (ho : mT σ a = some (Sum.inr (2, len))) (ha : hK ≤ a) (h0 : 0 ≤ j) (h1 : j < len) (hz : h01 z = true) (k : WP fb d y nx ls st (sI σ a j.toNat z) Q) : WP fb d y pc ls (vI z :: vI j :: vR (some a) :: st) σ Q :=
  wp_go T (by
    simp only [hstep]
    rw [hIsA_some ho rfl h0 h1, hz]
    show hif (true && decide (hK ≤ a) && _) _ = _
    rw [decide_eq_true ha]
    rfl) k
theorem x_asL {a len : Nat} {j z : Int} (T : hTab y pc = some ((27, 3, 0, []), nx)) (ho : mT σ a = some (Sum.inr (3, len))) (ha : hK ≤ a) (h0 : 0 ≤ j) (h1 : j < len) (k : WP fb d y nx ls st (sI σ a j.toNat z) Q) : WP fb d y pc ls (vL z :: vI j :: vR (some a) :: st) σ Q :=
  wp_go T (by
    simp only [hstep]
    rw [hIsA_some ho rfl h0 h1]
    show hif (true && decide (hK ≤ a) && _) _ = _
    rw [decide_eq_true ha]
    rfl) k
theorem x_asR {t a len : Nat} {j : Int} {z : Option Nat} (T : hTab y pc = some ((27, 10, 0, []), nx)) (ho : mT σ a = some (Sum.inr (t, len))) (ht : 10 ≤ t) (hz : ∀ b, z = some b → mT σ b = some (Sum.inl (t - 10))) (ha : hK ≤ a) (h0 : 0 ≤ j) (h1 : j < len) (k : WP fb d y nx ls st (sR σ a j.toNat z) Q) : WP fb d y pc ls (vR z :: vI j :: vR (some a) :: st) σ Q :=
  wp_go T (by
    have hf : hFit σ (some a) z = true := by
      unfold hFit
      cases z with
      | none => rfl
      | some b =>
        dsimp only [Option.getD_some]
        rw [ho]
        exact decide_eq_true (hz b rfl)
    simp only [hstep]
    rw [hIsA_some (ty := 10) ho (show hak 10 t = true from decide_eq_true ht) h0 h1, hf]
    show hif (true && decide (hK ≤ a) && _ && _) _ = _
    rw [decide_eq_true ha]
    rfl) k
theorem x_len {t a len : Nat} (T : hTab y pc = some ((28, 0, 0, []), nx)) (ho : mT σ a = some (Sum.inr (t, len))) (k : WP fb d y nx ls (vI (len : Int) :: st) σ Q) : WP fb d y pc ls (vR (some a) :: st) σ Q :=
  wp_go T (by
    have e1 : hHas σ (some a) = true := by unfold hHas; dsimp only; rw [ho]
    have e2 : hLen σ (some a) = len := by unfold hLen; dsimp only; rw [ho]
    simp only [hstep]
    rw [e1, e2]
    rfl) k
theorem x_new {c w : Nat} (T : hTab y pc = some ((29, c, Int.ofNat w, []), nx)) (k : WP fb d y nx ls (vR (some σ.1) :: st) (sN σ (Sum.inl c) w) Q) : WP fb d y pc ls st σ Q := wp_go T rfl k
theorem x_nar {t : Nat} {z : Int} (T : hTab y pc = some ((30, t, 0, []), nx)) (h0 : 0 ≤ z) (h1 : z ≤ 1000000) (k : WP fb d y nx ls (vR (some σ.1) :: st) (sN σ (Sum.inr (t, z.toNat)) z.toNat) Q) : WP fb d y pc ls (vI z :: st) σ Q :=
  wp_go T (by simp only [hstep]; rw [decide_eq_true h0, decide_eq_true h1]; rfl) k
theorem x_oi {o : Nat} (T : hTab y pc = some ((32, 0, 0, []), nx)) (hd : 1 ≤ d) (hs : (st.map hwd).sum ≤ 8) (k : WP fb d y nx ls st σ Q) : WP fb d y pc ls (vR (some o) :: st) σ Q :=
  wp_go T (by simp only [hstep]; rw [decide_eq_true hd, decide_eq_true hs]; rfl) k
theorem x_sta {j : Nat} {v : AV} (T : hTab y pc = some ((34, j, 0, []), nx)) (e : hE fb j = v) (k : WP fb d y nx ls (v :: st) σ Q) : WP fb d y pc ls st σ Q := wp_go T (by simp only [hstep]; rw [e]) k
theorem x_rv (T : hTab y pc = some ((33, 0, 0, []), nx)) (k : Q none σ) : WP fb d y pc ls [] σ Q := wp_end T rfl k
theorem x_ri {z : Int} (T : hTab y pc = some ((33, 1, 0, []), nx)) (k : Q (some (vI z)) σ) : WP fb d y pc ls [vI z] σ Q := wp_end T rfl k
theorem x_rz {z : Int} (T : hTab y pc = some ((33, 2, 0, []), nx)) (hz : h01 z = true) (k : Q (some (vI z)) σ) : WP fb d y pc ls [vI z] σ Q := wp_end T (by simp only [hstep]; rw [hz]; rfl) k
theorem x_rb {z : Int} (T : hTab y pc = some ((33, 5, 0, []), nx)) (h0 : -128 ≤ z) (h1 : z ≤ 127) (k : Q (some (vI z)) σ) : WP fb d y pc ls [vI z] σ Q := wp_end T (by simp only [hstep]; rw [decide_eq_true h0, decide_eq_true h1]; rfl) k
theorem x_rc {z : Int} (T : hTab y pc = some ((33, 6, 0, []), nx)) (h0 : 0 ≤ z) (h1 : z ≤ 65535) (k : Q (some (vI z)) σ) : WP fb d y pc ls [vI z] σ Q := wp_end T (by simp only [hstep]; rw [decide_eq_true h0, decide_eq_true h1]; rfl) k
theorem x_rl {z : Int} (T : hTab y pc = some ((33, 3, 0, []), nx)) (k : Q (some (vL z)) σ) : WP fb d y pc ls [vL z] σ Q := wp_end T rfl k
theorem x_rr {z : Option Nat} (T : hTab y pc = some ((33, 4, 0, []), nx)) (k : Q (some (vR z)) σ) : WP fb d y pc ls [vR z] σ Q := wp_end T rfl k
/-- a call: 'as' are the arguments, the receiver first -/
theorem x_call0 {y1 : Nat} {b : Int} {as st1 : List AV} (T : hTab y pc = some ((31, y1, b, []), nx)) (hs : st = as.reverse ++ st1) (hn : as.length = hmN y1) (hw : (st1.map hwd).sum ≤ 8 ∨ (hmK y1 = 1 ∧ (st1.map hwd).sum ≤ 10)) (hl : (hent as).length ≤ hmL y1) (hk : hmK y1 = 0 ∨ ∃ r a, as = vR (some r) :: a ∧ mT σ r = some (Sum.inl (hmO y1)))
    {Q1 : Option AV → hM → Prop} (c : CL fb d y1 as σ Q1) (k : ∀ r σ1, Q1 r σ1 → WP fb (d + 1) y nx ls (r.toList ++ st1) σ1 Q) : WP fb (d + 1) y pc ls st σ Q := by
  subst hs
  refine wp_cl (as := as) (st1 := st1) (pc1 := nx) (ls1 := ls) T ?_ c k
  have e1 : (as.reverse ++ st1).take (hmN y1) = as.reverse := by rw [← hn, ← List.length_reverse, List.take_left']; rfl
  have e2 : (as.reverse ++ st1).drop (hmN y1) = st1 := by rw [← hn, ← List.length_reverse, List.drop_left']; rfl
  simp only [hstep]
  rw [e1, e2, List.reverse_reverse, decide_eq_true (show hmN y1 ≤ (as.reverse ++ st1).length by rw [List.length_append, List.length_reverse]; omega), show (decide ((st1.map hwd).sum ≤ 8) || (decide (hmK y1 = 1) && decide ((st1.map hwd).sum ≤ 10))) = true by simp only [Bool.or_eq_true, Bool.and_eq_true, decide_eq_true_eq]; exact hw, decide_eq_true hl]
  rcases hk with h | ⟨r, a, rfl, h⟩
  · rw [decide_eq_true h]; rfl
  · dsimp only
    rw [hIsO_some h, Bool.or_true]
    rfl
/-- a call: 'as' are the arguments, the receiver first -/
theorem x_call {y1 : Nat} {b : Int} {as st1 : List AV} (T : hTab y pc = some ((31, y1, b, []), nx)) (hs : st = as.reverse ++ st1) (hn : as.length = hmN y1) (hw : (st1.map hwd).sum ≤ 8) (hl : (hent as).length ≤ hmL y1) (hk : hmK y1 = 0 ∨ ∃ r a, as = vR (some r) :: a ∧ mT σ r = some (Sum.inl (hmO y1)))
    {Q1 : Option AV → hM → Prop} (c : CL fb d y1 as σ Q1) (k : ∀ r σ1, Q1 r σ1 → WP fb (d + 1) y nx ls (r.toList ++ st1) σ1 Q) : WP fb (d + 1) y pc ls st σ Q := x_call0 T hs hn (Or.inl hw) hl hk c k
end WPR
