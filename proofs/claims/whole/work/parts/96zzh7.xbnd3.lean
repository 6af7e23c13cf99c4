/-! The class's commands: a point's members written anew. -/
/-- a group's object but for the members of one of its points -/
def GMD (W : qR) (R : rR) (Q : qR) (g C k : Int) (y : Nat) : Prop := W (grO g) 2097 = C ∧ W (grO g) 2098 = qPn Q g 8 0 ∧ ARP R (grO g + 1) 8 (grO g + 2) 8 ∧ (∀ i, i < 8 → ARP R (grO g + 3 + 8 * i) 6 (grO g + 4 + 8 * i) 1) ∧ R (grO g + 1) k = some y ∧ W y 2129 = Q 2335 (8 * g + k) ∧ W y 2130 = Q 2336 (8 * g + k) ∧ ∀ k2 : Int, 0 ≤ k2 → k2 < C → k2 ≠ k → ∃ x : Nat, R (grO g + 1) k2 = some x ∧ PTO W R Q x (8 * g + k2)
/-- what a member may be -/
def nwK (T : Int) (x : Nw) : Prop := (0 ≤ x.1 ∧ x.1 ≤ 2) ∧ (0 ≤ x.2.1 ∧ x.2.1 ≤ 47) ∧ (0 ≤ x.2.2.1 ∧ x.2.2.1 ≤ T + 200) ∧ (0 ≤ x.2.2.2.1 ∧ x.2.2.2.1 ≤ 255) ∧ (0 ≤ x.2.2.2.2 ∧ x.2.2.2.2 ≤ 1)
section XBNF
variable {fb : Bool} {d b c n a0 y ga : Nat} {σ0 σ : hM} {W W1 W2 V P P0 Q : qR} {R R1 R2 V3 : rR} {i j k z v s e w f g u p pt pa dr sv K T U t N C fr mk n6 : Int} {x : Nw} {ns A B M : List Nw}
theorem gS5_at {bb : Int} : gS5 P bb x 2338 i = (if i = bb then x.1 else P 2338 i) ∧ gS5 P bb x 2339 i = (if i = bb then x.2.1 else P 2339 i) ∧ gS5 P bb x 2340 i = (if i = bb then x.2.2.1 else P 2340 i) ∧ gS5 P bb x 2341 i = (if i = bb then x.2.2.2.1 else P 2341 i) ∧ gS5 P bb x 2342 i = (if i = bb then x.2.2.2.2 else P 2342 i) := by
  by_cases q : i = bb
  · simp [gS5, rU, q]
  · simp [gS5, rU, q]
theorem gS5_o {bb : Int} {f : Nat} (h : i ≠ bb ∨ mbR.elem f = false) : gS5 P bb x f i = P f i := by
  rcases h with h | h
  · by_cases q : mbR.elem f = true
    · rcases mbR_5 q with e | e | e | e | e <;> subst e
      · rw [gS5_at.1, if_neg h]
      · rw [gS5_at.2.1, if_neg h]
      · rw [gS5_at.2.2.1, if_neg h]
      · rw [gS5_at.2.2.2.1, if_neg h]
      · rw [gS5_at.2.2.2.2, if_neg h]
    · exact gS5_rf f i (by simpa using q)
  · exact gS5_rf f i h
theorem gSt_o {f : Nat} : ∀ (r : List Nw) (j : Int) (P : qR), ¬ (6 * pt + j ≤ i ∧ i < 6 * pt + j + r.length) → gSt pt r j P f i = P f i
  | [], _, _, _ => rfl
  | x :: r, j, P, h => by
    rw [List.length_cons] at h
    show gSt pt r (j + 1) (gS5 P (6 * pt + j) x) f i = P f i
    rw [gSt_o r (j + 1) _ (by omega)]
    exact gS5_o (Or.inl (by omega))
theorem gSt_i : ∀ (r : List Nw) (j : Int) (P : qR) (i : Nat), i < r.length → gSt pt r j P 2338 (6 * pt + (j + (i : Int))) = (r.getD i nw0).1 ∧ gSt pt r j P 2339 (6 * pt + (j + (i : Int))) = (r.getD i nw0).2.1 ∧ gSt pt r j P 2340 (6 * pt + (j + (i : Int))) = (r.getD i nw0).2.2.1 ∧ gSt pt r j P 2341 (6 * pt + (j + (i : Int))) = (r.getD i nw0).2.2.2.1 ∧ gSt pt r j P 2342 (6 * pt + (j + (i : Int))) = (r.getD i nw0).2.2.2.2
  | [], _, _, _, h => absurd h (Nat.not_lt_zero _)
  | x :: r, j, P, 0, _ => by
    have e : ∀ f : Nat, gSt pt (x :: r) j P f (6 * pt + (j + ((0 : Nat) : Int))) = gS5 P (6 * pt + j) x f (6 * pt + j) := fun f => by
      rw [show 6 * pt + (j + ((0 : Nat) : Int)) = 6 * pt + j by omega]
      exact gSt_o r (j + 1) _ (by omega)
    have h := gS5_at (P := P) (bb := 6 * pt + j) (x := x) (i := 6 * pt + j)
    simp only [if_pos] at h
    exact ⟨(e _).trans h.1, (e _).trans h.2.1, (e _).trans h.2.2.1, (e _).trans h.2.2.2.1, (e _).trans h.2.2.2.2⟩
  | x :: r, j, P, i + 1, h => by
    have := gSt_i r (j + 1) (gS5 P (6 * pt + j) x) i (Nat.lt_of_succ_lt_succ h)
    rw [show j + 1 + (i : Int) = j + ((i + 1 : Nat) : Int) by omega] at this
    exact this
theorem GI_gSt (hp : 0 ≤ pt ∧ pt < 64) : ∀ (r : List Nw) (j : Int) (P : qR), 0 ≤ j → j + r.length ≤ 6 → (∀ x ∈ r, nwK T x) → GI T U P → GI T U (gSt pt r j P)
  | [], _, _, _, _, _, h => h
  | x :: r, j, P, h0, h1, hx, h => by
    rw [List.length_cons] at h1
    exact GI_gSt hp r (j + 1) _ (by omega) (by omega) (fun z hz => hx z (List.mem_cons_of_mem _ hz)) (GI_gS5 h ⟨by omega, by omega⟩ (hx x List.mem_cons_self))
theorem jnP_pt : jnP P pt ns 2334 i = P 2334 i := (gSt_rf _ _ _ 2334 _ rfl).trans (rU_f (by decide))
theorem jnP_f {f : Nat} (h : mbR.elem f = false) (h2 : f ≠ 2337) : jnP P pt ns f i = P f i := (gSt_rf _ _ _ f _ h).trans (rU_f h2)
theorem jnP_many : jnP P pt ns 2337 i = if i = pt then (ns.length : Int) else P 2337 i := by
  unfold jnP
  rw [gSt_rf _ _ _ 2337 _ rfl]
  by_cases q : i = pt
  · rw [if_pos q, q, rU_s]
  · rw [if_neg q, rU_k q]
theorem jnP_mbo {f : Nat} (hf : mbR.elem f = true) (h : ¬ (6 * pt ≤ i ∧ i < 6 * pt + ns.length)) : jnP P pt ns f i = P f i := by
  unfold jnP
  rw [gSt_o _ _ _ (by omega)]
  rcases mbR_5 hf with q | q | q | q | q <;> (subst q; exact rU_f (by decide))
theorem jnP_rf : RF (2334 :: ptR) (jnP P pt ns) P := fun f k hf => jnP_f (elem_sub (l1 := mbR) (l2 := 2334 :: ptR) (by decide) hf) (fun q => by rw [q] at hf; exact absurd hf (by decide))
theorem GI_jnP (hp : 0 ≤ pt ∧ pt < 64) (hn : ns.length ≤ 6) (hx : ∀ x ∈ ns, nwK T x) (h : GI T U P) : GI T U (jnP P pt ns) := GI_gSt hp ns 0 _ (by decide) (by omega) hx (GI_one (f := 2337) (j := pt) (v := (ns.length : Int)) (ty := 0) (len := 64) h rfl (show 0 ≤ (ns.length : Int) ∧ (ns.length : Int) ≤ 6 by omega) rfl rfl rfl rfl rfl rfl rfl rfl rfl (by decide) (by decide))
theorem jnP_oth {g2 : Int} (hpt : 8 * g ≤ pt ∧ pt < 8 * g + 8) (hn : ns.length ≤ 6) (hne : g2 ≠ g) : grQ P (jnP P pt ns) g2 := by
  refine ⟨jnP_pt, fun q q0 q1 => ⟨jnP_f rfl (by decide), jnP_f rfl (by decide), by rw [jnP_many, if_neg (by omega)]⟩, fun m m0 m1 => ⟨jnP_mbo rfl (by omega), jnP_mbo rfl (by omega), jnP_mbo rfl (by omega), jnP_mbo rfl (by omega), jnP_mbo rfl (by omega)⟩⟩
theorem GMD.fin (h : GMD W R Q g C k y) (hI : IV false T U Q) (hg : 0 ≤ g ∧ g < 8) (hC : Q 2334 g = C) (hC8 : C ≤ 8) (hk : 0 ≤ k ∧ k < C) (hF : PTF y W W2 R R2) (hP : PTL W2 R2 y ns) (hn : ns.length ≤ 6) : XGR W2 R2 (jnP Q (8 * g + k) ns) g := by
  obtain ⟨a1, a2, a3, a4, a5, a6, a7, a8⟩ := h
  have hr := grO_rng hg
  obtain ⟨iy, hiy, hy2⟩ := a3.1 k hk.1 (by omega)
  have ey : y = grO g + 2 + 8 * iy := Option.some.inj (a5.symm.trans hy2)
  obtain ⟨f1, f2, f3, f4, f5⟩ := hF
  obtain ⟨p1, p2, p3⟩ := hP
  refine ⟨by rw [jnP_pt, f1 _ _ (by omega), hC]; exact a1, ?_, a3.eqv (fun k _ _ => f4 _ _ (by omega)), fun i hi => ?_, fun k2 k0 k1 => ?_⟩
  · rw [f1 _ _ (by omega), qPn_fr (fun k => jnP_f rfl (by decide)) (fun k => jnP_f rfl (by decide))]
    exact a2
  · by_cases q : i = iy
    · rw [q, show grO g + 3 + 8 * iy = y + 1 by omega, show grO g + 4 + 8 * iy = y + 2 by omega]
      exact p2
    · exact (a4 i hi).eqv (fun k _ _ => f4 _ _ (by omega))
  · rw [jnP_pt, hC] at k1
    by_cases q : k2 = k
    · subst q
      refine ⟨y, (f4 _ _ (by omega)).trans a5, ?_, ?_, ?_, fun j j0 j1 => ?_⟩
      · rw [jnP_f rfl (by decide), f2 _ (by decide)]; exact a6
      · rw [jnP_f rfl (by decide), f2 _ (by decide)]; exact a7
      · rw [jnP_many, if_pos rfl]; exact p1
      · rw [jnP_many, if_pos rfl] at j1
        obtain ⟨c, c1, m1, m2, m3, m4, m5⟩ := p3 j j0 j1
        obtain ⟨q1, q2, q3, q4, q5⟩ := gSt_i (pt := 8 * g + k2) ns 0 (rU Q 2337 (8 * g + k2) (ns.length : Int)) j.toNat (by omega)
        rw [show 6 * (8 * g + k2) + (0 + (j.toNat : Int)) = 6 * (8 * g + k2) + j by omega] at q1 q2 q3 q4 q5
        exact ⟨c, c1, m1.trans q1.symm, m2.trans q2.symm, m3.trans q3.symm, by rw [m4]; unfold jnP; rw [q4], m5.trans q5.symm⟩
    · obtain ⟨x, hx, b1, b2, b3, b4⟩ := a8 k2 k0 k1 q
      obtain ⟨i, hi, hx2⟩ := a3.1 k2 k0 (by omega)
      have ex : x = grO g + 2 + 8 * i := Option.some.inj (hx.symm.trans hx2)
      have hxy : i ≠ iy := fun e => q (a3.2 k2 k k0 (by omega) hk.1 (by omega) (by rw [hx2, hy2, e]))
      have hmb : 0 ≤ Q 2337 (8 * g + k2) ∧ Q 2337 (8 * g + k2) ≤ 6 := IV.a hI 2337 0 64 rfl rfl rfl (by omega) (by omega)
      have hmy : jnP Q (8 * g + k) ns 2337 (8 * g + k2) = Q 2337 (8 * g + k2) := by rw [jnP_many, if_neg (by omega)]
      refine ⟨x, (f4 _ _ (by omega)).trans hx, ?_, ?_, ?_, fun j j0 j1 => ?_⟩
      · rw [jnP_f rfl (by decide), f1 _ _ (by omega)]; exact b1
      · rw [jnP_f rfl (by decide), f1 _ _ (by omega)]; exact b2
      · rw [hmy, f1 _ _ (by omega)]; exact b3
      · rw [hmy] at j1
        obtain ⟨c, c1, m1, m2, m3, m4, m5⟩ := b4 j j0 j1
        obtain ⟨t, ht, hc2⟩ := (a4 i hi).1 j j0 (by omega)
        have ec : c = grO g + 4 + 8 * i + t := by
          rw [show x + 1 = grO g + 3 + 8 * i by omega] at c1
          rw [Nat.one_mul] at hc2
          exact Option.some.inj (c1.symm.trans hc2)
        have em : ∀ f : Nat, mbR.elem f = true → jnP Q (8 * g + k) ns f (6 * (8 * g + k2) + j) = Q f (6 * (8 * g + k2) + j) := fun f hf => jnP_mbo hf (by omega)
        have hw : ∀ v : Int, W2 c v = W c v := fun v => f1 _ _ (by omega)
        exact ⟨c, (f4 _ _ (by omega)).trans c1, by rw [em _ rfl, hw]; exact m1, by rw [em _ rfl, hw]; exact m2, by rw [em _ rfl, hw]; exact m3, by rw [em _ rfl, hw]; exact m4, by rw [em _ rfl, hw]; exact m5⟩
theorem mbL_get : ∀ (m : Nat) (j : Int) (i : Nat), i < m → (mbL P pt m j).getD i nw0 = mbT P (6 * pt + (j + (i : Int)))
  | 0, _, _, h => absurd h (Nat.not_lt_zero _)
  | m + 1, j, 0, _ => by
    show mbT P (6 * pt + j) = _
    rw [show j + ((0 : Nat) : Int) = j by omega]
  | m + 1, j, i + 1, h => by
    have := mbL_get m (j + 1) i (Nat.lt_of_succ_lt_succ h)
    rw [show j + 1 + (i : Int) = j + ((i + 1 : Nat) : Int) by omega] at this
    exact this
/-- an old point's members, as they stand -/
theorem PTL_old (h : XGR W R P g) (hI : IV false T U P) (hg : 0 ≤ g ∧ g < 8) (hk : 0 ≤ k ∧ k < P 2334 g) (hy : R (grO g + 1) k = some y) : PTL W R y (mbs P (8 * g + k)) ∧ GMD W R P g (P 2334 g) k y ∧ PYO y := by
  have hpb : 0 ≤ P 2334 g ∧ P 2334 g ≤ 8 := IV.a hI 2334 0 8 rfl rfl rfl (by omega) (by omega)
  have hmb : 0 ≤ P 2337 (8 * g + k) ∧ P 2337 (8 * g + k) ≤ 6 := IV.a hI 2337 0 64 rfl rfl rfl (by omega) (by omega)
  obtain ⟨x, hx, b1, b2, b3, b4⟩ := h.2.2.2.2 k hk.1 hk.2
  have hxy : x = y := Option.some.inj (hx.symm.trans hy)
  subst hxy
  obtain ⟨iy, hiy, hy2⟩ := h.pt (k := k) ⟨hk.1, by omega⟩
  have ey : x = grO g + 2 + 8 * iy := Option.some.inj (hy.symm.trans hy2)
  have hr := grO_rng hg
  have em : mbs P (8 * g + k) = mbL P (8 * g + k) (P 2337 (8 * g + k)).toNat 0 := if_neg (by omega)
  have el : ((mbs P (8 * g + k)).length : Int) = P 2337 (8 * g + k) := by rw [em, mbL_len]; omega
  refine ⟨⟨b3.trans el.symm, ?_, fun j j0 j1 => ?_⟩, ⟨h.1, h.2.1, h.2.2.1, h.2.2.2.1, hy, b1, b2, fun k2 k0 k1 _ => h.2.2.2.2 k2 k0 k1⟩, by rw [ey]; exact PYO_of hg hiy⟩
  · have h4 := h.2.2.2.1 iy hiy
    rw [show grO g + 3 + 8 * iy = x + 1 by omega, show grO g + 4 + 8 * iy = x + 2 by omega] at h4
    exact h4
  · rw [el] at j1
    obtain ⟨c, c1, m1, m2, m3, m4, m5⟩ := b4 j j0 j1
    rw [em, mbL_get _ _ _ (by omega), show 6 * (8 * g + k) + (0 + (j.toNat : Int)) = 6 * (8 * g + k) + j by omega]
    exact ⟨c, c1, m1, m2, m3, m4, m5⟩
theorem insL_app {j : Int} (h : j = (A.length : Int)) : insL (A ++ B) j x = A ++ x :: B := by
  unfold insL
  rw [h, Int.toNat_natCast, List.take_left, List.drop_left]
end XBNF
