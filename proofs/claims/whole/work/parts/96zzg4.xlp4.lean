/-! The class's enter: a SCRIPT goes on to its end. -/
section XLP4
variable {fb : Bool} {d b k n : Nat} {σ0 σ : hM} {W W1 W2 V V0 V2 V3 P : qR} {R : rR} {i j x z v s e p D w K T U a c ex pos mu : Int} {l sc lo wd src L L2 t ss : List Int} {fs : List Fr} {fr : Fr} {Q : Option AV → hM → Prop} {J : qR → Prop} {m : Nat}
theorem ev_scr (hp : 0 ≤ p ∧ p < 8) (hJ : ∀ P, J P → ¬ P 2320 p = 0) (hA : XEVB fb d σ0 K p J Q m) (hG : XEVG fb d σ0 K p J Q m) {x4 x5 : Option AV} (hm : evM (-2) (3, t, pos, mu, sc) c < ((m + 1 : Nat) : Int)) (hf : frOk (3, t, pos, mu, sc)) (hn : fs.length < 12) (hP : PX σ0 W R σ) (hS : XST K T U W R P ((3, t, pos, mu, sc) :: fs) c e 0) (he : e = 0 ∨ ¬ mu = 0) (hc : 0 ≤ c ∧ c ≤ 200) (hJP : J P) (hdy : P 2321 p = 0) (hi : 0 ≤ i ∧ i + 2 * evM (-2) (3, t, pos, mu, sc) c ≤ 900000) (hT : T + 3000 * (202 - c) + 1000 ≤ 2147483000) (hU : 10000 ≤ U ∧ U + 400 * (202 - c) ≤ 2147480000) (hQ : XCT fb d σ0 K p J Q (-2) T U i (3, t, pos, mu, sc) fs c (EV p (m + 1) (-2) ((fs.length : Int) + 1) (arOf fs) (3, t, pos, mu, sc) P c)) : LPH fb d p i x4 x5 σ Q := by
  have hfo : (0 ≤ pos ∧ pos ≤ 601) ∧ sc.length ≤ 600 ∧ byt sc := by
    rcases hf with h | h
    · exact absurd h.1 (by show ¬ (3 : Int) = 2; decide)
    · exact ⟨⟨h.2.1, h.2.2.1⟩, h.2.2.2.1, h.2.2.2.2⟩
  have eM : evM (-2) (3, t, pos, mu, sc) c = 2000 * (200 - c) + 701 - pos := if_neg (by decide)
  have eE : EV p (m + 1) (-2) ((fs.length : Int) + 1) (arOf fs) (3, t, pos, mu, sc) P c = if (sc.length : Int) ≤ pos then (0, P, c) else evR p (lnM sc pos) (if 100 < lnE sc pos - pos then (18, P, c) else evC (EV p m) ((fs.length : Int) + 1) (some t) (exL P p (some t) 1 (lnT sc pos)) P c) (fun P1 c1 => EV p m (-2) ((fs.length : Int) + 1) (arOf fs) (3, t, lnE sc pos + 1, lnM sc pos, sc) P1 c1) := rfl
  rw [eE] at hQ
  rw [eM] at hm hi
  unfold XCT at hQ
  rw [eM, evK_2] at hQ
  have hm : 2000 * (200 - c) + 701 - pos < (m : Int) + 1 := hm
  refine lp_res hP hS.2.2 (by show (0 : Int) < ((fs.length + 1 : Nat) : Int); omega) ⟨hi.1, by omega⟩ (x_resL (d := d + 14) hP hS hn hp hdy he hfo.1) (fun σ V hP hZ => ?_)
  by_cases q : (sc.length : Int) ≤ pos
  · rw [if_pos q] at hQ
    have hS2 : XST K T U V R P fs c 0 0 := by
      rcases hZ with h | h | h
      · exact h.2
      · exact absurd q h.1
      · exact absurd q h.1
    exact hQ σ V R (i + 1) _ _ hP (hS2.monoT (show T ≤ T + 3000 * (c - c) + 3000 * 0 by omega) (show U ≤ U + 400 * (c - c) + 400 * 0 by omega)) ⟨Int.le_refl c, hc.2⟩ (Int.le_refl 0) hJP ⟨by omega, show i + 1 + 4000 * (200 - c) ≤ i + 2 * (2000 * (200 - c) + 701 - pos) by omega⟩
  rw [if_neg q] at hQ
  have hen : pos ≤ lnE sc pos ∧ lnE sc pos ≤ (sc.length : Int) := by
    have h2 := neE_rng (sc := sc) sc.length pos
    exact ⟨h2.1, h2.2 (by omega)⟩
  obtain ⟨en, hE⟩ : ∃ q, lnE sc pos = q := ⟨_, rfl⟩
  obtain ⟨m2, hM2⟩ : ∃ q, lnM sc pos = q := ⟨_, rfl⟩
  rw [hE, hM2] at hQ
  rw [hE] at hen
  rw [hE, hM2] at hZ
  have eA : arOf ((3, t, en + 1, m2, sc) :: fs) = some t := if_pos rfl
  have el : ((((3, t, en + 1, m2, sc) : Fr) :: fs).length : Int) = (fs.length : Int) + 1 := rfl
  -- behind the line
  have hbk : ∀ (rr : R4) (σ : hM) (W2 : qR) (R2 : rR) (i2 : Int) (x4 x5 : Option AV), (if 100 < en - pos then (18, P, c) else evC (EV p m) ((fs.length : Int) + 1) (some t) (exL P p (some t) 1 (lnT sc pos)) P c) = rr → PX σ0 W2 R2 σ → XST K (T + 3000 * (rr.2.2 - c)) (U + 400 * (rr.2.2 - c)) W2 R2 rr.2.1 ((3, t, en + 1, m2, sc) :: fs) rr.2.2 rr.1 0 → c ≤ rr.2.2 ∧ rr.2.2 ≤ 200 → 0 ≤ rr.1 → J rr.2.1 → i + 1 ≤ i2 ∧ i2 + 4000 * (200 - rr.2.2) ≤ i + 2 + 4000 * (200 - c) → LPH fb d p i2 x4 x5 σ Q := fun rr σ W2 R2 i2 x4 x5 hrr hP hS3 g1 g2 g3 g4 => by
    rw [hrr] at hQ
    refine ev_back (fr := (3, t, en + 1, m2, sc)) (mu := m2) (ag := fun P1 c1 => EV p m (-2) ((fs.length : Int) + 1) (arOf fs) (3, t, en + 1, m2, sc) P1 c1) hp hP hn (show (1 : Int) ≤ 3 by decide) (if_pos rfl) hS3 g2 ⟨by omega, by omega⟩ (fun σ V e2 hP hS4 h0 he => ?_) (fun he h0 hd => ?_)
    · rw [he] at hQ
      exact hQ σ V R2 (i2 + 1) _ _ hP (hS4.monoT (by show T + 3000 * (rr.2.2 - c) ≤ T + 3000 * (rr.2.2 - c) + 3000 * 0; omega) (by show U + 400 * (rr.2.2 - c) ≤ U + 400 * (rr.2.2 - c) + 400 * 0; omega)) g1 h0 g3 ⟨by omega, by show i2 + 1 + 4000 * (200 - rr.2.2) ≤ _; omega⟩
    · rw [he] at hQ
      have eM2 : evM (-2) (3, t, en + 1, m2, sc) rr.2.2 = 2000 * (200 - rr.2.2) + 701 - (en + 1) := if_neg (by decide)
      refine hG (3, t, en + 1, m2, sc) fs rr.2.1 W2 R2 σ rr.2.2 rr.1 _ _ i2 x4 x5 (by rw [eM2]; omega) (Or.inr ⟨rfl, by show 0 ≤ en + 1; omega, by show en + 1 ≤ 601; omega, hfo.2.1, hfo.2.2⟩) hn hP hS3 (by
        rcases h0 with h | h
        · exact Or.inl h
        · exact Or.inr ⟨rfl, h⟩) ⟨by omega, g1.2⟩ g3 hd ⟨by omega, by rw [eM2]; omega⟩ (by omega) (by omega) (by omega) ?_
      intro σ W3 R3 i3 x4 x5 hP hS5 k1 k2 k3 k4
      rw [eM2] at k4
      rw [evK_2] at hS5
      exact hQ σ W3 R3 i3 x4 x5 hP (hS5.monoT (by omega) (by omega)) ⟨by omega, k1.2⟩ k2 k3 ⟨by omega, by omega⟩
  by_cases q2 : 100 < en - pos
  · have hS2 : XST K T U V R P ((3, t, en + 1, m2, sc) :: fs) c 18 0 := by
      rcases hZ with h | h | h
      · exact absurd h.1 q
      · exact h.2.2
      · exact absurd q2 h.2.1
    exact hbk (18, P, c) σ V R (i + 1) _ _ (if_pos q2) hP (hS2.monoT (show T ≤ T + 3000 * (c - c) by omega) (show U ≤ U + 400 * (c - c) by omega)) ⟨Int.le_refl c, hc.2⟩ (show (0 : Int) ≤ 18 by decide) hJP ⟨Int.le_refl _, show i + 1 + 4000 * (200 - c) ≤ i + 2 + 4000 * (200 - c) by omega⟩
  · have hS2 : XST K T U V R P ((3, t, en + 1, m2, sc) :: fs) c 0 1 ∧ WTX V 1 (lnT sc pos) := by
      rcases hZ with h | h | h
      · exact absurd h.1 q
      · exact absurd h.2.1 q2
      · exact h.2.2
    refine ev_line (m := m) hp hA (hJ P hJP) hP hS2.1 hS2.2 (Or.inr rfl) (by show fs.length + 1 ≤ 12; omega) hc ⟨by omega, by omega⟩ hJP hdy hT hU (by omega) (fun σ W2 R2 i2 x4 x5 hP hS3 g1 g2 g3 g4 => ?_)
    rw [eA, el] at hS3 g1 g2 g3 g4
    exact hbk _ σ W2 R2 i2 x4 x5 (if_neg q2) hP hS3 g1 g2 g3 ⟨by omega, by omega⟩
/-- what goes on, with one more of all that is done -/
theorem ev_go (hp : 0 ≤ p ∧ p < 8) (hJ : ∀ P, J P → ¬ P 2320 p = 0) (hJg : ∀ (P : qR) (v : Int) (wd : List Int), 0 ≤ v ∧ v ≤ 25 → byt wd → wd.length ≤ 20 → J P → J (gVar P p v wd)) (hA : XEVB fb d σ0 K p J Q m) (hG : XEVG fb d σ0 K p J Q m) : XEVG fb d σ0 K p J Q (m + 1) := by
  intro fr fs P W R σ c e T U i x4 x5 hm hf hn hP hS he hc hJP hdy hi hT hU hU2 hQ
  obtain ⟨kd, t, pos, mu, sc⟩ := fr
  have hkd : kd = 2 ∨ kd = 3 := by
    rcases hf with h | h
    · exact Or.inl h.1
    · exact Or.inr h.1
  rcases hkd with rfl | rfl
  · have he0 : e = 0 := by
      rcases he with h | h
      · exact h
      · exact absurd h.1 (show ¬ (2 : Int) = 3 by decide)
    subst he0
    exact ev_for hp hJ hJg hA hG hm hf hn hP hS hc hJP hdy hi hT ⟨hU, hU2⟩ hQ
  · exact ev_scr hp hJ hA hG hm hf hn hP hS (by
      rcases he with h | h
      · exact Or.inl h
      · exact Or.inr h.2) hc hJP hdy hi hT ⟨hU, hU2⟩ hQ
end XLP4
