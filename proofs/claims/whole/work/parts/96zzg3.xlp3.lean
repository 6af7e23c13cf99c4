/-! The class's enter: a for and a SCRIPT go on to their end. -/
section XLP3
variable {fb : Bool} {d b k n : Nat} {σ0 σ : hM} {W W1 W2 V V0 V2 V3 P : qR} {R : rR} {i j x z v s e p D w K T U a c ex pos mu : Int} {l sc lo wd src L L2 t ss : List Int} {fs : List Fr} {fr : Fr} {Q : Option AV → hM → Prop} {J : qR → Prop} {m : Nat}
/-- behind a child: the frame ends, or goes on -/
theorem ev_back {x4 x5 : Option AV} {rr : R4} (hp : 0 ≤ p ∧ p < 8) (hP : PX σ0 W R σ) (hn : fs.length < 12) (hf : 1 ≤ fr.1) (hmu : (if fr.1 = 3 then fr.2.2.2.1 else 0) = mu) (hS : XST K T U W R rr.2.1 (fr :: fs) rr.2.2 rr.1 0) (hr : 0 ≤ rr.1) (hi : 0 ≤ i ∧ i < 1000000) {ag : qR → Int → R4} (hend : ∀ (σ : hM) (V : qR) (e2 : Int), PX σ0 V R σ → XST K T U V R rr.2.1 fs rr.2.2 e2 0 → 0 ≤ e2 → evR p mu rr ag = (e2, rr.2.1, rr.2.2) → LPH fb d p (i + 1) (some (vR none)) x5 σ Q) (hgo : evR p mu rr ag = ag rr.2.1 rr.2.2 → (rr.1 = 0 ∨ ¬ mu = 0) → rr.2.1 2321 p = 0 → LPH fb d p i x4 x5 σ Q) : LPH fb d p i x4 x5 σ Q := by
  obtain ⟨r1, PR, cR⟩ := rr
  dsimp only at hS hr hend hgo ⊢
  have hmk : W (cmO (fs.length : Int)) 2520 = mu := hS.2.1.1.2.2.2.2.2.1.trans hmu
  have hrs := fun (h : fr.1 = 1 ∨ (¬ r1 = 0 ∧ mu = 0) ∨ ¬ PR 2321 p = 0) => x_resE (fb := fb) (d := d + 14) hP hS hn hp hmk hf h
  by_cases q1 : 0 < r1 ∧ mu = 0
  · have e1 : evR p mu (r1, PR, cR) ag = (r1, PR, cR) := if_pos q1
    refine lp_res hP hS.2.2 (by show (0 : Int) < ((fs.length + 1 : Nat) : Int); omega) hi (hrs (Or.inr (Or.inl ⟨by omega, q1.2⟩))) (fun σ V hP hS => ?_)
    rw [if_pos q1.2] at hS
    exact hend σ V r1 hP hS hr e1
  by_cases q2 : PR 2321 p = 0
  · have e1 : evR p mu (r1, PR, cR) ag = ag PR cR := by
      unfold evR
      rw [if_neg q1, if_neg (fun c => c q2)]
    exact hgo e1 (by omega) q2
  · have e1 : evR p mu (r1, PR, cR) ag = (0, PR, cR) := by
      unfold evR
      rw [if_neg q1, if_pos q2]
    refine lp_res hP hS.2.2 (by show (0 : Int) < ((fs.length + 1 : Nat) : Int); omega) hi (hrs (Or.inr (Or.inr q2))) (fun σ V hP hS => ?_)
    have e2 : (if mu = 0 then r1 else 0) = 0 := by split <;> omega
    rw [e2] at hS
    exact hend σ V 0 hP hS (by decide) e1
theorem ev_for (hp : 0 ≤ p ∧ p < 8) (hJ : ∀ P, J P → ¬ P 2320 p = 0) (hJg : ∀ (P : qR) (v : Int) (wd : List Int), 0 ≤ v ∧ v ≤ 25 → byt wd → wd.length ≤ 20 → J P → J (gVar P p v wd)) (hA : XEVB fb d σ0 K p J Q m) (hG : XEVG fb d σ0 K p J Q m) {x4 x5 : Option AV} (hm : evM (-2) (2, t, pos, mu, ss) c < ((m + 1 : Nat) : Int)) (hf : frOk (2, t, pos, mu, ss)) (hn : fs.length < 12) (hP : PX σ0 W R σ) (hS : XST K T U W R P ((2, t, pos, mu, ss) :: fs) c 0 0) (hc : 0 ≤ c ∧ c ≤ 200) (hJP : J P) (hdy : P 2321 p = 0) (hi : 0 ≤ i ∧ i + 2 * evM (-2) (2, t, pos, mu, ss) c ≤ 900000) (hT : T + 3000 * (202 - c) + 1000 ≤ 2147483000) (hU : 10000 ≤ U ∧ U + 400 * (202 - c) ≤ 2147480000) (hQ : XCT fb d σ0 K p J Q (-2) T U i (2, t, pos, mu, ss) fs c (EV p (m + 1) (-2) ((fs.length : Int) + 1) (arOf fs) (2, t, pos, mu, ss) P c)) : LPH fb d p i x4 x5 σ Q := by
  have hfo : foK t ∧ 3 ≤ pos ∧ pos ≤ pdO t := by
    rcases hf with h | h
    · exact ⟨h.2.1, h.2.2.1, h.2.2.2⟩
    · exact absurd h.1 (by show ¬ (2 : Int) = 3; decide)
  have eM : evM (-2) (2, t, pos, mu, ss) c = 2000 * (200 - c) + 701 - pos := if_neg (by decide)
  have hfv := foK_v hfo.1
  have hC : CMD W (cmO (fs.length : Int)) t := hS.2.1.1.2.1
  have hB := hC.2.2.2.1
  have h50 := (lnW_ok hB.2.2.2.2.1).2
  have eE : EV p (m + 1) (-2) ((fs.length : Int) + 1) (arOf fs) (2, t, pos, mu, ss) P c = if pos = pdO t then (0, P, c) else if 20 < (lnB t pos).length then (18, P, c) else evR p 0 (evC (EV p m) ((fs.length : Int) + 1) (arOf fs) (exL (gVar P p (lg (lnB t 1) 0 - 97) (lnB t pos)) p (arOf fs) 1 (jnS t (pdO t + 1))) (gVar P p (lg (lnB t 1) 0 - 97) (lnB t pos)) c) (fun P1 c1 => EV p m (-2) ((fs.length : Int) + 1) (arOf fs) (2, t, pos + 1, 0, []) P1 c1) := rfl
  rw [eE] at hQ
  rw [eM] at hm hi
  unfold XCT at hQ
  rw [eM, evK_2] at hQ
  have hm : 2000 * (200 - c) + 701 - pos < (m : Int) + 1 := hm
  refine lp_res hP hS.2.2 (by show (0 : Int) < ((fs.length + 1 : Nat) : Int); omega) ⟨hi.1, by omega⟩ (x_resW (d := d + 14) hP hS hn hp (hJ P hJP) hdy hfo.1 hfo.2) (fun σ V hP hZ => ?_)
  rcases hZ with ⟨h1, hS2⟩ | ⟨h1, h2, hS2, hWT⟩
  · by_cases q : pos = pdO t
    · rw [if_pos q] at hQ hS2
      exact hQ σ V R (i + 1) _ _ hP (hS2.monoT (show T ≤ T + 3000 * (c - c) + 3000 * 0 by omega) (show U ≤ U + 400 * (c - c) + 400 * 0 by omega)) ⟨Int.le_refl c, hc.2⟩ (Int.le_refl 0) hJP ⟨by omega, show i + 1 + 4000 * (200 - c) ≤ i + 2 * (2000 * (200 - c) + 701 - pos) by omega⟩
    · have h3 : 20 < (lnB t pos).length := h1.resolve_left q
      rw [if_neg q, if_pos h3] at hQ
      rw [if_neg q] at hS2
      exact hQ σ V R (i + 1) _ _ hP (hS2.monoT (show T ≤ T + 3000 * (c - c) + 3000 * 0 by omega) (show U ≤ U + 400 * (c - c) + 400 * 0 by omega)) ⟨Int.le_refl c, hc.2⟩ (show (0 : Int) ≤ 18 by decide) hJP ⟨by omega, show i + 1 + 4000 * (200 - c) ≤ i + 2 * (2000 * (200 - c) + 701 - pos) by omega⟩
  · rw [if_neg h1, if_neg h2] at hQ
    have hwb : byt (lnB t pos) := by
      obtain ⟨-, a, e, -, -, g1, -, g3, g4⟩ := hC.word (w := pos) ⟨by omega, by omega⟩
      rw [g4]
      exact byt_seg (fun i i0 i1 => hB.2.2.2.2.2.1 _ (by omega))
    have hJ2 : J (gVar P p (lg (lnB t 1) 0 - 97) (lnB t pos)) := hJg P _ _ ⟨hfv.2.1, by omega⟩ hwb (by omega) hJP
    have hdy2 : gVar P p (lg (lnB t 1) 0 - 97) (lnB t pos) 2321 p = 0 := (gVar_f (by decide) (by decide)).trans hdy
    obtain ⟨PV, hPV⟩ : ∃ q, gVar P p (lg (lnB t 1) 0 - 97) (lnB t pos) = q := ⟨_, rfl⟩
    rw [hPV] at hQ hS2 hJ2 hdy2
    have eA : arOf ((2, t, pos + 1, 0, []) :: fs) = arOf fs := if_neg (show ¬ (2 : Int) = 3 by decide)
    have el : ((((2, t, pos + 1, 0, []) : Fr) :: fs).length : Int) = (fs.length : Int) + 1 := rfl
    refine ev_line (m := m) hp hA (hJ PV hJ2) hP hS2 hWT (Or.inr rfl) (by show fs.length + 1 ≤ 12; omega) hc ⟨by omega, by omega⟩ hJ2 hdy2 hT hU (by omega) (fun σ W2 R2 i2 x4 x5 hP hS3 g1 g2 g3 g4 => ?_)
    rw [eA, el] at hS3 g1 g2 g3 g4
    obtain ⟨rr, hrr⟩ : ∃ q, evC (EV p m) ((fs.length : Int) + 1) (arOf fs) (exL PV p (arOf fs) 1 (jnS t (pdO t + 1))) PV c = q := ⟨_, rfl⟩
    rw [hrr] at hS3 g1 g2 g3 g4 hQ
    refine ev_back (fr := (2, t, pos + 1, 0, [])) (mu := 0) (ag := fun P1 c1 => EV p m (-2) ((fs.length : Int) + 1) (arOf fs) (2, t, pos + 1, 0, []) P1 c1) hp hP hn (show (1 : Int) ≤ 2 by decide) (if_neg (show ¬ (2 : Int) = 3 by decide)) hS3 g2 ⟨by omega, by omega⟩ (fun σ V e2 hP hS4 h0 he => ?_) (fun he h0 hd => ?_)
    · rw [he] at hQ
      exact hQ σ V R2 (i2 + 1) _ _ hP (hS4.monoT (by show T + 3000 * (rr.2.2 - c) ≤ T + 3000 * (rr.2.2 - c) + 3000 * 0; omega) (by show U + 400 * (rr.2.2 - c) ≤ U + 400 * (rr.2.2 - c) + 400 * 0; omega)) g1 h0 g3 ⟨by omega, by show i2 + 1 + 4000 * (200 - rr.2.2) ≤ _; omega⟩
    · rw [he] at hQ
      have h1e : rr.1 = 0 := h0.resolve_right (fun c => c rfl)
      have eM2 : evM (-2) (2, t, pos + 1, 0, []) rr.2.2 = 2000 * (200 - rr.2.2) + 701 - (pos + 1) := if_neg (by decide)
      refine hG (2, t, pos + 1, 0, []) fs rr.2.1 W2 R2 σ rr.2.2 rr.1 _ _ i2 x4 x5 (by rw [eM2]; omega) (Or.inl ⟨rfl, hfo.1, by show 3 ≤ pos + 1; omega, by show pos + 1 ≤ pdO t; omega⟩) hn hP hS3 (Or.inl h1e) ⟨by omega, g1.2⟩ g3 hd ⟨by omega, by rw [eM2]; omega⟩ (by omega) (by omega) (by omega) ?_
      intro σ W3 R3 i3 x4 x5 hP hS5 k1 k2 k3 k4
      rw [eM2] at k4
      rw [evK_2] at hS5
      exact hQ σ W3 R3 i3 x4 x5 hP (hS5.monoT (by omega) (by omega)) ⟨by omega, k1.2⟩ k2 k3 ⟨by omega, by omega⟩
end XLP3
