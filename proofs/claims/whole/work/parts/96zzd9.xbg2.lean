/-! The class's processes: one begins, and is shown. -/
/-- rows that a process's beginning writes, and a fork -/
def npB : List Nat := [2325, 2326, 2328, 2329, 2361, 2362, 2327, 2330, 2331, 2332, 2333, 2323, 2324, 2334, 2335, 2336, 2337, 2338, 2339, 2340, 2341, 2342, 2320, 2322, 2321]
section XBGT
variable {fb : Bool} {d S b c n : Nat} {σ0 σ : hM} {W W1 W2 P Q : qR} {R R1 R2 : rR} {i j k x z v s e w f g u p q r K T U : Int} {l l0 lo nm M ord : List Int} {t : Nat → Nat}
/-- what a show asks, out of all that holds -/
theorem XW.sv2 (h : XW K T U W R P) (hW : ∀ (x : Nat) (k : Int), (x < 229 ∨ 1293 ≤ x) → W1 x k = W x k) (hR : ∀ (x : Nat) (k : Int), (x < 229 ∨ 1293 ≤ x ∨ k = 2267) → R1 x k = R x k) : (∃ ord t, XV W1 R1 P 1881 2 ord t) ∧ CT K W1 R1 := by
  have h6 := h.1.1.len7 h.1.2.2.2.2.1.1
  obtain ⟨o, t, hx⟩ := h.1.1.1 2 (by decide) (by decide)
  exact ⟨⟨o, t, hx.fr (fun x k a _ => hW x k (Or.inr (by have a : 1293 + 294 * (2 : Int).toNat ≤ x := a; have : (2 : Int).toNat = 2 := rfl; omega))) (fun x k a _ => hR x k (Or.inr (Or.inl (by have a : 1293 + 294 * (2 : Int).toNat ≤ x := a; have : (2 : Int).toNat = 2 := rfl; omega)))) (fun _ c k _ _ _ q => hW c k (by omega)) (fun n q => h6 2 n (by decide) q)⟩, h.1.1.2.1.fv (hW 0 0 (by omega)) (hW 0 1 (by omega)) (fun b => hR b _ (by omega))⟩
theorem TI.prb (h : TI P) (r : RF npB Q P) (hP : ∀ k, ¬ P 2320 k = 0 → ¬ Q 2320 k = 0) : TI Q := by
  obtain ⟨t1, t2, t3, t4, t5, t6⟩ := h
  have eN : ∀ s n : Int, s < 2 → (isN Q s n ↔ isN P s n) := fun s n hs => by
    unfold isN
    rw [r 2289 _ rfl]
    constructor
    · rintro (c | c)
      · exact Or.inl c
      · omega
    · rintro (c | c)
      · exact Or.inl c
      · omega
  have eUp : ∀ s n : Int, s < 2 → qUp Q s n = qUp P s n := fun s n hs => by unfold qUp; rw [if_pos hs, if_pos hs, r 2290 _ rfl]
  have eNm : ∀ s n : Int, s < 2 → qNm Q s n = qNm P s n := fun s n hs => by
    have h1 : qNs Q s n = qNs P s n := by unfold qNs; rw [if_pos hs, if_pos hs, r 2299 _ rfl]
    have h2 : (fun k => qNb Q s n k) = (fun k => qNb P s n k) := funext (fun k => by unfold qNb; rw [if_pos hs, if_pos hs, r 2298 _ rfl])
    unfold qNm
    rw [h1, h2]
  have eK : ∀ (s n : Int) (nm : List Int) (m : Int), s < 2 → (kidN Q s n nm m ↔ kidN P s n nm m) := fun s n nm m hs => by
    unfold kidN
    rw [eN s _ hs, eUp s _ hs, eNm s _ hs]
  refine ⟨fun s s0 s1 n nm m m2 h1 h2 => t1 s s0 s1 n nm m m2 ((eK s n nm m s1).mp h1) ((eK s n nm m2 s1).mp h2), fun s n s0 s1 hn => ?_, fun k k0 k1 h1 => ?_, fun k k0 k1 h1 h2 h3 h4 h5 => ?_, fun k k0 k1 h1 h2 => ?_, fun k k0 k1 h1 => ?_⟩
  · rw [r 2291 _ rfl, r 2303 _ rfl]
    exact t2 s n s0 s1 ((eN s n s1).mp hn)
  · rw [r 2293 _ rfl] at h1
    rw [r 2297 _ rfl]
    exact t3 k k0 k1 h1
  · rw [r 2304 _ rfl] at h1
    rw [r 2310 _ rfl] at h2
    rw [r 2309 _ rfl] at h3 h4 h5
    rw [r 2306 _ rfl, r 2293 _ rfl]
    exact t4 k k0 k1 h1 h2 h3 h4 h5
  · rw [r 2304 _ rfl] at h1
    rw [r 2310 _ rfl] at h2
    rw [r 2306 _ rfl]
    have h := t5 k k0 k1 h1 h2
    unfold isN at h ⊢
    rcases h with c | ⟨c0, c⟩
    · omega
    · refine Or.inr ⟨c0, ?_⟩
      rcases c with c | c | ⟨c1, c2, c3, c4⟩
      · exact Or.inl c
      · exact Or.inr (Or.inl c)
      · exact Or.inr (Or.inr ⟨c1, c2, c3, hP _ c4⟩)
  · rw [r 2309 _ rfl] at h1
    rw [r 2311 _ rfl, r 2312 _ rfl]
    exact t6 k k0 k1 h1
/-- all that holds behind a show -/
theorem XW.shw (h : XW K T U W R P) (hq : 0 ≤ q ∧ q < 8) (hN : XN W1 R1 Q) (hW : ∀ (x : Nat) (k : Int), (x < 229 ∨ 1293 ≤ x) → W1 x k = W x k) (hR : ∀ (x : Nat) (k : Int), (x < 229 ∨ 1293 ≤ x ∨ k = 2267) → R1 x k = R x k) (h98 : ∀ p : Int, 0 ≤ p → p < 8 → W1 (295 + 125 * p.toNat) 2198 = Q 2321 p) (r : RF npB Q P) (hPr : ∀ k, ¬ P 2320 k = 0 → ¬ Q 2320 k = 0) (hG : GI T U Q) (hO : GO Q) (hPT : PTS Q) (hXV : XV W2 R2 Q 1881 2 ord t) (hCT : CT K W2 R2) (hF : FV 1881 0 W1 W2 R1 R2) : XW K T U W2 R2 Q := by
  obtain ⟨⟨⟨a1, a2, a3⟩, x2, x3, x4, x5, x6, x7⟩, l0, h0⟩ := h
  have h6 := XQ.len7 ⟨a1, a2, a3⟩ x5.1
  obtain ⟨f1, f2, f3, f4, f5, f6⟩ := hF
  have hWW : ∀ (x : Nat) (k : Int), 128 ≤ x → x < 1881 ∨ 2175 ≤ x → x < 2372 → W2 x k = W1 x k := fun x k x0 x1 x2 => f1 x k x0 (by omega) x2 (by omega) (by omega)
  have hW2 : ∀ (x : Nat) (k : Int), 128 ≤ x → x < 229 ∨ (1293 ≤ x ∧ x < 1881) ∨ 2175 ≤ x → x < 2372 → W2 x k = W x k := fun x k x0 x1 x2 => (hWW x k x0 (by omega) x2).trans (hW x k (by omega))
  have hb : ∀ {b n : Nat} {l : List Int}, BY W b n l → b + 1 < 229 → BY W2 b n l := fun {b n l} h hb => by
    have hB := h
    obtain ⟨y1, y2, y3, y4, y5, y6, y7⟩ := h
    have := (tX_o y1).1
    exact ⟨y1, y2, y3, (hW2 _ _ (by omega) (by omega) (by omega)).trans y4, y5, y6, fun i i0 i1 => (hW2 _ _ (by omega) (by omega) (by omega)).trans (y7 i i0 i1)⟩
  refine ⟨⟨⟨fun s s0 s1 => ?_, hCT, ?_⟩, ?_, ?_, hG, x5.rf (x5.1.prb r hPr) r rfl rfl rfl rfl, hO, hPT⟩, l0, hb h0 (by decide)⟩
  · by_cases q2 : s = 2
    · subst q2
      exact ⟨ord, t, hXV⟩
    · have hs2 : s < 2 := by omega
      obtain ⟨o, t2, hx⟩ := a1 s s0 s1
      have hS : 1293 ≤ 1293 + 294 * s.toNat ∧ 1293 + 294 * s.toNat + 294 ≤ 1881 := by omega
      refine ⟨o, t2, (hx.fr (fun x k c1 c2 => hW2 x k (by omega) (by omega) (by omega)) (fun x k c1 c2 => (f2 x k (by omega)).trans (hR x k (by omega))) (fun b c k c1 c2 c3 c4 => ?_) (fun n q => h6 s n s0 q)).two hs2 s0 (fun f k hf hg => ?_)⟩
      · have hc0 := (a2.1 b c c3).2.2
        have hb0 : ∀ b2, 1881 ≤ b2 → b2 < 1881 + 294 → R1 b2 2267 ≠ some c := fun b2 d1 d2 d3 => by
          have := a2.2.1 b b2 c c3 ((hR b2 2267 (by omega)).symm.trans d3)
          omega
        exact (f4 c k c4 (by rw [hW 0 0 (by omega)]; exact hc0) hb0).trans (hW c k (by omega))
      · exact r f k (el_dj rfl hf)
  · obtain ⟨b1, b2, b3⟩ := a3
    have e1 : Q 2314 = P 2314 := funext (fun k => r 2314 k rfl)
    have e2 : Q 2315 = P 2315 := funext (fun k => r 2315 k rfl)
    refine ⟨?_, ?_, fun p p0 p1 => (hWW _ _ (by omega) (by omega) (by omega)).trans (h98 p p0 p1)⟩
    · rw [e1, r 2281 39 rfl]
      exact hb b1 (by decide)
    · rw [e2, r 2281 41 rfl]
      exact hb b2 (by decide)
  · obtain ⟨m1, m2, m3⟩ := x2
    refine ⟨(hW2 _ _ (by decide) (by decide) (by decide)).trans (m1.trans (r _ _ rfl).symm), (hW2 _ _ (by decide) (by decide) (by decide)).trans (m2.trans (r _ _ rfl).symm), fun i i0 i1 => ?_⟩
    rw [r 2317 _ rfl, show Q 2316 = P 2316 from funext (fun k => r 2316 k rfl)]
    exact ⟨(m3 i i0 i1).1, hb (m3 i i0 i1).2 (by omega)⟩
  · exact hN.fr hG.iv (fun x k c1 c2 _ => hWW x k (by omega) (by omega) (by omega)) (fun x k c1 c2 => f2 x k (by omega)) (fun _ _ _ => rfl)
end XBGT
