/-! The class's processes: what is written beside the servers; a variable, what a process is told, exit. -/
/-- rows that no server reads -/
def npL : List Nat := [2325, 2326, 2328, 2329, 2361, 2362, 2327, 2330, 2331, 2332, 2333]
section XROW
variable {fb : Bool} {d b q m k c n : Nat} {σ0 σ : hM} {W W0 W1 W2 W3 P Q : qR} {R R1 R2 : rR} {i j x z v s e w p p2 o g K T U S0 : Int} {l l0 lo nm raw pre wd M ord : List Int} {t : Nat → Nat} {S : Nat}
theorem el_dj {a b : List Nat} (h : a.all (fun x => !(b.elem x)) = true) {f : Nat} (hf : a.elem f = true) : b.elem f = false := by
  have := List.all_eq_true.mp h f (List.elem_iff.mp hf)
  cases e : b.elem f with
  | false => rfl
  | true => rw [e] at this; cases this
theorem XV.row (h : XV W R P S s ord t) (r : RF npL Q P) : XV W R Q S s ord t := by
  have hfe : FE Q P := fun f k hf => r f k (el_dj rfl hf)
  refine ⟨h.1.fe hfe, h.2.1.pp (fun f k hf => r f k (el_dj rfl hf)), ?_, fun i i0 i1 => (h.2.2.2 i i0 i1).pp (fun _ => r _ _ rfl) (fun _ _ _ _ => r _ _ rfl)⟩
  obtain ⟨z1, z2, z3, z4⟩ := h.2.2.1
  unfold SZ
  rw [r _ _ rfl, r _ _ rfl, r _ _ rfl, r _ _ rfl]
  exact ⟨z1, z2, z3, z4⟩
theorem XQ.row (h : XQ K W R P) (hD : TI P) (r : RF npL Q P) (hW : ∀ (x : Nat) (k : Int), (x < 229 ∨ 1293 ≤ x ∨ k = 2198) → W2 x k = W x k) (hR : ∀ (x : Nat) (k : Int), (x < 229 ∨ 1293 ≤ x ∨ k = 2267) → R2 x k = R x k) : XQ K W2 R2 Q := by
  have h6 := h.len7 hD
  obtain ⟨a1, a2, a3⟩ := h
  refine ⟨fun s s0 s1 => ?_, a2.fv (hW 0 0 (by omega)) (hW 0 1 (by omega)) (fun b => hR b _ (by omega)), ?_⟩
  · obtain ⟨o, t, h⟩ := a1 s s0 s1
    exact ⟨o, t, (h.fr (fun x k _ _ => hW x k (by omega)) (fun x k _ _ => hR x k (by omega)) (fun _ c k _ _ _ q => hW c k (by omega)) (fun n q => h6 s n s0 q)).row r⟩
  · obtain ⟨b1, b2, b3⟩ := a3
    have hb : ∀ {b n : Nat} {l : List Int}, BY W b n l → b + 1 < 229 → BY W2 b n l := fun {b n l} h hb => by
      obtain ⟨y1, y2, y3, y4, y5, y6, y7⟩ := h
      exact ⟨y1, y2, y3, (hW _ _ (by omega)).trans y4, y5, y6, fun i i0 i1 => (hW _ _ (by omega)).trans (y7 i i0 i1)⟩
    have hs : SCR W2 P := ⟨hb b1 (by decide), hb b2 (by decide), fun p p0 p1 => (hW _ _ (Or.inr (Or.inr rfl))).trans (b3 p p0 p1)⟩
    exact hs.rows (fun _ => r _ _ rfl) (fun _ => r _ _ rfl) (fun _ => r _ _ rfl) (r _ _ rfl) (r _ _ rfl)
theorem PKK.row (h : PKK P) (r : RF npL Q P) : PKK Q := h.rf (h.1.rf r rfl rfl rfl rfl rfl rfl rfl rfl rfl rfl rfl rfl rfl rfl rfl) r rfl rfl rfl rfl
/-- what is written beside the servers -/
theorem XW.row (h : XW K T U W R P) (r : RF npL Q P) (hW : ∀ (x : Nat) (k : Int), (x < 229 ∨ 1293 ≤ x ∨ k = 2198) → W2 x k = W x k) (hR : ∀ (x : Nat) (k : Int), (x < 229 ∨ 1293 ≤ x ∨ k = 2267) → R2 x k = R x k) (hN : XN W2 R2 Q) (hG : GI T U Q) (hO : GO Q) : XW K T U W2 R2 Q := by
  obtain ⟨⟨x1, x2, x3, x4, x5, x6, x7⟩, l0, h0⟩ := h
  have hb : ∀ {b n : Nat} {l : List Int}, BY W b n l → b + 1 < 229 → BY W2 b n l := fun {b n l} h hb => by
    obtain ⟨y1, y2, y3, y4, y5, y6, y7⟩ := h
    exact ⟨y1, y2, y3, (hW _ _ (by omega)).trans y4, y5, y6, fun i i0 i1 => (hW _ _ (by omega)).trans (y7 i i0 i1)⟩
  refine ⟨⟨x1.row x5.1 r hW hR, ?_, hN, hG, x5.row r, hO, x7.row (fun _ => r _ _ rfl) (fun _ => r _ _ rfl)⟩, l0, hb h0 (by decide)⟩
  obtain ⟨m1, m2, m3⟩ := x2
  refine ⟨(hW _ _ (by omega)).trans (m1.trans (r _ _ rfl).symm), (hW _ _ (by omega)).trans (m2.trans (r _ _ rfl).symm), fun i i0 i1 => ?_⟩
  rw [r 2317 _ rfl, show Q 2316 = P 2316 from funext (fun k => r 2316 k rfl)]
  exact ⟨(m3 i i0 i1).1, hb (m3 i i0 i1).2 (by omega)⟩
def grL : List Nat := [2320, 2323, 2334, 2335, 2336, 2337, 2338, 2339, 2340, 2341, 2342]
theorem XGR.kq (h : XGR W R P g) (hW : ∀ (x : Nat) (k : Int), 2000 ≤ k → k ≠ 2065 → W2 x k = W x k) (hQ : ∀ (f : Nat) (k : Int), grL.elem f = true → Q f k = P f k) : XGR W2 R Q g := by
  obtain ⟨a1, a2, a3, a4, a5⟩ := h
  refine ⟨(hW _ _ (by decide) (by decide)).trans (a1.trans (hQ _ _ rfl).symm), ?_, a3, a4, fun k k0 k1 => ?_⟩
  · rw [hW _ _ (by decide) (by decide), qPn_fr (fun k => hQ _ _ rfl) (fun k => hQ _ _ rfl)]
    exact a2
  · rw [hQ 2334 _ rfl] at k1
    obtain ⟨x, hx, b1, b2, b3, b4⟩ := a5 k k0 k1
    refine ⟨x, hx, ?_, ?_, ?_, fun j j0 j1 => ?_⟩
    · rw [hW _ _ (by decide) (by decide), hQ 2335 _ rfl]; exact b1
    · rw [hW _ _ (by decide) (by decide), hQ 2336 _ rfl]; exact b2
    · rw [hW _ _ (by decide) (by decide), hQ 2337 _ rfl]; exact b3
    · rw [hQ 2337 _ rfl] at j1
      obtain ⟨c, hc, m1, m2, m3, m4, m5⟩ := b4 j j0 j1
      refine ⟨c, hc, ?_⟩
      unfold MBC
      rw [hQ 2338 _ rfl, hQ 2339 _ rfl, hQ 2340 _ rfl, hQ 2341 _ rfl, hQ 2342 _ rfl, hW _ _ (by decide) (by decide), hW _ _ (by decide) (by decide), hW _ _ (by decide) (by decide), hW _ _ (by decide) (by decide), hW _ _ (by decide) (by decide)]
      exact ⟨m1, m2, m3, m4, m5⟩
/-- one of a process's bytes is written -/
theorem XN.own1 (h : XN W R P) (hI : IV false T U P) (hp : 0 ≤ p ∧ p < 8) (hF : FB b W W2) (hb : prO p + 1 ≤ b ∧ b + 1 < prO p + 59) (hb6 : b ≠ prO p + 5 ∧ b ≠ prO p + 6) (hq : ∀ (f : Nat) (k : Int), f ≠ 2325 → f ≠ 2326 → f ≠ 2328 → f ≠ 2329 → f ≠ 2361 → f ≠ 2362 → Q f k = P f k) (hL : ¬ P 2320 p = 0 → BY W2 (prO p + 1) 60 (seg (Q 2325) (60 * p) (Q 2326 p).toNat) ∧ BY W2 (prO p + 3) 1000 (seg (Q 2328) (1000 * p) (Q 2329 p).toNat) ∧ ∀ x : Int, 0 ≤ x → x < 26 → BY W2 (prO p + 7 + 2 * x.toNat) 20 (seg (Q 2361) (20 * (26 * p + x)) (Q 2362 (26 * p + x)).toNat)) (hoth : ∀ p2 : Int, 0 ≤ p2 → p2 < 8 → p2 ≠ p → seg (Q 2325) (60 * p2) (Q 2326 p2).toNat = seg (P 2325) (60 * p2) (P 2326 p2).toNat ∧ seg (Q 2328) (1000 * p2) (Q 2329 p2).toNat = seg (P 2328) (1000 * p2) (P 2329 p2).toNat ∧ ∀ x : Int, 0 ≤ x → x < 26 → seg (Q 2361) (20 * (26 * p2 + x)) (Q 2362 (26 * p2 + x)).toNat = seg (P 2361) (20 * (26 * p2 + x)) (P 2362 (26 * p2 + x)).toNat) : XN W2 R Q := by
  have hrp := prO_rng hp
  have hf : ∀ (f : Nat) (k : Int), nsR.elem f = true → f ≠ 2325 → f ≠ 2326 → f ≠ 2328 → f ≠ 2329 → f ≠ 2361 → f ≠ 2362 → Q f k = P f k := fun f k _ a b c d e g => hq f k a b c d e g
  have hW : ∀ (x : Nat) (k : Int), 2000 ≤ k → k ≠ 2065 → W2 x k = W x k := fun x k a b => hF.o a b
  obtain ⟨h1, h2, h3⟩ := h
  refine ⟨fun p2 p0 p1 => ?_, fun g g0 g1 => ?_, fun o o0 o1 => ?_⟩
  · obtain ⟨a1, a2, a3, a4⟩ := h1 p2 p0 p1
    refine ⟨(hW _ _ (by decide) (by decide)).trans a1, ?_, fun k k0 k1 => ?_, fun hl => ?_⟩
    · rw [hW _ _ (by decide) (by decide), hq 2320 _ (by decide) (by decide) (by decide) (by decide) (by decide) (by decide)]
      exact a2
    · rw [hq 2320 _ (by decide) (by decide) (by decide) (by decide) (by decide) (by decide), hq 2327 _ (by decide) (by decide) (by decide) (by decide) (by decide) (by decide)]
      exact a3 k k0 k1
    · rw [hq 2320 _ (by decide) (by decide) (by decide) (by decide) (by decide) (by decide)] at hl
      obtain ⟨b1, b2, b3, b4, b5, b6⟩ := a4 hl
      refine ⟨?_, ?_, ?_, ?_⟩
      · rw [hW _ _ (by decide) (by decide), hq 2322 _ (by decide) (by decide) (by decide) (by decide) (by decide) (by decide)]
        exact b1
      · rw [hW _ _ (by decide) (by decide), hq 2324 _ (by decide) (by decide) (by decide) (by decide) (by decide) (by decide)]
        exact b2
      · rw [hq 2323 _ (by decide) (by decide) (by decide) (by decide) (by decide) (by decide)]
        exact b3
      · by_cases qp : p2 = p
        · subst qp
          exact hL hl
        · obtain ⟨s1, s2, s3⟩ := hoth p2 p0 p1 qp
          have hr2 := prO_rng (p := p2) ⟨p0, p1⟩
          have hne : prO p2 = 295 + 125 * p2.toNat ∧ prO p = 295 + 125 * p.toNat := ⟨rfl, rfl⟩
          have by1 : ∀ {b2 n : Nat} {l : List Int}, BY W b2 n l → prO p2 + 1 ≤ b2 → b2 + 1 < prO p2 + 59 → BY W2 b2 n l := fun {b2 n l} h h0 h1 => hF.by h (by omega)
          rw [s1, s2]
          refine ⟨by1 b4 (by omega) (by omega), by1 b5 (by omega) (by omega), fun x x0 x1 => ?_⟩
          rw [s3 x x0 x1]
          exact by1 (b6 x x0 x1) (by omega) (by omega)
  · exact (h2 g g0 g1).kq hW (fun f k hf => hq f k (fun e => by rw [e] at hf; exact absurd hf (by decide)) (fun e => by rw [e] at hf; exact absurd hf (by decide)) (fun e => by rw [e] at hf; exact absurd hf (by decide)) (fun e => by rw [e] at hf; exact absurd hf (by decide)) (fun e => by rw [e] at hf; exact absurd hf (by decide)) (fun e => by rw [e] at hf; exact absurd hf (by decide)))
  · obtain ⟨a1, a2⟩ := h3 o o0 o1
    have eu : qUsers Q o = qUsers P o := usR_fr (fun k => hq _ _ (by decide) (by decide) (by decide) (by decide) (by decide) (by decide)) (fun k => hq _ _ (by decide) (by decide) (by decide) (by decide) (by decide) (by decide)) 64 0 0
    rw [hW _ _ (by decide) (by decide), hW _ _ (by decide) (by decide), hW _ _ (by decide) (by decide), hW _ _ (by decide) (by decide), eu, hq 2330 _ (by decide) (by decide) (by decide) (by decide) (by decide) (by decide), hq 2331 _ (by decide) (by decide) (by decide) (by decide) (by decide) (by decide), hq 2332 _ (by decide) (by decide) (by decide) (by decide) (by decide) (by decide), hq 2333 _ (by decide) (by decide) (by decide) (by decide) (by decide) (by decide)]
    exact ⟨a1, a2⟩
end XROW
