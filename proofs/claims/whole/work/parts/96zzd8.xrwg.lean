/-! The class's processes: rows of groups, points and processes, which no file is made of. -/
def npG : List Nat := [2325, 2326, 2328, 2329, 2361, 2362, 2327, 2330, 2331, 2332, 2333, 2323, 2324, 2334, 2335, 2336, 2337, 2338, 2339, 2340, 2341, 2342]
/-- rows that the files and the fids of server 0, 1 are made of -/
def svL : List Nat := [2289, 2290, 2291, 2292, 2293, 2294, 2295, 2296, 2297, 2298, 2299, 2304, 2305, 2306, 2307, 2308, 2309, 2310, 2311, 2312, 2313, 2301, 2303, 2300]
section XRWG
variable {fb : Bool} {d b q m k c n : Nat} {σ0 σ : hM} {W W0 W1 W2 W3 P Q : qR} {R R1 R2 : rR} {i j x z v s e w p p2 o g K T U S0 : Int} {l l0 lo nm raw pre wd M ord : List Int} {t : Nat → Nat} {S : Nat}
theorem XV.rowG (h : XV W R P S s ord t) (r : RF npG Q P) : XV W R Q S s ord t := by
  have hfe : FE Q P := fun f k hf => r f k (el_dj rfl hf)
  refine ⟨h.1.fe hfe, h.2.1.pp (fun f k hf => r f k (el_dj rfl hf)), ?_, fun i i0 i1 => (h.2.2.2 i i0 i1).pp (fun _ => r _ _ rfl) (fun _ _ _ _ => r _ _ rfl)⟩
  obtain ⟨z1, z2, z3, z4⟩ := h.2.2.1
  unfold SZ
  rw [r _ _ rfl, r _ _ rfl, r _ _ rfl, r _ _ rfl]
  exact ⟨z1, z2, z3, z4⟩
theorem XQ.rowG (h : XQ K W R P) (hD : TI P) (r : RF npG Q P) (hW : ∀ (x : Nat) (k : Int), (x < 229 ∨ 1293 ≤ x ∨ k = 2198) → W2 x k = W x k) (hR : ∀ (x : Nat) (k : Int), (x < 229 ∨ 1293 ≤ x ∨ k = 2267) → R2 x k = R x k) : XQ K W2 R2 Q := by
  have h6 := h.len7 hD
  obtain ⟨a1, a2, a3⟩ := h
  refine ⟨fun s s0 s1 => ?_, a2.fv (hW 0 0 (by omega)) (hW 0 1 (by omega)) (fun b => hR b _ (by omega)), ?_⟩
  · obtain ⟨o, t, h⟩ := a1 s s0 s1
    exact ⟨o, t, (h.fr (fun x k _ _ => hW x k (by omega)) (fun x k _ _ => hR x k (by omega)) (fun _ c k _ _ _ q => hW c k (by omega)) (fun n q => h6 s n s0 q)).rowG r⟩
  · obtain ⟨b1, b2, b3⟩ := a3
    have hb : ∀ {b n : Nat} {l : List Int}, BY W b n l → b + 1 < 229 → BY W2 b n l := fun {b n l} h hb => by
      obtain ⟨y1, y2, y3, y4, y5, y6, y7⟩ := h
      exact ⟨y1, y2, y3, (hW _ _ (by omega)).trans y4, y5, y6, fun i i0 i1 => (hW _ _ (by omega)).trans (y7 i i0 i1)⟩
    have hs : SCR W2 P := ⟨hb b1 (by decide), hb b2 (by decide), fun p p0 p1 => (hW _ _ (Or.inr (Or.inr rfl))).trans (b3 p p0 p1)⟩
    exact hs.rows (fun _ => r _ _ rfl) (fun _ => r _ _ rfl) (fun _ => r _ _ rfl) (r _ _ rfl) (r _ _ rfl)
theorem PKK.rowG (h : PKK P) (r : RF npG Q P) : PKK Q := h.rf (h.1.rf r rfl rfl rfl rfl rfl rfl rfl rfl rfl rfl rfl rfl rfl rfl rfl) r rfl rfl rfl rfl
/-- groups, points, processes change, no file does -/
theorem XW.rowG (h : XW K T U W R P) (r : RF npG Q P) (hW : ∀ (x : Nat) (k : Int), (x < 229 ∨ 1293 ≤ x ∨ k = 2198) → W2 x k = W x k) (hR : ∀ (x : Nat) (k : Int), (x < 229 ∨ 1293 ≤ x ∨ k = 2267) → R2 x k = R x k) (hN : XN W2 R2 Q) (hG : GI T U Q) (hO : GO Q) (hPT : PTS Q) : XW K T U W2 R2 Q := by
  obtain ⟨⟨x1, x2, x3, x4, x5, x6, x7⟩, l0, h0⟩ := h
  have hb : ∀ {b n : Nat} {l : List Int}, BY W b n l → b + 1 < 229 → BY W2 b n l := fun {b n l} h hb => by
    obtain ⟨y1, y2, y3, y4, y5, y6, y7⟩ := h
    exact ⟨y1, y2, y3, (hW _ _ (by omega)).trans y4, y5, y6, fun i i0 i1 => (hW _ _ (by omega)).trans (y7 i i0 i1)⟩
  refine ⟨⟨x1.rowG x5.1 r hW hR, ?_, hN, hG, x5.rowG r, hO, hPT⟩, l0, hb h0 (by decide)⟩
  obtain ⟨m1, m2, m3⟩ := x2
  refine ⟨(hW _ _ (by omega)).trans (m1.trans (r _ _ rfl).symm), (hW _ _ (by omega)).trans (m2.trans (r _ _ rfl).symm), fun i i0 i1 => ?_⟩
  rw [r 2317 _ rfl, show Q 2316 = P 2316 from funext (fun k => r 2316 k rfl)]
  exact ⟨(m3 i i0 i1).1, hb (m3 i i0 i1).2 (by omega)⟩
/-- server 0, 1: processes come and go -/
theorem XV.two (h : XV W R P S s ord t) (hs : s < 2) (hs0 : 0 ≤ s) (r : ∀ (f : Nat) (k : Int), svL.elem f = true → (f = 2310 → k < 192) → Q f k = P f k) : XV W R Q S s ord t := by
  have e : ∀ (f : Nat) (k : Int), svL.elem f = true → f ≠ 2310 → Q f k = P f k := fun f k h1 h2 => r f k h1 (fun c => absurd c h2)
  have hN : ∀ n, isN Q s n ↔ isN P s n := fun n => by
    unfold isN
    rw [e 2289 _ rfl (by decide)]
    constructor
    · rintro (c | c)
      · exact Or.inl c
      · omega
    · rintro (c | c)
      · exact Or.inl c
      · omega
  have hMode : ∀ n, qMode Q s n = qMode P s n := fun n => by unfold qMode; rw [if_pos hs, if_pos hs, e 2293 _ rfl (by decide)]
  have hPath : ∀ n, qPath Q s n = qPath P s n := fun n => by unfold qPath; rw [if_pos hs, if_pos hs, e 2291 _ rfl (by decide)]
  have hVer : ∀ n, qVer Q s n = qVer P s n := fun n => by unfold qVer; rw [if_pos hs, if_pos hs, e 2292 _ rfl (by decide)]
  have hUid : ∀ n, qUid Q s n = qUid P s n := fun n => by unfold qUid; rw [if_pos hs, if_pos hs, e 2294 _ rfl (by decide)]
  have hGid : ∀ n, qGid Q s n = qGid P s n := fun n => by unfold qGid; rw [if_pos hs, if_pos hs, e 2295 _ rfl (by decide)]
  have hMuid : ∀ n, qMuid Q s n = qMuid P s n := fun n => by unfold qMuid; rw [if_pos hs, if_pos hs, e 2296 _ rfl (by decide)]
  have hUp : ∀ n, qUp Q s n = qUp P s n := fun n => by unfold qUp; rw [if_pos hs, if_pos hs, e 2290 _ rfl (by decide)]
  have hLen : ∀ n, qLen Q s n = qLen P s n := fun n => by unfold qLen; rw [hMode, e 2297 _ rfl (by decide)]
  have hNs : ∀ n, qNs Q s n = qNs P s n := fun n => by unfold qNs; rw [if_pos hs, if_pos hs, e 2299 _ rfl (by decide)]
  have hNb : ∀ n k, qNb Q s n k = qNb P s n k := fun n k => by unfold qNb; rw [if_pos hs, if_pos hs, e 2298 _ rfl (by decide)]
  have hNm : ∀ n, qNm Q s n = qNm P s n := fun n => by
    unfold qNm
    rw [hNs, show (fun k => qNb Q s n k) = (fun k => qNb P s n k) from funext (fun k => hNb n k)]
  obtain ⟨⟨⟨n1, n2, n3, n4⟩, n5, n6, n7, n8⟩, f1, ⟨z1, z2, z3, z4, z5⟩, d1⟩ := h
  refine ⟨⟨⟨fun n => (n1 n).trans (hN n).symm, n2, n3, ?_⟩, n5, n6, fun i i0 i1 => ?_, fun i i0 i1 => ?_⟩, fun i i0 i1 => ?_, ⟨?_, ?_, z3, fun c => ?_, z5⟩, fun i i0 i1 => ?_⟩
  · rw [show (fun a b => qPath Q s a < qPath Q s b) = (fun a b => qPath P s a < qPath P s b) from funext (fun a => funext (fun b => by rw [hPath, hPath]))]
    exact n4
  · have g := n7 i i0 i1
    unfold ND at g ⊢
    rw [hMode, hPath, hVer, hUid, hGid, hMuid, hLen, hNm, hNs]
    exact g
  · rw [hUp]
    exact n8 i i0 i1
  · obtain ⟨g1, g2, g3⟩ := f1 i i0 i1
    rw [e 2304 _ rfl (by decide)]
    refine ⟨g1, fun c => ?_, g3⟩
    have g := g2 c
    unfold FDu at g ⊢
    rw [e 2305 _ rfl (by decide), e 2308 _ rfl (by decide), e 2307 _ rfl (by decide), e 2309 _ rfl (by decide), e 2311 _ rfl (by decide), e 2312 _ rfl (by decide), e 2306 _ rfl (by decide), r 2310 _ rfl (fun _ => by omega)]
    exact g
  · rw [e 2313 _ rfl (by decide)]; exact z1
  · rw [e 2313 _ rfl (by decide)]; exact z2
  · rw [e 2301 _ rfl (by decide), e 2303 _ rfl (by decide)]
    exact z4 c
  · obtain ⟨g1, g2⟩ := d1 i i0 i1
    refine ⟨fun c => ?_, fun c => by omega⟩
    rw [e 2297 _ rfl (by decide)]
    obtain ⟨g3, g4⟩ := g1 c
    refine ⟨g3, g4.imp id (fun ⟨c, c1, c2, c3⟩ => ⟨c, c1, c2, fun k k0 k1 => ?_⟩)⟩
    rw [e 2300 _ rfl (by decide)]
    exact c3 k k0 k1
end XRWG
