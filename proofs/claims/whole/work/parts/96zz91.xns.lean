/-! The class's kernel: processes, groups, points, openings; a message asked. -/
def prO (p : Int) : Nat := 295 + 125 * p.toNat
def grO (g : Int) : Nat := 229 + 125 * g.toNat
/-- rows that no message changes and that processes, groups, openings are made of -/
def nsR : List Nat := [2320, 2322, 2323, 2324, 2325, 2326, 2327, 2328, 2329, 2330, 2331, 2332, 2333, 2334, 2335, 2336, 2337, 2338, 2339, 2340, 2341, 2342, 2361, 2362]
/-- a living process's object -/
def LIV (W : qR) (R : rR) (P : qR) (p : Int) : Prop := W (prO p) 2199 = P 2322 p ∧ W (prO p) 2200 = P 2324 p ∧ R (prO p) 2201 = some (grO (P 2323 p)) ∧ BY W (prO p + 1) 60 (seg (P 2325) (60 * p) (P 2326 p).toNat) ∧ BY W (prO p + 3) 1000 (seg (P 2328) (1000 * p) (P 2329 p).toNat) ∧ ∀ x : Int, 0 ≤ x → x < 26 → BY W (prO p + 7 + 2 * x.toNat) 20 (seg (P 2361) (20 * (26 * p + x)) (P 2362 (26 * p + x)).toNat)
def XPR (W : qR) (R : rR) (P : qR) (p : Int) : Prop := W (prO p) 2192 = p ∧ W (prO p) 2197 = P 2320 p ∧ (∀ k : Int, 0 ≤ k → k < 8 → R (prO p + 6) k = if P 2320 p = 0 ∨ P 2327 (8 * p + k) < 0 then none else some (1229 + (P 2327 (8 * p + k)).toNat)) ∧ (¬ P 2320 p = 0 → LIV W R P p)
/-- a member's object -/
def MBC (W : qR) (P : qR) (c : Nat) (m : Int) : Prop := W c 2160 = P 2338 m ∧ W c 2161 = P 2339 m ∧ W c 2162 = P 2340 m ∧ W c 2163 = (if P 2341 m = 128 then 1 else 0) ∧ W c 2165 = P 2342 m
/-- rows of references to n objects, each once -/
def ARP (R : rR) (row n b st : Nat) : Prop := (∀ k : Int, 0 ≤ k → k < n → ∃ i, i < n ∧ R row k = some (b + st * i)) ∧ ∀ k j : Int, 0 ≤ k → k < n → 0 ≤ j → j < n → R row k = R row j → k = j
/-- a point's object -/
def PTO (W : qR) (R : rR) (P : qR) (x : Nat) (q : Int) : Prop := W x 2129 = P 2335 q ∧ W x 2130 = P 2336 q ∧ W x 2131 = P 2337 q ∧ ∀ j : Int, 0 ≤ j → j < P 2337 q → ∃ c : Nat, R (x + 1) j = some c ∧ MBC W P c (6 * q + j)
def XGR (W : qR) (R : rR) (P : qR) (g : Int) : Prop := W (grO g) 2097 = P 2334 g ∧ W (grO g) 2098 = qPn P g 8 0 ∧ ARP R (grO g + 1) 8 (grO g + 2) 8 ∧ (∀ i, i < 8 → ARP R (grO g + 3 + 8 * i) 6 (grO g + 4 + 8 * i) 1) ∧ ∀ k : Int, 0 ≤ k → k < P 2334 g → ∃ x : Nat, R (grO g + 1) k = some x ∧ PTO W R P x (8 * g + k)
/-- openings: how many descriptors are each, where it is -/
def XOP (W : qR) (P : qR) : Prop := ∀ o : Int, 0 ≤ o → o < 64 → W (1229 + o.toNat) 2167 = qUsers P o ∧ (¬ P 2330 o = 0 → W (1229 + o.toNat) 2160 = P 2331 o ∧ W (1229 + o.toNat) 2161 = P 2332 o ∧ W (1229 + o.toNat) 2166 = P 2333 o)
def XN (W : qR) (R : rR) (P : qR) : Prop := (∀ p : Int, 0 ≤ p → p < 8 → XPR W R P p) ∧ (∀ g : Int, 0 ≤ g → g < 8 → XGR W R P g) ∧ XOP W P
/-- all that holds of the class's objects and the reference's rows -/
def XR (K T U : Int) (W : qR) (R : rR) (P : qR) : Prop := XQ K W R P ∧ KM W P ∧ XN W R P ∧ GI T U P ∧ PKK P ∧ GO P ∧ PTS P
section XNS
variable {fb : Bool} {d S b c q n a0 m : Nat} {σ0 σ : hM} {W W1 W2 P Q : qR} {R R1 R2 : rR} {i j k x z v s e w f g u p K T U t : Int} {l l0 lo nm M : List Int}
theorem BY.eqv (h : BY W b n l) (hW : ∀ k : Int, W2 b k = W b k) (hW2 : ∀ k : Int, 0 ≤ k → k < 2000 → W2 (b + 1) k = W (b + 1) k) : BY W2 b n l := by
  obtain ⟨a1, a2, a3, a4, a5, a6, a7⟩ := h
  exact ⟨a1, a2, a3, (hW _).trans a4, a5, a6, fun i i0 i1 => (hW2 i i0 (by omega)).trans (a7 i i0 i1)⟩
theorem qPn_fr (h1 : ∀ k, Q 2320 k = P 2320 k) (h2 : ∀ k, Q 2323 k = P 2323 k) : ∀ (m : Nat) (k : Int), qPn Q g m k = qPn P g m k
  | 0, _ => rfl
  | m + 1, k => by
    show (if ¬ Q 2320 k = 0 ∧ Q 2323 k = g then 1 else 0) + qPn Q g m (k + 1) = (if ¬ P 2320 k = 0 ∧ P 2323 k = g then 1 else 0) + qPn P g m (k + 1)
    rw [h1, h2, qPn_fr h1 h2 m (k + 1)]
theorem usR_fr (h1 : ∀ k, Q 2320 k = P 2320 k) (h2 : ∀ k, Q 2327 k = P 2327 k) : ∀ (m : Nat) (k n : Int), usR Q x m k n = usR P x m k n
  | 0, _, _ => rfl
  | m + 1, k, n => by
    show usR Q x m (k + 1) (if ¬ Q 2320 (k / 8) = 0 ∧ Q 2327 k = x then n + 1 else n) = usR P x m (k + 1) (if ¬ P 2320 (k / 8) = 0 ∧ P 2327 k = x then n + 1 else n)
    rw [h1, h2, usR_fr h1 h2 m (k + 1)]
theorem prO_rng (hp : 0 ≤ p ∧ p < 8) : 295 ≤ prO p ∧ prO p ≤ 1170 := by
  unfold prO
  omega
theorem grO_rng (hg : 0 ≤ g ∧ g < 8) : 229 ≤ grO g ∧ grO g ≤ 1104 := by
  unfold grO
  omega
theorem LIV.fr (h : LIV W R P p) (hp : 0 ≤ p ∧ p < 8) (hW : ∀ (x : Nat) (k : Int), 229 ≤ x → x < 1293 → k ≠ 2198 → W2 x k = W x k) (hR : ∀ (x : Nat) (k : Int), 229 ≤ x → x < 1293 → R2 x k = R x k) (hQ : ∀ (f : Nat) (k : Int), nsR.elem f = true → Q f k = P f k) : LIV W2 R2 Q p := by
  have hr := prO_rng hp
  obtain ⟨b1, b2, b3, b4, b5, b6⟩ := h
  have by1 : ∀ {b n : Nat} {l : List Int}, BY W b n l → 229 ≤ b → b + 1 < 1293 → BY W2 b n l := fun {b n l} h h0 h1 => by
    obtain ⟨a1, a2, a3, a4, a5, a6, a7⟩ := h
    exact ⟨a1, a2, a3, (hW _ _ h0 (by omega) (by decide)).trans a4, a5, a6, fun i i0 i1 => (hW _ _ (by omega) h1 (by omega)).trans (a7 i i0 i1)⟩
  have sg : ∀ (f : Nat) (o : Int) (m : Nat), nsR.elem f = true → seg (Q f) o m = seg (P f) o m := fun f o m hf => by rw [show Q f = P f from funext (fun k => hQ f k hf)]
  refine ⟨(hW _ _ (by omega) (by omega) (by decide)).trans (b1.trans (hQ _ _ rfl).symm), (hW _ _ (by omega) (by omega) (by decide)).trans (b2.trans (hQ _ _ rfl).symm), ?_, ?_, ?_, fun x x0 x1 => ?_⟩
  · rw [hR _ _ (by omega) (by omega), hQ 2323 _ rfl]
    exact b3
  · rw [sg _ _ _ rfl, hQ 2326 _ rfl]
    exact by1 b4 (by omega) (by omega)
  · rw [sg _ _ _ rfl, hQ 2329 _ rfl]
    exact by1 b5 (by omega) (by omega)
  · rw [sg _ _ _ rfl, hQ 2362 _ rfl]
    exact by1 (b6 x x0 x1) (by omega) (by omega)
theorem MBC.fr (h : MBC W P c x) (hc : 229 ≤ c ∧ c < 1293) (hW : ∀ (x : Nat) (k : Int), 229 ≤ x → x < 1293 → k ≠ 2198 → W2 x k = W x k) (hQ : ∀ (f : Nat) (k : Int), nsR.elem f = true → Q f k = P f k) : MBC W2 Q c x := by
  obtain ⟨a1, a2, a3, a4, a5⟩ := h
  unfold MBC
  rw [hQ 2338 _ rfl, hQ 2339 _ rfl, hQ 2340 _ rfl, hQ 2341 _ rfl, hQ 2342 _ rfl, hW _ _ hc.1 hc.2 (by decide), hW _ _ hc.1 hc.2 (by decide), hW _ _ hc.1 hc.2 (by decide), hW _ _ hc.1 hc.2 (by decide), hW _ _ hc.1 hc.2 (by decide)]
  exact ⟨a1, a2, a3, a4, a5⟩
theorem ARP.eqv {r0 n0 b0 s0 : Nat} (h : ARP R r0 n0 b0 s0) (hR : ∀ k : Int, 0 ≤ k → k < n0 → R2 r0 k = R r0 k) : ARP R2 r0 n0 b0 s0 := ⟨fun k k0 k1 => by rw [hR k k0 k1]; exact h.1 k k0 k1, fun k j k0 k1 j0 j1 e => h.2 k j k0 k1 j0 j1 (by rw [← hR k k0 k1, ← hR j j0 j1]; exact e)⟩
/-- where a point's object and its members' stand -/
theorem XGR.pt (h : XGR W R P g) (hk : 0 ≤ k ∧ k < 8) : ∃ i, i < 8 ∧ R (grO g + 1) k = some (grO g + 2 + 8 * i) := h.2.2.1.1 k hk.1 (by omega)
theorem XGR.mb (h : XGR W R P g) {i : Nat} (hi : i < 8) (hj : 0 ≤ j ∧ j < 6) : ∃ y, y < 6 ∧ R (grO g + 3 + 8 * i) j = some (grO g + 4 + 8 * i + y) := by
  obtain ⟨y, y0, y1⟩ := (h.2.2.2.1 i hi).1 j hj.1 (by omega)
  exact ⟨y, y0, by rw [y1, Nat.one_mul]⟩
theorem XGR.fr (h : XGR W R P g) (hg : 0 ≤ g ∧ g < 8) (hI : IV false T U P) (hW : ∀ (x : Nat) (k : Int), 229 ≤ x → x < 1293 → k ≠ 2198 → W2 x k = W x k) (hR : ∀ (x : Nat) (k : Int), 229 ≤ x → x < 1293 → R2 x k = R x k) (hQ : ∀ (f : Nat) (k : Int), nsR.elem f = true → Q f k = P f k) : XGR W2 R2 Q g := by
  have hr := grO_rng hg
  have h0 := h
  obtain ⟨a1, a2, a3, a4, a5⟩ := h
  have hpb : 0 ≤ P 2334 g ∧ P 2334 g ≤ 8 := IV.a hI 2334 0 8 rfl rfl rfl (by omega) (by omega)
  refine ⟨(hW _ _ (by omega) (by omega) (by decide)).trans (a1.trans (hQ _ _ rfl).symm), ?_, a3.eqv (fun k _ _ => hR _ _ (by omega) (by omega)), fun i hi => (a4 i hi).eqv (fun k _ _ => hR _ _ (by omega) (by omega)), fun k k0 k1 => ?_⟩
  · rw [hW _ _ (by omega) (by omega) (by decide), qPn_fr (fun k => hQ _ _ rfl) (fun k => hQ _ _ rfl)]
    exact a2
  · rw [hQ 2334 _ rfl] at k1
    obtain ⟨x, hx, b1, b2, b3, b4⟩ := a5 k k0 k1
    obtain ⟨i, hi, hx2⟩ := h0.pt (k := k) ⟨k0, by omega⟩
    have ex : x = grO g + 2 + 8 * i := Option.some.inj (hx.symm.trans hx2)
    refine ⟨x, (hR _ _ (by omega) (by omega)).trans hx, ?_, ?_, ?_, fun j j0 j1 => ?_⟩
    · rw [hW _ _ (by omega) (by omega) (by decide), hQ 2335 _ rfl]; exact b1
    · rw [hW _ _ (by omega) (by omega) (by decide), hQ 2336 _ rfl]; exact b2
    · rw [hW _ _ (by omega) (by omega) (by decide), hQ 2337 _ rfl]; exact b3
    · rw [hQ 2337 _ rfl] at j1
      have hmb : 0 ≤ P 2337 (8 * g + k) ∧ P 2337 (8 * g + k) ≤ 6 := IV.a hI 2337 0 64 rfl rfl rfl (by omega) (by omega)
      obtain ⟨c, hc, hm⟩ := b4 j j0 j1
      obtain ⟨y, hy, hc2⟩ := h0.mb hi (j := j) ⟨j0, by omega⟩
      have ec : c = grO g + 4 + 8 * i + y := by
        rw [show x + 1 = grO g + 3 + 8 * i by omega] at hc
        exact Option.some.inj (hc.symm.trans hc2)
      exact ⟨c, (hR _ _ (by omega) (by omega)).trans hc, hm.fr (by omega) hW hQ⟩
theorem XN.fr (h : XN W R P) (hI : IV false T U P) (hW : ∀ (x : Nat) (k : Int), 229 ≤ x → x < 1293 → k ≠ 2198 → W2 x k = W x k) (hR : ∀ (x : Nat) (k : Int), 229 ≤ x → x < 1293 → R2 x k = R x k) (hQ : ∀ (f : Nat) (k : Int), nsR.elem f = true → Q f k = P f k) : XN W2 R2 Q := by
  obtain ⟨h1, h2, h3⟩ := h
  refine ⟨fun p p0 p1 => ?_, fun g g0 g1 => (h2 g g0 g1).fr ⟨g0, g1⟩ hI hW hR hQ, fun o o0 o1 => ?_⟩
  · have hr := prO_rng (p := p) ⟨p0, p1⟩
    obtain ⟨a1, a2, a3, a4⟩ := h1 p p0 p1
    refine ⟨(hW _ _ (by omega) (by omega) (by decide)).trans a1, ?_, fun k k0 k1 => ?_, fun hp => ?_⟩
    · rw [hW _ _ (by omega) (by omega) (by decide), hQ 2320 _ rfl]
      exact a2
    · rw [hR _ _ (by omega) (by omega), hQ 2327 _ rfl, hQ 2320 _ rfl]
      exact a3 k k0 k1
    · rw [hQ 2320 _ rfl] at hp
      exact (a4 hp).fr ⟨p0, p1⟩ hW hR hQ
  · obtain ⟨a1, a2⟩ := h3 o o0 o1
    have eu : qUsers Q o = qUsers P o := usR_fr (fun k => hQ _ _ rfl) (fun k => hQ _ _ rfl) 64 0 0
    rw [hW _ _ (by omega) (by omega) (by decide), hW _ _ (by omega) (by omega) (by decide), hW _ _ (by omega) (by omega) (by decide), hW _ _ (by omega) (by omega) (by decide), eu, hQ 2330 _ rfl, hQ 2331 _ rfl, hQ 2332 _ rfl, hQ 2333 _ rfl]
    exact ⟨a1, a2⟩
theorem nsR_srv {f : Nat} (h : nsR.elem f = true) : srvRow f = false ∧ f ≠ 2281 ∧ f ≠ 2316 ∧ f ≠ 2317 := by
  have h2 : f ∈ nsR := List.elem_iff.mp h
  unfold nsR at h2
  simp only [List.mem_cons, List.not_mem_nil, or_false] at h2
  rcases h2 with q | q | q | q | q | q | q | q | q | q | q | q | q | q | q | q | q | q | q | q | q | q | q | q <;> (rw [q]; exact ⟨rfl, by decide, by decide, by decide⟩)
theorem GO.fr (h : GO P) (h1 : ∀ k, Q 2320 k = P 2320 k) (h2 : ∀ k, Q 2327 k = P 2327 k) (h3 : ∀ k, Q 2330 k = P 2330 k) : GO Q := ⟨fun i i0 i1 c1 c2 => by
    rw [h1] at c1
    rw [h2] at c2 ⊢
    rw [h3]
    exact h.1 i i0 i1 c1 c2, fun o o0 o1 c => by
    rw [h3] at c
    obtain ⟨i, i1, i2, i3⟩ := h.2 o o0 o1 c
    exact ⟨i, i1, by rw [h1]; exact i2, by rw [h2]; exact i3⟩⟩
/-- a process's status, out of what holds -/
theorem XN.pst (h : XN W R P) (hI : IV false T U P) (hp : 0 ≤ p ∧ p < 8) (hl : ¬ P 2320 p = 0) : PST W R P p (295 + 125 * p.toNat) := by
  obtain ⟨a1, a2, a3, a4⟩ := h.1 p hp.1 hp.2
  obtain ⟨b1, b2, b3, -⟩ := a4 hl
  have hu : 0 ≤ P 2322 p ∧ P 2322 p ≤ 3 := IV.a hI 2322 0 8 rfl rfl rfl (by omega) (by omega)
  have hg : 0 ≤ P 2323 p ∧ P 2323 p ≤ 7 := IV.a hI 2323 0 8 rfl rfl rfl (by omega) (by omega)
  have hn : 0 ≤ P 2334 (P 2323 p) ∧ P 2334 (P 2323 p) ≤ 8 := IV.a hI 2334 0 8 rfl rfl rfl (by omega) (by omega)
  have h8 : p = 0 ∨ p = 1 ∨ p = 2 ∨ p = 3 ∨ p = 4 ∨ p = 5 ∨ p = 6 ∨ p = 7 := by omega
  refine ⟨tX_prc p.toNat (by omega), ?_, ⟨b1, hu⟩, ⟨grO (P 2323 p), b3, tX_grp _ (by omega), (h.2.1 _ hg.1 (by omega)).1, hn⟩, fun k k0 k1 => ?_⟩
  · rcases h8 with rfl | rfl | rfl | rfl | rfl | rfl | rfl | rfl <;> exact ⟨by decide, by decide⟩
  · have ho := IV.a hI 2327 0 64 rfl rfl rfl (show 0 ≤ 8 * p + k by omega) (by omega)
    have ho2 : -1 ≤ P 2327 (8 * p + k) ∧ P 2327 (8 * p + k) ≤ 63 := ho
    have hr := a3 k k0 k1
    by_cases c : P 2327 (8 * p + k) < 0
    · rw [if_pos (Or.inr c)] at hr
      exact Or.inl ⟨c, hr⟩
    · rw [if_neg (fun q => by rcases q with q | q; exact hl q; exact c q)] at hr
      exact Or.inr ⟨c, _, hr, tX_opn _ (by omega)⟩
/-- a message the kernel asks -/
theorem x_ask (hP : PX σ0 W R σ) (hX : XR K T U W R P) (hT : T + 110 ≤ 2147483000) (hs : 0 ≤ s ∧ s < 3) (hB : BY W 138 300 (mFr M)) (hM1 : 3 ≤ M.length ∧ M.length ≤ 296) (hM2 : lg M 0 ≠ 100) (h1 : lg M 0 = 104 → nu (msgA M) 7 4 ≤ 47) (h2 : lg M 0 = 110 → nu (msgA M) 11 4 ≤ 47) (hBr : BY W 134 300 l0) : CL fb (d + 7) 26 [vR (some (1293 + 294 * s.toNat)), vI 0, vR (some 138), vR (some 134)] σ (fun r σ' => r = some (vI (tE P s M)) ∧ ∃ W2 R2, PX σ0 W2 R2 σ' ∧ XR K (T + 4) U W2 R2 (tP P s M) ∧ BY W2 134 300 (tA P s M) ∧ FVS 134 W W2 R R2) := by
  obtain ⟨x1, x2, x3, x4, x5, x6, x7⟩ := hX
  have hl : ((mFr M).length : Int) = 4 + M.length := by unfold mFr; rw [List.length_append, leb_len]; omega
  have hb := hB.2.2.2.2.2.1
  have hbM : byt M := fun k k0 => by
    have := hb (4 + k) (by omega)
    unfold mFr at this
    rw [lg_app (by omega), leb_len, if_neg (by omega), show 4 + k - ((4 : Nat) : Int) = k by omega] at this
    exact this
  have hz0 : nu (lg (mFr M)) 0 4 = 4 + (M.length : Int) := msgA_z (by omega)
  have hS : VS (1293 + 294 * s.toNat) s := ⟨hs, rfl⟩
  have h := x_serve0 (fb := fb) (d := d) (z := 4 + (M.length : Int)) hP hS x1 x2 x4 x5 hT (fun q p p0 p1 hp => x3.pst x4.iv ⟨p0, p1⟩ hp) hB hl (by decide) (by decide) hBr (by decide) (by decide) (by decide) (by omega) hz0 (by omega)
  refine h.mono ?_
  rintro r σ' ⟨rfl, W2, R2, g1, g2, g3, g4, g5⟩
  have hA : ((tA P s M).length : Int) ≤ 407 ∧ byt (tA P s M) := by
    have g6 : (trA P s (lg (mFr M)) (4 + (M.length : Int))).length ≤ 300 := g2.2.2.2.2.1
    have g7 : byt (trA P s (lg (mFr M)) (4 + (M.length : Int))) := g2.2.2.2.2.2.1
    exact ⟨by have e : tA P s M = trA P s (lg (mFr M)) (4 + (M.length : Int)) := rfl; rw [e]; omega, g7⟩
  have hm42 : 0 ≤ P 2281 42 ∧ P 2281 42 ≤ T := IV.n x4.iv 42 42 rfl rfl (by decide)
  have hG4 : GI (T + 4) U (tP P s M) := GI_tP x4 (by omega) hs hbM ⟨hM1.1, by omega⟩ hM2 h1 h2 hA
  have hq : ∀ (f : Nat) (k : Int), nsR.elem f = true → tP P s M f k = P f k := fun f k hf => by
    obtain ⟨q1, q2, q3, q4⟩ := nsR_srv hf
    exact tP_f q1 q2 q3 q4
  have hpk : PKK (tP P s M) := by
    obtain ⟨o, t, hX⟩ := x1.1 s hs.1 hs.2
    have hl2 : seg (msgA M) 0 (4 + (M.length : Int)).toNat = mFr M := msgA_seg
    have e : tP P s M = gM1 (srvP (gM1 P (mFr M)) s 0 (msgA M) (4 + (M.length : Int))) (srvA (gM1 P (mFr M)) s 0 (msgA M) (4 + (M.length : Int))) := by
      unfold tP trP
      rw [hl2]
    rw [e]
    exact (PKK_srvP x5.m1 (GI_gM1 x4 hb (by omega)) hs (by decide) (fun j j0 _ => hb j j0) hX.m1.1).m1
  exact ⟨rfl, W2, R2, g1, ⟨g3, g4, x3.fr x4.iv (fun x k x0 x1 hk => g5.1 x k (by omega) (Or.inl (by omega)) (by omega) (by omega) (by omega) (fun c => by unfold ioP at c; omega) (by omega) (by omega)) (fun x k _ x1 => g5.2 x k (Or.inl x1)) hq, hG4, hpk, x6.fr (fun k => hq _ _ rfl) (fun k => hq _ _ rfl) (fun k => hq _ _ rfl), x7.of KF_tP⟩, g2, g5⟩
end XNS
