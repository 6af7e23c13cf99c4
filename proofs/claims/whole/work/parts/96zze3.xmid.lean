/-! The class's kernel in the middle of a change: what the servers ask of all that holds. -/
/-- all that a message asks, and leaves -/
def XM (K T U : Int) (W : qR) (R : rR) (P : qR) : Prop := XQ K W R P ∧ KM W P ∧ GI T U P ∧ PKK P ∧ (∀ p : Int, 0 ≤ p → p < 8 → ¬ P 2320 p = 0 → PST W R P p (295 + 125 * p.toNat)) ∧ ∃ l0, BY W 134 300 l0
abbrev XFM (σ0 : hM) (K T U : Int) (W : qR) (R : rR) (e : Int) (Q : qR) (A : List Int) : Option AV → hM → Prop := fun r σ' => r = some (vI e) ∧ ∃ W2 R2, PX σ0 W2 R2 σ' ∧ XM K T U W2 R2 Q ∧ BY W2 134 300 A ∧ FVS 134 W W2 R R2
/-- what a point's members' clunks leave -/
def FCL (y : Nat) (W W2 : qR) (R R2 : rR) : Prop := (∀ (x : Nat) (k : Int), 229 ≤ x → (x < 1293 ∨ 2175 ≤ x) → x < 2372 → k ≠ 2198 → ¬ (x = y ∧ k = 2131) → W2 x k = W x k) ∧ ∀ (x : Nat) (k : Int), (x < 1293 ∨ 2175 ≤ x) → R2 x k = R x k
section XMID
variable {fb : Bool} {d S b c q n a0 m y0 : Nat} {σ0 σ : hM} {W W1 W2 P Q : qR} {R R1 R2 : rR} {i j k x z v s e w f g u p pt K T U t : Int} {l l0 lo nm M A : List Int}
theorem PST.rr {a : Nat} (h : PST W R P p a) (hR : ∀ k : Int, R2 a k = R a k ∧ R2 (a + 6) k = R (a + 6) k) : PST W R2 P p a := by
  obtain ⟨a1, a2, a3, ⟨g, b1, b2⟩, a5⟩ := h
  refine ⟨a1, a2, a3, ⟨g, (hR _).1.trans b1, b2⟩, fun k k0 k1 => ?_⟩
  rw [(hR k).2]
  exact a5 k k0 k1
theorem XW.mid (h : XW K T U W R P) : XM K T U W R P := ⟨h.1.1, h.1.2.1, h.1.2.2.2.1, h.1.2.2.2.2.1, fun p p0 p1 hl => h.1.2.2.1.pst h.1.2.2.2.1.iv ⟨p0, p1⟩ hl, h.2⟩
theorem XM.xw (h : XM K T U W R P) (hN : XN W R P) (hO : GO P) (hT : PTS P) : XW K T U W R P := ⟨⟨h.1, h.2.1, hN, h.2.2.1, h.2.2.2.1, hO, hT⟩, h.2.2.2.2.2⟩
theorem XM.mono {T2 : Int} (h : XM K T U W R P) (hT : T ≤ T2) : XM K T2 U W R P := ⟨h.1, h.2.1, h.2.2.1.mono hT, h.2.2.2⟩
theorem XM.fr1 (h : XM K T U W R P) (hF : FR1 W W2) : XM K T U W2 R P := by
  obtain ⟨⟨a1, a2, a3⟩, x2, x4, x5, x3, l0, h0⟩ := h
  have h6 := XQ.len7 ⟨a1, a2, a3⟩ x5.1
  refine ⟨⟨fun s s0 s1 => ?_, a2.fv (hF 0 0 (by omega) (by omega) (by omega)) (hF 0 1 (by omega) (by omega) (by omega)) (fun _ => rfl), ?_⟩, ?_, x4, x5, fun p p0 p1 hl => (x3 p p0 p1 hl).fr (fun x k hk h1 h2 => hF x k (by omega) (by omega) (by omega)) (fun _ _ _ => rfl) ⟨p0, p1⟩ rfl, l0, hF.by h0 (by decide)⟩
  · obtain ⟨o, t, h⟩ := a1 s s0 s1
    exact ⟨o, t, h.fr (fun x k _ _ => hF x k (by omega) (by omega) (by omega)) (fun _ _ _ _ => rfl) (fun _ c k _ _ _ q => hF c k (by omega) (by omega) (by omega)) (fun n q => h6 s n s0 q)⟩
  · obtain ⟨b1, b2, b3⟩ := a3
    exact ⟨hF.by b1 (by decide), hF.by b2 (by decide), fun p p0 p1 => (hF _ _ (by omega) (by omega) (by omega)).trans (b3 p p0 p1)⟩
  · obtain ⟨b1, b2, b3⟩ := x2
    exact ⟨(hF _ _ (by decide) (by decide) (by decide)).trans b1, (hF _ _ (by decide) (by decide) (by decide)).trans b2, fun i i0 i1 => ⟨(b3 i i0 i1).1, hF.by (b3 i i0 i1).2 (by omega)⟩⟩
theorem grp_all : ∀ a < 2281, tX a = some (Sum.inl 3) → 229 ≤ a ∧ a < 1293 := by decide +kernel
theorem grp_rng {ga : Nat} (h : tX ga = some (Sum.inl 3)) : 229 ≤ ga ∧ ga < 1293 := grp_all ga (tX_o h).2 h
/-- a message the kernel asks, in the middle of a change -/
theorem x_askX (hP : PX σ0 W R σ) (hX : XM K T U W R P) (hT : T + 110 ≤ 2147483000) (hs : 0 ≤ s ∧ s < 3) (hB : BY W 138 300 (mFr M)) (hM1 : 3 ≤ M.length ∧ M.length ≤ 296) (hM2 : lg M 0 ≠ 100) (h1 : lg M 0 = 104 → nu (msgA M) 7 4 ≤ 47) (h2 : lg M 0 = 110 → nu (msgA M) 11 4 ≤ 47) : CL fb (d + 7) 26 [vR (some (1293 + 294 * s.toNat)), vI 0, vR (some 138), vR (some 134)] σ (XFM σ0 K (T + 4) U W R (tE P s M) (tP P s M) (tA P s M)) := by
  obtain ⟨x1, x2, x4, x5, x3, l0, hBr⟩ := hX
  have hl : ((mFr M).length : Int) = 4 + M.length := by unfold mFr; rw [List.length_append, leb_len]; omega
  have hb := hB.2.2.2.2.2.1
  have hbM : byt M := fun k k0 => by
    have := hb (4 + k) (by omega)
    unfold mFr at this
    rw [lg_app (by omega), leb_len, if_neg (by omega), show 4 + k - ((4 : Nat) : Int) = k by omega] at this
    exact this
  have hz0 : nu (lg (mFr M)) 0 4 = 4 + (M.length : Int) := msgA_z (by omega)
  have hS : VS (1293 + 294 * s.toNat) s := ⟨hs, rfl⟩
  have h := x_serve0 (fb := fb) (d := d) (z := 4 + (M.length : Int)) hP hS x1 x2 x4 x5 hT (fun q p p0 p1 hp => x3 p p0 p1 hp) hB hl (by decide) (by decide) hBr (by decide) (by decide) (by decide) (by omega) hz0 (by omega)
  refine h.mono ?_
  rintro r σ' ⟨rfl, W2, R2, g1, g2, g3, g4, g5⟩
  have hA : ((tA P s M).length : Int) ≤ 407 ∧ byt (tA P s M) := by
    have g6 : (trA P s (lg (mFr M)) (4 + (M.length : Int))).length ≤ 300 := g2.2.2.2.2.1
    have g7 : byt (trA P s (lg (mFr M)) (4 + (M.length : Int))) := g2.2.2.2.2.2.1
    exact ⟨by have e : tA P s M = trA P s (lg (mFr M)) (4 + (M.length : Int)) := rfl; rw [e]; omega, g7⟩
  have hm42 : 0 ≤ P 2281 42 ∧ P 2281 42 ≤ T := IV.n x4.iv 42 42 rfl rfl (by decide)
  have hG4 : GI (T + 4) U (tP P s M) := GI_tP x4 (by omega) hs hbM ⟨hM1.1, by omega⟩ hM2 h1 h2 hA
  have hq : ∀ (f : Nat) (k : Int), nsR.elem f = true → tP P s M f k = P f k := fun f k hf => by
    obtain ⟨q1, q2, q3, q4⟩ := nsR_srv hf
    exact tP_f q1 q2 q3 q4
  have hpk : PKK (tP P s M) := by
    obtain ⟨o, t, hX⟩ := x1.1 s hs.1 hs.2
    have hl2 : seg (msgA M) 0 (4 + (M.length : Int)).toNat = mFr M := msgA_seg
    have e : tP P s M = gM1 (srvP (gM1 P (mFr M)) s 0 (msgA M) (4 + (M.length : Int))) (srvA (gM1 P (mFr M)) s 0 (msgA M) (4 + (M.length : Int))) := by
      unfold tP trP
      rw [hl2]
    rw [e]
    exact (PKK_srvP x5.m1 (GI_gM1 x4 hb (by omega)) hs (by decide) (fun j j0 _ => hb j j0) hX.m1.1).m1
  refine ⟨rfl, W2, R2, g1, ⟨g3, g4, hG4, hpk, fun p p0 p1 hp => ?_, _, g2⟩, g2, g5⟩
  rw [hq 2320 _ rfl] at hp
  have hps := x3 p p0 p1 hp
  have hga : ∃ ga : Nat, R (295 + 125 * p.toNat) 2201 = some ga ∧ tX ga = some (Sum.inl 3) := by
    obtain ⟨ga, b1, b2, -⟩ := hps.2.2.2.1
    exact ⟨ga, b1, b2⟩
  have hR : ∀ k : Int, R2 (295 + 125 * p.toNat) k = R (295 + 125 * p.toNat) k ∧ R2 (295 + 125 * p.toNat + 6) k = R (295 + 125 * p.toNat + 6) k := fun k => ⟨g5.2 _ _ (Or.inl (by omega)), g5.2 _ _ (Or.inl (by omega))⟩
  obtain ⟨a1, a2, ⟨a3, a4⟩, ⟨ga, b1, b2, b3, b4⟩, a5⟩ := hps.rr hR
  have hgr : 229 ≤ ga ∧ ga < 1293 := grp_rng b2
  refine ⟨a1, a2, ?_, ⟨ga, b1, b2, ?_, ?_⟩, fun k k0 k1 => ?_⟩
  · rw [g5.1 _ _ (by omega) (Or.inl (by omega)) (by omega) (by omega) (by omega) (fun c => by unfold ioP at c; omega) (by omega) (by omega), hq 2322 _ rfl]
    exact ⟨a3, a4⟩
  · rw [g5.1 _ _ (by omega) (Or.inl (by omega)) (by omega) (by omega) (by omega) (fun c => by unfold ioP at c; omega) (by omega) (by omega), hq 2334 _ rfl, hq 2323 _ rfl]
    exact b3
  · rw [hq 2334 _ rfl, hq 2323 _ rfl]
    exact b4
  · rw [hq 2327 _ rfl]
    exact a5 k k0 k1
/-- a group's, a point's, a process's object is written, or what it stands for -/
theorem XM.rowG (h : XM K T U W R P) (r : RF npG Q P) (hG : GI T U Q) (hW : ∀ (x : Nat) (k : Int), (x < 229 ∨ 1293 ≤ x ∨ k = 2198) → W2 x k = W x k) (hR : ∀ (x : Nat) (k : Int), (x < 229 ∨ 1293 ≤ x ∨ k = 2267) → R2 x k = R x k) (hPS : ∀ p : Int, 0 ≤ p → p < 8 → ¬ P 2320 p = 0 → PST W2 R2 Q p (295 + 125 * p.toNat)) : XM K T U W2 R2 Q := by
  obtain ⟨x1, x2, x4, x5, x3, l0, h0⟩ := h
  have hb : ∀ {b n : Nat} {l : List Int}, BY W b n l → b + 1 < 229 → BY W2 b n l := fun {b n l} h hb => by
    obtain ⟨y1, y2, y3, y4, y5, y6, y7⟩ := h
    exact ⟨y1, y2, y3, (hW _ _ (by omega)).trans y4, y5, y6, fun i i0 i1 => (hW _ _ (by omega)).trans (y7 i i0 i1)⟩
  refine ⟨x1.rowG x5.1 r hW hR, ?_, hG, x5.rowG r, fun p p0 p1 hp => hPS p p0 p1 (by rw [← r 2320 _ rfl]; exact hp), l0, hb h0 (by decide)⟩
  obtain ⟨m1, m2, m3⟩ := x2
  refine ⟨(hW _ _ (by omega)).trans (m1.trans (r _ _ rfl).symm), (hW _ _ (by omega)).trans (m2.trans (r _ _ rfl).symm), fun i i0 i1 => ?_⟩
  rw [r 2317 _ rfl, show Q 2316 = P 2316 from funext (fun k => r 2316 k rfl)]
  exact ⟨(m3 i i0 i1).1, hb (m3 i i0 i1).2 (by omega)⟩
theorem PST.hold {a : Nat} (h : PST W R P p a) (hW : ∀ (x : Nat) (k : Int), k = 2199 ∨ k = 2097 → W2 x k = W x k) (hR : ∀ k : Int, R2 a k = R a k ∧ R2 (a + 6) k = R (a + 6) k) : PST W2 R2 P p a := by
  obtain ⟨a1, a2, ⟨a3, a4⟩, ⟨ga, b1, b2, b3, b4⟩, a5⟩ := h.rr hR
  exact ⟨a1, a2, ⟨(hW _ _ (Or.inl rfl)).trans a3, a4⟩, ⟨ga, b1, b2, (hW _ _ (Or.inr rfl)).trans b3, b4⟩, a5⟩
theorem FCL_rfl : FCL y0 W W R R := ⟨fun _ _ _ _ _ _ _ => rfl, fun _ _ _ => rfl⟩
theorem FCL_tr (h1 : FCL y0 W W1 R R1) (h2 : FCL y0 W1 W2 R1 R2) : FCL y0 W W2 R R2 := ⟨fun x k a b c e g => (h2.1 x k a b c e g).trans (h1.1 x k a b c e g), fun x k a => (h2.2 x k a).trans (h1.2 x k a)⟩
theorem FCL_fa (h : FA W W2 R R2) : FCL y0 W W2 R R2 := ⟨fun x k a b c e _ => h.1 x k (by omega) b c (by omega) (by omega) (by omega) (by omega) (by omega) (fun q => by unfold ioP at q; omega) (by omega), h.2⟩
end XMID
