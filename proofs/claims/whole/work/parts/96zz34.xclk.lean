/-! The class's servers: clunk, remove. -/
theorem T_42_9 : hTab 42 9 = some ((0, 0, 1, []), 10) := rfl
theorem T_42_10 : hTab 42 10 = some ((33, 1, 0, []), 11) := rfl
section XCLK
variable {fb : Bool} {d S a b c rp m : Nat} {σ0 σ : hM} {W W1 W2 P Q : qR} {R R1 R2 : rR} {i j k x z v s e w f u n p g ln K T U C : Int} {ord : List Int} {t : Nat → Nat} {r : Option Nat}
theorem and32_3 (z : Int) : and32 z 3 = z % 4 := by
  unfold and32
  show (BitVec.ofInt 32 z &&& 3#32).toInt = z % 4
  have h1 : (BitVec.ofInt 32 z &&& 3#32).toNat = (z % 4294967296).toNat % 4 := by
    rw [BitVec.toNat_and, BitVec.toNat_ofInt]
    exact Nat.and_two_pow_sub_one_eq_mod _ 2
  rw [BitVec.toInt_eq_toNat_of_lt (by rw [h1]; omega), h1]
  omega
theorem and3_rng {x : Int} : 0 ≤ and32 x 3 ∧ and32 x 3 ≤ 3 := by
  rw [and32_3]
  omega
theorem FV_take (hp : 0 ≤ p ∧ p < C) (hC : C ≤ 64) (hb : S + 6 ≤ b ∧ b < S + 198) (hS : 0 < S ∧ S + 294 ≤ 2372) : FV S rp W (tkW W S b C v) R (tkR R S b p C) := by
  have hr : ∀ (x : Nat) (k : Int), (x < S ∨ S + 294 ≤ x) → tkR R S b p C x k = R x k := fun x k q => by
    unfold tkR
    rw [oU_f (by omega), oU_f (by omega), oU_f (by omega)]
    unfold mvR
    rw [if_neg (fun c => by omega)]
    unfold gnR
    exact if_neg (fun c => by omega)
  refine ⟨fun x k _ q _ _ _ => tkW_o (by omega) (by omega), hr, ⟨tkR_k (by decide) (by decide) (by decide) (by decide) hC, tkR_k (by decide) (by decide) (by decide) (by decide) hC, tkW_o (by omega) (by omega)⟩, fun c k q _ _ => tkW_o (by omega) (by omega), ?_, fun b2 => Or.inl (tkR_k (by decide) (by decide) (by decide) (by decide) hC)⟩
  rw [tkW_o (by omega) (by omega)]
  exact Int.le_refl _
/-- why a fid's file may not be removed -/
theorem x_refuse (hP : PX σ0 W R σ) (hS : VS S s) (hT : NT W R P S s ord t) (hR : TRX P s ord) (hI : IV false T U P) (ha : tX a = some (Sum.inl 9)) (hf : FDu W R P S ord t a k) (hl : P 2310 k = 0 → isN P s (P 2306 k)) (hsh : W S 2225 = if s < 2 then 0 else 1) : CL fb (d + 1) 42 [vR (some S), vR (some a)] σ (rP (if P 2310 k = 0 then qRem P s (P 2306 k) (P 2308 k) else 1) σ) := by
  have hu := hf.2.1
  have hn := hf.2.2.2.2.2.2.2
  by_cases q : P 2310 k = 0
  · rw [if_pos q] at hn ⊢
    exact x_refusal hP hS hT hR hI ha ((hT.1.1 _).mpr (hl q)) hn hu hsh
  · rw [if_neg q] at hn ⊢
    refine CL_in mL_42 rfl ?_
    show WP fb _ 42 0 [some (vR (some S)), some (vR (some a)), none, none] [] σ _
    refine x_lr (z := some a) T_42_0 rfl ?_
    refine x_gR (z := none) T_42_1 F_9_3 (hP.o ha) (Eq.trans (hP.rm ha rfl (key := 2291) rfl) hn) ?_
    refine x_sr (ls1 := [some (vR (some S)), some (vR (some a)), some (vR none), none]) T_42_4 rfl ?_
    refine x_lr (z := none) T_42_5 rfl ?_
    refine x_nnul T_42_6 (fun a0 h0 => absurd h0 (by simp)) (fun _ => ?_)
    refine x_ic T_42_9 ?_
    refine x_ri T_42_10 ?_
    exact ⟨rfl, rfl⟩
/-- a fid's file is removed -/
theorem x_remove (hP : PX σ0 W R σ) (hS : VS S s) (hX : XV W R P S s ord t) (hK : CT K W R) (hG : GI T U P) (hD : TI P) (hT : T + 49 ≤ 2147483000) (ha : tX a = some (Sum.inl 9)) (hf : FDu W R P S ord t a k) (hg : P 2310 k = 0) (hl : isN P s (P 2306 k)) (hu : 0 ≤ P 2308 k ∧ P 2308 k ≤ 3) (hr : qRem P s (P 2306 k) (P 2308 k) = 0) : CL fb (d + 1) 44 [vR (some S), vR (some a)] σ (fun r σ' => r = none ∧ ∃ W2 R2 ord2 t2, PX σ0 W2 R2 σ' ∧ XV W2 R2 (gRem P s (P 2306 k) (P 2308 k)) S s ord2 t2 ∧ CT K W2 R2 ∧ FV S 0 W W2 R R2) := by
  have hsr := hS.1
  have hrg := hS.rng
  have hle := hX.1.1.2.1
  obtain ⟨hr1, hr2⟩ := qRem_0 hr
  have hs : s < 2 := by omega
  obtain ⟨n, hn⟩ : ∃ n, P 2306 k = n := ⟨_, rfl⟩
  obtain ⟨u, hu0⟩ : ∃ n, P 2308 k = n := ⟨_, rfl⟩
  have hfu := hf.2.1
  have hfn := hf.2.2.2.2.2.2.2
  rw [if_pos hg] at hfn
  rw [hn] at hfn hl hr hr2 ⊢
  rw [hu0] at hfu hu hr ⊢
  have hnl := isN_lt hs hl
  obtain ⟨p, p0, p1, hp⟩ := mem_lg ((hX.1.1.1 n).mpr hl)
  have hup : isN P s (qUp P s n) := by
    have g := hG.2.1.2.1 s n hsr.1 hs (by omega) hnl.2.1 (by omega)
    have ba : 0 ≤ P 2290 (64 * s + n) ∧ P 2290 (64 * s + n) ≤ 63 := IV.a hG.iv 2290 0 128 rfl rfl rfl (by omega) (by omega)
    rw [show qUp P s n = P 2290 (64 * s + n) from if_pos hs]
    exact Or.inl ⟨hs, ba.1, by omega, g.1⟩
  obtain ⟨q, q0, q1, hq⟩ := mem_lg ((hX.1.1.1 _).mpr hup)
  have tp := hX.1.2.1.1 p.toNat (by omega)
  have tq := hX.1.2.1.1 q.toNat (by omega)
  have hpn := noA_get (S := S) (t := t) hX.1.nodup p0 p1
  rw [hp] at hpn
  rw [hpn] at hfn
  have hqn := noA_get (S := S) (t := t) hX.1.nodup q0 q1
  have hpar := hX.1.2.2.2.2 p p0 p1
  rw [hp, if_neg hr2, ← hq, hqn] at hpar
  have hNq := hX.1.2.2.2.1 q q0 q1
  have hNp := hX.1.2.2.2.1 p p0 p1
  rw [hq] at hNq
  rw [hp] at hNp
  have hver : 0 ≤ qVer P s (qUp P s n) ∧ qVer P s (qUp P s n) ≤ T := by
    have ba : 0 ≤ P 2292 (64 * s + qUp P s n) ∧ P 2292 (64 * s + qUp P s n) ≤ T := IV.a hG.iv 2292 0 128 rfl rfl rfl (by have := isN_lt hs hup; omega) (by have := isN_lt hs hup; omega)
    unfold qVer
    rw [if_pos hs]
    exact ba
  obtain ⟨y, hy⟩ : ∃ y, qVer P s (qUp P s n) = y := ⟨_, rfl⟩
  have hvr := hNq.2.2.2.1
  rw [hy] at hvr hver
  have hlen : 0 ≤ P 2297 (64 * s + n) ∧ P 2297 (64 * s + n) ≤ 600 := IV.a hG.iv 2297 0 128 rfl rfl rfl (by omega) (by omega)
  have htb : 0 ≤ P 2301 s ∧ P 2301 s ≤ 8192 := IV.a hG.iv 2301 0 2 rfl rfl rfl (by omega) (by omega)
  have hw : W (S + 6 + 3 * t p.toNat) 2266 = P 2297 (64 * s + n) := hNp.2.2.2.2.2.2.2.1.1.trans (by
    unfold qLen
    by_cases c : 0 ≤ qMode P s n
    · rw [if_pos ⟨hs, c⟩]
    · rw [if_neg (fun c2 => c c2.2)]
      exact (hD.2.2.1 (64 * s + n) (by omega) (by omega) (by rw [show qMode P s n = P 2293 (64 * s + n) from if_pos hs] at c; omega)).symm)
  have hdel := x_delete (fb := fb) (d := d) (p := p) (C := ord.length) hP hS ha hfn hpar hNq.1 hfu hvr.1 ⟨hver.1, by omega⟩ hX.1.1.2.2.1 (by omega) hX.1.2.1.1 hX.1.2.1.2 hX.1.2.2.1 ⟨p0, p1⟩ rfl (fun i i0 i1 b2 hb2 => (hX.2.1 i i0 i1).2.2 b2 hb2) (hX.2.2.1.2.2.2.1 hs).1 hw (by omega)
  refine hdel.mono ?_
  rintro _ σ' ⟨rfl, hP2⟩
  have e0 : ∀ (x : Nat) (k : Int), k ≠ 2261 → k ≠ 2265 → rU (rU W (S + 6 + 3 * t q.toNat) 2261 (y + 1)) (S + 6 + 3 * t q.toNat) 2265 u x k = W x k := fun x k h1 h2 => (rU_j h2).trans (rU_j h1)
  refine ⟨rfl, _, _, _, _, hP2, hX.rem hS hG hD hs ⟨p0, p1⟩ rfl rfl hp hr ⟨q0, q1⟩ rfl hq hy (by omega) hu, hK.fv ((tkW_o (by omega) (by omega)).trans (e0 _ _ (by decide) (by decide))) ((tkW_o (by omega) (by omega)).trans (e0 _ _ (by decide) (by decide))) (fun b2 => tkR_k (by decide) (by decide) (by decide) (by decide) (by omega)), FV_tr (FV_tr (FV_own (by omega) (by omega) (by omega)) (FV_own (by omega) (by omega) (by omega))) (FV_take ⟨p0, p1⟩ (by omega) (by omega) (by omega))⟩
/-- what stands where, where but fids that are not used differ -/
theorem XV.pe (h : XV W R P S s ord t) (hq : ∀ (f : Nat) (k : Int), f ≠ 2310 → Q f k = P f k) (hg : ∀ k, ¬ P 2304 k = 0 → Q 2310 k = P 2310 k) : XV W R Q S s ord t := by
  have hfe : FE Q P := fun f k hf => hq f k (fun c => by rw [c] at hf; exact absurd hf (by decide))
  refine ⟨h.1.fe hfe, fun i i0 i1 => ?_, ?_, fun i i0 i1 => (h.2.2.2 i i0 i1).pp (fun _ => hq _ _ (by decide)) (fun _ _ _ _ => hq _ _ (by decide))⟩
  · obtain ⟨a1, a2, a3⟩ := h.2.1 i i0 i1
    rw [hq 2304 _ (by decide)]
    refine ⟨a1, fun q => ?_, a3⟩
    have := a2 q
    unfold FDu at this ⊢
    rw [hq 2305 _ (by decide), hq 2308 _ (by decide), hq 2307 _ (by decide), hq 2309 _ (by decide), hq 2311 _ (by decide), hq 2312 _ (by decide), hg _ q, hq 2306 _ (by decide)]
    exact this
  · obtain ⟨z1, z2, z3, z4⟩ := h.2.2.1
    unfold SZ
    rw [hq _ _ (by decide), hq _ _ (by decide), hq _ _ (by decide), hq _ _ (by decide)]
    exact ⟨z1, z2, z3, z4⟩
/-- a fid goes -/
theorem XV.drop (h : XV W R P S s ord t) (hi : 0 ≤ i ∧ i < 96) (hS : VS S s) (hI : IV false T U P) : XV (rU W (S + 198 + i.toNat) 2288 0) R (rU P 2304 (96 * s + i) 0) S s ord t := by
  have hm : ∀ n, n ∈ ord → isN P s n := fun n hn => (h.1.1.1 n).mp hn
  have hfe : FE (rU P 2304 (96 * s + i) 0) P := fun f k hf => rU_f (fun c => by rw [c] at hf; exact absurd hf (by decide))
  refine ⟨(h.1.key ⟨by decide, by decide, by decide, Or.inr (by decide)⟩).fe hfe, fun j j0 j1 => ?_, ?_, fun j j0 j1 => ((h.2.2.2.key (b := S + 198 + i.toNat) (v := 0) (k := 2288) (by decide) (by decide) (XV.len6 hI hS.1.1) hm) j j0 j1).pp (fun _ => rU_f (by decide)) (fun _ _ _ _ => rU_f (by decide))⟩
  · obtain ⟨a1, a2, a3⟩ := h.2.1 j j0 j1
    by_cases e : j = i
    · rw [e, rU_s, rU_s]
      exact ⟨rfl, fun q => absurd rfl q, by rw [← e]; exact a3⟩
    · have w : ∀ q : Int, rU W (S + 198 + i.toNat) 2288 0 (S + 198 + j.toNat) q = W (S + 198 + j.toNat) q := fun q => rU_f (by omega)
      have hp : ∀ g : Nat, rU P 2304 (96 * s + i) 0 g (96 * s + j) = P g (96 * s + j) := fun g => if_neg (by omega)
      rw [w, hp]
      refine ⟨a1, fun q => ?_, a3⟩
      have := a2 q
      unfold FDu at this ⊢
      rw [w, w, w, w, w, w, w, hp, hp, hp, hp, hp, hp, hp, hp]
      exact this
  · obtain ⟨z1, z2, z3, z4⟩ := h.2.2.1
    unfold SZ
    have w : ∀ (x : Nat) (k : Int), k ≠ 2288 → rU W (S + 198 + i.toNat) 2288 0 x k = W x k := fun x k q => rU_j q
    have pp : ∀ (f : Nat) (k : Int), f ≠ 2304 → rU P 2304 (96 * s + i) 0 f k = P f k := fun f k q => rU_f q
    rw [w _ _ (by decide), w _ _ (by decide), w _ _ (by decide), w _ _ (by decide), w _ _ (by decide), pp _ _ (by decide), pp _ _ (by decide), pp _ _ (by decide), pp _ _ (by decide)]
    exact ⟨z1, z2, z3, z4⟩
theorem TI.isFid (h : TI P) : TI (rU P 2304 k 0) := by
  obtain ⟨h1, h2, h3, h4, h5, h6⟩ := h
  have e : ∀ (f : Nat) (j : Int), f ≠ 2304 → rU P 2304 k 0 f j = P f j := fun f j q => rU_f q
  have hl : ∀ s n, isN (rU P 2304 k 0) s n ↔ isN P s n := fun s n => by
    unfold isN
    rw [e _ _ (by decide), e _ _ (by decide)]
  have hz : ∀ j, ¬ rU P 2304 k 0 2304 j = 0 → ¬ P 2304 j = 0 := fun j q c => q (by
    by_cases e2 : j = k
    · rw [e2, rU_s]
    · rw [rU_k e2, c])
  refine ⟨fun s s0 s1 n nm m m2 g1 g2 => ?_, fun s n s0 s1 hn => ?_, fun k k0 k1 => ?_, fun j j0 j1 g1 g2 g3 g4 g5 => ?_, fun j j0 j1 g1 g2 => ?_, fun j j0 j1 g1 => ?_⟩
  · refine h1 s s0 s1 n nm m m2 ?_ ?_
    · obtain ⟨a1, a2, a3, a4⟩ := g1
      exact ⟨(hl _ _).mp a1, a2, a3, a4⟩
    · obtain ⟨a1, a2, a3, a4⟩ := g2
      exact ⟨(hl _ _).mp a1, a2, a3, a4⟩
  · rw [e _ _ (by decide), e _ _ (by decide)]
    exact h2 s n s0 s1 ((hl _ _).mp hn)
  · rw [e _ _ (by decide), e _ _ (by decide)]
    exact h3 k k0 k1
  · rw [e _ _ (by decide)] at g2 g3 g4 g5
    rw [e _ _ (by decide), e _ _ (by decide)]
    exact h4 j j0 j1 (hz j g1) g2 g3 g4 g5
  · rw [e _ _ (by decide)] at g2
    rw [e _ _ (by decide), hl]
    exact h5 j j0 j1 (hz j g1) g2
  · rw [e _ _ (by decide)] at g1
    rw [e _ _ (by decide), e _ _ (by decide)]
    exact h6 j j0 j1 g1
end XCLK
