/-! The class's kernel: a process ends; all that are to go do. -/
theorem T_201_0 : hTab 201 0 = some ((0, 0, 0, []), 1) := rfl
theorem T_201_1 : hTab 201 1 = some ((4, 2, 0, []), 2) := rfl
theorem T_201_20 : hTab 201 20 = some ((3, 1, 2, []), 21) := rfl
theorem T_201_21 : hTab 201 21 = some ((24, 6, Int.ofNat 9, []), 24) := rfl
theorem T_201_24 : hTab 201 24 = some ((6, 0, 0, []), 25) := rfl
theorem T_201_25 : hTab 201 25 = some ((24, 3, Int.ofNat 2, []), 28) := rfl
theorem T_201_28 : hTab 201 28 = some ((0, 0, 1, []), 29) := rfl
theorem T_201_29 : hTab 201 29 = some ((10, 1, 0, []), 30) := rfl
theorem T_201_30 : hTab 201 30 = some ((25, 3, Int.ofNat 2, []), 33) := rfl
theorem T_201_33 : hTab 201 33 = some ((3, 1, 2, []), 34) := rfl
theorem T_201_34 : hTab 201 34 = some ((24, 6, Int.ofNat 9, []), 37) := rfl
theorem T_201_37 : hTab 201 37 = some ((24, 3, Int.ofNat 2, []), 40) := rfl
theorem T_201_40 : hTab 201 40 = some ((18, 1, Int.ofNat 82, []), 43) := rfl
theorem T_201_43 : hTab 201 43 = some ((0, 0, 0, []), 44) := rfl
theorem T_201_44 : hTab 201 44 = some ((4, 2, 0, []), 45) := rfl
theorem T_201_74 : hTab 201 74 = some ((3, 1, 2, []), 75) := rfl
theorem T_201_75 : hTab 201 75 = some ((24, 6, Int.ofNat 9, []), 78) := rfl
theorem T_201_78 : hTab 201 78 = some ((0, 0, 0, []), 79) := rfl
theorem T_201_79 : hTab 201 79 = some ((25, 3, Int.ofNat 1, []), 82) := rfl
section XENF
variable {fb : Bool} {d S b c q a0 y0 y2 : Nat} {σ0 σ : hM} {W W1 W2 V V5 P Q A B C : qR} {R R1 R2 V3 V4 : rR} {i j k x z v s e w f g u p pt K T U t n o rt : Int} {l l0 lo nm M ord : List Int} {tt : Nat → Nat}
theorem qPn_pr0 (hp : 0 ≤ p ∧ p < 8) (hlv : ¬ A 2320 p = 0) : qPn (pr0 A p) g 8 0 = qPn A g 8 0 - (if A 2323 p = g then 1 else 0) := by
  have h := qPn_set (P := A) (Q := pr0 A p) (g := g) (a := p) 8 0 (fun i _ _ hi => by rw [pr0_is, if_neg hi, pr0_f (by decide) (by decide)]) hp.1 (by show p < (0 : Int) + ((8 : Nat) : Int); omega)
  rw [pr0_is, if_pos rfl, if_neg (show ¬ (¬ (0 : Int) = 0 ∧ pr0 A p 2323 p = g) from fun c => c.1 rfl)] at h
  rw [h]
  by_cases q : A 2323 p = g
  · rw [if_pos ⟨hlv, q⟩, if_pos q]
    omega
  · rw [if_neg (fun c => q c.2), if_neg q]
    omega
/-- processes, groups, openings as a process goes -/
theorem endN (h : XW K T U V V3 A) (hp : 0 ≤ p ∧ p < 8) (hlv : ¬ A 2320 p = 0) (hneg : ∀ k : Int, 0 ≤ k → k < 8 → A 2327 (8 * p + k) < 0) (hg : A 2323 p = g) (hg8 : 0 ≤ g ∧ g < 8) (hfr : ∀ (x : Nat) (k : Int), 229 ≤ x → x < 1293 → k ≠ 2198 → ¬ (k = 2131 ∧ grO g ≤ x ∧ x < grO g + 66) → ¬ (x = grO g ∧ (k = 2098 ∨ k = 2097)) → V5 x k = V x k) (hR : ∀ (x : Nat) (k : Int), 229 ≤ x → x < 1293 → V4 x k = V3 x k) (h98 : V5 (grO g) 2098 = qPn (pr0 A p) g 8 0) (hB : ∀ (f : Nat) (k : Int), nsR.elem f = true → f ≠ 2334 → B f k = A f k) (hBp : ∀ k : Int, k ≠ g → B 2334 k = A 2334 k) (hcase : (B 2334 g = 0 ∧ V5 (grO g) 2097 = 0) ∨ (B 2334 g = A 2334 g ∧ V5 (grO g) 2097 = V (grO g) 2097 ∧ ∀ x : Nat, grO g ≤ x → x < grO g + 66 → V5 x 2131 = V x 2131)) : XN (rU V5 (prO p) 2197 0) V4 (pr0 B p) := by
  have hI := h.1.2.2.2.1.iv
  obtain ⟨h1, h2, h3⟩ := h.1.2.2.1
  have hrp := prO_rng hp
  have hrg := grO_rng hg8
  have epp : prO p = 295 + 125 * p.toNat := rfl
  have egg : grO g = 229 + 125 * g.toNat := rfl
  have hZ : ∀ (x : Nat) (k : Int), 229 ≤ x → x < 1293 → k ≠ 2198 → ¬ (x = prO p ∧ k = 2197) → ¬ (k = 2131 ∧ grO g ≤ x ∧ x < grO g + 66) → ¬ (x = grO g ∧ (k = 2098 ∨ k = 2097)) → rU V5 (prO p) 2197 0 x k = V x k := fun x k a b c e f i => (if_neg e).trans (hfr x k a b c f i)
  have hf : ∀ (f : Nat) (k : Int), nsR.elem f = true → f ≠ 2334 → f ≠ 2320 → pr0 B p f k = A f k := fun f k a b c => (pr0_f c (fun e => by rw [e] at a; exact absurd a (by decide))).trans (hB f k a b)
  have hff : ∀ f : Nat, nsR.elem f = true → f ≠ 2334 → f ≠ 2320 → pr0 B p f = A f := fun f a b c => funext (fun k => hf f k a b c)
  have hi : ∀ k : Int, pr0 B p 2320 k = if k = p then 0 else A 2320 k := fun k => by rw [pr0_is, hB 2320 k rfl (by decide)]
  have hpt : ∀ k : Int, pr0 B p 2334 k = B 2334 k := fun k => pr0_f (by decide) (by decide)
  refine ⟨fun p2 p0 p1 => ?_, fun g2 g0 g1 => ?_, fun o o0 o1 => ?_⟩
  · obtain ⟨a1, a2, a3, a4⟩ := h1 p2 p0 p1
    have hr2 := prO_rng (p := p2) ⟨p0, p1⟩
    have ep2 : prO p2 = 295 + 125 * p2.toNat := rfl
    by_cases e : p2 = p
    · subst e
      refine ⟨(hZ _ _ (by omega) (by omega) (by decide) (by omega) (by omega) (by omega)).trans a1, by rw [hi, if_pos rfl]; exact rU_s, fun k k0 k1 => ?_, fun c => ?_⟩
      · rw [hi, if_pos rfl, if_pos (Or.inl rfl), hR _ _ (by omega) (by omega), a3 k k0 k1, if_pos (Or.inr (hneg k k0 k1))]
      · rw [hi, if_pos rfl] at c
        exact absurd rfl c
    · refine ⟨(hZ _ _ (by omega) (by omega) (by decide) (by omega) (by omega) (by omega)).trans a1, by rw [hZ _ _ (by omega) (by omega) (by decide) (by omega) (by omega) (by omega), hi, if_neg e]; exact a2, fun k k0 k1 => ?_, fun c => ?_⟩
      · rw [hi, if_neg e, hf 2327 _ rfl (by decide) (by decide), hR _ _ (by omega) (by omega)]
        exact a3 k k0 k1
      · rw [hi, if_neg e] at c
        exact (a4 c).at2 ⟨p0, p1⟩ (fun x k x0 x1 hk => hZ x k (by omega) (by omega) hk (by omega) (by omega) (by omega)) (hR _ _ (by omega) (by omega)) (hf _ _ rfl (by decide) (by decide)) (hf _ _ rfl (by decide) (by decide)) (hf _ _ rfl (by decide) (by decide)) (by rw [hff 2325 rfl (by decide) (by decide), hff 2326 rfl (by decide) (by decide)]) (by rw [hff 2328 rfl (by decide) (by decide), hff 2329 rfl (by decide) (by decide)]) (fun x _ _ => by rw [hff 2361 rfl (by decide) (by decide), hff 2362 rfl (by decide) (by decide)])
  · have hr2 := grO_rng (g := g2) ⟨g0, g1⟩
    have eg2 : grO g2 = 229 + 125 * g2.toNat := rfl
    have hqn : qPn (pr0 B p) g2 8 0 = qPn (pr0 A p) g2 8 0 := qPn_fr (fun k => by rw [hi, pr0_is]) (fun k => by rw [hf 2323 _ rfl (by decide) (by decide), pr0_f (by decide) (by decide)]) 8 0
    have hgq : ∀ (hpo : B 2334 g2 = A 2334 g2), grQ A (pr0 B p) g2 := fun hpo => ⟨(hpt g2).trans hpo, fun _ _ _ => ⟨hf _ _ rfl (by decide) (by decide), hf _ _ rfl (by decide) (by decide), hf _ _ rfl (by decide) (by decide)⟩, fun _ _ _ => ⟨hf _ _ rfl (by decide) (by decide), hf _ _ rfl (by decide) (by decide), hf _ _ rfl (by decide) (by decide), hf _ _ rfl (by decide) (by decide), hf _ _ rfl (by decide) (by decide)⟩⟩
    by_cases e : g2 = g
    · subst e
      rcases hcase with ⟨c1, c2⟩ | ⟨c1, c2, c3⟩
      · obtain ⟨a1, a2, a3, a4, a5⟩ := h2 g2 g0 g1
        refine ⟨?_, ?_, a3.eqv (fun k _ _ => hR _ _ (by omega) (by omega)), fun i hi => (a4 i hi).eqv (fun k _ _ => hR _ _ (by omega) (by omega)), fun k k0 k1 => ?_⟩
        · rw [hpt, c1]
          exact (if_neg (fun c => by omega)).trans c2
        · rw [hqn, ← h98]
          exact if_neg (fun c => by omega)
        · rw [hpt, c1] at k1
          omega
      · refine (h2 g2 g0 g1).at3 ⟨g0, g1⟩ hI (fun x k x0 x1 hk hk2 => ?_) (fun x k x0 x1 => hR x k (by omega) (by omega)) ?_ (hgq c1)
        · by_cases q1 : k = 2131
          · rw [q1]
            exact (if_neg (fun c => by omega)).trans (c3 x x0 x1)
          · by_cases q2 : x = grO g2 ∧ k = 2097
            · rw [q2.1, q2.2]
              exact (if_neg (fun c => by omega)).trans c2
            · exact hZ x k (by omega) (by omega) hk (by omega) (fun c => q1 c.1) (fun c => c.2.elim (fun c2 => hk2 c2) (fun c2 => q2 ⟨c.1, c2⟩))
        · rw [hqn, ← h98]
          exact if_neg (fun c => by omega)
    · have hn2 : qPn (pr0 A p) g2 8 0 = qPn A g2 8 0 := by
        rw [qPn_pr0 hp hlv, if_neg (fun c => e (c.symm.trans hg))]
        omega
      refine (h2 g2 g0 g1).at3 ⟨g0, g1⟩ hI (fun x k x0 x1 hk hk2 => hZ x k (by omega) (by omega) hk (by omega) (by omega) (by omega)) (fun x k x0 x1 => hR x k (by omega) (by omega)) ?_ (hgq (hBp g2 e))
      rw [hqn, hn2, hZ _ _ (by omega) (by omega) (by decide) (by omega) (by omega) (by omega)]
      exact (h2 g2 g0 g1).2.1
  · obtain ⟨a1, a2⟩ := h3 o o0 o1
    have eu : qUsers (pr0 B p) o = qUsers A o := usR_eq (m := 64) (k := 0) (nn := 0) (fun i i0 i1 => by
      rw [hi, hf 2327 _ rfl (by decide) (by decide)]
      by_cases e : i / 8 = p
      · rw [if_pos e]
        have := hneg (i - 8 * p) (by omega) (by omega)
        rw [show 8 * p + (i - 8 * p) = i by omega] at this
        constructor
        · rintro ⟨c, _⟩
          exact absurd rfl c
        · rintro ⟨_, c⟩
          omega
      · rw [if_neg e])
    rw [hZ _ _ (by omega) (by omega) (by decide) (by omega) (by omega) (by omega), hZ _ _ (by omega) (by omega) (by decide) (by omega) (by omega) (by omega), hZ _ _ (by omega) (by omega) (by decide) (by omega) (by omega) (by omega), hZ _ _ (by omega) (by omega) (by decide) (by omega) (by omega) (by omega), eu, hf 2330 _ rfl (by decide) (by decide), hf 2331 _ rfl (by decide) (by decide), hf 2332 _ rfl (by decide) (by decide), hf 2333 _ rfl (by decide) (by decide)]
    exact ⟨a1, a2⟩
theorem GO_pr0 (h : GO A) (hp : 0 ≤ p ∧ p < 8) (hneg : ∀ k : Int, 0 ≤ k → k < 8 → A 2327 (8 * p + k) < 0) : GO (pr0 A p) := by
  have ho : ∀ k, pr0 A p 2327 k = A 2327 k := fun k => pr0_f (by decide) (by decide)
  have hs : ∀ k, pr0 A p 2330 k = A 2330 k := fun k => pr0_f (by decide) (by decide)
  refine ⟨fun i i0 i1 c1 c2 => ?_, fun o o0 o1 c1 => ?_⟩
  · rw [ho] at c2 ⊢
    rw [hs]
    rw [pr0_is] at c1
    by_cases e : i / 8 = p
    · rw [if_pos e] at c1
      exact absurd rfl c1
    · rw [if_neg e] at c1
      exact h.1 i i0 i1 c1 c2
  · rw [hs] at c1
    obtain ⟨i, g1, g2, g3⟩ := h.2 o o0 o1 c1
    have e : ¬ (i : Int) / 8 = p := fun c => by
      have := hneg ((i : Int) - 8 * p) (by omega) (by omega)
      rw [show 8 * p + ((i : Int) - 8 * p) = i by omega] at this
      omega
    refine ⟨i, g1, by rw [pr0_is, if_neg e]; exact g2, by rw [ho]; exact g3⟩
theorem x_end (hP : PX σ0 W R σ) (hX : XW K T U W R P) (hT : T + 700 ≤ 2147483000) (hp : 0 ≤ p ∧ p < 8) (hlv : ¬ P 2320 p = 0) : CL fb (d + 9) 201 [vR (some 129), vR (some (prO p))] σ (fun r σ' => r = none ∧ ∃ W2 R2, PX σ0 W2 R2 σ' ∧ XW K (T + 228) U W2 R2 (cEnd P p) ∧ FCM W W2 R R2) := by
  have hpo := prO_o hp
  have hrp := prO_rng hp
  have epp : prO p = 295 + 125 * p.toNat := rfl
  have key : ∀ (σ : hM) (V : qR) (V3 : rR), PX σ0 V V3 σ → XW K (T + 32) U V V3 (enCl p 8 0 P) → FCM W V R V3 → WP fb (d + 9) 201 20 [some (vR (some 129)), some (vR (some (prO p))), some (vI 8)] [] σ (fun r σ' => r = none ∧ ∃ W2 R2, PX σ0 W2 R2 σ' ∧ XW K (T + 228) U W2 R2 (cEnd P p) ∧ FCM W W2 R R2) := fun σ V V3 hP hX hF => by
    have ec1 : enCl p 8 0 P 2323 p = P 2323 p := enCl_kf rfl (by decide) (by decide) (by decide) (by decide) (by decide) 8 0 P
    have ec2 : enCl p 8 0 P 2324 p = P 2324 p := enCl_kf rfl (by decide) (by decide) (by decide) (by decide) (by decide) 8 0 P
    have ec3 : enCl p 8 0 P 2320 p = P 2320 p := enCl_kf rfl (by decide) (by decide) (by decide) (by decide) (by decide) 8 0 P
    have hneg : ∀ k : Int, 0 ≤ k → k < 8 → enCl p 8 0 P 2327 (8 * p + k) < 0 := fun k k0 k1 => enCl_neg 8 0 P k k0 (by omega)
    unfold cEnd
    have e1 : en1 P p = pr0 (enCl p 8 0 P) p := rfl
    rw [e1]
    obtain ⟨A, hA⟩ : ∃ A, enCl p 8 0 P = A := ⟨_, rfl⟩
    rw [hA] at hX ec1 ec2 ec3 hneg
    rw [hA]
    rw [← ec3] at hlv
    have hI := hX.1.2.2.2.1.iv
    have hgR : 0 ≤ A 2323 p ∧ A 2323 p ≤ 7 := IV.a hI 2323 0 8 rfl rfl rfl (by omega) (by omega)
    have hrR : 0 ≤ A 2324 p ∧ A 2324 p ≤ 47 := IV.a hI 2324 0 8 rfl rfl rfl (by omega) (by omega)
    obtain ⟨l1, l2, l3, -⟩ := (hX.1.2.2.1.1 p hp.1 hp.2).2.2.2 hlv
    rw [← ec1, ← ec2]
    obtain ⟨g, hg⟩ : ∃ g, A 2323 p = g := ⟨_, rfl⟩
    obtain ⟨rt, hrt⟩ : ∃ g, A 2324 p = g := ⟨_, rfl⟩
    rw [hg] at hgR l3
    rw [hrt] at hrR l2
    rw [hg, hrt]
    have hg8 : 0 ≤ g ∧ g < 8 := ⟨hgR.1, by omega⟩
    have hrg := grO_rng hg8
    have egg : grO g = 229 + 125 * g.toNat := rfl
    have hgr := hX.1.2.2.1.2.1 g hg8.1 hg8.2
    have h98 : V (grO g) 2098 = qPn A g 8 0 := hgr.2.1
    have hqp := qPn_pr0 (g := g) hp hlv
    rw [if_pos hg] at hqp
    have hq8 := qPn_rng (P := A) (g := g) 8 0
    have hq9 := qPn_rng (P := pr0 A p) (g := g) 8 0
    have hgo3 := grO_o hg8
    unfold en2
    obtain ⟨nh, hh⟩ : ∃ nh, qPn A g 8 0 = nh := ⟨_, rfl⟩
    rw [hh] at h98 hqp hq8
    have hXM1 : XM K (T + 32) U (rU V (grO g) 2098 (nh - 1)) V3 A := hX.mid.rowG RF_rfl hX.1.2.2.2.1 (fun x k hx => if_neg (by omega)) (fun _ _ _ => rfl) (fun p2 p0 p1 hl => (hX.1.2.2.1.pst hI ⟨p0, p1⟩ hl).hold (fun x k hk => if_neg (by omega)) (fun _ => ⟨rfl, rfl⟩))
    have hq8' : nh ≤ 8 := by have : nh ≤ ((8 : Nat) : Int) := hq8.2; omega
    have hpos : 1 ≤ nh := by omega
    have hPT := hX.1.2.2.2.2.2.2
    have hGO := hX.1.2.2.2.2.2.1
    by_cases hz : nh = 1
    · rw [hqp, if_pos (show nh - 1 = 0 by omega), pr0_f (by decide) (by decide), pr0_enDr, pr0_pts]
      have hpb : 0 ≤ A 2334 g ∧ A 2334 g ≤ 8 := IV.a hI 2334 0 8 rfl rfl rfl (by omega) (by omega)
      have hkE : KF (enDr g (A 2334 g).toNat 0 A) A := enDr_kf _ _ _
      have h97 := hgr.1
      have hdr := fun (σ : hM) (hP : PX σ0 (rU V (grO g) 2098 0) V3 σ) (hXM : XM K (T + 32) U (rU V (grO g) 2098 0) V3 A) (h74 : _) => end_dr (fb := fb) (d := d) (σ0 := σ0) (K := K) (U := U) (n := A 2334 g) (R := V3) (Qf := fun r σ' => r = none ∧ ∃ W2 R2, PX σ0 W2 R2 σ' ∧ XW K (T + 228) U W2 R2 (gEn (tP (pr0 (rU (enDr g (A 2334 g).toNat 0 A) 2334 g 0) p) 0 (mOne 120 rt)) 192 288 (16 * p + 16)) ∧ FCM W W2 R R2) hp hg8 hpb.2 (fun i j i0 i1 j0 j1 e => hgr.2.2.1.2 i j i0 i1 j0 j1 e) (A 2334 g).toNat 0 (T + 32) σ (rU V (grO g) 2098 0) V3 A (by omega) (by decide) (by omega) hP hXM ((rU_k (by decide)).trans h97) l3 (fun _ => rfl) (fun j j0 j1 => by
        obtain ⟨y0, hy0, hPM⟩ := PTM_of hgr hg8 hI (k := j) ⟨j0, j1⟩
        obtain ⟨i, hi, hi2⟩ := hgr.pt (k := j) ⟨j0, by omega⟩
        have ey : y0 = grO g + 2 + 8 * i := Option.some.inj (hy0.symm.trans hi2)
        obtain ⟨a1, a2, a3, a4, a5⟩ := hPM
        refine ⟨y0, hy0, ⟨by omega, by omega⟩, a1, a2, a3, (rU_j (by decide)).trans a4, fun m m0 m1 => ?_⟩
        obtain ⟨cc, c0, c1, c2, n1, n2, n3, n4, n5⟩ := a5 m m0 m1
        exact ⟨cc, c0, c1, c2, (rU_j (by decide)).trans n1, (rU_j (by decide)).trans n2, (rU_j (by decide)).trans n3, (rU_j (by decide)).trans n4, (rU_j (by decide)).trans n5⟩) h74
      obtain ⟨E, hE⟩ : ∃ E, enDr g (A 2334 g).toNat 0 A = E := ⟨_, rfl⟩
      rw [hE] at hkE
      simp only [hE] at hdr ⊢
      have hnoq : ∀ p2 : Int, 0 ≤ p2 → p2 < 8 → p2 ≠ p → ¬ A 2320 p2 = 0 → A 2323 p2 ≠ g := fun p2 p0 p1 hne hl hc => by
        have := qPn_0 (P := pr0 A p) (g := g) 8 0 (by omega) p2 p0 (by omega)
        refine this ⟨by rw [pr0_is, if_neg hne]; exact hl, by rw [pr0_f (by decide) (by decide)]; exact hc⟩
      have hend := fun (σ : hM) (V2 : qR) (V4 : rR) (x2 : Option AV) (hXE : XM K (T + 224) U V2 V4 E) (hFE : FCG g (rU V (grO g) 2098 0) V2 V3 V4) (hP : PX σ0 (rU V2 (grO g) 2097 0) V4 σ) => (show WP fb (d + 9) 201 82 [some (vR (some 129)), some (vR (some (prO p))), x2] [] σ (fun r σ' => r = none ∧ ∃ W2 R2, PX σ0 W2 R2 σ' ∧ XW K (T + 228) U W2 R2 (gEn (tP (pr0 (rU E 2334 g 0) p) 0 (mOne 120 rt)) 192 288 (16 * p + 16)) ∧ FCM W W2 R R2) from by
        have hVf : ∀ (x : Nat) (k : Int), 229 ≤ x → x < 1293 → k ≠ 2198 → ¬ (k = 2131 ∧ grO g ≤ x ∧ x < grO g + 66) → ¬ (x = grO g ∧ (k = 2098 ∨ k = 2097)) → rU V2 (grO g) 2097 0 x k = V x k := fun x k a b c e f => (if_neg (fun q => f ⟨q.1, Or.inr q.2⟩)).trans ((hFE.1 x k a (Or.inl b) (by omega) c e).trans (if_neg (fun q => f ⟨q.1, Or.inl q.2⟩)))
        have hGB : GI (T + 224) U (rU E 2334 g 0) := GI_one (f := 2334) (ty := 0) (len := 8) hXE.2.2.1 rfl (show (0 : Int) ≤ 0 ∧ (0 : Int) ≤ 8 by decide) rfl rfl rfl rfl rfl rfl rfl rfl rfl (by decide) (by decide)
        have hrB : ∀ (f : Nat) (k : Int), nsR.elem f = true → f ≠ 2334 → rU E 2334 g 0 f k = A f k := fun f k a b => (rU_f b).trans (nsR_kf hkE f k a)
        have hXB : XM K (T + 224) U (rU V2 (grO g) 2097 0) V4 (rU E 2334 g 0) := hXE.rowG (fun f k hf => rU_f (fun e => by rw [e] at hf; exact absurd hf (by decide))) hGB (fun x k hx => if_neg (by omega)) (fun _ _ _ => rfl) (fun p2 p0 p1 hl => by
          rw [nsR_kf hkE 2320 _ rfl] at hl
          obtain ⟨b1, b2, ⟨b3, b4⟩, ⟨ga, c1, c2, c3, c4⟩, b5⟩ := hX.1.2.2.1.pst hI ⟨p0, p1⟩ hl
          have hl3 := ((hX.1.2.2.1.1 p2 p0 p1).2.2.2 hl).2.2.1
          have hga : ga = grO (A 2323 p2) := Option.some.inj (c1.symm.trans hl3)
          have hgR2 : 0 ≤ A 2323 p2 ∧ A 2323 p2 ≤ 7 := IV.a hI 2323 0 8 rfl rfl rfl (by omega) (by omega)
          have hr3 := grO_rng (g := A 2323 p2) ⟨hgR2.1, by omega⟩
          have eg3 : grO (A 2323 p2) = 229 + 125 * (A 2323 p2).toNat := rfl
          refine ⟨b1, b2, ⟨?_, ?_⟩, ⟨ga, (hFE.2 _ _ (Or.inl (by omega))).trans c1, c2, ?_, ?_⟩, fun k k0 k1 => ?_⟩
          · rw [hrB 2322 _ rfl (by decide), hVf _ _ (by omega) (by omega) (by decide) (by omega) (by omega)]
            exact b3
          · rw [hrB 2322 _ rfl (by decide)]
            exact b4
          · rw [hrB 2323 _ rfl (by decide)]
            by_cases q : p2 = p
            · rw [q, hg, show rU E 2334 g 0 2334 g = 0 from rU_s, hga, q, hg]
              exact rU_s
            · have hng := hnoq p2 p0 p1 q hl
              rw [rU_k hng, nsR_kf hkE 2334 _ rfl, hVf _ _ (by omega) (by omega) (by decide) (by omega) (by omega)]
              exact c3
          · rw [hrB 2323 _ rfl (by decide)]
            by_cases q : A 2323 p2 = g
            · rw [q, show rU E 2334 g 0 2334 g = 0 from rU_s]
              decide
            · rw [rU_k q, nsR_kf hkE 2334 _ rfl]
              exact c4
          · rw [hrB 2327 _ rfl (by decide), hFE.2 _ _ (Or.inl (by omega))]
            exact b5 k k0 k1)
        have hN := endN (V5 := rU V2 (grO g) 2097 0) (V4 := V4) (B := rU E 2334 g 0) hX hp hlv hneg hg hg8 hVf (fun x k a b => hFE.2 x k (Or.inl b)) (by
          rw [hqp, rU_k (by decide), hFE.1 _ _ (by omega) (Or.inl (by omega)) (by omega) (by decide) (by omega), rU_s]
          omega) hrB (fun k hk => (rU_k hk).trans (nsR_kf hkE 2334 _ rfl)) (Or.inl ⟨rU_s, rU_s⟩)
        have hGOB : GO (pr0 (rU E 2334 g 0) p) := (GO_pr0 hGO hp hneg).fr (fun k => by rw [pr0_is, pr0_is, hrB 2320 _ rfl (by decide)]) (fun k => by rw [pr0_f (by decide) (by decide), pr0_f (by decide) (by decide), hrB 2327 _ rfl (by decide)]) (fun k => by rw [pr0_f (by decide) (by decide), pr0_f (by decide) (by decide), hrB 2330 _ rfl (by decide)])
        have hPTB : PTS (rU E 2334 g 0) := fun g2 k a b c e => by
          by_cases q : g2 = g
          · rw [q, show rU E 2334 g 0 2334 g = 0 from rU_s] at e
            omega
          · rw [rU_k q, nsR_kf hkE 2334 _ rfl] at e
            rw [hrB 2337 _ rfl (by decide)]
            exact hPT g2 k a b c e
        refine (end_82 (fb := fb) (d := d) (x2 := x2) (rt := rt) hP hXB (by omega) hp hN hGOB hPTB ((hVf _ _ (by omega) (by omega) (by decide) (by omega) (by omega)).trans l2) hrR).mono ?_
        rintro r σ' ⟨rfl, W2, R2, g1, g2, g3⟩
        exact ⟨rfl, W2, R2, g1, XW.mono g2 (by omega), FCM_tr hF (FCM_tr ⟨fun x k x0 x1 hk => (if_neg (by omega)).trans ((hFE.1 x k (by omega) (Or.inr (by omega)) x1 hk (by omega)).trans (if_neg (by omega))), fun x k x0 => hFE.2 x k (Or.inr (by omega))⟩ g3)⟩)
      have h74 := fun (σ : hM) (V2 : qR) (V4 : rR) (hP : PX σ0 V2 V4 σ) (hXE : XM K (T + 32 + 24 * ((A 2334 g).toNat : Int)) U V2 V4 E) (hFE : FCG g (rU V (grO g) 2098 0) V2 V3 V4) => (show WP fb (d + 9) 201 74 [some (vR (some 129)), some (vR (some (prO p))), some (vI (A 2334 g))] [] σ (fun r σ' => r = none ∧ ∃ W2 R2, PX σ0 W2 R2 σ' ∧ XW K (T + 228) U W2 R2 (gEn (tP (pr0 (rU E 2334 g 0) p) 0 (mOne 120 rt)) 192 288 (16 * p + 16)) ∧ FCM W W2 R R2) from by
        have hXE2 : XM K (T + 224) U V2 V4 E := hXE.mono (by omega)
        have l4 : V4 (prO p) 2201 = some (grO g) := (hFE.2 _ _ (Or.inl (by omega))).trans l3
        have hgo := fun (σ : hM) (x2 : Option AV) (hP : PX σ0 (rU V2 (grO g) 2097 0) V4 σ) => hend σ V2 V4 x2 hXE2 hFE hP
        obtain ⟨n, hn⟩ : ∃ n, A 2334 g = n := ⟨_, rfl⟩
        rw [hn]
        obtain ⟨pr, hpr⟩ : ∃ y, prO p = y := ⟨_, rfl⟩
        obtain ⟨ga, hga⟩ : ∃ q, grO g = q := ⟨_, rfl⟩
        simp only [hpr, hga] at hpo hgo3 l4 hgo ⊢
        refine x_lr (z := some pr) T_201_74 rfl ?_
        refine x_gR (z := some ga) T_201_75 F_6_9 (hP.o hpo) (Eq.trans (hP.rm hpo rfl (key := 2201) rfl) l4) ?_
        refine x_ic T_201_78 ?_
        refine z_pI hP T_201_79 F_3_1 hgo3 (key := 2097) rfl (fun σ hP => ?_)
        exact hgo σ _ hP
        )
      have e10 : nh - 1 = 0 := by omega
      rw [e10] at hXM1
      have hgo := fun (σ : hM) (hP : PX σ0 (rU V (grO g) 2098 0) V3 σ) => hdr σ hP hXM1 (fun σ V2 V4 g1 g2 g3 => h74 σ V2 V4 g1 g2 g3)
      subst hz
      obtain ⟨pr, hpr⟩ : ∃ y, prO p = y := ⟨_, rfl⟩
      obtain ⟨ga, hga⟩ : ∃ q, grO g = q := ⟨_, rfl⟩
      simp only [hpr, hga] at hpo hgo3 l3 hgo h98 ⊢
      refine x_lr (z := some pr) T_201_20 rfl ?_
      refine x_gR (z := some ga) T_201_21 F_6_9 (hP.o hpo) (Eq.trans (hP.rm hpo rfl (key := 2201) rfl) l3) ?_
      refine x_dupR T_201_24 ?_
      refine x_gI (z := 1) T_201_25 (Or.inl F_3_2) (hP.o hgo3) (Eq.trans (hP.gi hgo3 (key := 2098) rfl) h98) ?_
      refine x_ic T_201_28 ?_
      refine x_ib (w := 0) T_201_29 (fun h => absurd h.1 (by decide)) (by decide) ?_
      refine z_pI hP T_201_30 F_3_2 hgo3 (key := 2098) rfl (fun σ hP => ?_)
      refine x_lr (z := some pr) T_201_33 rfl ?_
      refine x_gR (z := some ga) T_201_34 F_6_9 (hP.o hpo) (Eq.trans (hP.rm hpo rfl (key := 2201) rfl) l3) ?_
      refine x_gI (z := 0) T_201_37 (Or.inl F_3_2) (hP.o hgo3) (Eq.trans (hP.gi hgo3 (key := 2098) rfl) rU_s) ?_
      refine x_if T_201_40 (fun h => absurd (show ¬ (0 : Int) = 0 from h) (by decide)) (fun _ => ?_)
      refine x_ic T_201_43 ?_
      refine x_si (ls1 := [some (vR (some 129)), some (vR (some pr)), some (vI 0)]) T_201_44 rfl ?_
      exact hgo σ hP
    · rw [hqp, if_neg (show ¬ nh - 1 = 0 by omega)]
      have hN := endN (V5 := rU V (grO g) 2098 (nh - 1)) (V4 := V3) (B := A) hX hp hlv hneg hg hg8 (fun x k a b c e f => if_neg (fun q => f ⟨q.1, Or.inl q.2⟩)) (fun _ _ _ _ => rfl) (by rw [hqp]; exact rU_s) (fun _ _ _ _ => rfl) (fun _ _ => rfl) (Or.inr ⟨rfl, rU_k (by decide), fun x _ _ => rU_j (by decide)⟩)
      have hgo := fun (σ : hM) (x2 : Option AV) (hP : PX σ0 (rU V (grO g) 2098 (nh - 1)) V3 σ) => (end_82 (fb := fb) (d := d) (x2 := x2) (rt := rt) hP hXM1 (by omega) hp hN (GO_pr0 hGO hp hneg) hPT ((rU_f (by omega)).trans l2) hrR).mono (Q := fun r σ' => r = none ∧ ∃ W2 R2, PX σ0 W2 R2 σ' ∧ XW K (T + 228) U W2 R2 (gEn (tP (pr0 A p) 0 (mOne 120 rt)) 192 288 (16 * p + 16)) ∧ FCM W W2 R R2) (fun r σ' h => by
        obtain ⟨rfl, W2, R2, g1, g2, g3⟩ := h
        exact ⟨rfl, W2, R2, g1, XW.mono g2 (by omega), FCM_tr hF (FCM_tr ⟨fun x k x0 x1 hk => if_neg (by omega), fun _ _ _ => rfl⟩ g3)⟩)
      obtain ⟨pr, hpr⟩ : ∃ y, prO p = y := ⟨_, rfl⟩
      obtain ⟨ga, hga⟩ : ∃ q, grO g = q := ⟨_, rfl⟩
      simp only [hpr, hga] at hpo hgo3 l3 hgo h98 ⊢
      refine x_lr (z := some pr) T_201_20 rfl ?_
      refine x_gR (z := some ga) T_201_21 F_6_9 (hP.o hpo) (Eq.trans (hP.rm hpo rfl (key := 2201) rfl) l3) ?_
      refine x_dupR T_201_24 ?_
      refine x_gI (z := nh) T_201_25 (Or.inl F_3_2) (hP.o hgo3) (Eq.trans (hP.gi hgo3 (key := 2098) rfl) h98) ?_
      refine x_ic T_201_28 ?_
      refine x_ib (w := (nh - 1)) T_201_29 (fun h => absurd h.1 (by decide)) (w32_id (by omega) (by omega)) ?_
      refine z_pI hP T_201_30 F_3_2 hgo3 (key := 2098) rfl (fun σ hP => ?_)
      refine x_lr (z := some pr) T_201_33 rfl ?_
      refine x_gR (z := some ga) T_201_34 F_6_9 (hP.o hpo) (Eq.trans (hP.rm hpo rfl (key := 2201) rfl) l3) ?_
      refine x_gI (z := (nh - 1)) T_201_37 (Or.inl F_3_2) (hP.o hgo3) (Eq.trans (hP.gi hgo3 (key := 2098) rfl) rU_s) ?_
      refine x_if T_201_40 (fun _ => ?_) (fun h => absurd (show ¬ (nh - 1) = 0 by omega) h)
      exact hgo σ _ hP
  have hgo := end_cl (fb := fb) (d := d) (σ0 := σ0) (K := K) (U := U) hp 8 0 T σ W R P (by decide) (by decide) (by omega) hP hX hlv (fun σ V2 V4 g1 g2 g3 => key σ V2 V4 g1 (XW.mono g2 (by omega)) g3)
  obtain ⟨pr, hpr⟩ : ∃ y, prO p = y := ⟨_, rfl⟩
  simp only [hpr] at hpo hgo ⊢
  refine CL_in mL_201 rfl ?_
  show WP fb _ 201 0 [some (vR (some 129)), some (vR (some pr)), none] [] σ _
  refine x_ic T_201_0 ?_
  refine x_si (ls1 := [some (vR (some 129)), some (vR (some pr)), some (vI 0)]) T_201_1 rfl ?_
  exact hgo
end XENF
