/-! The class's kernel: a process ends: its root, and what shows it. -/
theorem T_201_82 : hTab 201 82 = some ((3, 0, 2, []), 83) := rfl
theorem T_201_83 : hTab 201 83 = some ((0, 0, 0, []), 84) := rfl
theorem T_201_84 : hTab 201 84 = some ((31, 122, 0, []), 87) := rfl
theorem T_201_87 : hTab 201 87 = some ((0, 0, 0, []), 88) := rfl
theorem T_201_88 : hTab 201 88 = some ((3, 0, 2, []), 89) := rfl
theorem T_201_89 : hTab 201 89 = some ((0, 0, 120, []), 91) := rfl
theorem T_201_91 : hTab 201 91 = some ((3, 1, 2, []), 92) := rfl
theorem T_201_92 : hTab 201 92 = some ((24, 6, Int.ofNat 8, []), 95) := rfl
theorem T_201_95 : hTab 201 95 = some ((31, 131, 0, []), 98) := rfl
theorem T_201_98 : hTab 201 98 = some ((3, 0, 2, []), 99) := rfl
theorem T_201_99 : hTab 201 99 = some ((24, 1, Int.ofNat 2, []), 102) := rfl
theorem T_201_102 : hTab 201 102 = some ((31, 26, 0, []), 105) := rfl
theorem T_201_105 : hTab 201 105 = some ((7, 0, 0, []), 106) := rfl
theorem T_201_106 : hTab 201 106 = some ((3, 1, 2, []), 107) := rfl
theorem T_201_107 : hTab 201 107 = some ((0, 0, 0, []), 108) := rfl
theorem T_201_108 : hTab 201 108 = some ((25, 6, Int.ofNat 5, []), 111) := rfl
theorem T_201_111 : hTab 201 111 = some ((3, 1, 2, []), 112) := rfl
theorem T_201_112 : hTab 201 112 = some ((0, 0, 0, []), 113) := rfl
theorem T_201_113 : hTab 201 113 = some ((25, 6, Int.ofNat 6, []), 116) := rfl
theorem T_201_116 : hTab 201 116 = some ((3, 0, 2, []), 117) := rfl
theorem T_201_117 : hTab 201 117 = some ((0, 0, 2, []), 118) := rfl
theorem T_201_118 : hTab 201 118 = some ((31, 122, 0, []), 121) := rfl
theorem T_201_121 : hTab 201 121 = some ((3, 1, 2, []), 122) := rfl
theorem T_201_122 : hTab 201 122 = some ((31, 202, 0, []), 125) := rfl
theorem T_201_125 : hTab 201 125 = some ((33, 0, 0, []), 126) := rfl
section XENE
variable {fb : Bool} {d S b c q a0 y0 y2 : Nat} {σ0 σ : hM} {W W1 W2 V P Q B C : qR} {R R1 R2 V3 : rR} {i j k x z v s e w f g u p pt K T U t n o rt : Int} {l l0 lo nm M A ord : List Int} {tt : Nat → Nat}
theorem XQ.sv2 (h : XQ K W R P) (hD : TI P) (hW : ∀ (x : Nat) (k : Int), (x < 229 ∨ 1293 ≤ x) → W1 x k = W x k) (hR : ∀ (x : Nat) (k : Int), (x < 229 ∨ 1293 ≤ x ∨ k = 2267) → R1 x k = R x k) : (∃ ord t, XV W1 R1 P 1881 2 ord t) ∧ CT K W1 R1 := by
  have h6 := h.len7 hD
  obtain ⟨o, t, hx⟩ := h.1 2 (by decide) (by decide)
  exact ⟨⟨o, t, hx.fr (fun x k a _ => hW x k (Or.inr (by have a : 1293 + 294 * (2 : Int).toNat ≤ x := a; have : (2 : Int).toNat = 2 := rfl; omega))) (fun x k a _ => hR x k (Or.inr (Or.inl (by have a : 1293 + 294 * (2 : Int).toNat ≤ x := a; have : (2 : Int).toNat = 2 := rfl; omega)))) (fun _ c k _ _ _ q => hW c k (by omega)) (fun n q => h6 2 n (by decide) q)⟩, h.2.1.fv (hW 0 0 (by omega)) (hW 0 1 (by omega)) (fun b => hR b _ (by omega))⟩
theorem PKK.gon (h : PKK C) (hp : 0 ≤ p ∧ p < 8) : PKK (gEn (pr0 C p) 192 288 (16 * p + 16)) := by
  obtain ⟨⟨t1, t2, t3, t4, t5, t6⟩, c1, c2⟩ := h
  obtain ⟨Q, hQ⟩ : ∃ q, gEn (pr0 C p) 192 288 (16 * p + 16) = q := ⟨_, rfl⟩
  have r : ∀ (f : Nat) (k : Int), f ≠ 2320 → f ≠ 2321 → f ≠ 2310 → Q f k = C f k := fun f k a b c => by rw [← hQ, gEn_f c, pr0_f a b]
  have rg : ∀ k : Int, k < 192 → Q 2310 k = C 2310 k := fun k hk => by rw [← hQ, gEn_o (Or.inl hk), pr0_f (by decide) (by decide)]
  have rk : ∀ k : Int, 192 ≤ k → k < 288 → Q 2310 k = 0 → C 2310 k = 0 ∧ ¬ (¬ C 2304 k = 0 ∧ (16 * p + 16 ≤ C 2306 k ∧ C 2306 k ≤ 16 * p + 16 + 2)) := fun k k0 k1 h => by
    rw [← hQ] at h
    have e : gEn (pr0 C p) 192 288 (16 * p + 16) 2310 k = if ¬ pr0 C p 2310 k = 0 ∨ (¬ pr0 C p 2304 k = 0 ∧ (16 * p + 16 ≤ pr0 C p 2306 k ∧ pr0 C p 2306 k ≤ 16 * p + 16 + 2)) then 1 else 0 := if_pos ⟨rfl, k0, k1⟩
    rw [e, pr0_f (by decide) (by decide), pr0_f (by decide) (by decide), pr0_f (by decide) (by decide)] at h
    by_cases c : ¬ C 2310 k = 0 ∨ (¬ C 2304 k = 0 ∧ (16 * p + 16 ≤ C 2306 k ∧ C 2306 k ≤ 16 * p + 16 + 2))
    · rw [if_pos c] at h
      omega
    · exact ⟨Classical.not_not.mp (fun q => c (Or.inl q)), fun q => c (Or.inr q)⟩
  have ri : ∀ k : Int, Q 2320 k = if k = p then 0 else C 2320 k := fun k => by rw [← hQ, gEn_f (by decide), pr0_is]
  rw [hQ]
  have eN : ∀ s n : Int, s < 2 → (isN Q s n ↔ isN C s n) := fun s n hs => by
    unfold isN
    rw [r 2289 _ (by decide) (by decide) (by decide)]
    constructor
    · rintro (c | c)
      · exact Or.inl c
      · omega
    · rintro (c | c)
      · exact Or.inl c
      · omega
  have eUp : ∀ s n : Int, s < 2 → qUp Q s n = qUp C s n := fun s n hs => by unfold qUp; rw [if_pos hs, if_pos hs, r 2290 _ (by decide) (by decide) (by decide)]
  have eNm : ∀ s n : Int, s < 2 → qNm Q s n = qNm C s n := fun s n hs => by
    have h1 : qNs Q s n = qNs C s n := by unfold qNs; rw [if_pos hs, if_pos hs, r 2299 _ (by decide) (by decide) (by decide)]
    have h2 : (fun k => qNb Q s n k) = (fun k => qNb C s n k) := funext (fun k => by unfold qNb; rw [if_pos hs, if_pos hs, r 2298 _ (by decide) (by decide) (by decide)])
    unfold qNm
    rw [h1, h2]
  have eK : ∀ (s n : Int) (nm : List Int) (m : Int), s < 2 → (kidN Q s n nm m ↔ kidN C s n nm m) := fun s n nm m hs => by
    unfold kidN
    rw [eN s _ hs, eUp s _ hs, eNm s _ hs]
  refine ⟨⟨fun s s0 s1 n nm m m2 h1 h2 => t1 s s0 s1 n nm m m2 ((eK s n nm m s1).mp h1) ((eK s n nm m2 s1).mp h2), fun s n s0 s1 hn => ?_, fun k k0 k1 h1 => ?_, fun k k0 k1 h1 h2 h3 h4 h5 => ?_, fun k k0 k1 h1 h2 => ?_, fun k k0 k1 h1 => ?_⟩, fun k k0 k1 h1 h2 h3 h4 => ?_, fun k k0 k1 h1 h2 h3 h4 h5 => ?_⟩
  · rw [r 2291 _ (by decide) (by decide) (by decide), r 2303 _ (by decide) (by decide) (by decide)]
    exact t2 s n s0 s1 ((eN s n s1).mp hn)
  · rw [r 2293 _ (by decide) (by decide) (by decide)] at h1
    rw [r 2297 _ (by decide) (by decide) (by decide)]
    exact t3 k k0 k1 h1
  · rw [r 2304 _ (by decide) (by decide) (by decide)] at h1
    rw [rg _ k1] at h2
    rw [r 2309 _ (by decide) (by decide) (by decide)] at h3 h4 h5
    rw [r 2306 _ (by decide) (by decide) (by decide), r 2293 _ (by decide) (by decide) (by decide)]
    exact t4 k k0 k1 h1 h2 h3 h4 h5
  · rw [r 2304 _ (by decide) (by decide) (by decide)] at h1
    obtain ⟨h3, h4⟩ := rk k k0 k1 h2
    rw [r 2306 _ (by decide) (by decide) (by decide)]
    have h := t5 k k0 k1 h1 h3
    unfold isN at h ⊢
    rcases h with c | ⟨c0, c⟩
    · omega
    · refine Or.inr ⟨c0, ?_⟩
      rcases c with c | c | ⟨c1, c2, c3, c4⟩
      · exact Or.inl c
      · exact Or.inr (Or.inl c)
      · refine Or.inr (Or.inr ⟨c1, c2, c3, ?_⟩)
        rw [ri, if_neg (fun e => h4 ⟨h1, by omega, by omega⟩)]
        exact c4
  · rw [r 2309 _ (by decide) (by decide) (by decide)] at h1
    rw [r 2311 _ (by decide) (by decide) (by decide), r 2312 _ (by decide) (by decide) (by decide)]
    exact t6 k k0 k1 h1
  · rw [r 2304 _ (by decide) (by decide) (by decide)] at h1
    rw [r 2309 _ (by decide) (by decide) (by decide)] at h2
    rw [r 2306 _ (by decide) (by decide) (by decide)] at h3 h4
    rw [r 2309 _ (by decide) (by decide) (by decide)]
    exact c1 k k0 k1 h1 h2 h3 h4
  · rw [r 2304 _ (by decide) (by decide) (by decide)] at h1
    rw [r 2309 _ (by decide) (by decide) (by decide)] at h3 h4 h5
    rw [r 2306 _ (by decide) (by decide) (by decide)]
    exact c2 k k0 k1 h1 (rk k k0 k1 h2).1 h3 h4 h5
/-- all that holds, put together where what shows a process was changed -/
theorem XM.asm (h : XM K T U W R P) (hN : XN W1 R1 Q) (hW : ∀ (x : Nat) (k : Int), (x < 229 ∨ 1293 ≤ x) → W1 x k = W x k) (hR : ∀ (x : Nat) (k : Int), (x < 229 ∨ 1293 ≤ x ∨ k = 2267) → R1 x k = R x k) (h98 : ∀ p : Int, 0 ≤ p → p < 8 → W1 (295 + 125 * p.toNat) 2198 = Q 2321 p) (r : ∀ (f : Nat) (k : Int), npB.elem f = false → (f = 2310 → k < 192) → Q f k = P f k) (hPK : PKK Q) (hG : GI T U Q) (hO : GO Q) (hPT : PTS Q) (hXV : XV W2 R2 Q 1881 2 ord tt) (hCT : CT K W2 R2) (hF : FV 1881 0 W1 W2 R1 R2) : XW K T U W2 R2 Q := by
  obtain ⟨⟨a1, a2, a3⟩, x2, x4, x5, -, l0, h0⟩ := h
  have h6 := XQ.len7 ⟨a1, a2, a3⟩ x5.1
  obtain ⟨f1, f2, f3, f4, f5, f6⟩ := hF
  have hWW : ∀ (x : Nat) (k : Int), 128 ≤ x → x < 1881 ∨ 2175 ≤ x → x < 2372 → W2 x k = W1 x k := fun x k x0 x1 x2 => f1 x k x0 (by omega) x2 (by omega) (by omega)
  have hW2 : ∀ (x : Nat) (k : Int), 128 ≤ x → x < 229 ∨ (1293 ≤ x ∧ x < 1881) ∨ 2175 ≤ x → x < 2372 → W2 x k = W x k := fun x k x0 x1 x2 => (hWW x k x0 (by omega) x2).trans (hW x k (by omega))
  have hb : ∀ {b n : Nat} {l : List Int}, BY W b n l → b + 1 < 229 → BY W2 b n l := fun {b n l} h hb => by
    obtain ⟨y1, y2, y3, y4, y5, y6, y7⟩ := h
    have := (tX_o y1).1
    exact ⟨y1, y2, y3, (hW2 _ _ (by omega) (by omega) (by omega)).trans y4, y5, y6, fun i i0 i1 => (hW2 _ _ (by omega) (by omega) (by omega)).trans (y7 i i0 i1)⟩
  refine ⟨⟨⟨fun s s0 s1 => ?_, hCT, ?_⟩, ?_, ?_, hG, hPK, hO, hPT⟩, l0, hb h0 (by decide)⟩
  · by_cases q2 : s = 2
    · subst q2
      exact ⟨ord, tt, hXV⟩
    · have hs2 : s < 2 := by omega
      obtain ⟨o, t2, hx⟩ := a1 s s0 s1
      have hS : 1293 ≤ 1293 + 294 * s.toNat ∧ 1293 + 294 * s.toNat + 294 ≤ 1881 := by omega
      refine ⟨o, t2, (hx.fr (fun x k c1 c2 => hW2 x k (by omega) (by omega) (by omega)) (fun x k c1 c2 => (f2 x k (by omega)).trans (hR x k (by omega))) (fun b c k c1 c2 c3 c4 => ?_) (fun n q => h6 s n s0 q)).two hs2 s0 (fun f k hf hg => ?_)⟩
      · have hc0 := (a2.1 b c c3).2.2
        have hb0 : ∀ b2, 1881 ≤ b2 → b2 < 1881 + 294 → R1 b2 2267 ≠ some c := fun b2 d1 d2 d3 => by
          have := a2.2.1 b b2 c c3 ((hR b2 2267 (by omega)).symm.trans d3)
          omega
        exact (f4 c k c4 (by rw [hW 0 0 (by omega)]; exact hc0) hb0).trans (hW c k (by omega))
      · exact r f k (el_dj rfl hf) hg
  · obtain ⟨b1, b2, b3⟩ := a3
    have e1 : Q 2314 = P 2314 := funext (fun k => r 2314 k rfl (fun c => absurd c (by decide)))
    have e2 : Q 2315 = P 2315 := funext (fun k => r 2315 k rfl (fun c => absurd c (by decide)))
    refine ⟨?_, ?_, fun p p0 p1 => (hWW _ _ (by omega) (by omega) (by omega)).trans (h98 p p0 p1)⟩
    · rw [e1, r 2281 39 rfl (fun c => absurd c (by decide))]
      exact hb b1 (by decide)
    · rw [e2, r 2281 41 rfl (fun c => absurd c (by decide))]
      exact hb b2 (by decide)
  · obtain ⟨m1, m2, m3⟩ := x2
    refine ⟨(hW2 _ _ (by decide) (by decide) (by decide)).trans (m1.trans (r _ _ rfl (fun c => absurd c (by decide))).symm), (hW2 _ _ (by decide) (by decide) (by decide)).trans (m2.trans (r _ _ rfl (fun c => absurd c (by decide))).symm), fun i i0 i1 => ?_⟩
    rw [r 2317 _ rfl (fun c => absurd c (by decide)), show Q 2316 = P 2316 from funext (fun k => r 2316 k rfl (fun c => absurd c (by decide)))]
    exact ⟨(m3 i i0 i1).1, hb (m3 i i0 i1).2 (by omega)⟩
  · exact hN.fr hG.iv (fun x k c1 c2 _ => hWW x k (by omega) (by omega) (by omega)) (fun x k c1 c2 => f2 x k (by omega)) (fun _ _ _ => rfl)
/-- the root is clunked, the process is no more shown -/
theorem end_82 {x2 : Option AV} (hP : PX σ0 V V3 σ) (hX : XM K T U V V3 B) (hT : T + 200 ≤ 2147483000) (hp : 0 ≤ p ∧ p < 8) (hN : XN (rU V (prO p) 2197 0) V3 (pr0 B p)) (hO : GO (pr0 B p)) (hPT : PTS B) (hrt : V (prO p) 2200 = rt) (hr2 : 0 ≤ rt ∧ rt ≤ 47) : WP fb (d + 9) 201 82 [some (vR (some 129)), some (vR (some (prO p))), x2] [] σ (fun r σ' => r = none ∧ ∃ W2 R2, PX σ0 W2 R2 σ' ∧ XW K (T + 4) U W2 R2 (gEn (tP (pr0 B p) 0 (mOne 120 rt)) 192 288 (16 * p + 16)) ∧ FCM V W2 V3 R2) := by
  have hpo := prO_o hp
  have hrp := prO_rng hp
  have epp : prO p = 295 + 125 * p.toNat := rfl
  rw [pr0_clk]
  have hXB := hX
  have hho := x_host (fb := fb) (d := d + 8) (s := 0) hP (by decide)
  have hab := x_about (fb := fb) (d := d + 5) (t := 120) (f := rt) hP (by decide) ⟨by omega, by omega⟩
  obtain ⟨o1, o2, o3, o4⟩ := mOne_ok (t := 120) (f := rt) (Or.inl rfl)
  have hak := fun (σ : hM) (V2 : qR) (hP : PX σ0 V2 V3 σ) (hF : FR1 V V2) (hB : BY V2 138 300 (mFr (mOne 120 rt))) => x_askX (fb := fb) (d := d + 1) hP (hX.fr1 hF) (by omega) (s := 0) (by decide) hB o1 o2 o3 o4
  have e0 : 1293 + 294 * (0 : Int).toNat = 1293 := rfl
  rw [e0] at hho
  simp only [e0] at hak
  have hkf : KF (tP B 0 (mOne 120 rt)) B := KF_tP
  obtain ⟨e, he⟩ : ∃ q, tE B 0 (mOne 120 rt) = q := ⟨_, rfl⟩
  obtain ⟨C, hC⟩ : ∃ q, tP B 0 (mOne 120 rt) = q := ⟨_, rfl⟩
  rw [hC] at hkf
  simp only [he, hC] at hak ⊢
  obtain ⟨Q, hQ⟩ : ∃ q, gEn (pr0 C p) 192 288 (16 * p + 16) = q := ⟨_, rfl⟩
  rw [hQ]
  have rQ : ∀ (f : Nat) (k : Int), f ≠ 2320 → f ≠ 2321 → f ≠ 2310 → Q f k = C f k := fun f k a b c => by rw [← hQ, gEn_f c, pr0_f a b]
  have rI : ∀ k : Int, Q 2320 k = if k = p then 0 else C 2320 k := fun k => by rw [← hQ, gEn_f (by decide), pr0_is]
  have rD : ∀ k : Int, Q 2321 k = if k = p then 0 else C 2321 k := fun k => by rw [← hQ, gEn_f (by decide), pr0_dy]
  have rN : ∀ (f : Nat) (k : Int), nsR.elem f = true → Q f k = pr0 B p f k := fun f k hf => by
    by_cases q : f = 2320
    · rw [q, rI, pr0_is, nsR_kf hkf 2320 _ rfl]
    · have q2 : f ≠ 2321 := fun c => by rw [c] at hf; exact absurd hf (by decide)
      have q3 : f ≠ 2310 := fun c => by rw [c] at hf; exact absurd hf (by decide)
      rw [rQ f k q q2 q3, pr0_f q q2, nsR_kf hkf f k hf]
  have hhd := fun (σ : hM) (V6 : qR) (R6 : rR) (hX : XM K (T + 4) U V6 R6 C) (hA : FA V V6 V3 R6) (hP : PX σ0 (rU (rU V6 (prO p) 2197 0) (prO p) 2198 0) R6 σ) => (show CL fb (d + 8) 202 [vR (some 1881), vR (some (prO p))] σ (fun r σ' => r = none ∧ ∃ W2 R2, PX σ0 W2 R2 σ' ∧ XW K (T + 4) U W2 R2 Q ∧ FCM V6 W2 R6 R2) from by
    have hW : ∀ (x : Nat) (k : Int), ¬ (x = prO p ∧ (k = 2197 ∨ k = 2198)) → rU (rU V6 (prO p) 2197 0) (prO p) 2198 0 x k = V6 x k := fun x k hx => (if_neg (fun c => hx ⟨c.1, Or.inr c.2⟩)).trans (if_neg (fun c => hx ⟨c.1, Or.inl c.2⟩))
    obtain ⟨⟨od, t1, hx2⟩, hct⟩ := hX.1.sv2 hX.2.2.2.1.1 (W1 := rU (rU V6 (prO p) 2197 0) (prO p) 2198 0) (R1 := R6) (fun x k hx => hW x k (by omega)) (fun _ _ _ => rfl)
    refine (x_hide (fb := fb) (d := d + 7) (S := 1881) (Q := Q) hP ⟨by decide, rfl⟩ hx2 hct hX.2.2.1 hX.2.2.2.1.1 hp rfl (fun k => ?_) (fun k => rQ _ _ (by decide) (by decide) (by decide)) (fun f k hf hg => ?_) (fun k k0 k1 hi => ?_)).mono ?_
    · rw [rI]
      by_cases c : k = p
      · rw [if_pos c]
        exact ⟨fun h => absurd rfl h, fun h => absurd c h.1⟩
      · rw [if_neg c]
        exact ⟨fun h => ⟨c, h⟩, fun h => h.2⟩
    · refine rQ f k (fun c => ?_) (fun c => ?_) hg
      · rw [c] at hf
        exact absurd hf (by decide)
      · rw [c] at hf
        exact absurd hf (by decide)
    · have e : Q 2310 k = if ¬ pr0 C p 2310 k = 0 ∨ (¬ pr0 C p 2304 k = 0 ∧ (16 * p + 16 ≤ pr0 C p 2306 k ∧ pr0 C p 2306 k ≤ 16 * p + 16 + 2)) then 1 else 0 := by
        rw [← hQ]
        exact if_pos ⟨rfl, k0, k1⟩
      rw [pr0_f (by decide) (by decide), pr0_f (by decide) (by decide), pr0_f (by decide) (by decide)] at e
      rw [e]
      unfold ownP
      by_cases c : ¬ C 2310 k = 0 ∨ (¬ C 2304 k = 0 ∧ (16 * p + 16 ≤ C 2306 k ∧ C 2306 k ≤ 16 * p + 16 + 2))
      · rw [if_pos c]
        constructor
        · intro h
          omega
        · rintro ⟨h1, h2⟩
          rcases c with c | c
          · exact absurd h1 c
          · exact absurd ⟨c.2.1, by omega⟩ h2
      · rw [if_neg c]
        exact ⟨fun _ => ⟨Classical.not_not.mp (fun q => c (Or.inl q)), fun q => c (Or.inr ⟨hi, q.1, by omega⟩)⟩, fun _ => rfl⟩
    · rintro r σ' ⟨rfl, W2, R2, od2, t2, g1, g2, g3, g4⟩
      have hN7 : XN (rU (rU V6 (prO p) 2197 0) (prO p) 2198 0) R6 Q := by
        have hI0 : IV false (T + 4) U (pr0 B p) := (GI_one (f := 2321) (ty := 2) (len := 8) (GI_one (f := 2320) (j := p) (v := 0) (ty := 2) (len := 8) (hXB.2.2.1.mono (by omega)) rfl (show (0 : Int) ≤ 0 ∧ (0 : Int) ≤ 1 by decide) rfl rfl rfl rfl rfl rfl rfl rfl rfl (by decide) (by decide)) rfl (show (0 : Int) ≤ 0 ∧ (0 : Int) ≤ 1 by decide) rfl rfl rfl rfl rfl rfl rfl rfl rfl (by decide) (by decide)).iv
        refine hN.fr hI0 (fun x k x0 x1 hk => ?_) (fun x k x0 x1 => hA.ns.2 x k x0 x1) rN
        by_cases q : x = prO p ∧ k = 2197
        · rw [q.1, q.2, rU_k (by decide), rU_s, rU_s]
        · have e1 : rU V (prO p) 2197 0 x k = V x k := if_neg q
          rw [hW x k (fun c => c.2.elim (fun c2 => q ⟨c.1, c2⟩) (fun c2 => hk c2)), e1]
          exact hA.ns.1 x k x0 x1 hk
      have hGC : GI (T + 4) U (pr0 C p) := GI_one (f := 2321) (ty := 2) (len := 8) (GI_one (f := 2320) (j := p) (v := 0) (ty := 2) (len := 8) hX.2.2.1 rfl (show (0 : Int) ≤ 0 ∧ (0 : Int) ≤ 1 by decide) rfl rfl rfl rfl rfl rfl rfl rfl rfl (by decide) (by decide)) rfl (show (0 : Int) ≤ 0 ∧ (0 : Int) ≤ 1 by decide) rfl rfl rfl rfl rfl rfl rfl rfl rfl (by decide) (by decide)
      have hXX : XW K (T + 4) U W2 R2 Q := hX.asm hN7 (fun x k hx => hW x k (by omega)) (fun _ _ _ => rfl) (fun p2 p0 p1 => by
        rw [rD]
        by_cases c : p2 = p
        · rw [if_pos c, c]
          exact rU_s
        · rw [if_neg c, hW _ _ (by omega)]
          exact hX.1.2.2.2.2 p2 p0 p1) (fun f k hf hg => by
        by_cases c3 : f = 2310
        · rw [c3, ← hQ, gEn_o (Or.inl (hg c3)), pr0_f (by decide) (by decide)]
        · exact rQ f k (fun c => by rw [c] at hf; exact absurd hf (by decide)) (fun c => by rw [c] at hf; exact absurd hf (by decide)) c3) (by rw [← hQ]; exact hX.2.2.2.1.gon hp) (by rw [← hQ]; exact GI_gEn hGC (by decide)) (hO.fr (fun k => rN _ _ rfl) (fun k => rN _ _ rfl) (fun k => rN _ _ rfl)) (hPT.row (fun k => (rQ _ _ (by decide) (by decide) (by decide)).trans (nsR_kf hkf _ _ rfl)) (fun k => (rQ _ _ (by decide) (by decide) (by decide)).trans (nsR_kf hkf _ _ rfl))) g2 g3 g4
      obtain ⟨f1, f2, -⟩ := g4
      exact ⟨rfl, W2, R2, g1, hXX, fun x k x0 x1 _ => (f1 _ _ (by omega) (by omega) x1 (by omega) (by omega)).trans (hW _ _ (by omega)), fun x k x0 => f2 _ _ (by omega)⟩)
  have hso : tX 1293 = some (Sum.inl 7) := rfl
  have hs2 : tX 1881 = some (Sum.inl 7) := rfl
  have hho2 := fun (σ : hM) (V : qR) (V3 : rR) (hP : PX σ0 V V3 σ) => x_host (fb := fb) (d := d + 8) (s := 2) hP (by decide)
  have e2 : 1293 + 294 * (2 : Int).toNat = 1881 := rfl
  simp only [e2] at hho2
  obtain ⟨pr, hpr⟩ : ∃ y, prO p = y := ⟨_, rfl⟩
  simp only [hpr] at hpo hrt hhd ⊢
  refine x_lr (z := some 129) T_201_82 rfl ?_
  refine x_ic T_201_83 ?_
  refine x_cv2 T_201_84 mN_122 mL_122 (Nat.le_of_ble_eq_true rfl) mO_122 (hP.o xo_129) (Nat.le_of_ble_eq_true rfl) (hho) ?_
  rintro _ σ ⟨rfl, rfl⟩
  refine cR ?_
  refine x_ic T_201_87 ?_
  refine x_lr (z := some 129) T_201_88 rfl ?_
  refine x_ic T_201_89 ?_
  refine x_lr (z := some pr) T_201_91 rfl ?_
  refine x_gI (z := rt) T_201_92 (Or.inl F_6_8) (hP.o hpo) (Eq.trans (hP.gi hpo (key := 2200) rfl) hrt) ?_
  refine x_cv3 T_201_95 mN_131 mL_131 (Nat.le_of_ble_eq_true rfl) mO_131 (hP.o xo_129) (Nat.le_of_ble_eq_true rfl) (hab) ?_
  clear hP hab
  rintro _ σ ⟨rfl, V4, hP, hB4, hF4⟩
  refine cR ?_
  refine x_lr (z := some 129) T_201_98 rfl ?_
  refine x_gR (z := some 134) T_201_99 F_1_2 (hP.o xo_129) (hP.rc xo_129 rfl rfl) ?_
  refine x_cv4 T_201_102 mN_26 mL_26 (Nat.le_of_ble_eq_true rfl) mO_26 (hP.o hso) (Nat.le_of_ble_eq_true rfl) (hak σ V4 hP hF4 hB4) ?_
  clear hP hak
  rintro _ σ ⟨rfl, V6, R6, hP, hX6, hB6, hF6⟩
  have hA6 := FA_tr (FA_fr hF4) (FA_fs hF6)
  refine cI ?_
  refine x_popI T_201_105 ?_
  refine x_lr (z := some pr) T_201_106 rfl ?_
  refine x_ic T_201_107 ?_
  refine z_pZ hP T_201_108 F_6_5 rfl hpo (key := 2197) rfl (fun σ hP => ?_)
  refine x_lr (z := some pr) T_201_111 rfl ?_
  refine x_ic T_201_112 ?_
  refine z_pZ hP T_201_113 F_6_6 rfl hpo (key := 2198) rfl (fun σ hP => ?_)
  refine x_lr (z := some 129) T_201_116 rfl ?_
  refine x_ic T_201_117 ?_
  refine x_cv2 T_201_118 mN_122 mL_122 (Nat.le_of_ble_eq_true rfl) mO_122 (hP.o xo_129) (Nat.le_of_ble_eq_true rfl) (hho2 σ _ _ hP) ?_
  rintro _ σ ⟨rfl, rfl⟩
  refine cR ?_
  refine x_lr (z := some pr) T_201_121 rfl ?_
  refine x_cv2 T_201_122 mN_202 mL_202 (Nat.le_of_ble_eq_true rfl) mO_202 (hP.o hs2) (Nat.le_of_ble_eq_true rfl) (hhd σ V6 R6 hX6 hA6 hP) ?_
  clear hP hhd
  rintro _ σ ⟨rfl, W7, R7, hP, hX7, hF7⟩
  refine cV ?_
  refine x_rv T_201_125 ?_
  exact ⟨rfl, W7, R7, hP, hX7, FCM_tr (FCM_fa hA6) hF7⟩
end XENE
