/-! The class's processes: openings beside the rest; seek. -/
theorem T_168_0 : hTab 168 0 = some ((3, 2, 2, []), 1) := rfl
theorem T_168_1 : hTab 168 1 = some ((0, 0, 1, []), 2) := rfl
theorem T_168_2 : hTab 168 2 = some ((31, 151, 0, []), 5) := rfl
theorem T_168_5 : hTab 168 5 = some ((4, 3, 0, []), 6) := rfl
theorem T_168_6 : hTab 168 6 = some ((3, 2, 2, []), 7) := rfl
theorem T_168_7 : hTab 168 7 = some ((0, 0, 2, []), 8) := rfl
theorem T_168_8 : hTab 168 8 = some ((31, 160, 0, []), 11) := rfl
theorem T_168_11 : hTab 168 11 = some ((4, 4, 0, []), 13) := rfl
theorem T_168_13 : hTab 168 13 = some ((3, 2, 2, []), 14) := rfl
theorem T_168_14 : hTab 168 14 = some ((24, 16, Int.ofNat 4, []), 17) := rfl
theorem T_168_17 : hTab 168 17 = some ((0, 0, 3, []), 18) := rfl
theorem T_168_18 : hTab 168 18 = some ((19, 1, Int.ofNat 32, []), 21) := rfl
theorem T_168_21 : hTab 168 21 = some ((3, 3, 0, []), 22) := rfl
theorem T_168_22 : hTab 168 22 = some ((0, 0, (-1), []), 23) := rfl
theorem T_168_23 : hTab 168 23 = some ((19, 0, Int.ofNat 32, []), 26) := rfl
theorem T_168_26 : hTab 168 26 = some ((3, 4, 0, []), 28) := rfl
theorem T_168_28 : hTab 168 28 = some ((0, 0, (-1), []), 29) := rfl
theorem T_168_29 : hTab 168 29 = some ((19, 1, Int.ofNat 35, []), 32) := rfl
theorem T_168_32 : hTab 168 32 = some ((0, 0, 18, []), 34) := rfl
theorem T_168_34 : hTab 168 34 = some ((33, 1, 0, []), 35) := rfl
theorem T_168_35 : hTab 168 35 = some ((3, 1, 2, []), 36) := rfl
theorem T_168_36 : hTab 168 36 = some ((3, 3, 0, []), 37) := rfl
theorem T_168_37 : hTab 168 37 = some ((31, 166, 0, []), 40) := rfl
theorem T_168_40 : hTab 168 40 = some ((4, 5, 2, []), 42) := rfl
theorem T_168_42 : hTab 168 42 = some ((3, 5, 2, []), 44) := rfl
theorem T_168_44 : hTab 168 44 = some ((20, 1, Int.ofNat 50, []), 47) := rfl
theorem T_168_47 : hTab 168 47 = some ((0, 0, 19, []), 49) := rfl
theorem T_168_49 : hTab 168 49 = some ((33, 1, 0, []), 50) := rfl
theorem T_168_50 : hTab 168 50 = some ((3, 5, 2, []), 52) := rfl
theorem T_168_52 : hTab 168 52 = some ((3, 4, 0, []), 54) := rfl
theorem T_168_54 : hTab 168 54 = some ((25, 5, Int.ofNat 6, []), 57) := rfl
theorem T_168_57 : hTab 168 57 = some ((0, 0, 0, []), 58) := rfl
theorem T_168_58 : hTab 168 58 = some ((33, 1, 0, []), 59) := rfl
theorem mN_168 : hmN 168 = 3 := by decide +kernel
theorem mL_168 : hmL 168 = 6 := by decide +kernel
theorem mK_168 : hmK 168 = 1 := by decide +kernel
theorem mO_168 : hmO 168 = 14 := by decide +kernel
/-- rows of processes and groups -/
def nsP : List Nat := [2320, 2322, 2323, 2324, 2325, 2326, 2327, 2328, 2329, 2334, 2335, 2336, 2337, 2338, 2339, 2340, 2341, 2342, 2361, 2362]
section XOPO
variable {fb : Bool} {d S b c q n a0 m : Nat} {σ0 σ : hM} {W W1 W2 P Q : qR} {R R1 R2 : rR} {i j k x z v s e w f g u p o K T U t N : Int} {l l0 lo nm M wd : List Int}
theorem LIV.fr2 (h : LIV W R P p) (hp : 0 ≤ p ∧ p < 8) (hW : ∀ (x : Nat) (k : Int), 229 ≤ x → x < 1229 → k ≠ 2198 → W2 x k = W x k) (hR : ∀ (x : Nat) (k : Int), 229 ≤ x → x < 1229 → R2 x k = R x k) (hQ : ∀ (f : Nat) (k : Int), nsP.elem f = true → Q f k = P f k) : LIV W2 R2 Q p := by
  have hr := prO_rng hp
  obtain ⟨b1, b2, b3, b4, b5, b6⟩ := h
  have by1 : ∀ {b n : Nat} {l : List Int}, BY W b n l → 229 ≤ b → b + 1 < 1229 → BY W2 b n l := fun {b n l} h h0 h1 => by
    obtain ⟨a1, a2, a3, a4, a5, a6, a7⟩ := h
    exact ⟨a1, a2, a3, (hW _ _ h0 (by omega) (by decide)).trans a4, a5, a6, fun i i0 i1 => (hW _ _ (by omega) h1 (by omega)).trans (a7 i i0 i1)⟩
  have sg : ∀ (f : Nat) (o : Int) (m : Nat), nsP.elem f = true → seg (Q f) o m = seg (P f) o m := fun f o m hf => by rw [show Q f = P f from funext (fun k => hQ f k hf)]
  refine ⟨(hW _ _ (by omega) (by omega) (by decide)).trans (b1.trans (hQ _ _ rfl).symm), (hW _ _ (by omega) (by omega) (by decide)).trans (b2.trans (hQ _ _ rfl).symm), ?_, ?_, ?_, fun x x0 x1 => ?_⟩
  · rw [hR _ _ (by omega) (by omega), hQ 2323 _ rfl]
    exact b3
  · rw [sg _ _ _ rfl, hQ 2326 _ rfl]
    exact by1 b4 (by omega) (by omega)
  · rw [sg _ _ _ rfl, hQ 2329 _ rfl]
    exact by1 b5 (by omega) (by omega)
  · rw [sg _ _ _ rfl, hQ 2362 _ rfl]
    exact by1 (b6 x x0 x1) (by omega) (by omega)
theorem MBC.fr2 (h : MBC W P c x) (hc : 229 ≤ c ∧ c < 1229) (hW : ∀ (x : Nat) (k : Int), 229 ≤ x → x < 1229 → k ≠ 2198 → W2 x k = W x k) (hQ : ∀ (f : Nat) (k : Int), nsP.elem f = true → Q f k = P f k) : MBC W2 Q c x := by
  obtain ⟨a1, a2, a3, a4, a5⟩ := h
  unfold MBC
  rw [hQ 2338 _ rfl, hQ 2339 _ rfl, hQ 2340 _ rfl, hQ 2341 _ rfl, hQ 2342 _ rfl, hW _ _ hc.1 hc.2 (by decide), hW _ _ hc.1 hc.2 (by decide), hW _ _ hc.1 hc.2 (by decide), hW _ _ hc.1 hc.2 (by decide), hW _ _ hc.1 hc.2 (by decide)]
  exact ⟨a1, a2, a3, a4, a5⟩
theorem XGR.fr2 (h : XGR W R P g) (hg : 0 ≤ g ∧ g < 8) (hI : IV false T U P) (hW : ∀ (x : Nat) (k : Int), 229 ≤ x → x < 1229 → k ≠ 2198 → W2 x k = W x k) (hR : ∀ (x : Nat) (k : Int), 229 ≤ x → x < 1229 → R2 x k = R x k) (hQ : ∀ (f : Nat) (k : Int), nsP.elem f = true → Q f k = P f k) : XGR W2 R2 Q g := by
  have hr := grO_rng hg
  have h0 := h
  obtain ⟨a1, a2, a3, a4, a5⟩ := h
  have hpb : 0 ≤ P 2334 g ∧ P 2334 g ≤ 8 := IV.a hI 2334 0 8 rfl rfl rfl (by omega) (by omega)
  refine ⟨(hW _ _ (by omega) (by omega) (by decide)).trans (a1.trans (hQ _ _ rfl).symm), ?_, a3.eqv (fun k _ _ => hR _ _ (by omega) (by omega)), fun i hi => (a4 i hi).eqv (fun k _ _ => hR _ _ (by omega) (by omega)), fun k k0 k1 => ?_⟩
  · rw [hW _ _ (by omega) (by omega) (by decide), qPn_fr (fun k => hQ _ _ rfl) (fun k => hQ _ _ rfl)]
    exact a2
  · rw [hQ 2334 _ rfl] at k1
    obtain ⟨x, hx, b1, b2, b3, b4⟩ := a5 k k0 k1
    obtain ⟨i, hi, hx2⟩ := h0.pt (k := k) ⟨k0, by omega⟩
    have ex : x = grO g + 2 + 8 * i := Option.some.inj (hx.symm.trans hx2)
    refine ⟨x, (hR _ _ (by omega) (by omega)).trans hx, ?_, ?_, ?_, fun j j0 j1 => ?_⟩
    · rw [hW _ _ (by omega) (by omega) (by decide), hQ 2335 _ rfl]; exact b1
    · rw [hW _ _ (by omega) (by omega) (by decide), hQ 2336 _ rfl]; exact b2
    · rw [hW _ _ (by omega) (by omega) (by decide), hQ 2337 _ rfl]; exact b3
    · rw [hQ 2337 _ rfl] at j1
      have hmb : 0 ≤ P 2337 (8 * g + k) ∧ P 2337 (8 * g + k) ≤ 6 := IV.a hI 2337 0 64 rfl rfl rfl (by omega) (by omega)
      obtain ⟨c, hc, hm⟩ := b4 j j0 j1
      obtain ⟨y, hy, hc2⟩ := h0.mb hi (j := j) ⟨j0, by omega⟩
      have ec : c = grO g + 4 + 8 * i + y := by
        rw [show x + 1 = grO g + 3 + 8 * i by omega] at hc
        exact Option.some.inj (hc.symm.trans hc2)
      exact ⟨c, (hR _ _ (by omega) (by omega)).trans hc, hm.fr2 (by omega) hW hQ⟩
theorem XN.frO (h : XN W R P) (hI : IV false T U P) (hW : ∀ (x : Nat) (k : Int), 229 ≤ x → x < 1229 → k ≠ 2198 → W2 x k = W x k) (hR : ∀ (x : Nat) (k : Int), 229 ≤ x → x < 1229 → R2 x k = R x k) (hQ : ∀ (f : Nat) (k : Int), nsP.elem f = true → Q f k = P f k) (hO : XOP W2 Q) : XN W2 R2 Q := by
  obtain ⟨h1, h2, -⟩ := h
  refine ⟨fun p p0 p1 => ?_, fun g g0 g1 => (h2 g g0 g1).fr2 ⟨g0, g1⟩ hI hW hR hQ, hO⟩
  have hr := prO_rng (p := p) ⟨p0, p1⟩
  obtain ⟨a1, a2, a3, a4⟩ := h1 p p0 p1
  refine ⟨(hW _ _ (by omega) (by omega) (by decide)).trans a1, ?_, fun k k0 k1 => ?_, fun hp => ?_⟩
  · rw [hW _ _ (by omega) (by omega) (by decide), hQ 2320 _ rfl]
    exact a2
  · rw [hR _ _ (by omega) (by omega), hQ 2327 _ rfl, hQ 2320 _ rfl]
    exact a3 k k0 k1
  · rw [hQ 2320 _ rfl] at hp
    exact (a4 hp).fr2 ⟨p0, p1⟩ hW hR hQ
/-- an opening goes on -/
theorem XW.off {U2 : Int} (h : XW K T U W R P) (ho : 0 ≤ o ∧ o < 64) (hU : U ≤ U2) (hn : 0 ≤ x ∧ x ≤ U2) : XW K T U2 (rU W (1229 + o.toNat) 2166 x) R (rU P 2333 o x) := by
  have hW : ∀ (a : Nat) (k : Int), ¬ (a = 1229 + o.toNat ∧ k = 2166) → rU W (1229 + o.toNat) 2166 x a k = W a k := fun a k hx => if_neg hx
  have hU2 : XW K T U2 W R P := ⟨⟨h.1.1, h.1.2.1, h.1.2.2.1, h.1.2.2.2.1.monoU hU, h.1.2.2.2.2⟩, h.2⟩
  have hG : GI T U2 (rU P 2333 o x) := GI_one (f := 2333) (ty := 0) (len := 64) hU2.1.2.2.2.1 rfl (show (0 : Int) ≤ x ∧ x ≤ U2 from hn) rfl rfl rfl rfl rfl rfl rfl rfl rfl (by decide) (by decide)
  refine hU2.row (fun f k hf => rU_f (fun e => by rw [e] at hf; exact absurd hf (by decide))) (fun a k ha => hW a k (by omega)) (fun _ _ _ => rfl) (hU2.1.2.2.1.frO hU2.1.2.2.2.1.iv (fun a k a0 a1 _ => hW a k (by omega)) (fun _ _ _ _ => rfl) (fun f k hf => rU_f (fun e => by rw [e] at hf; exact absurd hf (by decide))) (fun o2 o0 o1 => ?_)) hG (hU2.1.2.2.2.2.2.1.fr (fun _ => rU_f (by decide)) (fun _ => rU_f (by decide)) (fun _ => rU_f (by decide)))
  obtain ⟨a1, a2⟩ := hU2.1.2.2.1.2.2 o2 o0 o1
  have eu : qUsers (rU P 2333 o x) o2 = qUsers P o2 := usR_fr (fun k => rU_f (by decide)) (fun k => rU_f (by decide)) 64 0 0
  rw [hW _ _ (by omega), hW _ _ (by omega), hW _ _ (by omega), eu, rU_f (show 2330 ≠ 2333 by decide), rU_f (show 2331 ≠ 2333 by decide), rU_f (show 2332 ≠ 2333 by decide)]
  refine ⟨a1, fun hi => ⟨(a2 hi).1, (a2 hi).2.1, ?_⟩⟩
  by_cases q : o2 = o
  · subst q
    rw [rU_s, rU_s]
  · rw [hW _ _ (by omega), rU_k q]
    exact (a2 hi).2.2
theorem nm_dg (h : 1 ≤ wd.length) : nmN wd 8 1 = dgV wd 7 := by
  unfold nmN dgV
  cases wd with
  | nil => exact absurd h (by decide)
  | cons x r =>
    cases r with
    | nil =>
      rw [if_pos (show (([x].length : Nat) : Int) ≤ 1 by show ((1 : Nat) : Int) ≤ 1; decide)]
      have e1 : nmV 8 [x] 0 = if 48 ≤ x ∧ x ≤ 47 + 8 then 8 * 0 + x - 48 else -1 := rfl
      rw [e1]
      by_cases q : 48 ≤ x ∧ x ≤ 55
      · rw [if_pos (show 48 ≤ x ∧ x ≤ 47 + 8 by omega), if_pos (show [x].length = 1 ∧ 48 ≤ lg [x] 0 ∧ lg [x] 0 ≤ 48 + 7 from ⟨rfl, q.1, q.2⟩)]
        show 8 * 0 + x - 48 = x - 48
        omega
      · rw [if_neg (show ¬ (48 ≤ x ∧ x ≤ 47 + 8) by omega), if_neg (fun c => q ⟨c.2.1, c.2.2⟩)]
    | cons y r =>
      rw [if_neg (by simp only [List.length_cons]; omega), if_neg (by simp only [List.length_cons]; omega)]
theorem x_digit7 {k : Nat} (hP : PX σ0 W R σ) (h : CMD W k l) (hw : 0 ≤ w ∧ w < ((lnW l).length : Int)) : CL fb (d + 3) 151 [vR (some k), vI w] σ (rP (dgV (lnB l w) 7) σ) := by
  have := x_cdigit (fb := fb) (d := d) hP h hw.1
  rw [if_pos hw.2, nm_dg (lnB_len h.2.2.2.1.2.2.2.2.1 hw).1] at this
  exact this
/-- where a process's descriptor leads -/
theorem x_opOf (hP : PX σ0 W R σ) (hX : XN W R P) (hp : 0 ≤ p ∧ p < 8) (hlv : ¬ P 2320 p = 0) (hk : 0 ≤ k ∧ k < 8) : CL fb d 166 [vR (some (prO p)), vI k] σ (rPR (if P 2327 (8 * p + k) < 0 then none else some (1229 + (P 2327 (8 * p + k)).toNat)) σ) := by
  have h := x_openingOf (fb := fb) (d := d) (k := k) hP hp (fun k0 k1 => (hX.1 p hp.1 hp.2).2.2.1 k k0 k1)
  rw [if_pos hk] at h
  by_cases q : P 2327 (8 * p + k) < 0
  · rw [if_pos (Or.inr q)] at h
    rw [if_pos q]
    exact h
  · rw [if_neg (fun c => c.elim hlv q)] at h
    rw [if_neg q]
    exact h
theorem x_seek {k : Nat} (hP : PX σ0 W R σ) (hX : XW K T U W R P) (hU : 10000 ≤ U) (hp : 0 ≤ p ∧ p < 8) (hlv : ¬ P 2320 p = 0) (hC : CMD W k l) (hN : ((lnW l).length : Int) = 3) : CL fb (d + 4) 168 [vR (some 2175), vR (some (prO p)), vR (some k)] σ (XCM σ0 K T U W R (cSek P p (dgV (lnB l 1) 7) (nmN (lnB l 2) 10 4))) := by
  have hpo := prO_o hp
  have h5 := hC.2.2.2.2.1.trans hN
  have hdg := x_digit7 (fb := fb) (d := d) (w := 1) hP hC ⟨by decide, by omega⟩
  have hde := x_decimal (fb := fb) (d := d) (w := 2) hP hC (by decide)
  rw [if_pos (by omega)] at hde
  have hr1 := dgV_rng (wd := lnB l 1) (most := 7)
  have hr2 := nmN_rng (wd := lnB l 2)
  obtain ⟨dd, hdd⟩ : ∃ q, dgV (lnB l 1) 7 = q := ⟨_, rfl⟩
  obtain ⟨n, hn⟩ : ∃ q, nmN (lnB l 2) 10 4 = q := ⟨_, rfl⟩
  rw [hdd] at hdg hr1
  rw [hn] at hde hr2
  rw [hdd, hn]
  have hop := fun (h : 0 ≤ dd ∧ dd < 8) => x_opOf (fb := fb) (d := d + 3) (k := dd) hP hX.1.2.2.1 hp hlv h
  have hob : 0 ≤ dd ∧ dd < 8 → -1 ≤ P 2327 (8 * p + dd) ∧ P 2327 (8 * p + dd) ≤ 63 := fun h => IV.a hX.1.2.2.2.1.iv 2327 0 64 rfl rfl rfl (by omega) (by omega)
  obtain ⟨o, ho⟩ : ∃ q, P 2327 (8 * p + dd) = q := ⟨_, rfl⟩
  rw [ho] at hop hob
  have eK : cSek P p dd n = if dd < 0 ∨ n < 0 then (18, P, []) else if o < 0 then (19, P, []) else (0, rU P 2333 o n, []) := by rw [← ho]; rfl
  rw [eK]
  obtain ⟨pr, hpr⟩ : ∃ q, prO p = q := ⟨_, rfl⟩
  rw [hpr] at hop hpo ⊢
  by_cases q1 : dd < 0
  · rw [if_pos (Or.inl q1)]
    have : dd = -1 := by omega
    subst this
    refine CL_in mL_168 rfl ?_
    show WP fb _ 168 0 [some (vR (some 2175)), some (vR (some pr)), some (vR (some k)), none, none, none] [] σ _
    refine x_lr (z := some k) T_168_0 rfl ?_
    refine x_ic T_168_1 ?_
    refine x_cv2 T_168_2 mN_151 mL_151 (Nat.le_of_ble_eq_true rfl) mO_151 (hP.o hC.1) (Nat.le_of_ble_eq_true rfl) (hdg) ?_
    rintro _ σ ⟨rfl, rfl⟩
    refine cI ?_
    refine x_si (ls1 := [some (vR (some 2175)), some (vR (some pr)), some (vR (some k)), some (vI (-1)), none, none]) T_168_5 rfl ?_
    refine x_lr (z := some k) T_168_6 rfl ?_
    refine x_ic T_168_7 ?_
    refine x_cv2 T_168_8 mN_160 mL_160 (Nat.le_of_ble_eq_true rfl) mO_160 (hP.o hC.1) (Nat.le_of_ble_eq_true rfl) (hde) ?_
    rintro _ σ ⟨rfl, rfl⟩
    refine cI ?_
    refine x_si (ls1 := [some (vR (some 2175)), some (vR (some pr)), some (vR (some k)), some (vI (-1)), some (vI n), none]) T_168_11 rfl ?_
    refine x_lr (z := some k) T_168_13 rfl ?_
    refine x_gI (z := 3) T_168_14 (Or.inl F_16_4) (hP.o hC.1) (Eq.trans (hP.gi hC.1 (key := 2516) rfl) h5) ?_
    refine x_ic T_168_17 ?_
    refine x_ic2 T_168_18 (fun h => absurd (show ¬ (3 : Int) = 3 from h) (by decide)) (fun _ => ?_)
    refine x_li (z := (-1)) T_168_21 rfl ?_
    refine x_ic T_168_22 ?_
    refine x_ic2 T_168_23 (fun _ => ?_) (fun h => absurd (show ((-1) : Int) = (-1) by decide) h)
    refine x_ic T_168_32 ?_
    refine x_ri T_168_34 ?_
    exact ⟨rfl, W, R, hP, hX, FCM_rfl⟩
  by_cases q2 : n < 0
  · rw [if_pos (Or.inr q2)]
    have : n = -1 := by omega
    subst this
    refine CL_in mL_168 rfl ?_
    show WP fb _ 168 0 [some (vR (some 2175)), some (vR (some pr)), some (vR (some k)), none, none, none] [] σ _
    refine x_lr (z := some k) T_168_0 rfl ?_
    refine x_ic T_168_1 ?_
    refine x_cv2 T_168_2 mN_151 mL_151 (Nat.le_of_ble_eq_true rfl) mO_151 (hP.o hC.1) (Nat.le_of_ble_eq_true rfl) (hdg) ?_
    rintro _ σ ⟨rfl, rfl⟩
    refine cI ?_
    refine x_si (ls1 := [some (vR (some 2175)), some (vR (some pr)), some (vR (some k)), some (vI dd), none, none]) T_168_5 rfl ?_
    refine x_lr (z := some k) T_168_6 rfl ?_
    refine x_ic T_168_7 ?_
    refine x_cv2 T_168_8 mN_160 mL_160 (Nat.le_of_ble_eq_true rfl) mO_160 (hP.o hC.1) (Nat.le_of_ble_eq_true rfl) (hde) ?_
    rintro _ σ ⟨rfl, rfl⟩
    refine cI ?_
    refine x_si (ls1 := [some (vR (some 2175)), some (vR (some pr)), some (vR (some k)), some (vI dd), some (vI (-1)), none]) T_168_11 rfl ?_
    refine x_lr (z := some k) T_168_13 rfl ?_
    refine x_gI (z := 3) T_168_14 (Or.inl F_16_4) (hP.o hC.1) (Eq.trans (hP.gi hC.1 (key := 2516) rfl) h5) ?_
    refine x_ic T_168_17 ?_
    refine x_ic2 T_168_18 (fun h => absurd (show ¬ (3 : Int) = 3 from h) (by decide)) (fun _ => ?_)
    refine x_li (z := dd) T_168_21 rfl ?_
    refine x_ic T_168_22 ?_
    refine x_ic2 T_168_23 (fun h => absurd (show dd = (-1) from h) (by omega)) (fun _ => ?_)
    refine x_li (z := (-1)) T_168_26 rfl ?_
    refine x_ic T_168_28 ?_
    refine x_ic2 T_168_29 (fun h => absurd (show ¬ ((-1) : Int) = (-1) from h) (by decide)) (fun _ => ?_)
    refine x_ic T_168_32 ?_
    refine x_ri T_168_34 ?_
    exact ⟨rfl, W, R, hP, hX, FCM_rfl⟩
  rw [if_neg (by omega)]
  have hop := hop ⟨by omega, by omega⟩
  have hob := hob ⟨by omega, by omega⟩
  by_cases q3 : o < 0
  · rw [if_pos q3] at hop
    rw [if_pos q3]
    refine CL_in mL_168 rfl ?_
    show WP fb _ 168 0 [some (vR (some 2175)), some (vR (some pr)), some (vR (some k)), none, none, none] [] σ _
    refine x_lr (z := some k) T_168_0 rfl ?_
    refine x_ic T_168_1 ?_
    refine x_cv2 T_168_2 mN_151 mL_151 (Nat.le_of_ble_eq_true rfl) mO_151 (hP.o hC.1) (Nat.le_of_ble_eq_true rfl) (hdg) ?_
    rintro _ σ ⟨rfl, rfl⟩
    refine cI ?_
    refine x_si (ls1 := [some (vR (some 2175)), some (vR (some pr)), some (vR (some k)), some (vI dd), none, none]) T_168_5 rfl ?_
    refine x_lr (z := some k) T_168_6 rfl ?_
    refine x_ic T_168_7 ?_
    refine x_cv2 T_168_8 mN_160 mL_160 (Nat.le_of_ble_eq_true rfl) mO_160 (hP.o hC.1) (Nat.le_of_ble_eq_true rfl) (hde) ?_
    rintro _ σ ⟨rfl, rfl⟩
    refine cI ?_
    refine x_si (ls1 := [some (vR (some 2175)), some (vR (some pr)), some (vR (some k)), some (vI dd), some (vI n), none]) T_168_11 rfl ?_
    refine x_lr (z := some k) T_168_13 rfl ?_
    refine x_gI (z := 3) T_168_14 (Or.inl F_16_4) (hP.o hC.1) (Eq.trans (hP.gi hC.1 (key := 2516) rfl) h5) ?_
    refine x_ic T_168_17 ?_
    refine x_ic2 T_168_18 (fun h => absurd (show ¬ (3 : Int) = 3 from h) (by decide)) (fun _ => ?_)
    refine x_li (z := dd) T_168_21 rfl ?_
    refine x_ic T_168_22 ?_
    refine x_ic2 T_168_23 (fun h => absurd (show dd = (-1) from h) (by omega)) (fun _ => ?_)
    refine x_li (z := n) T_168_26 rfl ?_
    refine x_ic T_168_28 ?_
    refine x_ic2 T_168_29 (fun _ => ?_) (fun h => absurd (show ¬ n = (-1) by omega) h)
    refine x_lr (z := some pr) T_168_35 rfl ?_
    refine x_li (z := dd) T_168_36 rfl ?_
    refine x_cv2 T_168_37 mN_166 mL_166 (Nat.le_of_ble_eq_true rfl) mO_166 (hP.o hpo) (Nat.le_of_ble_eq_true rfl) (hop) ?_
    rintro _ σ ⟨rfl, rfl⟩
    refine cR ?_
    refine x_sr (ls1 := [some (vR (some 2175)), some (vR (some pr)), some (vR (some k)), some (vI dd), some (vI n), some (vR none)]) T_168_40 rfl ?_
    refine x_lr (z := none) T_168_42 rfl ?_
    refine x_nnul T_168_44 (fun a0 h0 => absurd h0 (by simp)) (fun _ => ?_)
    refine x_ic T_168_47 ?_
    refine x_ri T_168_49 ?_
    exact ⟨rfl, W, R, hP, hX, FCM_rfl⟩
  · rw [if_neg q3] at hop
    rw [if_neg q3]
    have hfin := hX.off (o := o) (x := n) (U2 := U) ⟨by omega, by omega⟩ (Int.le_refl _) ⟨by omega, by omega⟩
    have hot : tX (1229 + o.toNat) = some (Sum.inl 5) := tX_opn o.toNat (by omega)
    have hor : 1229 + o.toNat < 2187 := by omega
    obtain ⟨ob, hob2⟩ : ∃ q, 1229 + o.toNat = q := ⟨_, rfl⟩
    rw [hob2] at hop hfin hot hor
    refine CL_in mL_168 rfl ?_
    show WP fb _ 168 0 [some (vR (some 2175)), some (vR (some pr)), some (vR (some k)), none, none, none] [] σ _
    refine x_lr (z := some k) T_168_0 rfl ?_
    refine x_ic T_168_1 ?_
    refine x_cv2 T_168_2 mN_151 mL_151 (Nat.le_of_ble_eq_true rfl) mO_151 (hP.o hC.1) (Nat.le_of_ble_eq_true rfl) (hdg) ?_
    rintro _ σ ⟨rfl, rfl⟩
    refine cI ?_
    refine x_si (ls1 := [some (vR (some 2175)), some (vR (some pr)), some (vR (some k)), some (vI dd), none, none]) T_168_5 rfl ?_
    refine x_lr (z := some k) T_168_6 rfl ?_
    refine x_ic T_168_7 ?_
    refine x_cv2 T_168_8 mN_160 mL_160 (Nat.le_of_ble_eq_true rfl) mO_160 (hP.o hC.1) (Nat.le_of_ble_eq_true rfl) (hde) ?_
    rintro _ σ ⟨rfl, rfl⟩
    refine cI ?_
    refine x_si (ls1 := [some (vR (some 2175)), some (vR (some pr)), some (vR (some k)), some (vI dd), some (vI n), none]) T_168_11 rfl ?_
    refine x_lr (z := some k) T_168_13 rfl ?_
    refine x_gI (z := 3) T_168_14 (Or.inl F_16_4) (hP.o hC.1) (Eq.trans (hP.gi hC.1 (key := 2516) rfl) h5) ?_
    refine x_ic T_168_17 ?_
    refine x_ic2 T_168_18 (fun h => absurd (show ¬ (3 : Int) = 3 from h) (by decide)) (fun _ => ?_)
    refine x_li (z := dd) T_168_21 rfl ?_
    refine x_ic T_168_22 ?_
    refine x_ic2 T_168_23 (fun h => absurd (show dd = (-1) from h) (by omega)) (fun _ => ?_)
    refine x_li (z := n) T_168_26 rfl ?_
    refine x_ic T_168_28 ?_
    refine x_ic2 T_168_29 (fun _ => ?_) (fun h => absurd (show ¬ n = (-1) by omega) h)
    refine x_lr (z := some pr) T_168_35 rfl ?_
    refine x_li (z := dd) T_168_36 rfl ?_
    refine x_cv2 T_168_37 mN_166 mL_166 (Nat.le_of_ble_eq_true rfl) mO_166 (hP.o hpo) (Nat.le_of_ble_eq_true rfl) (hop) ?_
    rintro _ σ ⟨rfl, rfl⟩
    refine cR ?_
    refine x_sr (ls1 := [some (vR (some 2175)), some (vR (some pr)), some (vR (some k)), some (vI dd), some (vI n), some (vR (some ob))]) T_168_40 rfl ?_
    refine x_lr (z := some ob) T_168_42 rfl ?_
    refine x_nnul T_168_44 (fun _ _ => ?_) (fun h0 => absurd h0 (by simp))
    refine x_lr (z := some ob) T_168_50 rfl ?_
    refine x_li (z := n) T_168_52 rfl ?_
    refine z_pI hP T_168_54 F_5_6 hot (key := 2166) rfl (fun σ hP => ?_)
    refine x_ic T_168_57 ?_
    refine x_ri T_168_58 ?_
    exact ⟨rfl, _, R, hP, hfin, fun x k hx _ _ => if_neg (fun c => by omega), fun _ _ _ => rfl⟩
end XOPO
