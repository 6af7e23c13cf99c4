/-! The class's kernel: a user logs in. -/
theorem T_205_0 : hTab 205 0 = some ((3, 0, 2, []), 1) := rfl
theorem T_205_1 : hTab 205 1 = some ((31, 186, 0, []), 4) := rfl
theorem T_205_4 : hTab 205 4 = some ((4, 2, 2, []), 5) := rfl
theorem T_205_5 : hTab 205 5 = some ((3, 2, 2, []), 6) := rfl
theorem T_205_6 : hTab 205 6 = some ((20, 1, Int.ofNat 12, []), 9) := rfl
theorem T_205_9 : hTab 205 9 = some ((0, 0, (-101), []), 11) := rfl
theorem T_205_11 : hTab 205 11 = some ((33, 1, 0, []), 12) := rfl
theorem T_205_12 : hTab 205 12 = some ((3, 0, 2, []), 13) := rfl
theorem T_205_13 : hTab 205 13 = some ((0, 0, 0, []), 14) := rfl
theorem T_205_14 : hTab 205 14 = some ((31, 122, 0, []), 17) := rfl
theorem T_205_17 : hTab 205 17 = some ((0, 0, 0, []), 18) := rfl
theorem T_205_18 : hTab 205 18 = some ((3, 0, 2, []), 19) := rfl
theorem T_205_19 : hTab 205 19 = some ((0, 0, 0, []), 20) := rfl
theorem T_205_20 : hTab 205 20 = some ((3, 1, 0, []), 21) := rfl
theorem T_205_21 : hTab 205 21 = some ((31, 127, 0, []), 24) := rfl
theorem T_205_24 : hTab 205 24 = some ((3, 0, 2, []), 25) := rfl
theorem T_205_25 : hTab 205 25 = some ((24, 1, Int.ofNat 2, []), 28) := rfl
theorem T_205_28 : hTab 205 28 = some ((31, 26, 0, []), 31) := rfl
theorem T_205_31 : hTab 205 31 = some ((4, 3, 0, []), 32) := rfl
theorem T_205_32 : hTab 205 32 = some ((3, 3, 0, []), 33) := rfl
theorem T_205_33 : hTab 205 33 = some ((18, 0, Int.ofNat 39, []), 36) := rfl
theorem T_205_36 : hTab 205 36 = some ((3, 3, 0, []), 37) := rfl
theorem T_205_37 : hTab 205 37 = some ((13, 0, 0, []), 38) := rfl
theorem T_205_38 : hTab 205 38 = some ((33, 1, 0, []), 39) := rfl
theorem T_205_39 : hTab 205 39 = some ((3, 2, 2, []), 40) := rfl
theorem T_205_40 : hTab 205 40 = some ((3, 1, 0, []), 41) := rfl
theorem T_205_41 : hTab 205 41 = some ((3, 0, 2, []), 42) := rfl
theorem T_205_42 : hTab 205 42 = some ((24, 1, Int.ofNat 5, []), 45) := rfl
theorem T_205_45 : hTab 205 45 = some ((3, 0, 2, []), 46) := rfl
theorem T_205_46 : hTab 205 46 = some ((31, 187, 0, []), 49) := rfl
theorem T_205_49 : hTab 205 49 = some ((31, 191, 0, []), 52) := rfl
theorem T_205_52 : hTab 205 52 = some ((3, 0, 2, []), 53) := rfl
theorem T_205_53 : hTab 205 53 = some ((0, 0, 2, []), 54) := rfl
theorem T_205_54 : hTab 205 54 = some ((31, 122, 0, []), 57) := rfl
theorem T_205_57 : hTab 205 57 = some ((3, 2, 2, []), 58) := rfl
theorem T_205_58 : hTab 205 58 = some ((31, 193, 0, []), 61) := rfl
theorem T_205_61 : hTab 205 61 = some ((3, 2, 2, []), 62) := rfl
theorem T_205_62 : hTab 205 62 = some ((24, 6, Int.ofNat 0, []), 65) := rfl
theorem T_205_65 : hTab 205 65 = some ((33, 1, 0, []), 66) := rfl
theorem mN_205 : hmN 205 = 2 := by decide +kernel
theorem mL_205 : hmL 205 = 4 := by decide +kernel
theorem mK_205 : hmK 205 = 1 := by decide +kernel
theorem mO_205 : hmO 205 = 1 := by decide +kernel
section XADM
variable {fb : Bool} {d S b c m : Nat} {σ0 σ : hM} {W W1 W2 P Q : qR} {R R1 R2 : rR} {i j k x z v s e w f g u p p2 q r K T U a : Int} {l l0 lo nm M ord : List Int} {t : Nat → Nat}
/-- a group that none holds has no points -/
theorem XW.gr0 (h : XW K T U W R P) (hg : 0 ≤ g ∧ g < 8) : qPn P g 8 0 ≤ 0 → XW K T U (rU W (grO g) 2097 0) R (rU P 2334 g 0) := fun hn => by
  have hG := h.1.2.2.2.1
  have hrg := grO_rng hg
  have epg : grO g = 229 + 125 * g.toNat := rfl
  have hf : ∀ (f : Nat) (k : Int), f ≠ 2334 → rU P 2334 g 0 f k = P f k := fun f k hf => rU_f hf
  have hff : ∀ (f : Nat), f ≠ 2334 → rU P 2334 g 0 f = P f := fun f hf => funext (fun k => rU_f hf)
  have hW : ∀ (x : Nat) (k : Int), ¬ (x = grO g ∧ k = 2097) → rU W (grO g) 2097 0 x k = W x k := fun x k hx => if_neg hx
  refine h.rowG (fun f k hf => rU_f (fun e => by rw [e] at hf; exact absurd hf (by decide))) (fun x k hx => hW x k (by omega)) (fun _ _ _ => rfl) ⟨fun p2 p0 p1 => ?_, fun g2 g0 g1 => ?_, fun o o0 o1 => ?_⟩ (GI_one (f := 2334) (ty := 0) (len := 8) hG rfl (show (0 : Int) ≤ 0 ∧ (0 : Int) ≤ 8 by decide) rfl rfl rfl rfl rfl rfl rfl rfl rfl (by decide) (by decide)) (h.1.2.2.2.2.2.1.fr (fun _ => hf _ _ (by decide)) (fun _ => hf _ _ (by decide)) (fun _ => hf _ _ (by decide))) (fun g2 k a b c e => ?_)
  · obtain ⟨a1, a2, a3, a4⟩ := h.1.2.2.1.1 p2 p0 p1
    have hr2 := prO_rng (p := p2) ⟨p0, p1⟩
    have ep2 : prO p2 = 295 + 125 * p2.toNat := rfl
    refine ⟨(hW _ _ (by omega)).trans a1, by rw [hW _ _ (by omega), hf _ _ (by decide)]; exact a2, fun k k0 k1 => by rw [hf _ _ (by decide), hf _ _ (by decide)]; exact a3 k k0 k1, fun hl => ?_⟩
    rw [hf _ _ (by decide)] at hl
    exact (a4 hl).at2 ⟨p0, p1⟩ (fun x k x0 x1 _ => hW x k (by omega)) rfl (hf _ _ (by decide)) (hf _ _ (by decide)) (hf _ _ (by decide)) (by rw [hff 2325 (by decide), hff 2326 (by decide)]) (by rw [hff 2328 (by decide), hff 2329 (by decide)]) (fun x _ _ => by rw [hff 2361 (by decide), hff 2362 (by decide)])
  · have hr2 := grO_rng (g := g2) ⟨g0, g1⟩
    have eg2 : grO g2 = 229 + 125 * g2.toNat := rfl
    have hq : qPn (rU P 2334 g 0) g2 8 0 = qPn P g2 8 0 := qPn_fr (fun _ => hf _ _ (by decide)) (fun _ => hf _ _ (by decide)) 8 0
    by_cases e : g2 = g
    · subst e
      obtain ⟨a1, a2, a3, a4, a5⟩ := h.1.2.2.1.2.1 g2 g0 g1
      refine ⟨rU_s.trans rU_s.symm, by rw [hW _ _ (by omega), hq]; exact a2, a3, a4, fun k k0 k1 => ?_⟩
      rw [show rU P 2334 g2 0 2334 g2 = 0 from rU_s] at k1
      omega
    · exact (h.1.2.2.1.2.1 g2 g0 g1).at2 ⟨g0, g1⟩ hG.iv (fun x k x0 x1 _ => hW x k (by omega)) (fun _ _ _ _ => rfl) hq ⟨rU_k e, fun _ _ _ => ⟨hf _ _ (by decide), hf _ _ (by decide), hf _ _ (by decide)⟩, fun _ _ _ => ⟨hf _ _ (by decide), hf _ _ (by decide), hf _ _ (by decide), hf _ _ (by decide), hf _ _ (by decide)⟩⟩
  · obtain ⟨a1, a2⟩ := h.1.2.2.1.2.2 o o0 o1
    have eu : qUsers (rU P 2334 g 0) o = qUsers P o := usR_fr (fun _ => hf _ _ (by decide)) (fun _ => hf _ _ (by decide)) 64 0 0
    rw [hW _ _ (by omega), hW _ _ (by omega), hW _ _ (by omega), hW _ _ (by omega), eu, hf _ _ (by decide), hf _ _ (by decide), hf _ _ (by decide), hf _ _ (by decide)]
    exact ⟨a1, a2⟩
  · by_cases q : g2 = g
    · subst q
      rw [show rU P 2334 g2 0 2334 g2 = 0 from rU_s] at e
      omega
    · rw [rU_k q] at e
      rw [hf _ _ (by decide)]
      exact h.1.2.2.2.2.2.2 g2 k a b c e
theorem x_admit (hP : PX σ0 W R σ) (hX : XW K T U W R P) (hT : T + 200 ≤ 2147483000) (hu : 0 ≤ u ∧ u ≤ 3) : CL fb (d + 8) 205 [vR (some 129), vI u] σ (fun r σ' => r = some (vI (cLog P u).1) ∧ ∃ W2 R2, PX σ0 W2 R2 σ' ∧ XW K (T + 4) U W2 R2 (cLog P u).2 ∧ FCM W W2 R R2) := by
  have hIV := hX.1.2.2.2.1.iv
  unfold cLog
  rw [if_neg (fun c => c hu)]
  have hsp := x_spareProcess (fb := fb) (d := d + 7) hP hX.1.2.2.1
  have hqr := qFp_rng (P := P)
  obtain ⟨q, hq⟩ : ∃ q, qFp P = q := ⟨_, rfl⟩
  rw [hq] at hsp hqr
  rw [hq]
  by_cases q0 : q < 0
  · rw [if_pos q0] at hsp ⊢
    refine CL_in mL_205 rfl ?_
    show WP fb _ 205 0 [some (vR (some 129)), some (vI u), none, none] [] σ _
    refine x_lr (z := some 129) T_205_0 rfl ?_
    refine x_cv1 T_205_1 mN_186 mL_186 (Nat.le_of_ble_eq_true rfl) mO_186 (hP.o xo_129) (Nat.le_of_ble_eq_true rfl) (hsp) ?_
    rintro _ σ ⟨rfl, rfl⟩
    refine cR ?_
    refine x_sr (ls1 := [some (vR (some 129)), some (vI u), some (vR none), none]) T_205_4 rfl ?_
    refine x_lr (z := none) T_205_5 rfl ?_
    refine x_nnul T_205_6 (fun a0 h0 => absurd h0 (by simp)) (fun _ => ?_)
    refine x_ic T_205_9 ?_
    refine x_ri T_205_11 ?_
    exact ⟨rfl, W, R, hP, XW.mono hX (by omega), FCM_rfl⟩
  rw [if_neg q0] at hsp ⊢
  obtain ⟨hq0, hq8, hqd⟩ : 0 ≤ q ∧ q < 8 ∧ P 2320 q = 0 := by
    rcases hqr with c | c
    · omega
    · exact c
  obtain ⟨ord, tt, hXs⟩ := hX.1.1.1 0 (by decide) (by decide)
  have hho := x_host (fb := fb) (d := d + 7) (s := 0) hP (by decide)
  have hwk := x_attaching (fb := fb) (d := d + 4) hP ⟨by decide, rfl⟩ hXs hIV hu
  obtain ⟨nf, hg⟩ : ∃ q, qNewF P 0 = q := ⟨_, rfl⟩
  have hgr : nf = -1 ∨ (0 ≤ nf ∧ nf ≤ 47) := by rw [← hg]; exact qNewF_rng
  have eE : kAtE P 0 u = if nf < 0 then 12 else tE P 0 (mAtt nf u) := by unfold kAtE; rw [hg]
  have eP : kAtP P 0 u = if nf < 0 then P else tP P 0 (mAtt nf u) := by unfold kAtP; rw [hg]
  rw [hg] at hwk ⊢
  have hak := fun (σ : hM) (W2 : qR) (hP : PX σ0 W2 R σ) (hF : FR1 W W2) (hB : BY W2 138 300 (mFr (mAtt nf u))) => x_askN (fb := fb) (d := d) (g := nf) hP (hX.fr1 hF) (by omega) (s := 0) (by decide) hB (by rw [mAtt_len]; decide) (by rw [mAtt_0]; decide) (fun q => ⟨fun _ => by rw [mAtt_f ⟨by omega, by omega⟩]; omega, fun c => by rw [mAtt_0] at c; exact absurd c (by decide)⟩)
  rw [← eE, ← eP] at hak
  have hE0 : kAtE P 0 u = 0 → ¬ nf < 0 := fun q c => by rw [eE, if_pos c] at q; omega
  have hEr := kAtE_rng (P := P) (s := 0) (u := u)
  have hkf : KF (kAtP P 0 u) P := KF_at
  have hg37 : ∀ (V : qR), FR1 W V → V 129 2037 = nf → ∀ (V2 : qR) (V3 : rR), FVS 134 V V2 R V3 → V2 129 2037 = nf := fun V _ hg V2 V3 h => (h.1 _ _ (by decide) (Or.inl (by decide)) (by decide) (by decide) (by decide) (fun c => by unfold ioP at c; omega) (by decide) (by decide)).trans hg
  have e0 : 1293 + 294 * (0 : Int).toNat = 1293 := rfl
  rw [e0] at hho
  simp only [e0] at hak
  obtain ⟨e, he⟩ : ∃ q, kAtE P 0 u = q := ⟨_, rfl⟩
  obtain ⟨Q, hQ⟩ : ∃ q, kAtP P 0 u = q := ⟨_, rfl⟩
  rw [he] at hak hE0 hEr ⊢
  rw [hQ] at hak hkf ⊢
  have hpo := prO_o (p := q) ⟨hq0, hq8⟩
  have hrp := prO_rng (p := q) ⟨hq0, hq8⟩
  have hso : tX 1293 = some (Sum.inl 7) := rfl
  by_cases qe : e = 0
  rotate_left
  · rw [if_pos (show 0 < e by omega)]
    obtain ⟨pr, hpr⟩ : ∃ y, prO q = y := ⟨_, rfl⟩
    rw [hpr] at hsp hpo
    refine CL_in mL_205 rfl ?_
    show WP fb _ 205 0 [some (vR (some 129)), some (vI u), none, none] [] σ _
    refine x_lr (z := some 129) T_205_0 rfl ?_
    refine x_cv1 T_205_1 mN_186 mL_186 (Nat.le_of_ble_eq_true rfl) mO_186 (hP.o xo_129) (Nat.le_of_ble_eq_true rfl) (hsp) ?_
    rintro _ σ ⟨rfl, rfl⟩
    refine cR ?_
    refine x_sr (ls1 := [some (vR (some 129)), some (vI u), some (vR (some pr)), none]) T_205_4 rfl ?_
    refine x_lr (z := some pr) T_205_5 rfl ?_
    refine x_nnul T_205_6 (fun _ _ => ?_) (fun h0 => absurd h0 (by simp))
    refine x_lr (z := some 129) T_205_12 rfl ?_
    refine x_ic T_205_13 ?_
    refine x_cv2 T_205_14 mN_122 mL_122 (Nat.le_of_ble_eq_true rfl) mO_122 (hP.o xo_129) (Nat.le_of_ble_eq_true rfl) (hho) ?_
    rintro _ σ ⟨rfl, rfl⟩
    refine cR ?_
    refine x_ic T_205_17 ?_
    refine x_lr (z := some 129) T_205_18 rfl ?_
    refine x_ic T_205_19 ?_
    refine x_li (z := u) T_205_20 rfl ?_
    refine x_cv3 T_205_21 mN_127 mL_127 (Nat.le_of_ble_eq_true rfl) mO_127 (hP.o xo_129) (Nat.le_of_ble_eq_true rfl) (hwk) ?_
    clear hP hwk
    rintro _ σ ⟨rfl, W2, hP, hB2, hF2, hg2⟩
    refine cR ?_
    refine x_lr (z := some 129) T_205_24 rfl ?_
    refine x_gR (z := some 134) T_205_25 F_1_2 (hP.o xo_129) (hP.rc xo_129 rfl rfl) ?_
    refine x_cv4 T_205_28 mN_26 mL_26 (Nat.le_of_ble_eq_true rfl) mO_26 (hP.o hso) (Nat.le_of_ble_eq_true rfl) (hak σ W2 hP hF2 hB2) ?_
    clear hP hak
    rintro _ σ ⟨rfl, W3, R3, hP, hX3, hB3, hF3⟩
    refine cI ?_
    refine x_si (ls1 := [some (vR (some 129)), some (vI u), some (vR (some pr)), some (vI e)]) T_205_31 rfl ?_
    refine x_li (z := e) T_205_32 rfl ?_
    refine x_if T_205_33 (fun h => absurd (show e = 0 from h) (by exact qe)) (fun _ => ?_)
    refine x_li (z := e) T_205_36 rfl ?_
    refine x_neg (w := (-e)) T_205_37 (w32_id (by omega) (by omega)) ?_
    refine x_ri T_205_38 ?_
    exact ⟨rfl, W3, R3, hP, XW.mono hX3 (by omega), FCM_fa (FA_tr (FA_fr hF2) (FA_fs hF3))⟩
  subst qe
  rw [if_neg (show ¬ (0 : Int) < 0 by decide)]
  have hnf := hE0 rfl
  have hQd : Q 2320 q = 0 := (nsR_kf hkf 2320 q rfl).trans hqd
  obtain ⟨k1, k2, k3⟩ := qFg_ok (P := Q) (p := q) ⟨hq0, hq8⟩ hQd
  have hsg := fun (σ : hM) (V : qR) (V3 : rR) (hP : PX σ0 V V3 σ) (hX : XW K (T + 4) U V V3 Q) => x_spareGroup (fb := fb) (d := d + 7) hP hX.1.2.2.1 k2
  obtain ⟨gg, hgg⟩ : ∃ y, qFg Q = y := ⟨_, rfl⟩
  rw [hgg] at k1 k2 k3
  simp only [hgg] at hsg
  rw [hgg]
  have hrg := grO_rng (g := gg) ⟨k1, k2⟩
  have epq : prO q = 295 + 125 * q.toNat := rfl
  have epg : grO gg = 229 + 125 * gg.toNat := rfl
  have hgo : tX (grO gg) = some (Sum.inl 3) := grO_o ⟨k1, k2⟩
  have hqn : qPn Q gg 8 0 = 0 := by have := qPn_pos (P := Q) (g := gg) 8 0; omega
  obtain ⟨P0, hP0⟩ : ∃ y, rU Q 2334 gg 0 = y := ⟨_, rfl⟩
  have hX0 : ∀ (V : qR) (V3 : rR), XW K (T + 4) U V V3 Q → XW K (T + 4) U (rU V (grO gg) 2097 0) V3 P0 := fun V V3 h => by rw [← hP0]; exact h.gr0 ⟨k1, k2⟩ k3
  have h0p : ∀ f k, f ≠ 2334 → P0 f k = Q f k := fun f k h => by rw [← hP0]; exact rU_f h
  have h0d : P0 2320 q = 0 := (h0p _ _ (by decide)).trans hQd
  have hn0 : qPn P0 gg 8 0 = 0 := (qPn_fr (fun k => h0p _ _ (by decide)) (fun k => h0p _ _ (by decide)) 8 0).trans hqn
  rw [hP0]
  have hbg := fun (σ : hM) (V : qR) (V3 : rR) (hP : PX σ0 V V3 σ) (hX : XW K (T + 4) U V V3 P0) => x_begin (fb := fb) (d := d + 6) (p := q) (u := u) (r := nf) (ga := grO gg) (h0 := 0) hP ⟨hq0, hq8⟩ hgo (by omega) ((hX.1.2.2.1.2.1 gg k1 k2).2.1.trans hn0) (by decide)
  have hsh := fun (σ : hM) (V : qR) (V3 : rR) (hX : XW K (T + 4) U V V3 P0) (V1 : qR) (hP : PX σ0 V1 (oU V3 (prO q) 2201 (some (grO gg))) σ) (hB : BGN V (prO q) (grO gg) u nf V1) => (show CL fb (d + 7) 193 [vR (some 1881), vR (some (prO q))] σ (fun r σ' => r = none ∧ ∃ W2 R2, PX σ0 W2 R2 σ' ∧ XW K (T + 4) U W2 R2 (gBg P0 q u gg nf) ∧ W2 (prO q) 2192 = q ∧ FCM V W2 V3 R2) from by
    obtain ⟨b1, b2, b3, b4, b5, b6, b7, b8, b9, b10⟩ := id hB
    have hW : ∀ (x : Nat) (k : Int), (x < 229 ∨ 1293 ≤ x) → V1 x k = V x k := fun x k hx => b9 x k (by omega) (by omega)
    have hR : ∀ (x : Nat) (k : Int), (x < 229 ∨ 1293 ≤ x ∨ k = 2267) → oU V3 (prO q) 2201 (some (grO gg)) x k = V3 x k := fun x k hx => if_neg (by omega)
    obtain ⟨⟨od, tt, hx2⟩, hct⟩ := hX.sv2 hW hR
    have hnum := (hX.1.2.2.1.1 q hq0 hq8).1
    refine (x_show (fb := fb) (d := d) (S := 1881) (u := u) (Q := gBg P0 q u gg nf) hP ⟨by decide, rfl⟩ hx2 hct hX.1.2.2.2.1 hX.1.2.2.2.2.1.1 ⟨hq0, hq8⟩ h0d rfl (b10.trans hnum) b3 hu (by rw [gB_us, if_pos rfl]) (fun k => ?_) (fun k hk => by rw [gB_us, if_neg hk]) (fun f k hf => gB_f (hf.elim (fun h => el_dj rfl h) (fun h => by rw [h]; rfl)))).mono ?_
    · rw [gB_is]
      by_cases c : k = q
      · rw [if_pos c]
        exact ⟨fun _ => Or.inl c, fun _ => by decide⟩
      · rw [if_neg c]
        exact ⟨fun h => Or.inr h, fun h => h.resolve_left c⟩
    · rintro r σ' ⟨rfl, W2, R2, od2, t2, g1, g2, g3, g4⟩
      have hXX : XW K (T + 4) U W2 R2 (gBg P0 q u gg nf) := hX.shw ⟨hq0, hq8⟩ (hX.1.2.2.1.bgn hX.1.2.2.2.1.iv ⟨hq0, hq8⟩ h0d ⟨k1, k2⟩ hB) hW hR (fun p p0 p1 => by
        rw [gB_dy]
        by_cases c : p = q
        · rw [if_pos c, c]
          exact b2
        · rw [if_neg c, b9 _ _ (by omega) (by omega)]
          exact hX.1.1.2.2.2.2 p p0 p1) (fun f k hf => gB_f (by
          have : bgR.all (fun x => npB.elem x) = true := by decide
          cases c : bgR.elem f with
          | false => rfl
          | true =>
            have := List.all_eq_true.mp this f (List.elem_iff.mp c)
            rw [this] at hf
            cases hf)) (fun k hk => by
          rw [gB_is]
          split
          · decide
          · exact hk) (GI_gBg hX.1.2.2.2.1 ⟨hq0, hq8⟩ hu ⟨k1, by omega⟩ ⟨by omega, by omega⟩) (GO_gBg hX.1.2.2.2.2.2.1 ⟨hq0, hq8⟩ h0d) (hX.1.2.2.2.2.2.2.row (fun _ => gB_f rfl) (fun _ => gB_f rfl)) g2 g3 g4
      obtain ⟨f1, f2, -⟩ := g4
      exact ⟨rfl, W2, R2, g1, hXX, (f1 _ _ (by omega) (by omega) (by omega) (by omega) (by omega)).trans (b10.trans hnum), fun x k x0 x1 _ => (f1 _ _ (by omega) (by omega) x1 (by omega) (by omega)).trans (hW _ _ (by omega)), fun x k x0 => (f2 _ _ (by omega)).trans (hR _ _ (by omega))⟩)
  have hho2 := fun (σ : hM) (V : qR) (V3 : rR) (hP : PX σ0 V V3 σ) => x_host (fb := fb) (d := d + 7) (s := 2) hP (by decide)
  have e2 : 1293 + 294 * (2 : Int).toNat = 1881 := rfl
  simp only [e2] at hho2
  have hs2 : tX 1881 = some (Sum.inl 7) := rfl
  have hFg : ∀ (V : qR) (V3 : rR), FCM V (rU V (grO gg) 2097 0) V3 V3 := fun V V3 => ⟨fun x k x0 x1 _ => if_neg (by omega), fun _ _ _ => rfl⟩
  obtain ⟨ga, hga⟩ : ∃ y, grO gg = y := ⟨_, rfl⟩
  obtain ⟨pr, hpr⟩ : ∃ y, prO q = y := ⟨_, rfl⟩
  simp only [hpr] at hsp hpo hbg hsh
  simp only [hga] at hsg hgo hbg hsh hX0 hFg
  refine CL_in mL_205 rfl ?_
  show WP fb _ 205 0 [some (vR (some 129)), some (vI u), none, none] [] σ _
  refine x_lr (z := some 129) T_205_0 rfl ?_
  refine x_cv1 T_205_1 mN_186 mL_186 (Nat.le_of_ble_eq_true rfl) mO_186 (hP.o xo_129) (Nat.le_of_ble_eq_true rfl) (hsp) ?_
  rintro _ σ ⟨rfl, rfl⟩
  refine cR ?_
  refine x_sr (ls1 := [some (vR (some 129)), some (vI u), some (vR (some pr)), none]) T_205_4 rfl ?_
  refine x_lr (z := some pr) T_205_5 rfl ?_
  refine x_nnul T_205_6 (fun _ _ => ?_) (fun h0 => absurd h0 (by simp))
  refine x_lr (z := some 129) T_205_12 rfl ?_
  refine x_ic T_205_13 ?_
  refine x_cv2 T_205_14 mN_122 mL_122 (Nat.le_of_ble_eq_true rfl) mO_122 (hP.o xo_129) (Nat.le_of_ble_eq_true rfl) (hho) ?_
  rintro _ σ ⟨rfl, rfl⟩
  refine cR ?_
  refine x_ic T_205_17 ?_
  refine x_lr (z := some 129) T_205_18 rfl ?_
  refine x_ic T_205_19 ?_
  refine x_li (z := u) T_205_20 rfl ?_
  refine x_cv3 T_205_21 mN_127 mL_127 (Nat.le_of_ble_eq_true rfl) mO_127 (hP.o xo_129) (Nat.le_of_ble_eq_true rfl) (hwk) ?_
  clear hP hwk
  rintro _ σ ⟨rfl, W2, hP, hB2, hF2, hg2⟩
  refine cR ?_
  refine x_lr (z := some 129) T_205_24 rfl ?_
  refine x_gR (z := some 134) T_205_25 F_1_2 (hP.o xo_129) (hP.rc xo_129 rfl rfl) ?_
  refine x_cv4 T_205_28 mN_26 mL_26 (Nat.le_of_ble_eq_true rfl) mO_26 (hP.o hso) (Nat.le_of_ble_eq_true rfl) (hak σ W2 hP hF2 hB2) ?_
  clear hP hak
  rintro _ σ ⟨rfl, W3, R3, hP, hX3, hB3, hF3⟩
  have hg3 := hg37 W2 hF2 hg2 W3 R3 hF3
  have hX4 := hX0 W3 R3 hX3
  have hF4 := hFg W3 R3
  refine cI ?_
  refine x_si (ls1 := [some (vR (some 129)), some (vI u), some (vR (some pr)), some (vI 0)]) T_205_31 rfl ?_
  refine x_li (z := 0) T_205_32 rfl ?_
  refine x_if T_205_33 (fun _ => ?_) (fun h => absurd (show (0 : Int) = 0 by rfl) h)
  refine x_lr (z := some pr) T_205_39 rfl ?_
  refine x_li (z := u) T_205_40 rfl ?_
  refine x_lr (z := some 129) T_205_41 rfl ?_
  refine x_gI (z := nf) T_205_42 (Or.inl F_1_5) (hP.o xo_129) (Eq.trans (hP.gi xo_129 (key := 2037) rfl) hg3) ?_
  refine x_lr (z := some 129) T_205_45 rfl ?_
  refine x_cv1 T_205_46 mN_187 mL_187 (Nat.le_of_ble_eq_true rfl) mO_187 (hP.o xo_129) (Nat.le_of_ble_eq_true rfl) (hsg σ W3 R3 hP hX3) ?_
  clear hP hsg
  rintro _ σ ⟨rfl, hP⟩
  refine cR ?_
  refine x_cv4 T_205_49 mN_191 mL_191 (Nat.le_of_ble_eq_true rfl) mO_191 (hP.o hpo) (Nat.le_of_ble_eq_true rfl) (hbg σ _ _ hP hX4) ?_
  clear hP hbg
  rintro _ σ ⟨rfl, W5, hP, hB5⟩
  refine cV ?_
  refine x_lr (z := some 129) T_205_52 rfl ?_
  refine x_ic T_205_53 ?_
  refine x_cv2 T_205_54 mN_122 mL_122 (Nat.le_of_ble_eq_true rfl) mO_122 (hP.o xo_129) (Nat.le_of_ble_eq_true rfl) (hho2 σ _ _ hP) ?_
  rintro _ σ ⟨rfl, rfl⟩
  refine cR ?_
  refine x_lr (z := some pr) T_205_57 rfl ?_
  refine x_cv2 T_205_58 mN_193 mL_193 (Nat.le_of_ble_eq_true rfl) mO_193 (hP.o hs2) (Nat.le_of_ble_eq_true rfl) (hsh σ _ _ hX4 W5 hP hB5) ?_
  clear hP hsh
  rintro _ σ ⟨rfl, W6, R6, hP, hX6, hn6, hF6⟩
  refine cV ?_
  refine x_lr (z := some pr) T_205_61 rfl ?_
  refine x_gI (z := q) T_205_62 (Or.inl F_6_0) (hP.o hpo) (Eq.trans (hP.gi hpo (key := 2192) rfl) hn6) ?_
  refine x_ri T_205_65 ?_
  exact ⟨rfl, W6, R6, hP, hX6, FCM_tr (FCM_fa (FA_tr (FA_fr hF2) (FA_fs hF3))) (FCM_tr hF4 hF6)⟩
end XADM
