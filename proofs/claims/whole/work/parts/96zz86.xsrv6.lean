/-! The class's servers: a message from the kernel, from outside. -/
theorem T_26_0 : hTab 26 0 = some ((3, 2, 2, []), 1) := rfl
theorem T_26_1 : hTab 26 1 = some ((20, 1, Int.ofNat 7, []), 4) := rfl
theorem T_26_4 : hTab 26 4 = some ((0, 0, 12, []), 6) := rfl
theorem T_26_6 : hTab 26 6 = some ((33, 1, 0, []), 7) := rfl
theorem T_26_7 : hTab 26 7 = some ((3, 3, 2, []), 8) := rfl
theorem T_26_8 : hTab 26 8 = some ((31, 27, 0, []), 11) := rfl
theorem T_26_11 : hTab 26 11 = some ((3, 2, 2, []), 12) := rfl
theorem T_26_12 : hTab 26 12 = some ((31, 28, 0, []), 15) := rfl
theorem T_26_15 : hTab 26 15 = some ((0, 0, 7, []), 17) := rfl
theorem T_26_17 : hTab 26 17 = some ((19, 2, Int.ofNat 35, []), 20) := rfl
theorem T_26_20 : hTab 26 20 = some ((3, 2, 2, []), 21) := rfl
theorem T_26_21 : hTab 26 21 = some ((0, 0, 0, []), 22) := rfl
theorem T_26_22 : hTab 26 22 = some ((0, 0, 4, []), 23) := rfl
theorem T_26_23 : hTab 26 23 = some ((31, 29, 0, []), 26) := rfl
theorem T_26_26 : hTab 26 26 = some ((3, 2, 2, []), 27) := rfl
theorem T_26_27 : hTab 26 27 = some ((31, 28, 0, []), 30) := rfl
theorem T_26_30 : hTab 26 30 = some ((14, 0, 0, []), 31) := rfl
theorem T_26_31 : hTab 26 31 = some ((17, 0, 0, []), 32) := rfl
theorem T_26_32 : hTab 26 32 = some ((18, 0, Int.ofNat 37, []), 35) := rfl
theorem T_26_35 : hTab 26 35 = some ((0, 0, (-1), []), 36) := rfl
theorem T_26_36 : hTab 26 36 = some ((33, 1, 0, []), 37) := rfl
theorem T_26_37 : hTab 26 37 = some ((3, 0, 2, []), 38) := rfl
theorem T_26_38 : hTab 26 38 = some ((3, 1, 0, []), 39) := rfl
theorem T_26_39 : hTab 26 39 = some ((25, 7, Int.ofNat 11, []), 42) := rfl
theorem T_26_42 : hTab 26 42 = some ((3, 0, 2, []), 43) := rfl
theorem T_26_43 : hTab 26 43 = some ((3, 2, 2, []), 44) := rfl
theorem T_26_44 : hTab 26 44 = some ((25, 7, Int.ofNat 9, []), 47) := rfl
theorem T_26_47 : hTab 26 47 = some ((3, 0, 2, []), 48) := rfl
theorem T_26_48 : hTab 26 48 = some ((3, 3, 2, []), 49) := rfl
theorem T_26_49 : hTab 26 49 = some ((25, 7, Int.ofNat 10, []), 52) := rfl
theorem T_26_52 : hTab 26 52 = some ((3, 1, 0, []), 53) := rfl
theorem T_26_53 : hTab 26 53 = some ((18, 1, Int.ofNat 64, []), 56) := rfl
theorem T_26_56 : hTab 26 56 = some ((3, 0, 2, []), 57) := rfl
theorem T_26_57 : hTab 26 57 = some ((24, 7, Int.ofNat 0, []), 60) := rfl
theorem T_26_60 : hTab 26 60 = some ((3, 2, 2, []), 61) := rfl
theorem T_26_61 : hTab 26 61 = some ((31, 30, 0, []), 64) := rfl
theorem T_26_403 : hTab 26 403 = some ((3, 1, 0, []), 404) := rfl
theorem T_26_404 : hTab 26 404 = some ((18, 1, Int.ofNat 418, []), 407) := rfl
theorem T_26_407 : hTab 26 407 = some ((3, 0, 2, []), 408) := rfl
theorem T_26_408 : hTab 26 408 = some ((24, 7, Int.ofNat 0, []), 411) := rfl
theorem T_26_411 : hTab 26 411 = some ((3, 0, 2, []), 412) := rfl
theorem T_26_412 : hTab 26 412 = some ((24, 7, Int.ofNat 10, []), 415) := rfl
theorem T_26_415 : hTab 26 415 = some ((31, 30, 0, []), 418) := rfl
theorem T_26_418 : hTab 26 418 = some ((3, 7, 0, []), 420) := rfl
theorem T_26_420 : hTab 26 420 = some ((33, 1, 0, []), 421) := rfl
section XSRVF
variable {fb : Bool} {d S S2 a0 rp mb M : Nat} {σ0 σ : hM} {W W1 W2 W3 P Q : qR} {R R2 R3 : rR} {k z s e w K T U c tg : Int} {ord l l0 l2 L : List Int} {t : Nat → Nat}
theorem XQ.fb2 (h : XQ K W R P) (hF : FB rp W W2) (h1 : rp + 1 < 1293 ∨ 2175 ≤ rp) (h0 : 0 < rp ∧ rp + 1 < 2281) (n1 : rp ≠ 130) (n2 : rp ≠ 132) (h6 : ∀ s n : Int, 0 ≤ s → s < 2 → isN P s n → P 2297 (64 * s + n) ≤ 600) : XQ K W2 R P := by
  obtain ⟨a1, a2, a3⟩ := h
  refine ⟨fun s s0 s1 => ?_, a2.fv (hF 0 0 (by omega) (by omega)) (hF 0 1 (by omega) (by omega)) (fun _ => rfl), a3.fb2 hF n1 n2⟩
  obtain ⟨o, t, h⟩ := a1 s s0 s1
  exact ⟨o, t, h.fbb hF (by omega) (by omega) (fun n q => h6 s n s0 q)⟩
theorem XQ.fn (h : XQ K W R P) (hF : FN W W2) (h6 : ∀ s n : Int, 0 ≤ s → s < 2 → isN P s n → P 2297 (64 * s + n) ≤ 600) : XQ K W2 R P := by
  obtain ⟨a1, a2, a3⟩ := h
  refine ⟨fun s s0 s1 => ?_, a2.fv (hF 0 0 (by omega) (by omega)) (hF 0 1 (by omega) (by omega)) (fun _ => rfl), a3.fn hF⟩
  obtain ⟨o, t, h⟩ := a1 s s0 s1
  exact ⟨o, t, h.fr (fun x k _ _ => hF x k (by omega) (by omega)) (fun _ _ _ _ => rfl) (fun _ c k _ _ _ q => hF c k (by omega) (by omega)) (fun n q => h6 s n s0 q)⟩
theorem XQ.m1 (h : XQ K W R P) : XQ K W R (gM1 P l) := by
  obtain ⟨a1, a2, a3⟩ := h
  refine ⟨fun s s0 s1 => ?_, a2, a3.m1⟩
  obtain ⟨o, t, h⟩ := a1 s s0 s1
  exact ⟨o, t, h.m1⟩
theorem len6_m1 (h6 : ∀ s n : Int, 0 ≤ s → s < 2 → isN P s n → P 2297 (64 * s + n) ≤ 600) : ∀ s n : Int, 0 ≤ s → s < 2 → isN (gM1 P l) s n → gM1 P l 2297 (64 * s + n) ≤ 600 := fun s n s0 s1 hn => by
  rw [gM1_f (by decide) (by decide) (by decide)]
  exact h6 s n s0 s1 (gM1_fe.live.mp hn)
/-- lengths of files, also of directories -/
theorem XV.len7 (h : XV W R P S s ord t) (hD : TI P) (hs : 0 ≤ s) : ∀ n, s < 2 → isN P s n → P 2297 (64 * s + n) ≤ 600 := fun n q hn => by
  obtain ⟨j, j0, j1, hj⟩ := mem_lg ((h.1.1.1 n).mpr hn)
  have hN := h.1.2.2.2.1 j j0 j1
  rw [hj] at hN
  have hl := hN.2.2.2.2.2.2.2.1
  by_cases qm : 0 ≤ qMode P s n
  · rw [show qLen P s n = P 2297 (64 * s + n) from if_pos ⟨q, qm⟩] at hl
    exact hl.2.2
  · have hlt := isN_lt q hn
    have e1 : qMode P s n = P 2293 (64 * s + n) := if_pos q
    rw [hD.2.2.1 (64 * s + n) (by omega) (by omega) (by omega)]
    decide
theorem XQ.len7 (h : XQ K W R P) (hD : TI P) : ∀ s n : Int, 0 ≤ s → s < 2 → isN P s n → P 2297 (64 * s + n) ≤ 600 := fun s n s0 s1 hn => by
  obtain ⟨o, t, hx⟩ := h.1 s s0 (by omega)
  exact hx.len7 hD s0 n s1 hn
/-- all servers, behind one's work -/
theorem XQ.one {s2 : Int} (h : XQ K W R P) (hG : GI T U P) (hD : PKK P) (hc : 0 ≤ c ∧ c < 2) (hS : VS S s2) (hb : ∀ j, 0 ≤ j → j < z → 0 ≤ lg l j ∧ lg l j ≤ 255) (hX : XV W2 R2 (srvP P s2 c (lg l) z) S s2 ord t) (hK : CT K W2 R2) (hI : SCR W2 (srvP P s2 c (lg l) z)) (hF : FVX S rp W W2 R R2) (hro : rp + 1 < 1293 ∨ 2175 ≤ rp) : XQ K W2 R2 (srvP P s2 c (lg l) z) := by
  refine ⟨fun s s0 s1 => ?_, hK, hI⟩
  by_cases e : s = s2
  · rw [e, ← hS.2]
    exact ⟨ord, t, hX⟩
  · obtain ⟨o, t2, h1⟩ := h.1 s s0 s1
    have h6 := fun n q => h.len7 hD.1 s n s0 q
    have h2 := h1.oth (rp := rp) (S := S) (s := s2) hS ⟨⟨s0, s1⟩, rfl⟩ (Ne.symm e) h.2.1 hF (by omega) h6
    exact ⟨o, t2, h2.ow ⟨⟨s0, s1⟩, rfl⟩ (OW_srvP hG hS.1 hc hb) hS.1 (Ne.symm e) (fun k => SF_srvP _ _ rfl (fun c => absurd c.1 (by decide))) (fun k => SF_srvP _ _ rfl (fun c => absurd c.1 (by decide))) (fun n q hn => by
      have hlt := isN_lt q hn
      exact (ns_rng hG.iv ⟨s0, q⟩ ⟨hlt.1, hlt.2.1⟩).2) h6⟩
theorem XQ.sv (h : XQ K W R P) (hD : TI P) (hx : tX S = some (Sum.inl 7)) (hne : S ≠ 130 ∧ S ≠ 132) : XQ K (svW W S c) (svR R S mb rp) P := by
  have h6 := h.len7 hD
  obtain ⟨a1, a2, a3⟩ := h
  refine ⟨fun s s0 s1 => ?_, a2.sv hx, a3.sv hx hne⟩
  obtain ⟨o, t, h⟩ := a1 s s0 s1
  exact ⟨o, t, h.sv (fun n q => h6 s n s0 q) hx⟩
theorem KM.fb2 (h : KM W P) (hF : FB rp W W2) (h1 : rp < 148 ∨ 229 ≤ rp) : KM W2 P := by
  obtain ⟨a1, a2, a3⟩ := h
  refine ⟨(hF _ _ (fun c => absurd c.2 (by decide)) (fun c => absurd c.2 (by decide))).trans a1, (hF _ _ (fun c => absurd c.2 (by decide)) (fun c => absurd c.2 (by decide))).trans a2, fun i i0 i1 => ?_⟩
  obtain ⟨g1, g2⟩ := a3 i i0 i1
  exact ⟨g1, hF.by g2 (by omega)⟩
theorem KM.fvx (h : KM W P) (hS : VS S s) (hF : FVX S rp W W2 R R2) (h1 : rp < 148 ∨ 229 ≤ rp) (h2 : rp ≠ 129) (hq : ∀ (f : Nat) (k : Int), f = 2316 ∨ f = 2317 ∨ (f = 2281 ∧ (k = 42 ∨ k = 45)) → Q f k = P f k) : KM W2 Q := by
  have g1 := hS.2
  have g2 := hS.1
  obtain ⟨a1, a2, a3⟩ := h
  have io : ∀ (x : Nat) (k : Int), (x = 129 ∧ (k = 2035 ∨ k = 2036)) ∨ (149 ≤ x ∧ x < 229 ∧ k ≠ 2198) → ¬ ioP x k := fun x k q c => by
    unfold ioP at c
    omega
  refine ⟨(hF.1 _ _ (by decide) (Or.inl (by omega)) (by decide) (fun c => h2 c.1.symm) (fun c => absurd c.2 (by decide)) (io _ _ (Or.inl ⟨rfl, Or.inl rfl⟩))).trans (a1.trans (hq _ _ (Or.inr (Or.inr ⟨rfl, Or.inl rfl⟩))).symm), (hF.1 _ _ (by decide) (Or.inl (by omega)) (by decide) (fun c => h2 c.1.symm) (fun c => absurd c.2 (by decide)) (io _ _ (Or.inl ⟨rfl, Or.inr rfl⟩))).trans (a2.trans (hq _ _ (Or.inr (Or.inr ⟨rfl, Or.inr rfl⟩))).symm), fun i i0 i1 => ?_⟩
  obtain ⟨k1, k2, k3, k4, k5, k6, k7, k8⟩ := a3 i i0 i1
  rw [hq 2317 _ (Or.inr (Or.inl rfl)), show Q 2316 = P 2316 from funext (fun k => hq _ k (Or.inl rfl))]
  refine ⟨k1, k2, k3, k4, ?_, k6, k7, fun j j0 j1 => ?_⟩
  · exact (hF.1 _ _ (by omega) (Or.inl (by omega)) (by omega) (by omega) (by omega) (io _ _ (Or.inr ⟨by omega, by omega, by decide⟩))).trans k5
  · exact (hF.1 _ _ (by omega) (Or.inl (by omega)) (by omega) (by omega) (by omega) (io _ _ (Or.inr ⟨by omega, by omega, by omega⟩))).trans (k8 j j0 j1)
/-- what a message comes to: all that holds -/
abbrev XZ (σ0 : hM) (K : Int) (W : qR) (R : rR) (rp : Nat) (e : Int) (Q : qR) (A : List Int) : Option AV → hM → Prop := fun r σ' => r = some (vI e) ∧ ∃ W2 R2, PX σ0 W2 R2 σ' ∧ BY W2 rp 300 A ∧ XQ K W2 R2 Q ∧ KM W2 Q ∧ FVS rp W W2 R R2
theorem x_serve0 (hP : PX σ0 W R σ) (hS : VS S s) (hQ : XQ K W R P) (hKm : KM W P) (hG : GI T U P) (hD : PKK P) (hT : T + 110 ≤ 2147483000) (hst : s = 2 → ∀ p, 0 ≤ p → p < 8 → ¬ P 2320 p = 0 → PST W R P p (295 + 125 * p.toNat)) (hB : BY W mb M l) (hz : (l.length : Int) = z) (hmo : mb + 1 < 1293 ∨ 2175 ≤ mb) (hmn : mb ≠ 132 ∧ mb ≠ 129 ∧ (mb < 148 ∨ 229 ≤ mb)) (hBr : BY W rp 300 l0) (hro : rp + 1 < 1293 ∨ 2175 ≤ rp) (hrn : rp ≠ 130 ∧ rp ≠ 132 ∧ rp ≠ 129 ∧ (rp < 148 ∨ 229 ≤ rp)) (hmr : mb ≠ rp) (hz7 : 7 ≤ z) (hnz : nu (lg l) 0 4 = z) (hz3 : z ≤ 300) : CL fb (d + 7) 26 [vR (some S), vI 0, vR (some mb), vR (some rp)] σ (XZ σ0 K W R rp (trE P s (lg l) z) (trP P s (lg l) z) (trA P s (lg l) z)) := by
  have hO := hS.o
  have hsr := hS.1
  have hS2 := hS.2
  have hbm := hB.1
  have hbr := hBr.1
  have hrlt := hBr.lt
  have hb8 := hB.2.2.2.2.2.1
  have hr0 := (tX_o hbr).1
  have h6 := hQ.len7 hD.1
  have hm42 : 0 ≤ P 2281 42 ∧ P 2281 42 ≤ T := IV.n hG.iv 42 42 rfl rfl (by decide)
  have el : seg (lg l) 0 z.toNat = l := by rw [show z.toNat = l.length by omega]; exact seg_all
  obtain ⟨P1, hP1⟩ : ∃ q, gM1 P l = q := ⟨_, rfl⟩
  have eE : trE P s (lg l) z = srvE P1 s 0 (lg l) z := by unfold trE; rw [el, hP1]
  have eA : trA P s (lg l) z = srvA P1 s 0 (lg l) z := by unfold trA; rw [el, hP1]
  have eP : trP P s (lg l) z = gM1 (srvP P1 s 0 (lg l) z) (srvA P1 s 0 (lg l) z) := by unfold trP; rw [el, hP1]
  rw [eE, eA, eP]
  have hG1 : GI (T + 1) U P1 := by rw [← hP1]; exact GI_gM1 hG hb8 (by omega)
  have hD1 : PKK P1 := by rw [← hP1]; exact hD.m1
  have hcl := x_clear (fb := fb) (d := d + 6) hP hBr
  have hrest : ∀ (σ : hM) (W1 : qR), PX σ0 W1 R σ → BY W1 rp 300 [] → FB rp W W1 → WP fb (d + 7) 26 11 [some (vR (some S)), some (vI 0), some (vR (some mb)), some (vR (some rp)), none, none, none, none, none] [] σ (XZ σ0 K W R rp (srvE P1 s 0 (lg l) z) (gM1 (srvP P1 s 0 (lg l) z) (srvA P1 s 0 (lg l) z)) (srvA P1 s 0 (lg l) z)) := fun σ W1 hP hB1 hF1 => by
    have hBm := hF1.by hB hmr
    have hQ1 := hQ.fb2 hF1 hro ⟨by omega, hrlt⟩ hrn.1 hrn.2.1 h6
    have hM1 := hKm.fb2 hF1 hrn.2.2.2
    have hsz := x_size (fb := fb) (d := d + 6) hP hBm hz
    have hnum := x_num (fb := fb) (d := d + 6) (s := 0) (k := 4) 4 hP hBm hz rfl (by decide) (by decide) (by omega) hnz
    have hB9 : BY (svW W1 S 0) mb M l := hBm.key (by decide) (by decide)
    have hR9 : BY (svW W1 S 0) rp 300 [] := hB1.key (by decide) (by decide)
    have hQ9 : XQ K (svW W1 S 0) (svR R S mb rp) P := hQ1.sv hD.1 hO (by omega)
    have hM9 : KM (svW W1 S 0) P := by
      obtain ⟨a1, a2, a3⟩ := hM1
      exact ⟨(rU_j (by decide)).trans a1, (rU_j (by decide)).trans a2, fun i i0 i1 => ⟨(a3 i i0 i1).1, (a3 i i0 i1).2.key (by decide) (by decide)⟩⟩
    have hnote := fun (σ : hM) (hP : PX σ0 (svW W1 S 0) (svR R S mb rp) σ) => x_note (fb := fb) (d := d + 4) hP hM9 ⟨hm42.1, by omega⟩ hB9 (by omega) hmn.2.2
    rw [hP1] at hnote
    have hF9 : FVS rp W (svW W1 S 0) R (svR R S mb rp) := FVS_tr (FVS_fb hF1) ⟨fun x k _ q _ _ _ _ _ _ => rU_f (by omega), fun x k q => svR_o (Or.inl (by omega))⟩
    have hgo : ∀ (σ : hM) (W2 : qR), PX σ0 W2 (svR R S mb rp) σ → KM W2 P1 → FN (svW W1 S 0) W2 → WP fb (d + 7) 26 64 [some (vR (some S)), some (vI 0), some (vR (some mb)), some (vR (some rp)), none, none, none, none, none] [] σ (XZ σ0 K W R rp (srvE P1 s 0 (lg l) z) (gM1 (srvP P1 s 0 (lg l) z) (srvA P1 s 0 (lg l) z)) (srvA P1 s 0 (lg l) z)) := fun σ W2 hP hM2 hN2 => by
      have hQ2 : XQ K W2 (svR R S mb rp) P1 := by rw [← hP1]; exact (hQ9.fn hN2 h6).m1
      obtain ⟨o, t, hX⟩ := hQ2.1 s hsr.1 hsr.2
      rw [← hS2] at hX
      have hcn2 : W2 S 2235 = 0 := (hN2 _ _ (by omega) (by omega)).trans rU_s
      have hst2 : s = 2 → ∀ p, 0 ≤ p → p < 8 → ¬ P1 2320 p = 0 → PST W2 (svR R S mb rp) P1 p (295 + 125 * p.toNat) := fun q p p0 p1 hp => by
        have hp2 : ¬ P 2320 p = 0 := by
          rw [← hP1, gM1_f (by decide) (by decide) (by decide)] at hp
          exact hp
        refine (((hst q p p0 p1 hp2).fr (W2 := W1) (Q := P) (fun x k hk _ _ => hF1.o (by omega) (by omega)) (fun _ _ _ => rfl) ⟨p0, p1⟩ rfl).sv (c := 0) (mb := mb) (rp := rp) hO).fr (fun x k hk h1 h2 => hN2 x k h2 (by omega)) (fun f k hf => ?_) ⟨p0, p1⟩ rfl
        rw [← hP1]
        rcases hf with rfl | rfl | rfl | rfl <;> exact gM1_f (by decide) (by decide) (by decide)
      refine srv_64 hP hS hX hQ2.2.1 hG1 hD1 (by omega) hQ2.2.2 hst2 svR_at.1 svR_at.2 hcn2 (Or.inl rfl) (hN2.by hB9 hmn.2.2) hz hz7 (by omega) (hN2.by hR9 hrn.2.2.2) (by omega) hmr hrn.1 hrn.2.1 hmn.1 hnz (fun σ W3 R3 o3 t3 x8 k tg g1 g2 g3 g4 g5 g6 => ?_)
      have hQ3 := hQ2.one (c := 0) hG1 hD1 (by decide) hS (fun j j0 _ => hb8 j j0) g3 g4 g5 g6 hro
      have hpk : PKK (srvP P1 s 0 (lg l) z) := PKK_srvP hD1 hG1 hsr (by decide) (fun j j0 _ => hb8 j j0) hX.1
      have hM3 : KM W3 (srvP P1 s 0 (lg l) z) := hM2.fvx hS g6 hrn.2.2.2 hrn.2.2.1 (fun f k hf => by
        rcases hf with rfl | rfl | ⟨rfl, hf⟩
        · exact SF_srvP _ _ rfl (fun c => absurd c.1 (by decide))
        · exact SF_srvP _ _ rfl (fun c => absurd c.1 (by decide))
        · exact SF_srvP _ _ rfl (fun c => by omega))
      have h7 := hQ3.len7 hpk.1
      have e42 : srvP P1 s 0 (lg l) z 2281 42 = P 2281 42 + 1 := by
        rw [SF_srvP _ _ rfl (fun c => by omega), ← hP1]
        exact rU_s
      have hAl := g2.2.2.2.2.1
      have hn2 := x_note (fb := fb) (d := d + 4) g1 hM3 (by rw [e42]; omega) g2 hAl hrn.2.2.2
      have hFa : FVS rp W W3 R R3 := FVS_tr hF9 (FVS_tr (FVS_fn hN2) (FVS_x hS g6))
      have hend : ∀ (σ : hM) (W4 : qR), PX σ0 W4 R3 σ → KM W4 (gM1 (srvP P1 s 0 (lg l) z) (srvA P1 s 0 (lg l) z)) → FN W3 W4 → XZ σ0 K W R rp (srvE P1 s 0 (lg l) z) (gM1 (srvP P1 s 0 (lg l) z) (srvA P1 s 0 (lg l) z)) (srvA P1 s 0 (lg l) z) (some (vI (srvE P1 s 0 (lg l) z))) σ := fun σ W4 q1 q2 q3 => ⟨rfl, W4, R3, q1, q3.by g2 hrn.2.2.2, (hQ3.fn q3 h7).m1, q2, FVS_tr hFa (FVS_fn q3)⟩
      obtain ⟨e, he⟩ : ∃ q, srvE P1 s 0 (lg l) z = q := ⟨_, rfl⟩
      rw [he] at hend ⊢
      have hrr : R3 S 2234 = some rp := (g6.2.2.1.2.1).trans svR_at.2
      have hP := g1
      refine x_li (z := 0) T_26_403 rfl ?_
      refine x_if T_26_404 (fun h => absurd (show ¬ (0 : Int) = 0 from h) (by decide)) (fun _ => ?_)
      refine x_lr (z := some S) T_26_407 rfl ?_
      refine x_gR (z := some 129) T_26_408 F_7_0 (hP.o hO) (hP.rc hO rfl rfl) ?_
      refine x_lr (z := some S) T_26_411 rfl ?_
      refine x_gR (z := some rp) T_26_412 F_7_10 (hP.o hO) (Eq.trans (hP.rm hO rfl (key := 2234) rfl) hrr) ?_
      refine x_cv2 T_26_415 mN_30 mL_30 (Nat.le_of_ble_eq_true rfl) mO_30 (hP.o xo_129) (Nat.le_of_ble_eq_true rfl) (hn2) ?_
      clear hP hn2
      rintro _ σ ⟨rfl, W4, hP, hM4, hN4⟩
      refine cV ?_
      refine x_li (z := e) T_26_418 rfl ?_
      refine x_ri T_26_420 ?_
      exact hend σ W4 hP hM4 hN4
    clear hQ hKm hQ1 hM1 hQ9 hM9
    refine x_lr (z := some mb) T_26_11 rfl ?_
    refine x_cv1 T_26_12 mN_28 mL_28 (Nat.le_of_ble_eq_true rfl) mO_28 (hP.o hbm) (Nat.le_of_ble_eq_true rfl) (hsz) ?_
    rintro _ σ ⟨rfl, rfl⟩
    refine cI ?_
    refine x_ic T_26_15 ?_
    refine x_ic2 T_26_17 (fun h => absurd (show z < 7 from h) (by omega)) (fun _ => ?_)
    refine x_lr (z := some mb) T_26_20 rfl ?_
    refine x_ic T_26_21 ?_
    refine x_ic T_26_22 ?_
    refine x_cv3 T_26_23 mN_29 mL_29 (Nat.le_of_ble_eq_true rfl) mO_29 (hP.o hbm) (Nat.le_of_ble_eq_true rfl) (hnum) ?_
    rintro _ σ ⟨rfl, rfl⟩
    refine cL ?_
    refine x_lr (z := some mb) T_26_26 rfl ?_
    refine x_cv1 T_26_27 mN_28 mL_28 (Nat.le_of_ble_eq_true rfl) mO_28 (hP.o hbm) (Nat.le_of_ble_eq_true rfl) (hsz) ?_
    rintro _ σ ⟨rfl, rfl⟩
    refine cI ?_
    refine x_i2l T_26_30 ?_
    refine x_lif T_26_31 T_26_32 (fun _ => ?_) (fun h => absurd (show z = z by omega) h)
    refine x_lr (z := some S) T_26_37 rfl ?_
    refine x_li (z := 0) T_26_38 rfl ?_
    refine z_pI hP T_26_39 F_7_11 hO (key := 2235) rfl (fun σ hP => ?_)
    refine x_lr (z := some S) T_26_42 rfl ?_
    refine x_lr (z := some mb) T_26_43 rfl ?_
    refine z_pR hP T_26_44 F_7_9 rfl hO (key := 2233) rfl (fun σ hP => ?_)
    refine x_lr (z := some S) T_26_47 rfl ?_
    refine x_lr (z := some rp) T_26_48 rfl ?_
    refine z_pR hP T_26_49 F_7_10 rfl hO (key := 2234) rfl (fun σ hP => ?_)
    refine x_li (z := 0) T_26_52 rfl ?_
    refine x_if T_26_53 (fun h => absurd (show ¬ (0 : Int) = 0 from h) (by decide)) (fun _ => ?_)
    refine x_lr (z := some S) T_26_56 rfl ?_
    refine x_gR (z := some 129) T_26_57 F_7_0 (hP.o hO) (hP.rc hO rfl rfl) ?_
    refine x_lr (z := some mb) T_26_60 rfl ?_
    refine x_cv2 T_26_61 mN_30 mL_30 (Nat.le_of_ble_eq_true rfl) mO_30 (hP.o xo_129) (Nat.le_of_ble_eq_true rfl) (hnote σ hP) ?_
    clear hP hnote
    rintro _ σ ⟨rfl, W2, hP, hM2, hN2⟩
    refine cV ?_
    exact hgo σ W2 hP hM2 hN2
  clear hQ hKm
  refine CL_in mL_26 rfl ?_
  show WP fb _ 26 0 [some (vR (some S)), some (vI 0), some (vR (some mb)), some (vR (some rp)), none, none, none, none, none] [] σ _
  refine x_lr (z := some mb) T_26_0 rfl ?_
  refine x_nnul T_26_1 (fun _ _ => ?_) (fun h0 => absurd h0 (by simp))
  refine x_lr (z := some rp) T_26_7 rfl ?_
  refine x_cv1 T_26_8 mN_27 mL_27 (Nat.le_of_ble_eq_true rfl) mO_27 (hP.o hbr) (Nat.le_of_ble_eq_true rfl) (hcl) ?_
  clear hP hcl
  rintro _ σ ⟨rfl, W2, hP, hB2, hF2⟩
  refine cV ?_
  exact hrest σ W2 hP hB2 hF2
/-- no message: nothing is asked -/
theorem x_serve_null {x : Option Nat} (hP : PX σ0 W R σ) (hO : tX S = some (Sum.inl 7)) : CL fb d 26 [vR (some S), vI c, vR none, vR (some rp)] σ (rP 12 σ) := by
  refine CL_in mL_26 rfl ?_
  show WP fb _ 26 0 [some (vR (some S)), some (vI c), some (vR none), some (vR (some rp)), none, none, none, none, none] [] σ _
  refine x_lr (z := none) T_26_0 rfl ?_
  refine x_nnul T_26_1 (fun a0 h0 => absurd h0 (by simp)) (fun _ => ?_)
  refine x_ic T_26_4 ?_
  refine x_ri T_26_6 ?_
  exact ⟨rfl, rfl⟩
/-- a message from outside -/
theorem x_serve1 (hP : PX σ0 W R σ) (hS : VS S s) (hQ : XQ K W R P) (hKm : KM W P) (hG : GI T U P) (hD : PKK P) (hT : T + 110 ≤ 2147483000) (hst : s = 2 → ∀ p, 0 ≤ p → p < 8 → ¬ P 2320 p = 0 → PST W R P p (295 + 125 * p.toNat)) (hB : BY W mb M l) (hz : (l.length : Int) = z) (hmo : mb + 1 < 1293 ∨ 2175 ≤ mb) (hmn : mb ≠ 132 ∧ mb ≠ 129 ∧ (mb < 148 ∨ 229 ≤ mb)) (hBr : BY W rp 300 l0) (hro : rp + 1 < 1293 ∨ 2175 ≤ rp) (hrn : rp ≠ 130 ∧ rp ≠ 132 ∧ rp ≠ 129 ∧ (rp < 148 ∨ 229 ≤ rp)) (hmr : mb ≠ rp) : CL fb (d + 7) 26 [vR (some S), vI 1, vR (some mb), vR (some rp)] σ (fun r σ' => ∃ e, XZ σ0 K W R rp e (srvP P s 1 (lg l) z) (srvA P s 1 (lg l) z) r σ') := by
  have hO := hS.o
  have hsr := hS.1
  have hS2 := hS.2
  have hbm := hB.1
  have hbr := hBr.1
  have hrlt := hBr.lt
  have hb8 := hB.2.2.2.2.2.1
  have hr0 := (tX_o hbr).1
  have hlz := hB.2.2.2.2.1
  have h6 := hQ.len7 hD.1
  have hcl := x_clear (fb := fb) (d := d + 6) hP hBr
  have hrest : ∀ (σ : hM) (W1 : qR), PX σ0 W1 R σ → BY W1 rp 300 [] → FB rp W W1 → WP fb (d + 7) 26 11 [some (vR (some S)), some (vI 1), some (vR (some mb)), some (vR (some rp)), none, none, none, none, none] [] σ (fun r σ' => ∃ e, XZ σ0 K W R rp e (srvP P s 1 (lg l) z) (srvA P s 1 (lg l) z) r σ') := fun σ W1 hP hB1 hF1 => by
    have hBm := hF1.by hB hmr
    have hQ1 := hQ.fb2 hF1 hro ⟨by omega, hrlt⟩ hrn.1 hrn.2.1 h6
    have hM1 := hKm.fb2 hF1 hrn.2.2.2
    have hsz := x_size (fb := fb) (d := d + 6) hP hBm hz
    have hill : ¬ (7 ≤ z ∧ nu (lg l) 0 4 = z) → ∃ e, XZ σ0 K W R rp e (srvP P s 1 (lg l) z) (srvA P s 1 (lg l) z) (some (vI (-1))) σ := fun q => by
      rw [show srvP P s 1 (lg l) z = P from if_pos q, show srvA P s 1 (lg l) z = [] from if_pos q]
      exact ⟨-1, rfl, W1, R, hP, hB1, hQ1, hM1, FVS_fb hF1⟩
    by_cases q7 : z < 7
    · have hill := hill (by omega)
      refine x_lr (z := some mb) T_26_11 rfl ?_
      refine x_cv1 T_26_12 mN_28 mL_28 (Nat.le_of_ble_eq_true rfl) mO_28 (hP.o hbm) (Nat.le_of_ble_eq_true rfl) (hsz) ?_
      rintro _ σ ⟨rfl, rfl⟩
      refine cI ?_
      refine x_ic T_26_15 ?_
      refine x_ic2 T_26_17 (fun _ => ?_) (fun h => absurd (show z < 7 by omega) h)
      refine x_ic T_26_35 ?_
      refine x_ri T_26_36 ?_
      exact hill
    obtain ⟨nz, hnz0⟩ : ∃ q, nu (lg l) 0 4 = q := ⟨_, rfl⟩
    have hnum := x_num (fb := fb) (d := d + 6) (s := 0) (k := 4) 4 hP hBm hz rfl (by decide) (by decide) (by omega) hnz0
    by_cases qz : nz = z
    rotate_left
    · have hill := hill (by omega)
      refine x_lr (z := some mb) T_26_11 rfl ?_
      refine x_cv1 T_26_12 mN_28 mL_28 (Nat.le_of_ble_eq_true rfl) mO_28 (hP.o hbm) (Nat.le_of_ble_eq_true rfl) (hsz) ?_
      rintro _ σ ⟨rfl, rfl⟩
      refine cI ?_
      refine x_ic T_26_15 ?_
      refine x_ic2 T_26_17 (fun h => absurd (show z < 7 from h) (by omega)) (fun _ => ?_)
      refine x_lr (z := some mb) T_26_20 rfl ?_
      refine x_ic T_26_21 ?_
      refine x_ic T_26_22 ?_
      refine x_cv3 T_26_23 mN_29 mL_29 (Nat.le_of_ble_eq_true rfl) mO_29 (hP.o hbm) (Nat.le_of_ble_eq_true rfl) (hnum) ?_
      rintro _ σ ⟨rfl, rfl⟩
      refine cL ?_
      refine x_lr (z := some mb) T_26_26 rfl ?_
      refine x_cv1 T_26_27 mN_28 mL_28 (Nat.le_of_ble_eq_true rfl) mO_28 (hP.o hbm) (Nat.le_of_ble_eq_true rfl) (hsz) ?_
      rintro _ σ ⟨rfl, rfl⟩
      refine cI ?_
      refine x_i2l T_26_30 ?_
      refine x_lif T_26_31 T_26_32 (fun h => absurd (show nz = z from h) (by omega)) (fun _ => ?_)
      refine x_ic T_26_35 ?_
      refine x_ri T_26_36 ?_
      exact hill
    have hnz : nu (lg l) 0 4 = z := hnz0.trans qz
    have hB9 : BY (svW W1 S 1) mb M l := hBm.key (by decide) (by decide)
    have hR9 : BY (svW W1 S 1) rp 300 [] := hB1.key (by decide) (by decide)
    have hQ9 : XQ K (svW W1 S 1) (svR R S mb rp) P := hQ1.sv hD.1 hO (by omega)
    have hM9 : KM (svW W1 S 1) P := by
      obtain ⟨a1, a2, a3⟩ := hM1
      exact ⟨(rU_j (by decide)).trans a1, (rU_j (by decide)).trans a2, fun i i0 i1 => ⟨(a3 i i0 i1).1, (a3 i i0 i1).2.key (by decide) (by decide)⟩⟩
    have hF9 : FVS rp W (svW W1 S 1) R (svR R S mb rp) := FVS_tr (FVS_fb hF1) ⟨fun x k _ q _ _ _ _ _ _ => rU_f (by omega), fun x k q => svR_o (Or.inl (by omega))⟩
    have hgo : ∀ (σ : hM), PX σ0 (svW W1 S 1) (svR R S mb rp) σ → WP fb (d + 7) 26 64 [some (vR (some S)), some (vI 1), some (vR (some mb)), some (vR (some rp)), none, none, none, none, none] [] σ (fun r σ' => ∃ e, XZ σ0 K W R rp e (srvP P s 1 (lg l) z) (srvA P s 1 (lg l) z) r σ') := fun σ hP => by
      obtain ⟨o, t, hX⟩ := hQ9.1 s hsr.1 hsr.2
      rw [← hS2] at hX
      have hst2 : s = 2 → ∀ p, 0 ≤ p → p < 8 → ¬ P 2320 p = 0 → PST (svW W1 S 1) (svR R S mb rp) P p (295 + 125 * p.toNat) := fun q p p0 p1 hp => ((hst q p p0 p1 hp).fr (W2 := W1) (Q := P) (fun x k hk _ _ => hF1.o (by omega) (by omega)) (fun _ _ _ => rfl) ⟨p0, p1⟩ rfl).sv (c := 1) (mb := mb) (rp := rp) hO
      refine srv_64 hP hS hX hQ9.2.1 hG hD (by omega) hQ9.2.2 hst2 svR_at.1 svR_at.2 rU_s (Or.inr rfl) hB9 hz (by omega) (by omega) hR9 (by omega) hmr hrn.1 hrn.2.1 hmn.1 hnz (fun σ W3 R3 o3 t3 x8 k tg g1 g2 g3 g4 g5 g6 => ?_)
      have hQ3 := hQ9.one (c := 1) hG hD (by decide) hS (fun j j0 _ => hb8 j j0) g3 g4 g5 g6 hro
      have hM3 : KM W3 (srvP P s 1 (lg l) z) := hM9.fvx hS g6 hrn.2.2.2 hrn.2.2.1 (fun f k hf => by
        rcases hf with rfl | rfl | ⟨rfl, hf⟩
        · exact SF_srvP _ _ rfl (fun c => absurd c.1 (by decide))
        · exact SF_srvP _ _ rfl (fun c => absurd c.1 (by decide))
        · exact SF_srvP _ _ rfl (fun c => by omega))
      have hend : ∃ e, XZ σ0 K W R rp e (srvP P s 1 (lg l) z) (srvA P s 1 (lg l) z) (some (vI (srvE P s 1 (lg l) z))) σ := ⟨_, rfl, W3, R3, g1, g2, hQ3, hM3, FVS_tr hF9 (FVS_x hS g6)⟩
      obtain ⟨e, he⟩ : ∃ q, srvE P s 1 (lg l) z = q := ⟨_, rfl⟩
      rw [he] at hend ⊢
      have hP := g1
      refine x_li (z := 1) T_26_403 rfl ?_
      refine x_if T_26_404 (fun _ => ?_) (fun h => absurd (show ¬ (1 : Int) = 0 by decide) h)
      refine x_li (z := e) T_26_418 rfl ?_
      refine x_ri T_26_420 ?_
      exact hend
    clear hQ hKm hQ1 hM1 hQ9 hM9
    subst qz
    refine x_lr (z := some mb) T_26_11 rfl ?_
    refine x_cv1 T_26_12 mN_28 mL_28 (Nat.le_of_ble_eq_true rfl) mO_28 (hP.o hbm) (Nat.le_of_ble_eq_true rfl) (hsz) ?_
    rintro _ σ ⟨rfl, rfl⟩
    refine cI ?_
    refine x_ic T_26_15 ?_
    refine x_ic2 T_26_17 (fun h => absurd (show nz < 7 from h) (by omega)) (fun _ => ?_)
    refine x_lr (z := some mb) T_26_20 rfl ?_
    refine x_ic T_26_21 ?_
    refine x_ic T_26_22 ?_
    refine x_cv3 T_26_23 mN_29 mL_29 (Nat.le_of_ble_eq_true rfl) mO_29 (hP.o hbm) (Nat.le_of_ble_eq_true rfl) (hnum) ?_
    rintro _ σ ⟨rfl, rfl⟩
    refine cL ?_
    refine x_lr (z := some mb) T_26_26 rfl ?_
    refine x_cv1 T_26_27 mN_28 mL_28 (Nat.le_of_ble_eq_true rfl) mO_28 (hP.o hbm) (Nat.le_of_ble_eq_true rfl) (hsz) ?_
    rintro _ σ ⟨rfl, rfl⟩
    refine cI ?_
    refine x_i2l T_26_30 ?_
    refine x_lif T_26_31 T_26_32 (fun _ => ?_) (fun h => absurd (show nz = nz by omega) h)
    refine x_lr (z := some S) T_26_37 rfl ?_
    refine x_li (z := 1) T_26_38 rfl ?_
    refine z_pI hP T_26_39 F_7_11 hO (key := 2235) rfl (fun σ hP => ?_)
    refine x_lr (z := some S) T_26_42 rfl ?_
    refine x_lr (z := some mb) T_26_43 rfl ?_
    refine z_pR hP T_26_44 F_7_9 rfl hO (key := 2233) rfl (fun σ hP => ?_)
    refine x_lr (z := some S) T_26_47 rfl ?_
    refine x_lr (z := some rp) T_26_48 rfl ?_
    refine z_pR hP T_26_49 F_7_10 rfl hO (key := 2234) rfl (fun σ hP => ?_)
    refine x_li (z := 1) T_26_52 rfl ?_
    refine x_if T_26_53 (fun _ => ?_) (fun h => absurd (show ¬ (1 : Int) = 0 by decide) h)
    exact hgo σ hP
  clear hQ hKm
  refine CL_in mL_26 rfl ?_
  show WP fb _ 26 0 [some (vR (some S)), some (vI 1), some (vR (some mb)), some (vR (some rp)), none, none, none, none, none] [] σ _
  refine x_lr (z := some mb) T_26_0 rfl ?_
  refine x_nnul T_26_1 (fun _ _ => ?_) (fun h0 => absurd h0 (by simp))
  refine x_lr (z := some rp) T_26_7 rfl ?_
  refine x_cv1 T_26_8 mN_27 mL_27 (Nat.le_of_ble_eq_true rfl) mO_27 (hP.o hbr) (Nat.le_of_ble_eq_true rfl) (hcl) ?_
  clear hP hcl
  rintro _ σ ⟨rfl, W2, hP, hB2, hF2⟩
  refine cV ?_
  exact hrest σ W2 hP hB2 hF2
end XSRVF
