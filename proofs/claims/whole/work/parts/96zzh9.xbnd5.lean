/-! The class's place: the point, old or new, made ready. -/
theorem T_177_0 : hTab 177 0 = some ((3, 0, 2, []), 1) := rfl
theorem T_177_1 : hTab 177 1 = some ((24, 3, Int.ofNat 0, []), 4) := rfl
theorem T_177_4 : hTab 177 4 = some ((3, 0, 2, []), 5) := rfl
theorem T_177_5 : hTab 177 5 = some ((24, 3, Int.ofNat 1, []), 8) := rfl
theorem T_177_8 : hTab 177 8 = some ((0, 0, 8, []), 10) := rfl
theorem T_177_10 : hTab 177 10 = some ((19, 3, Int.ofNat 20, []), 13) := rfl
theorem T_177_13 : hTab 177 13 = some ((3, 0, 2, []), 14) := rfl
theorem T_177_14 : hTab 177 14 = some ((24, 3, Int.ofNat 1, []), 17) := rfl
theorem T_177_17 : hTab 177 17 = some ((22, 0, Int.ofNat 22, []), 20) := rfl
theorem T_177_22 : hTab 177 22 = some ((26, 10, 0, []), 23) := rfl
theorem T_177_23 : hTab 177 23 = some ((4, 3, 2, []), 24) := rfl
theorem T_177_24 : hTab 177 24 = some ((3, 0, 2, []), 25) := rfl
theorem T_177_25 : hTab 177 25 = some ((6, 0, 0, []), 26) := rfl
theorem T_177_26 : hTab 177 26 = some ((24, 3, Int.ofNat 1, []), 29) := rfl
theorem T_177_29 : hTab 177 29 = some ((3, 0, 2, []), 30) := rfl
theorem T_177_30 : hTab 177 30 = some ((24, 3, Int.ofNat 1, []), 33) := rfl
theorem T_177_33 : hTab 177 33 = some ((0, 0, 8, []), 35) := rfl
theorem T_177_35 : hTab 177 35 = some ((19, 3, Int.ofNat 42, []), 38) := rfl
theorem T_177_38 : hTab 177 38 = some ((0, 0, 1, []), 39) := rfl
theorem T_177_39 : hTab 177 39 = some ((22, 0, Int.ofNat 43, []), 42) := rfl
theorem T_177_43 : hTab 177 43 = some ((10, 0, 0, []), 44) := rfl
theorem T_177_44 : hTab 177 44 = some ((25, 3, Int.ofNat 1, []), 47) := rfl
theorem T_177_47 : hTab 177 47 = some ((3, 3, 2, []), 48) := rfl
theorem T_177_48 : hTab 177 48 = some ((3, 1, 0, []), 49) := rfl
theorem T_177_49 : hTab 177 49 = some ((25, 4, Int.ofNat 1, []), 52) := rfl
theorem T_177_52 : hTab 177 52 = some ((3, 3, 2, []), 53) := rfl
theorem T_177_53 : hTab 177 53 = some ((3, 2, 0, []), 54) := rfl
theorem T_177_54 : hTab 177 54 = some ((25, 4, Int.ofNat 2, []), 57) := rfl
theorem T_177_57 : hTab 177 57 = some ((3, 3, 2, []), 58) := rfl
theorem T_177_58 : hTab 177 58 = some ((0, 0, 0, []), 59) := rfl
theorem T_177_59 : hTab 177 59 = some ((25, 4, Int.ofNat 3, []), 62) := rfl
theorem T_177_62 : hTab 177 62 = some ((3, 3, 2, []), 63) := rfl
theorem T_177_63 : hTab 177 63 = some ((33, 4, 0, []), 64) := rfl
theorem mN_177 : hmN 177 = 3 := by decide +kernel
theorem mL_177 : hmL 177 = 4 := by decide +kernel
theorem mK_177 : hmK 177 = 1 := by decide +kernel
theorem mO_177 : hmO 177 = 3 := by decide +kernel
section XBNH
variable {fb : Bool} {d n a0 y ga : Nat} {σ0 σ : hM} {W W0 W1 W2 W3 W5 V P P0 Q Q0 Q3 : qR} {R R0 R1 R2 R3 R5 : rR} {i j k z v s e w f g u p pt pa dr sv K T U t N C F v1 st b0 fs T0 old fr bf bh mk : Int} {x : Nw} {ns A B L nws : List Nw} {y1 y2 : Option Nat} {c1 c2 : Ch} {h : List Ch} {b a c : Bool}
theorem x_addG (hP : PX σ0 W R σ) (hg : 0 ≤ g ∧ g < 8) (hcn : W (grO g) 2097 = C) (hC : 0 ≤ C ∧ C < 8) (hy : R (grO g + 1) C = some y) (hyo : tX y = some (Sum.inl 4)) : CL fb d 177 [vR (some (grO g)), vI s, vI pa] σ (fun r σ' => r = some (vR (some y)) ∧ PX σ0 (rU (rU (rU (rU W (grO g) 2097 (C + 1)) y 2129 s) y 2130 pa) y 2131 0) R σ') := by
  have hO := grO_o hg
  have hgA := grO_a hg
  have hmu : mutA (grO g + 1) 14 8 = true := rfl
  obtain ⟨ga, hga⟩ : ∃ q, grO g = q := ⟨_, rfl⟩
  rw [hga] at hO hgA hcn hy hmu ⊢
  refine CL_in mL_177 rfl ?_
  show WP fb _ 177 0 [some (vR (some ga)), some (vI s), some (vI pa), none] [] σ _
  refine x_lr (z := some ga) T_177_0 rfl ?_
  refine x_gR (z := some (ga + 1)) T_177_1 F_3_0 (hP.o hO) (hP.rc hO rfl rfl) ?_
  refine x_lr (z := some ga) T_177_4 rfl ?_
  refine x_gI (z := C) T_177_5 (Or.inl F_3_1) (hP.o hO) (Eq.trans (hP.gi hO (key := 2097) rfl) hcn) ?_
  refine x_ic T_177_8 ?_
  refine x_ic2 T_177_10 (fun h => absurd (show 8 ≤ C from h) (by omega)) (fun _ => ?_)
  refine x_lr (z := some ga) T_177_13 rfl ?_
  refine x_gI (z := C) T_177_14 (Or.inl F_3_1) (hP.o hO) (Eq.trans (hP.gi hO (key := 2097) rfl) hcn) ?_
  refine x_goto T_177_17 ?_
  refine x_alR (z := some y) T_177_22 (hP.ta hgA) (by decide) (by omega) (by omega) (Eq.trans (hP.arm hgA hmu (by omega)) hy) ?_
  refine x_sr (ls1 := [some (vR (some ga)), some (vI s), some (vI pa), some (vR (some y))]) T_177_23 rfl ?_
  refine x_lr (z := some ga) T_177_24 rfl ?_
  refine x_dupR T_177_25 ?_
  refine x_gI (z := C) T_177_26 (Or.inl F_3_1) (hP.o hO) (Eq.trans (hP.gi hO (key := 2097) rfl) hcn) ?_
  refine x_lr (z := some ga) T_177_29 rfl ?_
  refine x_gI (z := C) T_177_30 (Or.inl F_3_1) (hP.o hO) (Eq.trans (hP.gi hO (key := 2097) rfl) hcn) ?_
  refine x_ic T_177_33 ?_
  refine x_ic2 T_177_35 (fun h => absurd (show 8 ≤ C from h) (by omega)) (fun _ => ?_)
  refine x_ic T_177_38 ?_
  refine x_goto T_177_39 ?_
  refine x_ib (w := (C + 1)) T_177_43 (fun h => absurd h.1 (by decide)) (w32_id (by omega) (by omega)) ?_
  refine z_pI hP T_177_44 F_3_1 hO (key := 2097) rfl (fun σ hP => ?_)
  refine x_lr (z := some y) T_177_47 rfl ?_
  refine x_li (z := s) T_177_48 rfl ?_
  refine z_pI hP T_177_49 F_4_1 hyo (key := 2129) rfl (fun σ hP => ?_)
  refine x_lr (z := some y) T_177_52 rfl ?_
  refine x_li (z := pa) T_177_53 rfl ?_
  refine z_pI hP T_177_54 F_4_2 hyo (key := 2130) rfl (fun σ hP => ?_)
  refine x_lr (z := some y) T_177_57 rfl ?_
  refine x_ic T_177_58 ?_
  refine z_pI hP T_177_59 F_4_3 hyo (key := 2131) rfl (fun σ hP => ?_)
  refine x_lr (z := some y) T_177_62 rfl ?_
  refine x_rr T_177_63 ?_
  exact ⟨rfl, hP⟩
theorem nwK_mbs (hG : GI T U P) (hpt : 0 ≤ pt ∧ pt < 64) : ∀ x ∈ mbs P pt, nwK T x := by
  have hmb : 0 ≤ P 2337 pt ∧ P 2337 pt ≤ 6 := IV.a hG.iv 2337 0 64 rfl rfl rfl (by omega) (by omega)
  have e : mbs P pt = mbL P pt (P 2337 pt).toNat 0 := if_neg (by omega)
  have key : ∀ (m : Nat) (j : Int), 0 ≤ j → j + m ≤ 6 → ∀ x ∈ mbL P pt m j, nwK T x := fun m => by
    induction m with
    | zero => intro j _ _ x hx; exact absurd hx List.not_mem_nil
    | succ m ih =>
      intro j h0 h1 x hx
      rcases List.mem_cons.mp hx with q | q
      · rw [q]
        exact mbT_rng hG ⟨by omega, by omega⟩
      · exact ih (j + 1) (by omega) (by omega) x q
  rw [e]
  exact key _ 0 (by decide) (by omega)
/-- the point stands, new -/
theorem plc_new (hX : XW K T U W R Q) (hg : 0 ≤ g ∧ g < 8) (hC : Q 2334 g = C) (hC8 : C < 8) (hs : 0 ≤ s ∧ s < 3) (hpa : 0 ≤ pa ∧ pa ≤ T + 200) : ∃ y : Nat, R (grO g + 1) C = some y ∧ PYO y ∧ PLC K T U W R Q (rU (rU (rU (rU W (grO g) 2097 (C + 1)) y 2129 s) y 2130 pa) y 2131 0) R (rU (rU (rU Q 2334 g (C + 1)) 2335 (8 * g + C) s) 2336 (8 * g + C) pa) g (C + 1) C y ∧ PTL (rU (rU (rU (rU W (grO g) 2097 (C + 1)) y 2129 s) y 2130 pa) y 2131 0) R y [] ∧ GRF g W (rU (rU (rU (rU W (grO g) 2097 (C + 1)) y 2129 s) y 2130 pa) y 2131 0) R R := by
  have hI := hX.1.2.2.2.1.iv
  have hpb : 0 ≤ Q 2334 g ∧ Q 2334 g ≤ 8 := IV.a hI 2334 0 8 rfl rfl rfl (by omega) (by omega)
  rw [hC] at hpb
  have hgr := hX.1.2.2.1.2.1 g hg.1 hg.2
  have hrg := grO_rng hg
  obtain ⟨iy, hiy, hy⟩ := hgr.pt (k := C) ⟨hpb.1, hC8⟩
  obtain ⟨y, hyy⟩ : ∃ y, grO g + 2 + 8 * iy = y := ⟨_, rfl⟩
  rw [hyy] at hy
  have hY : PYO y := by rw [← hyy]; exact PYO_of hg hiy
  have hW : ∀ (x : Nat) (k : Int), ¬ (x = grO g ∧ k = 2097) → ¬ (x = y ∧ (k = 2129 ∨ k = 2130 ∨ k = 2131)) → rU (rU (rU (rU W (grO g) 2097 (C + 1)) y 2129 s) y 2130 pa) y 2131 0 x k = W x k := fun x k h1 h2 => (if_neg (fun c => h2 ⟨c.1, Or.inr (Or.inr c.2)⟩)).trans ((if_neg (fun c => h2 ⟨c.1, Or.inr (Or.inl c.2)⟩)).trans ((if_neg (fun c => h2 ⟨c.1, Or.inl c.2⟩)).trans (if_neg h1)))
  have hF : GRF g W (rU (rU (rU (rU W (grO g) 2097 (C + 1)) y 2129 s) y 2130 pa) y 2131 0) R R := ⟨fun x k hx => hW x k (by omega) (by omega), fun _ _ _ => rfl⟩
  have h97 : rU (rU (rU (rU W (grO g) 2097 (C + 1)) y 2129 s) y 2130 pa) y 2131 0 (grO g) 2097 = C + 1 := (rU_j (by decide)).trans ((rU_j (by decide)).trans ((rU_j (by decide)).trans rU_s))
  have hq : ∀ (f : Nat) (k : Int), f ≠ 2334 → f ≠ 2335 → f ≠ 2336 → rU (rU (rU Q 2334 g (C + 1)) 2335 (8 * g + C) s) 2336 (8 * g + C) pa f k = Q f k := fun f k h1 h2 h3 => (rU_f h3).trans ((rU_f h2).trans (rU_f h1))
  have hqp : ∀ k : Int, rU (rU (rU Q 2334 g (C + 1)) 2335 (8 * g + C) s) 2336 (8 * g + C) pa 2334 k = if k = g then C + 1 else Q 2334 k := fun k => by
    rw [rU_f (by decide), rU_f (by decide)]
    by_cases q : k = g
    · rw [if_pos q, q, rU_s]
    · rw [if_neg q, rU_k q]
  have hqs : ∀ k : Int, k ≠ 8 * g + C → rU (rU (rU Q 2334 g (C + 1)) 2335 (8 * g + C) s) 2336 (8 * g + C) pa 2335 k = Q 2335 k ∧ rU (rU (rU Q 2334 g (C + 1)) 2335 (8 * g + C) s) 2336 (8 * g + C) pa 2336 k = Q 2336 k := fun k hk => ⟨(rU_f (by decide)).trans ((rU_k hk).trans (rU_f (by decide))), (rU_k hk).trans ((rU_f (by decide)).trans (rU_f (by decide)))⟩
  have hGI : GI T U (rU (rU (rU Q 2334 g (C + 1)) 2335 (8 * g + C) s) 2336 (8 * g + C) pa) := by
    have h1 := GI_one (f := 2334) (j := g) (v := C + 1) (ty := 0) (len := 8) hX.1.2.2.2.1 rfl (show 0 ≤ C + 1 ∧ C + 1 ≤ 8 by omega) rfl rfl rfl rfl rfl rfl rfl rfl rfl (by decide) (by decide)
    have h2 := GI_one (f := 2335) (j := 8 * g + C) (v := s) (ty := 0) (len := 64) h1 rfl (show 0 ≤ s ∧ s ≤ 2 by omega) rfl rfl rfl rfl rfl rfl rfl rfl rfl (by decide) (by decide)
    exact GI_one (f := 2336) (j := 8 * g + C) (v := pa) (ty := 0) (len := 64) h2 rfl hpa rfl rfl rfl rfl rfl rfl rfl rfl rfl (by decide) (by decide)
  have hrf : RF (2334 :: ptR) (rU (rU (rU Q 2334 g (C + 1)) 2335 (8 * g + C) s) 2336 (8 * g + C) pa) Q := fun f k hf => hq f k (fun q => by rw [q] at hf; exact absurd hf (by decide)) (fun q => by rw [q] at hf; exact absurd hf (by decide)) (fun q => by rw [q] at hf; exact absurd hf (by decide))
  have hM := hX.mid.grf (fun p p0 p1 hl => ((hX.1.2.2.1.1 p p0 p1).2.2.2 hl).2.2.1) hg hrf hGI hF (by rw [hqp, if_pos rfl]; exact h97) (fun g2 _ _ hne => by rw [hqp, if_neg hne])
  refine ⟨y, hy, hY, ⟨hM, ⟨h97, ?_, hgr.2.2.1, hgr.2.2.2.1, hy, ?_, ?_, fun k2 k0 k1 hne => ?_⟩, ⟨by rw [hqp, if_pos rfl], by omega, hpb.1, by omega⟩, fun f i _ hf => hrf f i hf, fun g2 g0 g1 hne => ⟨by rw [hqp, if_neg hne], fun q q0 q1 => ⟨(hqs q (by omega)).1, (hqs q (by omega)).2, hq _ _ (by decide) (by decide) (by decide)⟩, fun m _ _ => ⟨hq _ _ (by decide) (by decide) (by decide), hq _ _ (by decide) (by decide) (by decide), hq _ _ (by decide) (by decide) (by decide), hq _ _ (by decide) (by decide) (by decide), hq _ _ (by decide) (by decide) (by decide)⟩⟩, fun x i _ _ hx _ => hF.1 x i (Or.inl hx), fun _ _ _ _ _ => rfl, fun g2 k2 g0 g1 k0 k1 hne => ?_⟩, ⟨rU_s, ?_, fun j j0 j1 => absurd j1 (by show ¬ j < ((0 : Nat) : Int); omega)⟩, hF⟩
  · rw [hW _ _ (by omega) (by omega), qPn_fr (fun k => hrf 2320 k rfl) (fun k => hrf 2323 k rfl)]
    exact hgr.2.1
  · exact ((rU_j (by decide)).trans ((rU_j (by decide)).trans rU_s)).trans ((rU_f (by decide)).trans rU_s).symm
  · exact ((rU_j (by decide)).trans rU_s).trans rU_s.symm
  · obtain ⟨x, hx, b1, b2, b3, b4⟩ := hgr.2.2.2.2 k2 k0 (by omega)
    have hxy : x ≠ y := fun e => hne (hgr.2.2.1.2 k2 C k0 (by omega) hpb.1 (by omega) (hx.trans (by rw [e]; exact hy.symm)))
    obtain ⟨i, hi, hx3⟩ := hgr.pt (k := k2) ⟨k0, by omega⟩
    have ex : x = grO g + 2 + 8 * i := Option.some.inj (hx.symm.trans hx3)
    have hmb : 0 ≤ Q 2337 (8 * g + k2) ∧ Q 2337 (8 * g + k2) ≤ 6 := IV.a hI 2337 0 64 rfl rfl rfl (by omega) (by omega)
    refine ⟨x, hx, (hW _ _ (by omega) (by omega)).trans (b1.trans (hqs _ (by omega)).1.symm), (hW _ _ (by omega) (by omega)).trans (b2.trans (hqs _ (by omega)).2.symm), (hW _ _ (by omega) (by omega)).trans (b3.trans (hq _ _ (by decide) (by decide) (by decide)).symm), fun j j0 j1 => ?_⟩
    rw [hq _ _ (by decide) (by decide) (by decide)] at j1
    obtain ⟨c, c1, m1, m2, m3, m4, m5⟩ := b4 j j0 j1
    unfold MBC
    rw [hq _ _ (by decide) (by decide) (by decide), hq _ _ (by decide) (by decide) (by decide), hq _ _ (by decide) (by decide) (by decide), hq _ _ (by decide) (by decide) (by decide), hq _ _ (by decide) (by decide) (by decide)]
    exact ⟨c, c1, (hW _ _ (by omega) (by omega)).trans m1, (hW _ _ (by omega) (by omega)).trans m2, (hW _ _ (by omega) (by omega)).trans m3, (hW _ _ (by omega) (by omega)).trans m4, (hW _ _ (by omega) (by omega)).trans m5⟩
  · rw [hqp] at k1
    rw [hq _ _ (by decide) (by decide) (by decide)]
    refine hX.1.2.2.2.2.2.2 g2 k2 g0 g1 k0 ?_
    by_cases q : g2 = g
    · rw [if_pos q] at k1
      rw [q, hC]
      rw [q] at hne
      omega
    · rw [if_neg q] at k1
      exact k1
  · have h4 := hgr.2.2.2.1 iy hiy
    rw [show grO g + 3 + 8 * iy = y + 1 by omega, show grO g + 4 + 8 * iy = y + 2 by omega] at h4
    exact h4
/-- the point stands, as it is -/
theorem plc_old (hX : XW K T U W R Q) (hg : 0 ≤ g ∧ g < 8) (hk : 0 ≤ k ∧ k < Q 2334 g) (hy : R (grO g + 1) k = some y) : PLC K T U W R Q W R Q g (Q 2334 g) k y := by
  have hI := hX.1.2.2.2.1.iv
  have hpb : 0 ≤ Q 2334 g ∧ Q 2334 g ≤ 8 := IV.a hI 2334 0 8 rfl rfl rfl (by omega) (by omega)
  obtain ⟨-, h2, -⟩ := PTL_old (hX.1.2.2.1.2.1 g hg.1 hg.2) hI hg hk hy
  exact ⟨hX.mid, h2, ⟨rfl, hpb.2, hk.1, hk.2⟩, fun _ _ _ _ => rfl, fun g2 _ _ _ => grQ_kf KF_rfl, fun _ _ _ _ _ _ => rfl, fun _ _ _ _ _ => rfl, fun g2 k2 g0 g1 k0 k1 _ => hX.1.2.2.2.2.2.2 g2 k2 g0 g1 k0 k1⟩
/-- the point stands, its members gone -/
theorem plc_drp {V5 P5 : qR} {V6 : rR} (hX : XW K T U W R Q) (hg : 0 ≤ g ∧ g < 8) (hk : 0 ≤ k ∧ k < Q 2334 g) (hy : R (grO g + 1) k = some y) (hkf : KF P5 Q) (hT : T ≤ T0) (hMX : XM K T0 U V5 V6 P5) (hF : FCL y W V5 R V6) (h31 : V5 y 2131 = 0) : PLC K T0 U W R Q V5 V6 P5 g (Q 2334 g) k y ∧ PTL V5 V6 y [] := by
  have hI := hX.1.2.2.2.1.iv
  have hpb : 0 ≤ Q 2334 g ∧ Q 2334 g ≤ 8 := IV.a hI 2334 0 8 rfl rfl rfl (by omega) (by omega)
  have hgr := hX.1.2.2.1.2.1 g hg.1 hg.2
  have hrg := grO_rng hg
  obtain ⟨h1, ⟨a1, a2, a3, a4, a5, a6, a7, a8⟩, hY⟩ := PTL_old hgr hI hg hk hy
  obtain ⟨iy, hiy, hy2⟩ := hgr.pt (k := k) ⟨hk.1, by omega⟩
  have ey : y = grO g + 2 + 8 * iy := Option.some.inj (hy.symm.trans hy2)
  have hns := fun (f : Nat) (k : Int) (hf : nsR.elem f = true) => nsR_kf hkf f k hf
  have hw : ∀ (x : Nat) (k : Int), 229 ≤ x → x < 1293 → k ≠ 2198 → ¬ (x = y ∧ k = 2131) → V5 x k = W x k := fun x k a b c e => hF.1 x k a (Or.inl b) (by omega) c e
  have hr : ∀ (x : Nat) (k : Int), x < 1293 → V6 x k = R x k := fun x k a => hF.2 x k (Or.inl a)
  refine ⟨⟨hMX, ⟨(hw _ _ (by omega) (by omega) (by decide) (by omega)).trans a1, ?_, a3.eqv (fun k _ _ => hr _ _ (by omega)), fun i hi => (a4 i hi).eqv (fun k _ _ => hr _ _ (by omega)), (hr _ _ (by omega)).trans a5, ?_, ?_, fun k2 k0 k1 hne => ?_⟩, ⟨hns 2334 _ rfl, hpb.2, hk.1, hk.2⟩, fun f i hf _ => hns f i hf, fun g2 _ _ _ => grQ_kf hkf, fun x i a b hx c => ?_, fun x i a b _ => hr x i b, fun g2 k2 g0 g1 k0 k1 _ => ?_⟩, ⟨h31, h1.2.1.eqv (fun k _ _ => hr _ _ (by omega)), fun j j0 j1 => absurd j1 (by show ¬ j < ((0 : Nat) : Int); omega)⟩⟩
  · rw [hw _ _ (by omega) (by omega) (by decide) (by omega), qPn_fr (fun k => hns 2320 k rfl) (fun k => hns 2323 k rfl)]
    exact a2
  · rw [hw _ _ (by omega) (by omega) (by decide) (by omega), hns 2335 _ rfl]
    exact a6
  · rw [hw _ _ (by omega) (by omega) (by decide) (by omega), hns 2336 _ rfl]
    exact a7
  · obtain ⟨x, hx, b1, b2, b3, b4⟩ := a8 k2 k0 k1 hne
    have hxy : x ≠ y := fun e => hne (a3.2 k2 k k0 (by omega) hk.1 (by omega) (hx.trans (by rw [e]; exact hy.symm)))
    obtain ⟨i, hi, hx3⟩ := hgr.pt (k := k2) ⟨k0, by omega⟩
    have ex : x = grO g + 2 + 8 * i := Option.some.inj (hx.symm.trans hx3)
    have hmb : 0 ≤ Q 2337 (8 * g + k2) ∧ Q 2337 (8 * g + k2) ≤ 6 := IV.a hI 2337 0 64 rfl rfl rfl (by omega) (by omega)
    refine ⟨x, (hr _ _ (by omega)).trans hx, (hw _ _ (by omega) (by omega) (by decide) (by omega)).trans (b1.trans (hns _ _ rfl).symm), (hw _ _ (by omega) (by omega) (by decide) (by omega)).trans (b2.trans (hns _ _ rfl).symm), (hw _ _ (by omega) (by omega) (by decide) (by omega)).trans (b3.trans (hns _ _ rfl).symm), fun j j0 j1 => ?_⟩
    rw [hns 2337 _ rfl] at j1
    obtain ⟨c, c1, m1, m2, m3, m4, m5⟩ := b4 j j0 j1
    obtain ⟨t, ht, hc2⟩ := hgr.mb hi (j := j) ⟨j0, by omega⟩
    have ec : c = grO g + 4 + 8 * i + t := by
      rw [show x + 1 = grO g + 3 + 8 * i by omega] at c1
      exact Option.some.inj (c1.symm.trans hc2)
    unfold MBC
    rw [hns 2338 _ rfl, hns 2339 _ rfl, hns 2340 _ rfl, hns 2341 _ rfl, hns 2342 _ rfl]
    exact ⟨c, (hr _ _ (by omega)).trans c1, (hw _ _ (by omega) (by omega) (by decide) (by omega)).trans m1, (hw _ _ (by omega) (by omega) (by decide) (by omega)).trans m2, (hw _ _ (by omega) (by omega) (by decide) (by omega)).trans m3, (hw _ _ (by omega) (by omega) (by decide) (by omega)).trans m4, (hw _ _ (by omega) (by omega) (by decide) (by omega)).trans m5⟩
  · by_cases q : x = y ∧ i = 2131
    · exfalso
      exact hx ⟨by omega, by omega⟩
    · exact hw x i a b c q
  · rw [hns 2334 _ rfl] at k1
    rw [hns 2337 _ rfl]
    exact hX.1.2.2.2.2.2.2 g2 k2 g0 g1 k0 k1
end XBNH
