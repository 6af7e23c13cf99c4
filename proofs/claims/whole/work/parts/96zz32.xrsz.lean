/-! The class's servers: resize. -/
theorem T_62_0 : hTab 62 0 = some ((3, 1, 2, []), 1) := rfl
theorem T_62_1 : hTab 62 1 = some ((24, 8, Int.ofNat 11, []), 4) := rfl
theorem T_62_4 : hTab 62 4 = some ((20, 1, Int.ofNat 20, []), 7) := rfl
theorem T_62_7 : hTab 62 7 = some ((3, 2, 0, []), 8) := rfl
theorem T_62_8 : hTab 62 8 = some ((18, 5, Int.ofNat 20, []), 11) := rfl
theorem T_62_11 : hTab 62 11 = some ((3, 1, 2, []), 12) := rfl
theorem T_62_12 : hTab 62 12 = some ((0, 0, 600, []), 15) := rfl
theorem T_62_17 : hTab 62 17 = some ((25, 8, Int.ofNat 11, []), 20) := rfl
theorem T_62_20 : hTab 62 20 = some ((3, 1, 2, []), 21) := rfl
theorem T_62_21 : hTab 62 21 = some ((24, 8, Int.ofNat 10, []), 24) := rfl
theorem T_62_24 : hTab 62 24 = some ((4, 3, 0, []), 25) := rfl
theorem T_62_25 : hTab 62 25 = some ((3, 3, 0, []), 26) := rfl
theorem T_62_26 : hTab 62 26 = some ((3, 2, 0, []), 27) := rfl
theorem T_62_27 : hTab 62 27 = some ((19, 3, Int.ofNat 57, []), 30) := rfl
theorem T_62_30 : hTab 62 30 = some ((3, 3, 0, []), 31) := rfl
theorem T_62_31 : hTab 62 31 = some ((0, 0, 600, []), 34) := rfl
theorem T_62_34 : hTab 62 34 = some ((19, 3, Int.ofNat 57, []), 37) := rfl
theorem T_62_37 : hTab 62 37 = some ((3, 1, 2, []), 38) := rfl
theorem T_62_38 : hTab 62 38 = some ((24, 8, Int.ofNat 11, []), 41) := rfl
theorem T_62_41 : hTab 62 41 = some ((20, 0, Int.ofNat 51, []), 44) := rfl
theorem T_62_44 : hTab 62 44 = some ((3, 1, 2, []), 45) := rfl
theorem T_62_45 : hTab 62 45 = some ((24, 8, Int.ofNat 11, []), 48) := rfl
theorem T_62_48 : hTab 62 48 = some ((3, 3, 0, []), 49) := rfl
theorem T_62_49 : hTab 62 49 = some ((0, 0, 0, []), 50) := rfl
theorem T_62_50 : hTab 62 50 = some ((27, 1, 0, []), 51) := rfl
theorem T_62_51 : hTab 62 51 = some ((5, 3, 1, []), 54) := rfl
theorem T_62_54 : hTab 62 54 = some ((22, 0, Int.ofNat 25, []), 57) := rfl
theorem T_62_57 : hTab 62 57 = some ((3, 0, 2, []), 58) := rfl
theorem T_62_58 : hTab 62 58 = some ((6, 0, 0, []), 59) := rfl
theorem T_62_59 : hTab 62 59 = some ((24, 7, Int.ofNat 7, []), 62) := rfl
theorem T_62_62 : hTab 62 62 = some ((3, 2, 0, []), 63) := rfl
theorem T_62_63 : hTab 62 63 = some ((3, 1, 2, []), 64) := rfl
theorem T_62_64 : hTab 62 64 = some ((24, 8, Int.ofNat 10, []), 67) := rfl
theorem T_62_67 : hTab 62 67 = some ((10, 1, 0, []), 68) := rfl
theorem T_62_68 : hTab 62 68 = some ((10, 0, 0, []), 69) := rfl
theorem T_62_69 : hTab 62 69 = some ((25, 7, Int.ofNat 7, []), 72) := rfl
theorem T_62_72 : hTab 62 72 = some ((3, 1, 2, []), 73) := rfl
theorem T_62_73 : hTab 62 73 = some ((3, 2, 0, []), 74) := rfl
theorem T_62_74 : hTab 62 74 = some ((25, 8, Int.ofNat 10, []), 77) := rfl
theorem T_62_77 : hTab 62 77 = some ((33, 0, 0, []), 78) := rfl
theorem F_8_11 : (hFd 8 11).2.2.1 = 4 := rfl
theorem mN_62 : hmN 62 = 3 := by decide +kernel
theorem mL_62 : hmL 62 = 4 := by decide +kernel
theorem mK_62 : hmK 62 = 1 := by decide +kernel
theorem mO_62 : hmO 62 = 7 := by decide +kernel
theorem ilt_eq {a b c : Int} (h : a < b) (e : c = b) : a < c := by rw [e]; exact h
section XRSZ
variable {fb : Bool} {d y pc nx S a b c m : Nat} {ls : hLs} {st : List AV} {Q : Option AV → hM → Prop} {σ0 σ : hM} {W W1 W2 P : qR} {R R1 R2 : rR} {i j k x z v s e w f u n p g ln : Int} {r : Option Nat}
theorem z_cB (hP : PX σ0 W R σ) (T : hTab y pc = some ((27, 1, 0, []), nx)) (hw : sb8 z = v) (h : 2372 ≤ a) (hl : (a : Int) < W 0 0) (h0 : 0 ≤ i) (h1 : i < 600) (k : ∀ σ, PX σ0 (rU W a i v) R σ → WP fb d y nx ls st σ Q) : WP fb d y pc ls (vI z :: vI i :: vR (some a) :: st) σ Q := x_asB T (hP.tc h hl) (Nat.le_trans (by decide) h) h0 h1 hw (k _ (hP.cput h h0))
theorem gZer_nx (h : f ≤ i) : rU (gZer W c f i) c i 0 = gZer W c f (i + 1) := by
  funext x k
  unfold rU gZer
  by_cases q : x = c ∧ k = i
  · rw [if_pos q, if_pos ⟨q.1, by omega, by omega⟩]
  · rw [if_neg q]
    by_cases q2 : x = c ∧ f ≤ k ∧ k < i
    · rw [if_pos q2, if_pos ⟨q2.1, q2.2.1, by omega⟩]
    · rw [if_neg q2, if_neg (fun c2 => q2 ⟨c2.1, c2.2.1, by
        have hne : k ≠ i := fun e => q ⟨c2.1, e⟩
        omega⟩)]
theorem gZer_0 : gZer W c f f = W := by
  funext x k
  exact if_neg (fun c => by omega)
theorem gZer_x {x : Nat} (h : x ≠ c) : gZer W c f i x k = W x k := if_neg (fun q => h q.1)
/-- the loop that lays zeros: c is the row of bytes -/
theorem x_zero_loop (hn : tX a = some (Sum.inl 8)) (hc : R a 2267 = some c) (h2 : 2372 ≤ c) (hl : (c : Int) < W 0 0) (hS : tX S = some (Sum.inl 7)) (hln : 0 ≤ ln ∧ ln ≤ 600) (hz : 0 ≤ z ∧ z ≤ 600) (hv : W S 2231 = v) (hw : W a 2266 = ln) (hvr : -1000000 ≤ v ∧ v ≤ 1000000) : ∀ (m : Nat) (i : Int) (σ : hM), i + m = (if ln ≤ z then z else ln) → ln ≤ i → PX σ0 (gZer W c ln i) R σ → WP fb d 62 25 [some (vR (some S)), some (vR (some a)), some (vI z), some (vI i)] [] σ (fun r σ' => r = none ∧ PX σ0 (rU (rU (gZer W c ln z) S 2231 (v + (z - ln))) a 2266 z) R σ') := by
  intro m
  have ha := (tX_o hn).2
  have hSa := (tX_o hS).2
  have hv2 : ∀ i, gZer W c ln i S 2231 = v := fun i => (gZer_x (by omega)).trans hv
  have hw2 : ∀ i, gZer W c ln i a 2266 = ln := fun i => (gZer_x (by omega)).trans hw
  induction m with
  | zero =>
    intro i σ h3 h4 hP
    have h3 : i + ((0 : Nat) : Int) = (if ln ≤ z then z else ln) := h3
    have hg : gZer W c ln i = gZer W c ln z := by
      by_cases q : ln ≤ z
      · rw [if_pos q] at h3
        rw [show i = z by omega]
      · rw [if_neg q] at h3
        funext x k
        unfold gZer
        rw [if_neg (fun c2 => by omega), if_neg (fun c2 => by omega)]
    rw [hg] at hP
    have hi : z ≤ i := by split at h3 <;> omega
    have hv3 := hv2 z
    have hw3 := hw2 z
    obtain ⟨W1, hW1⟩ : ∃ W1, gZer W c ln z = W1 := ⟨_, rfl⟩
    rw [hW1] at hP hv3 hw3 ⊢
    refine x_li (z := i) T_62_25 rfl ?_
    refine x_li (z := z) T_62_26 rfl ?_
    refine x_ic2 T_62_27 (fun _ => ?_) (fun h => absurd (show z ≤ i by omega) h)
    refine x_lr (z := some S) T_62_57 rfl ?_
    refine x_dupR T_62_58 ?_
    refine x_gI (z := v) T_62_59 (Or.inl F_7_7) (hP.o hS) (Eq.trans (hP.gi hS (key := 2231) rfl) hv3) ?_
    refine x_li (z := z) T_62_62 rfl ?_
    refine x_lr (z := some a) T_62_63 rfl ?_
    refine x_gI (z := ln) T_62_64 (Or.inl F_8_10) (hP.o hn) (Eq.trans (hP.gi hn (key := 2266) rfl) hw3) ?_
    refine x_ib (w := (z - ln)) T_62_67 (fun h => absurd h.1 (by decide)) (w32_id (by omega) (by omega)) ?_
    refine x_ib (w := (v + (z - ln))) T_62_68 (fun h => absurd h.1 (by decide)) (w32_id (by omega) (by omega)) ?_
    refine z_pI hP T_62_69 F_7_7 hS (key := 2231) rfl (fun σ hP => ?_)
    refine x_lr (z := some a) T_62_72 rfl ?_
    refine x_li (z := z) T_62_73 rfl ?_
    refine z_pI hP T_62_74 F_8_10 hn (key := 2266) rfl (fun σ hP => ?_)
    refine x_rv T_62_77 ?_
    exact ⟨rfl, hP⟩
  | succ m ih =>
    intro i σ h3 h4 hP
    have hlz : ln ≤ z := by
      apply Decidable.byContradiction
      intro q
      rw [if_neg q] at h3
      omega
    rw [if_pos hlz] at h3 ih
    have hgo := fun (σ : hM) => ih (i + 1) σ (by omega) (by omega)
    have hst := gZer_nx (W := W) (c := c) (f := ln) (i := i) (by omega)
    have hl2 : (c : Int) < gZer W c ln i 0 0 := ilt_eq hl (gZer_x (by omega))
    obtain ⟨W1, hW1⟩ : ∃ W1, gZer W c ln i = W1 := ⟨_, rfl⟩
    rw [hW1] at hP hst hl2
    rw [← hst] at hgo
    refine x_li (z := i) T_62_25 rfl ?_
    refine x_li (z := z) T_62_26 rfl ?_
    refine x_ic2 T_62_27 (fun h => absurd (show z ≤ i from h) (by omega)) (fun _ => ?_)
    refine x_li (z := i) T_62_30 rfl ?_
    refine x_ic T_62_31 ?_
    refine x_ic2 T_62_34 (fun h => absurd (show 600 ≤ i from h) (by omega)) (fun _ => ?_)
    refine x_lr (z := some a) T_62_37 rfl ?_
    refine x_gR (z := some c) T_62_38 F_8_11 (hP.o hn) (Eq.trans (hP.rm hn rfl (key := 2267) rfl) hc) ?_
    refine x_nul T_62_41 (fun h0 => absurd h0 (by simp)) (fun _ _ => ?_)
    refine x_lr (z := some a) T_62_44 rfl ?_
    refine x_gR (z := some c) T_62_45 F_8_11 (hP.o hn) (Eq.trans (hP.rm hn rfl (key := 2267) rfl) hc) ?_
    refine x_li (z := i) T_62_48 rfl ?_
    refine x_ic T_62_49 ?_
    refine z_cB (v := 0) hP T_62_50 (show sb8 0 = 0 from rfl) h2 hl2 (by omega) (by omega) (fun σ hP => ?_)
    refine x_inc (w := (i + 1)) (ls1 := [some (vR (some S)), some (vR (some a)), some (vI z), some (vI (i + 1))]) T_62_51 rfl (w32_id (by omega) (by omega)) rfl ?_
    refine x_goto T_62_54 ?_
    exact hgo σ hP
/-- a row of bytes is there -/
theorem x_resize_c (hP : PX σ0 W R σ) (hn : tX a = some (Sum.inl 8)) (hc : R a 2267 = some c) (h2 : 2372 ≤ c) (hl : (c : Int) < W 0 0) (hS : tX S = some (Sum.inl 7)) (hln : 0 ≤ ln ∧ ln ≤ 600) (hz : 0 ≤ z ∧ z ≤ 600) (hv : W S 2231 = v) (hw : W a 2266 = ln) (hvr : -1000000 ≤ v ∧ v ≤ 1000000) : CL fb d 62 [vR (some S), vR (some a), vI z] σ (fun r σ' => r = none ∧ PX σ0 (rU (rU (gZer W c ln z) S 2231 (v + (z - ln))) a 2266 z) R σ') := by
  have hgo := x_zero_loop (fb := fb) (d := d) (σ0 := σ0) hn hc h2 hl hS hln hz hv hw hvr ((if ln ≤ z then z else ln) - ln).toNat ln σ (by split <;> omega) (Int.le_refl _) (by rw [gZer_0]; exact hP)
  refine CL_in mL_62 rfl ?_
  show WP fb _ 62 0 [some (vR (some S)), some (vR (some a)), some (vI z), none] [] σ _
  refine x_lr (z := some a) T_62_0 rfl ?_
  refine x_gR (z := some c) T_62_1 F_8_11 (hP.o hn) (Eq.trans (hP.rm hn rfl (key := 2267) rfl) hc) ?_
  refine x_nnul T_62_4 (fun _ _ => ?_) (fun h0 => absurd h0 (by simp))
  refine x_lr (z := some a) T_62_20 rfl ?_
  refine x_gI (z := ln) T_62_21 (Or.inl F_8_10) (hP.o hn) (Eq.trans (hP.gi hn (key := 2266) rfl) hw) ?_
  refine x_si (ls1 := [some (vR (some S)), some (vR (some a)), some (vI z), some (vI ln)]) T_62_24 rfl ?_
  exact hgo
/-- none is there, and none is wanted -/
theorem x_resize_0 (hP : PX σ0 W R σ) (hn : tX a = some (Sum.inl 8)) (hc : R a 2267 = none) (hS : tX S = some (Sum.inl 7)) (hv : W S 2231 = v) (hw : W a 2266 = 0) (hvr : -1000000 ≤ v ∧ v ≤ 1000000) : CL fb d 62 [vR (some S), vR (some a), vI 0] σ (fun r σ' => r = none ∧ PX σ0 (rU (rU W S 2231 v) a 2266 0) R σ') := by
  refine CL_in mL_62 rfl ?_
  show WP fb _ 62 0 [some (vR (some S)), some (vR (some a)), some (vI 0), none] [] σ _
  refine x_lr (z := some a) T_62_0 rfl ?_
  refine x_gR (z := none) T_62_1 F_8_11 (hP.o hn) (Eq.trans (hP.rm hn rfl (key := 2267) rfl) hc) ?_
  refine x_nnul T_62_4 (fun a0 h0 => absurd h0 (by simp)) (fun _ => ?_)
  refine x_li (z := 0) T_62_7 rfl ?_
  refine x_if T_62_8 (fun _ => ?_) (fun h => absurd (show (0 : Int) ≤ 0 by decide) h)
  refine x_lr (z := some a) T_62_20 rfl ?_
  refine x_gI (z := 0) T_62_21 (Or.inl F_8_10) (hP.o hn) (Eq.trans (hP.gi hn (key := 2266) rfl) hw) ?_
  refine x_si (ls1 := [some (vR (some S)), some (vR (some a)), some (vI 0), some (vI 0)]) T_62_24 rfl ?_
  refine x_li (z := 0) T_62_25 rfl ?_
  refine x_li (z := 0) T_62_26 rfl ?_
  refine x_ic2 T_62_27 (fun _ => ?_) (fun h => absurd (show 0 ≤ (0 : Int) by decide) h)
  refine x_lr (z := some S) T_62_57 rfl ?_
  refine x_dupR T_62_58 ?_
  refine x_gI (z := v) T_62_59 (Or.inl F_7_7) (hP.o hS) (Eq.trans (hP.gi hS (key := 2231) rfl) hv) ?_
  refine x_li (z := 0) T_62_62 rfl ?_
  refine x_lr (z := some a) T_62_63 rfl ?_
  refine x_gI (z := 0) T_62_64 (Or.inl F_8_10) (hP.o hn) (Eq.trans (hP.gi hn (key := 2266) rfl) hw) ?_
  refine x_ib (w := 0) T_62_67 (fun h => absurd h.1 (by decide)) (by decide) ?_
  refine x_ib (w := (v + 0)) T_62_68 (fun h => absurd h.1 (by decide)) (w32_id (by omega) (by omega)) ?_
  refine z_pI hP T_62_69 F_7_7 hS (key := 2231) rfl (fun σ hP => ?_)
  refine x_lr (z := some a) T_62_72 rfl ?_
  refine x_li (z := 0) T_62_73 rfl ?_
  refine z_pI hP T_62_74 F_8_10 hn (key := 2266) rfl (fun σ hP => ?_)
  refine x_rv T_62_77 ?_
  rw [Int.add_zero] at hP
  exact ⟨rfl, hP⟩
/-- a row is made -/
theorem x_resize_n (hP : PX σ0 W R σ) (hn : tX a = some (Sum.inl 8)) (hc : R a 2267 = none) (hcz : W 0 0 = (c : Int)) (hS : tX S = some (Sum.inl 7)) (hz : 0 < z ∧ z ≤ 600) (hv : W S 2231 = v) (hw : W a 2266 = 0) (hvr : -1000000 ≤ v ∧ v ≤ 1000000) : CL fb d 62 [vR (some S), vR (some a), vI z] σ (fun r σ' => r = none ∧ PX σ0 (rU (rU (gZer (nwW W) c 0 z) S 2231 (v + z)) a 2266 z) (oU R a 2267 (some c)) σ') := by
  have ha := (tX_o hn)
  have hSa := (tX_o hS)
  have h2 : 2372 ≤ c := by
    have h3 := hP.1
    rw [h3.2.1] at hcz
    omega
  have hne : ∀ (x : Nat) (k : Int), x < 2281 → x ≠ 0 → nwW W x k = W x k := fun x k h3 h4 => nwW_o hP (by omega) h4
  have hl : (c : Int) < nwW W 0 0 := by
    unfold nwW
    rw [if_neg (by omega), rU_k (by decide), rU_s]
    omega
  have hgo := fun (σ : hM) (hP : PX σ0 (nwW W) (oU R a 2267 (some c)) σ) => x_zero_loop (fb := fb) (d := d) (σ0 := σ0) (W := nwW W) (R := oU R a 2267 (some c)) (z := z) hn oU_s h2 hl hS (ln := 0) (by decide) ⟨by omega, hz.2⟩ ((hne S 2231 hSa.2 (by omega)).trans hv) ((hne a 2266 ha.2 (by omega)).trans hw) hvr z.toNat 0 σ (by rw [if_pos (by omega)]; omega) (by decide) (by rw [gZer_0]; exact hP)
  rw [Int.sub_zero] at hgo
  have hw3 := (hne a 2266 ha.2 (by omega)).trans hw
  have h20 : ∀ σ, PX σ0 (nwW W) (oU R a 2267 (some c)) σ → WP fb d 62 20 [some (vR (some S)), some (vR (some a)), some (vI z), none] [] σ (fun r σ' => r = none ∧ PX σ0 (rU (rU (gZer (nwW W) c 0 z) S 2231 (v + z)) a 2266 z) (oU R a 2267 (some c)) σ') := fun σ hP => by
    have hgo := hgo σ hP
    obtain ⟨W1, hW1⟩ : ∃ W1, nwW W = W1 := ⟨_, rfl⟩
    rw [hW1] at hP hgo hw3 ⊢
    obtain ⟨R1, hR1⟩ : ∃ R1, oU R a 2267 (some c) = R1 := ⟨_, rfl⟩
    rw [hR1] at hP hgo ⊢
    refine x_lr (z := some a) T_62_20 rfl ?_
    refine x_gI (z := 0) T_62_21 (Or.inl F_8_10) (hP.o hn) (Eq.trans (hP.gi hn (key := 2266) rfl) hw3) ?_
    refine x_si (ls1 := [some (vR (some S)), some (vR (some a)), some (vI z), some (vI 0)]) T_62_24 rfl ?_
    exact hgo
  have hnar := fun (k : ∀ σ, PX σ0 (nwW W) R σ → WP fb d 62 17 [some (vR (some S)), some (vR (some a)), some (vI z), none] [vR (some c), vR (some a)] σ (fun r σ' => r = none ∧ PX σ0 (rU (rU (gZer (nwW W) c 0 z) S 2231 (v + z)) a 2266 z) (oU R a 2267 (some c)) σ')) => z_nar (fb := fb) (d := d) (y := 62) (pc := 15) (nx := 17) (ls := [some (vR (some S)), some (vR (some a)), some (vI z), none]) (st := [vR (some a)]) (Q := fun r σ' => r = none ∧ PX σ0 (rU (rU (gZer (nwW W) c 0 z) S 2231 (v + z)) a 2266 z) (oU R a 2267 (some c)) σ') hP rfl (by rw [hcz, Int.toNat_natCast]; exact k)
  have h17 := hnar (fun σ hP => by
    obtain ⟨W1, hW1⟩ : ∃ W1, nwW W = W1 := ⟨_, rfl⟩
    rw [hW1] at hP h20 ⊢
    refine z_pR hP T_62_17 F_8_11 rfl hn (key := 2267) rfl (fun σ hP => ?_)
    exact h20 σ hP
    )
  refine CL_in mL_62 rfl ?_
  show WP fb _ 62 0 [some (vR (some S)), some (vR (some a)), some (vI z), none] [] σ _
  refine x_lr (z := some a) T_62_0 rfl ?_
  refine x_gR (z := none) T_62_1 F_8_11 (hP.o hn) (Eq.trans (hP.rm hn rfl (key := 2267) rfl) hc) ?_
  refine x_nnul T_62_4 (fun a0 h0 => absurd h0 (by simp)) (fun _ => ?_)
  refine x_li (z := z) T_62_7 rfl ?_
  refine x_if T_62_8 (fun h => absurd (show z ≤ 0 from h) (by omega)) (fun _ => ?_)
  refine x_lr (z := some a) T_62_11 rfl ?_
  refine x_ic T_62_12 ?_
  exact h17
end XRSZ
