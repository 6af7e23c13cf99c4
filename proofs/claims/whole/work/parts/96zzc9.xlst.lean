/-! The class's commands: a directory's files are told; ls. -/
theorem T_140_0 : hTab 140 0 = some ((3, 0, 2, []), 1) := rfl
theorem T_140_1 : hTab 140 1 = some ((24, 14, Int.ofNat 0, []), 4) := rfl
theorem T_140_4 : hTab 140 4 = some ((24, 1, Int.ofNat 2, []), 7) := rfl
theorem T_140_7 : hTab 140 7 = some ((4, 3, 2, []), 8) := rfl
theorem T_140_8 : hTab 140 8 = some ((0, 0, 11, []), 10) := rfl
theorem T_140_10 : hTab 140 10 = some ((4, 4, 0, []), 12) := rfl
theorem T_140_12 : hTab 140 12 = some ((3, 4, 0, []), 14) := rfl
theorem T_140_14 : hTab 140 14 = some ((0, 0, 41, []), 16) := rfl
theorem T_140_16 : hTab 140 16 = some ((10, 0, 0, []), 17) := rfl
theorem T_140_17 : hTab 140 17 = some ((0, 0, 2, []), 18) := rfl
theorem T_140_18 : hTab 140 18 = some ((10, 0, 0, []), 19) := rfl
theorem T_140_19 : hTab 140 19 = some ((3, 2, 0, []), 20) := rfl
theorem T_140_20 : hTab 140 20 = some ((19, 4, Int.ofNat 98, []), 23) := rfl
theorem T_140_23 : hTab 140 23 = some ((3, 4, 0, []), 25) := rfl
theorem T_140_25 : hTab 140 25 = some ((0, 0, 41, []), 27) := rfl
theorem T_140_27 : hTab 140 27 = some ((10, 0, 0, []), 28) := rfl
theorem T_140_28 : hTab 140 28 = some ((4, 5, 0, []), 30) := rfl
theorem T_140_30 : hTab 140 30 = some ((3, 1, 2, []), 31) := rfl
theorem T_140_31 : hTab 140 31 = some ((3, 3, 2, []), 32) := rfl
theorem T_140_32 : hTab 140 32 = some ((3, 5, 0, []), 34) := rfl
theorem T_140_34 : hTab 140 34 = some ((0, 0, 2, []), 35) := rfl
theorem T_140_35 : hTab 140 35 = some ((10, 0, 0, []), 36) := rfl
theorem T_140_36 : hTab 140 36 = some ((3, 3, 2, []), 37) := rfl
theorem T_140_37 : hTab 140 37 = some ((3, 5, 0, []), 39) := rfl
theorem T_140_39 : hTab 140 39 = some ((31, 36, 0, []), 42) := rfl
theorem T_140_42 : hTab 140 42 = some ((31, 32, 0, []), 45) := rfl
theorem T_140_45 : hTab 140 45 = some ((7, 0, 0, []), 46) := rfl
theorem T_140_46 : hTab 140 46 = some ((3, 3, 2, []), 47) := rfl
theorem T_140_47 : hTab 140 47 = some ((3, 4, 0, []), 49) := rfl
theorem T_140_49 : hTab 140 49 = some ((0, 0, 21, []), 51) := rfl
theorem T_140_51 : hTab 140 51 = some ((10, 0, 0, []), 52) := rfl
theorem T_140_52 : hTab 140 52 = some ((0, 0, 4, []), 53) := rfl
theorem T_140_53 : hTab 140 53 = some ((31, 29, 0, []), 56) := rfl
theorem T_140_56 : hTab 140 56 = some ((0, 0, 31, []), 58) := rfl
theorem T_140_58 : hTab 140 58 = some ((12, 1, 0, []), 59) := rfl
theorem T_140_59 : hTab 140 59 = some ((1, 0, 1, []), 60) := rfl
theorem T_140_60 : hTab 140 60 = some ((11, 5, 0, []), 61) := rfl
theorem T_140_61 : hTab 140 61 = some ((1, 0, 0, []), 62) := rfl
theorem T_140_62 : hTab 140 62 = some ((17, 0, 0, []), 63) := rfl
theorem T_140_63 : hTab 140 63 = some ((18, 0, Int.ofNat 73, []), 66) := rfl
theorem T_140_66 : hTab 140 66 = some ((3, 1, 2, []), 67) := rfl
theorem T_140_67 : hTab 140 67 = some ((0, 0, 47, []), 69) := rfl
theorem T_140_69 : hTab 140 69 = some ((31, 73, 0, []), 72) := rfl
theorem T_140_72 : hTab 140 72 = some ((7, 0, 0, []), 73) := rfl
theorem T_140_73 : hTab 140 73 = some ((3, 1, 2, []), 74) := rfl
theorem T_140_74 : hTab 140 74 = some ((0, 0, 10, []), 76) := rfl
theorem T_140_76 : hTab 140 76 = some ((31, 73, 0, []), 79) := rfl
theorem T_140_79 : hTab 140 79 = some ((7, 0, 0, []), 80) := rfl
theorem T_140_80 : hTab 140 80 = some ((3, 4, 0, []), 82) := rfl
theorem T_140_82 : hTab 140 82 = some ((0, 0, 2, []), 83) := rfl
theorem T_140_83 : hTab 140 83 = some ((3, 3, 2, []), 84) := rfl
theorem T_140_84 : hTab 140 84 = some ((3, 4, 0, []), 86) := rfl
theorem T_140_86 : hTab 140 86 = some ((0, 0, 2, []), 87) := rfl
theorem T_140_87 : hTab 140 87 = some ((31, 29, 0, []), 90) := rfl
theorem T_140_90 : hTab 140 90 = some ((15, 0, 0, []), 91) := rfl
theorem T_140_91 : hTab 140 91 = some ((10, 0, 0, []), 92) := rfl
theorem T_140_92 : hTab 140 92 = some ((10, 0, 0, []), 93) := rfl
theorem T_140_93 : hTab 140 93 = some ((4, 4, 0, []), 95) := rfl
theorem T_140_95 : hTab 140 95 = some ((22, 0, Int.ofNat 12, []), 98) := rfl
theorem T_140_98 : hTab 140 98 = some ((33, 0, 0, []), 99) := rfl
theorem mN_140 : hmN 140 = 3 := by decide +kernel
theorem mL_140 : hmL 140 = 6 := by decide +kernel
theorem mK_140 : hmK 140 = 1 := by decide +kernel
theorem mO_140 : hmO 140 = 14 := by decide +kernel
section XLST
variable {fb : Bool} {d S b c q n a0 m k tb : Nat} {σ0 σ : hM} {W W0 W1 W2 V V1 P Q : qR} {R R1 R2 V3 : rR} {i j x z v s e w f g u p p2 K T U t a dd pa kd cp dr md off pt o : Int} {l l0 lo nm M wd A : List Int}
theorem bit31 (hb : byt A) : (and64 (shr64 (nu (lg A) 32 4) 31) 1 = 0 ↔ and32 (lg A 35) 128 = 0) := by
  have b2 := hb 32 (by decide)
  have b3 := hb 33 (by decide)
  have b4 := hb 34 (by decide)
  have b5 := hb 35 (by decide)
  have e : nu (lg A) 32 4 = lg A 32 + lg A 33 * 256 + lg A 34 * 65536 + lg A 35 * 16777216 := by
    have : nu (lg A) 32 4 = 0 + lg A (32 + 0) * 1 + lg A (32 + 1) * 256 + lg A (32 + 2) * 65536 + lg A (32 + 3) * 16777216 := rfl
    rw [this]
    show 0 + lg A 32 * 1 + lg A 33 * 256 + lg A 34 * 65536 + lg A 35 * 16777216 = _
    omega
  rw [shr64_k ⟨by omega, by omega⟩ (Or.inr rfl), show (31 : Int).toNat = 31 from rfl, show (2 : Int) ^ 31 = 2147483648 by decide]
  have h := and32_nat (x := lg A 35) (j := 7) (by decide)
  rw [Nat.testBit_eq_decide_div_mod_eq, decide_eq_false_iff_not, show ((2 ^ 7 : Nat) : Int) = 128 by decide, show (2 : Nat) ^ 7 = 128 by decide] at h
  rw [h]
  omega
theorem x_listStats (hP : PX σ0 W R σ) (hX : XW K T U W R P) (hp : 0 ≤ p ∧ p < 8) (hlv : ¬ P 2320 p = 0) (hB : BY W 134 300 A) (hD : stOK (rdB A)) (hn : ((rdB A).length : Int) = x) (h0 : ¬ x = 0) (hA : (A.length : Int) = 11 + x) : CL fb (d + 1) 140 [vR (some 2175), vR (some (prO p + 3)), vI (11 + x)] σ (fun r σ' => r = none ∧ ∃ W2, PX σ0 W2 R σ' ∧ XW K T U W2 R (oL p P (rdB A)) ∧ FB (prO p + 3) W W2) := by
  rcases hD with q | ⟨ns, n0, n1, n2, n3, n4⟩
  · rw [q] at hn
    exact absurd hn.symm h0
  have hbt : byt A := hB.2.2.2.2.2.1
  have hlg : ∀ i : Int, 0 ≤ i → lg (rdB A) i = lg A (11 + i) := fun i hi => lg_drop hi
  have e52 : nu (lg A) 52 2 = ns := (nu_cong 2 (fun k _ => by rw [hlg _ (by omega)]; congr 1; omega)).trans n3
  have e11 : nu (lg A) 11 2 = 56 + ns := (nu_cong 2 (fun k _ => by rw [hlg _ (by omega)]; congr 1; omega)).trans n4
  have h31 := bit31 hbt
  have e24 : lg (rdB A) 24 = lg A 35 := hlg 24 (by decide)
  have esg : seg (lg A) 54 ns.toNat = seg (lg (rdB A)) 43 ns.toNat := seg_seg.mpr (fun i i0 i1 => by rw [hlg _ (by omega)]; congr 1; omega)
  have hx : x = 58 + ns := by omega
  subst hx
  have hne : ¬ (rdB A).length = 0 := by omega
  have eL : oL p P (rdB A) = gOut P p (([] ++ seg (lg A) 54 ns.toNat) ++ ((if and32 (lg A 35) 128 = 0 then [] else [47]) ++ [10])) := by
    unfold oL lsT
    rw [if_neg hne, n3, e24, esg, List.nil_append]
  rw [eL]
  have hst := fun (σ : hM) (V : qR) (hP : PX σ0 V R σ) (hB : BY V 134 300 A) => x_stringEnd (fb := fb) (d := d) (s := 52) hP hB hA (by decide)
  rw [sE_at e52 (by decide) n0 (by omega), show 52 + 2 + ns = 54 + ns by omega] at hst
  have r4 := nu_rng (f := lg A) (i := 32) 4 (fun j _ => hbt _ (by omega))
  rw [show (256 : Int) ^ 4 = 4294967296 by decide] at r4
  have hn4 := fun (σ : hM) (V : qR) (hP : PX σ0 V R σ) (hB : BY V 134 300 A) => x_num (fb := fb) (d := d) (s := 32) (k := 4) 4 hP hB hA rfl (by decide) (by decide) (by omega) rfl
  have hn2 := fun (σ : hM) (V : qR) (hP : PX σ0 V R σ) (hB : BY V 134 300 A) => x_num (fb := fb) (d := d) (s := 11) (k := 2) 2 hP hB hA rfl (by decide) (by decide) (by omega) e11
  have hpo := prO_o hp
  have hrp := prO_rng hp
  have hot3 : tX (prO p + 3) = some (Sum.inl 2) := (LIV_out hX hp hlv).1
  have hBy : ∀ V : qR, FB (prO p + 3) W V → BY V 134 300 A := fun V hF => hF.by hB (by omega)
  have hX0 : XW K T U W R (gOut P p []) := hX
  have hF0 : FB (prO p + 3) W W := FB_rfl
  have hta := fun (l : List Int) (x : Int) (hx : 0 ≤ x ∧ x ≤ 255) (σ : hM) (V : qR) (hP : PX σ0 V R σ) (hX : XW K T U V R (gOut P p l)) (hF : FB (prO p + 3) W V) => x_tAdd (fb := fb) (d := d) hP hX hF hp hlv hx
  have t1 := fun (l : List Int) (σ : hM) (V : qR) (hP : PX σ0 V R σ) (hX : XW K T U V R (gOut P p l)) (hF : FB (prO p + 3) W V) => x_tAll (fb := fb) (d := d) (c := 134) (s := 54) (e := 54 + ns) hP hX hF hp hlv hB (by omega) (Or.inr (by decide)) (by omega)
  rw [show (54 + ns - 54).toNat = ns.toNat by omega] at t1
  obtain ⟨ot, hot⟩ : ∃ q, prO p + 3 = q := ⟨_, rfl⟩
  simp only [hot] at hot3 hBy hF0 hta t1 ⊢
  obtain ⟨v4, hv4⟩ : ∃ q, nu (lg A) 32 4 = q := ⟨_, rfl⟩
  rw [hv4] at hn4 h31 r4
  obtain ⟨bb, hbb⟩ : ∃ q, and64 (shr64 v4 31) 1 = q := ⟨_, rfl⟩
  rw [hbb] at h31
  obtain ⟨L0, hL0⟩ : ∃ q, [] ++ seg (lg A) 54 ns.toNat = q := ⟨_, rfl⟩
  simp only [hL0] at t1 ⊢
  by_cases q : bb = 0
  · rw [if_pos (h31.mp q), List.nil_append]
    refine CL_in mL_140 rfl ?_
    show WP fb _ 140 0 [some (vR (some 2175)), some (vR (some ot)), some (vI (11+(58+ns))), none, none, none] [] σ _
    refine x_lr (z := some 2175) T_140_0 rfl ?_
    refine x_gR (z := some 129) T_140_1 F_14_0 (hP.o xo_2175) (hP.rc xo_2175 rfl rfl) ?_
    refine x_gR (z := some 134) T_140_4 F_1_2 (hP.o xo_129) (hP.rc xo_129 rfl rfl) ?_
    refine x_sr (ls1 := [some (vR (some 2175)), some (vR (some ot)), some (vI (11+(58+ns))), some (vR (some 134)), none, none]) T_140_7 rfl ?_
    refine x_ic T_140_8 ?_
    refine x_si (ls1 := [some (vR (some 2175)), some (vR (some ot)), some (vI (11+(58+ns))), some (vR (some 134)), some (vI 11), none]) T_140_10 rfl ?_
    refine x_li (z := 11) T_140_12 rfl ?_
    refine x_ic T_140_14 ?_
    refine x_ib (w := 52) T_140_16 (fun h => absurd h.1 (by decide)) (by decide) ?_
    refine x_ic T_140_17 ?_
    refine x_ib (w := 54) T_140_18 (fun h => absurd h.1 (by decide)) (by decide) ?_
    refine x_li (z := (11+(58+ns))) T_140_19 rfl ?_
    refine x_ic2 T_140_20 (fun h => absurd (show (11+(58+ns)) < 54 from h) (by omega)) (fun _ => ?_)
    refine x_li (z := 11) T_140_23 rfl ?_
    refine x_ic T_140_25 ?_
    refine x_ib (w := 52) T_140_27 (fun h => absurd h.1 (by decide)) (by decide) ?_
    refine x_si (ls1 := [some (vR (some 2175)), some (vR (some ot)), some (vI (11+(58+ns))), some (vR (some 134)), some (vI 11), some (vI 52)]) T_140_28 rfl ?_
    refine x_lr (z := some ot) T_140_30 rfl ?_
    refine x_lr (z := some 134) T_140_31 rfl ?_
    refine x_li (z := 52) T_140_32 rfl ?_
    refine x_ic T_140_34 ?_
    refine x_ib (w := 54) T_140_35 (fun h => absurd h.1 (by decide)) (by decide) ?_
    refine x_lr (z := some 134) T_140_36 rfl ?_
    refine x_li (z := 52) T_140_37 rfl ?_
    refine x_cv2 T_140_39 mN_36 mL_36 (Nat.le_of_ble_eq_true rfl) mO_36 (hP.o xo_134) (Nat.le_of_ble_eq_true rfl) (hst σ W hP hB) ?_
    rintro _ σ ⟨rfl, rfl⟩
    refine cI ?_
    refine x_cv4 T_140_42 mN_32 mL_32 (Nat.le_of_ble_eq_true rfl) mO_32 (hP.o hot3) (Nat.le_of_ble_eq_true rfl) (t1 [] σ W hP hX0 hF0) ?_
    clear hP hX hX0
    rintro _ σ ⟨e7, rfl, V1, hP, hX, hF⟩
    rw [hL0] at hX
    refine cI ?_
    refine x_popI T_140_45 ?_
    refine x_lr (z := some 134) T_140_46 rfl ?_
    refine x_li (z := 11) T_140_47 rfl ?_
    refine x_ic T_140_49 ?_
    refine x_ib (w := 32) T_140_51 (fun h => absurd h.1 (by decide)) (by decide) ?_
    refine x_ic T_140_52 ?_
    refine x_cv3 T_140_53 mN_29 mL_29 (Nat.le_of_ble_eq_true rfl) mO_29 (hP.o xo_134) (Nat.le_of_ble_eq_true rfl) (hn4 σ V1 hP (hBy V1 hF)) ?_
    rintro _ σ ⟨rfl, rfl⟩
    refine cL ?_
    refine x_ic T_140_56 ?_
    refine x_lh (w := (shr64 v4 31)) T_140_58 rfl ?_
    refine x_lc T_140_59 ?_
    refine x_lb (w := bb) T_140_60 (fun h => absurd h.1 (by decide)) hbb ?_
    refine x_lc T_140_61 ?_
    refine x_lif T_140_62 T_140_63 (fun _ => ?_) (fun h => absurd (show bb = 0 by exact q) h)
    refine x_lr (z := some ot) T_140_73 rfl ?_
    refine x_ic T_140_74 ?_
    refine x_cv2 T_140_76 mN_73 mL_73 (Nat.le_of_ble_eq_true rfl) mO_73 (hP.o hot3) (Nat.le_of_ble_eq_true rfl) (hta _ 10 (by decide) σ V1 hP hX hF) ?_
    clear hP hX hF
    rintro _ σ ⟨e8, rfl, V2, hP, hX, hF⟩
    refine cI ?_
    refine x_popI T_140_79 ?_
    refine x_li (z := 11) T_140_80 rfl ?_
    refine x_ic T_140_82 ?_
    refine x_lr (z := some 134) T_140_83 rfl ?_
    refine x_li (z := 11) T_140_84 rfl ?_
    refine x_ic T_140_86 ?_
    refine x_cv3 T_140_87 mN_29 mL_29 (Nat.le_of_ble_eq_true rfl) mO_29 (hP.o xo_134) (Nat.le_of_ble_eq_true rfl) (hn2 σ V2 hP (hBy V2 hF)) ?_
    rintro _ σ ⟨rfl, rfl⟩
    refine cL ?_
    refine x_l2i (w := (56 + ns)) T_140_90 (w32_id (by omega) (by omega)) ?_
    refine x_ib (w := (2 + (56 + ns))) T_140_91 (fun h => absurd h.1 (by decide)) (w32_id (by omega) (by omega)) ?_
    refine x_ib (w := (11 + (2 + (56 + ns)))) T_140_92 (fun h => absurd h.1 (by decide)) (w32_id (by omega) (by omega)) ?_
    refine x_si (ls1 := [some (vR (some 2175)), some (vR (some ot)), some (vI (11+(58+ns))), some (vR (some 134)), some (vI (11 + (2 + (56 + ns)))), some (vI 52)]) T_140_93 rfl ?_
    refine x_goto T_140_95 ?_
    refine x_li (z := (11 + (2 + (56 + ns)))) T_140_12 rfl ?_
    refine x_ic T_140_14 ?_
    refine x_ib (w := ((11 + (2 + (56 + ns))) + 41)) T_140_16 (fun h => absurd h.1 (by decide)) (w32_id (by omega) (by omega)) ?_
    refine x_ic T_140_17 ?_
    refine x_ib (w := (((11 + (2 + (56 + ns))) + 41) + 2)) T_140_18 (fun h => absurd h.1 (by decide)) (w32_id (by omega) (by omega)) ?_
    refine x_li (z := (11+(58+ns))) T_140_19 rfl ?_
    refine x_ic2 T_140_20 (fun _ => ?_) (fun h => absurd (show (11+(58+ns)) < (((11 + (2 + (56 + ns))) + 41) + 2) by omega) h)
    refine x_rv T_140_98 ?_
    exact ⟨rfl, V2, hP, hX, hF⟩
  · rw [if_neg (fun c => q (h31.mpr c)), ← List.append_assoc]
    refine CL_in mL_140 rfl ?_
    show WP fb _ 140 0 [some (vR (some 2175)), some (vR (some ot)), some (vI (11+(58+ns))), none, none, none] [] σ _
    refine x_lr (z := some 2175) T_140_0 rfl ?_
    refine x_gR (z := some 129) T_140_1 F_14_0 (hP.o xo_2175) (hP.rc xo_2175 rfl rfl) ?_
    refine x_gR (z := some 134) T_140_4 F_1_2 (hP.o xo_129) (hP.rc xo_129 rfl rfl) ?_
    refine x_sr (ls1 := [some (vR (some 2175)), some (vR (some ot)), some (vI (11+(58+ns))), some (vR (some 134)), none, none]) T_140_7 rfl ?_
    refine x_ic T_140_8 ?_
    refine x_si (ls1 := [some (vR (some 2175)), some (vR (some ot)), some (vI (11+(58+ns))), some (vR (some 134)), some (vI 11), none]) T_140_10 rfl ?_
    refine x_li (z := 11) T_140_12 rfl ?_
    refine x_ic T_140_14 ?_
    refine x_ib (w := 52) T_140_16 (fun h => absurd h.1 (by decide)) (by decide) ?_
    refine x_ic T_140_17 ?_
    refine x_ib (w := 54) T_140_18 (fun h => absurd h.1 (by decide)) (by decide) ?_
    refine x_li (z := (11+(58+ns))) T_140_19 rfl ?_
    refine x_ic2 T_140_20 (fun h => absurd (show (11+(58+ns)) < 54 from h) (by omega)) (fun _ => ?_)
    refine x_li (z := 11) T_140_23 rfl ?_
    refine x_ic T_140_25 ?_
    refine x_ib (w := 52) T_140_27 (fun h => absurd h.1 (by decide)) (by decide) ?_
    refine x_si (ls1 := [some (vR (some 2175)), some (vR (some ot)), some (vI (11+(58+ns))), some (vR (some 134)), some (vI 11), some (vI 52)]) T_140_28 rfl ?_
    refine x_lr (z := some ot) T_140_30 rfl ?_
    refine x_lr (z := some 134) T_140_31 rfl ?_
    refine x_li (z := 52) T_140_32 rfl ?_
    refine x_ic T_140_34 ?_
    refine x_ib (w := 54) T_140_35 (fun h => absurd h.1 (by decide)) (by decide) ?_
    refine x_lr (z := some 134) T_140_36 rfl ?_
    refine x_li (z := 52) T_140_37 rfl ?_
    refine x_cv2 T_140_39 mN_36 mL_36 (Nat.le_of_ble_eq_true rfl) mO_36 (hP.o xo_134) (Nat.le_of_ble_eq_true rfl) (hst σ W hP hB) ?_
    rintro _ σ ⟨rfl, rfl⟩
    refine cI ?_
    refine x_cv4 T_140_42 mN_32 mL_32 (Nat.le_of_ble_eq_true rfl) mO_32 (hP.o hot3) (Nat.le_of_ble_eq_true rfl) (t1 [] σ W hP hX0 hF0) ?_
    clear hP hX hX0
    rintro _ σ ⟨e7, rfl, V1, hP, hX, hF⟩
    rw [hL0] at hX
    refine cI ?_
    refine x_popI T_140_45 ?_
    refine x_lr (z := some 134) T_140_46 rfl ?_
    refine x_li (z := 11) T_140_47 rfl ?_
    refine x_ic T_140_49 ?_
    refine x_ib (w := 32) T_140_51 (fun h => absurd h.1 (by decide)) (by decide) ?_
    refine x_ic T_140_52 ?_
    refine x_cv3 T_140_53 mN_29 mL_29 (Nat.le_of_ble_eq_true rfl) mO_29 (hP.o xo_134) (Nat.le_of_ble_eq_true rfl) (hn4 σ V1 hP (hBy V1 hF)) ?_
    rintro _ σ ⟨rfl, rfl⟩
    refine cL ?_
    refine x_ic T_140_56 ?_
    refine x_lh (w := (shr64 v4 31)) T_140_58 rfl ?_
    refine x_lc T_140_59 ?_
    refine x_lb (w := bb) T_140_60 (fun h => absurd h.1 (by decide)) hbb ?_
    refine x_lc T_140_61 ?_
    refine x_lif T_140_62 T_140_63 (fun h => absurd (show bb = 0 from h) (by exact q)) (fun _ => ?_)
    refine x_lr (z := some ot) T_140_66 rfl ?_
    refine x_ic T_140_67 ?_
    refine x_cv2 T_140_69 mN_73 mL_73 (Nat.le_of_ble_eq_true rfl) mO_73 (hP.o hot3) (Nat.le_of_ble_eq_true rfl) (hta _ 47 (by decide) σ V1 hP hX hF) ?_
    clear hP hX hF
    rintro _ σ ⟨e8, rfl, V2, hP, hX, hF⟩
    refine cI ?_
    refine x_popI T_140_72 ?_
    refine x_lr (z := some ot) T_140_73 rfl ?_
    refine x_ic T_140_74 ?_
    refine x_cv2 T_140_76 mN_73 mL_73 (Nat.le_of_ble_eq_true rfl) mO_73 (hP.o hot3) (Nat.le_of_ble_eq_true rfl) (hta _ 10 (by decide) σ V2 hP hX hF) ?_
    clear hP hX hF
    rintro _ σ ⟨e9, rfl, V4, hP, hX, hF⟩
    refine cI ?_
    refine x_popI T_140_79 ?_
    refine x_li (z := 11) T_140_80 rfl ?_
    refine x_ic T_140_82 ?_
    refine x_lr (z := some 134) T_140_83 rfl ?_
    refine x_li (z := 11) T_140_84 rfl ?_
    refine x_ic T_140_86 ?_
    refine x_cv3 T_140_87 mN_29 mL_29 (Nat.le_of_ble_eq_true rfl) mO_29 (hP.o xo_134) (Nat.le_of_ble_eq_true rfl) (hn2 σ V4 hP (hBy V4 hF)) ?_
    rintro _ σ ⟨rfl, rfl⟩
    refine cL ?_
    refine x_l2i (w := (56 + ns)) T_140_90 (w32_id (by omega) (by omega)) ?_
    refine x_ib (w := (2 + (56 + ns))) T_140_91 (fun h => absurd h.1 (by decide)) (w32_id (by omega) (by omega)) ?_
    refine x_ib (w := (11 + (2 + (56 + ns)))) T_140_92 (fun h => absurd h.1 (by decide)) (w32_id (by omega) (by omega)) ?_
    refine x_si (ls1 := [some (vR (some 2175)), some (vR (some ot)), some (vI (11+(58+ns))), some (vR (some 134)), some (vI (11 + (2 + (56 + ns)))), some (vI 52)]) T_140_93 rfl ?_
    refine x_goto T_140_95 ?_
    refine x_li (z := (11 + (2 + (56 + ns)))) T_140_12 rfl ?_
    refine x_ic T_140_14 ?_
    refine x_ib (w := ((11 + (2 + (56 + ns))) + 41)) T_140_16 (fun h => absurd h.1 (by decide)) (w32_id (by omega) (by omega)) ?_
    refine x_ic T_140_17 ?_
    refine x_ib (w := (((11 + (2 + (56 + ns))) + 41) + 2)) T_140_18 (fun h => absurd h.1 (by decide)) (w32_id (by omega) (by omega)) ?_
    refine x_li (z := (11+(58+ns))) T_140_19 rfl ?_
    refine x_ic2 T_140_20 (fun _ => ?_) (fun h => absurd (show (11+(58+ns)) < (((11 + (2 + (56 + ns))) + 41) + 2) by omega) h)
    refine x_rv T_140_98 ?_
    exact ⟨rfl, V4, hP, hX, hF⟩
end XLST
