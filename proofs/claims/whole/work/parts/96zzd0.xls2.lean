/-! The class's commands: a directory is read on and on; a list of it. -/
theorem T_139_0 : hTab 139 0 = some ((3, 0, 2, []), 1) := rfl
theorem T_139_1 : hTab 139 1 = some ((3, 0, 2, []), 2) := rfl
theorem T_139_2 : hTab 139 2 = some ((24, 14, Int.ofNat 2, []), 5) := rfl
theorem T_139_5 : hTab 139 5 = some ((3, 0, 2, []), 6) := rfl
theorem T_139_6 : hTab 139 6 = some ((24, 14, Int.ofNat 0, []), 9) := rfl
theorem T_139_9 : hTab 139 9 = some ((3, 0, 2, []), 10) := rfl
theorem T_139_10 : hTab 139 10 = some ((24, 14, Int.ofNat 2, []), 13) := rfl
theorem T_139_13 : hTab 139 13 = some ((24, 5, Int.ofNat 1, []), 16) := rfl
theorem T_139_16 : hTab 139 16 = some ((0, 0, 0, []), 17) := rfl
theorem T_139_17 : hTab 139 17 = some ((31, 135, 0, []), 20) := rfl
theorem T_139_20 : hTab 139 20 = some ((31, 136, 0, []), 23) := rfl
theorem T_139_23 : hTab 139 23 = some ((4, 2, 0, []), 24) := rfl
theorem T_139_24 : hTab 139 24 = some ((1, 0, 0, []), 25) := rfl
theorem T_139_25 : hTab 139 25 = some ((4, 3, 1, []), 26) := rfl
theorem T_139_26 : hTab 139 26 = some ((0, 0, 0, []), 27) := rfl
theorem T_139_27 : hTab 139 27 = some ((4, 5, 0, []), 29) := rfl
theorem T_139_29 : hTab 139 29 = some ((3, 5, 0, []), 31) := rfl
theorem T_139_31 : hTab 139 31 = some ((0, 0, 1000000, []), 33) := rfl
theorem T_139_33 : hTab 139 33 = some ((19, 3, Int.ofNat 120, []), 36) := rfl
theorem T_139_36 : hTab 139 36 = some ((3, 2, 0, []), 37) := rfl
theorem T_139_37 : hTab 139 37 = some ((18, 1, Int.ofNat 120, []), 40) := rfl
theorem T_139_40 : hTab 139 40 = some ((3, 0, 2, []), 41) := rfl
theorem T_139_41 : hTab 139 41 = some ((3, 0, 2, []), 42) := rfl
theorem T_139_42 : hTab 139 42 = some ((24, 14, Int.ofNat 2, []), 45) := rfl
theorem T_139_45 : hTab 139 45 = some ((3, 0, 2, []), 46) := rfl
theorem T_139_46 : hTab 139 46 = some ((24, 14, Int.ofNat 0, []), 49) := rfl
theorem T_139_49 : hTab 139 49 = some ((3, 0, 2, []), 50) := rfl
theorem T_139_50 : hTab 139 50 = some ((24, 14, Int.ofNat 2, []), 53) := rfl
theorem T_139_53 : hTab 139 53 = some ((24, 5, Int.ofNat 1, []), 56) := rfl
theorem T_139_56 : hTab 139 56 = some ((3, 3, 1, []), 57) := rfl
theorem T_139_57 : hTab 139 57 = some ((0, 0, 100, []), 59) := rfl
theorem T_139_59 : hTab 139 59 = some ((31, 137, 0, []), 62) := rfl
theorem T_139_62 : hTab 139 62 = some ((31, 136, 0, []), 65) := rfl
theorem T_139_65 : hTab 139 65 = some ((4, 2, 0, []), 66) := rfl
theorem T_139_66 : hTab 139 66 = some ((3, 2, 0, []), 67) := rfl
theorem T_139_67 : hTab 139 67 = some ((18, 1, Int.ofNat 87, []), 70) := rfl
theorem T_139_70 : hTab 139 70 = some ((3, 0, 2, []), 71) := rfl
theorem T_139_71 : hTab 139 71 = some ((24, 14, Int.ofNat 0, []), 74) := rfl
theorem T_139_74 : hTab 139 74 = some ((24, 1, Int.ofNat 2, []), 77) := rfl
theorem T_139_77 : hTab 139 77 = some ((0, 0, 7, []), 79) := rfl
theorem T_139_79 : hTab 139 79 = some ((0, 0, 4, []), 80) := rfl
theorem T_139_80 : hTab 139 80 = some ((31, 29, 0, []), 83) := rfl
theorem T_139_83 : hTab 139 83 = some ((15, 0, 0, []), 84) := rfl
theorem T_139_84 : hTab 139 84 = some ((22, 0, Int.ofNat 88, []), 87) := rfl
theorem T_139_87 : hTab 139 87 = some ((0, 0, 0, []), 88) := rfl
theorem T_139_88 : hTab 139 88 = some ((4, 6, 0, []), 90) := rfl
theorem T_139_90 : hTab 139 90 = some ((3, 6, 0, []), 92) := rfl
theorem T_139_92 : hTab 139 92 = some ((18, 1, Int.ofNat 98, []), 95) := rfl
theorem T_139_95 : hTab 139 95 = some ((22, 0, Int.ofNat 120, []), 98) := rfl
theorem T_139_98 : hTab 139 98 = some ((3, 0, 2, []), 99) := rfl
theorem T_139_99 : hTab 139 99 = some ((3, 1, 2, []), 100) := rfl
theorem T_139_100 : hTab 139 100 = some ((0, 0, 11, []), 102) := rfl
theorem T_139_102 : hTab 139 102 = some ((3, 6, 0, []), 104) := rfl
theorem T_139_104 : hTab 139 104 = some ((10, 0, 0, []), 105) := rfl
theorem T_139_105 : hTab 139 105 = some ((31, 140, 0, []), 108) := rfl
theorem T_139_108 : hTab 139 108 = some ((3, 3, 1, []), 109) := rfl
theorem T_139_109 : hTab 139 109 = some ((3, 6, 0, []), 111) := rfl
theorem T_139_111 : hTab 139 111 = some ((14, 0, 0, []), 112) := rfl
theorem T_139_112 : hTab 139 112 = some ((11, 0, 0, []), 113) := rfl
theorem T_139_113 : hTab 139 113 = some ((4, 3, 1, []), 114) := rfl
theorem T_139_114 : hTab 139 114 = some ((5, 5, 1, []), 117) := rfl
theorem T_139_117 : hTab 139 117 = some ((22, 0, Int.ofNat 29, []), 120) := rfl
theorem T_139_120 : hTab 139 120 = some ((3, 0, 2, []), 121) := rfl
theorem T_139_121 : hTab 139 121 = some ((24, 14, Int.ofNat 0, []), 124) := rfl
theorem T_139_124 : hTab 139 124 = some ((3, 0, 2, []), 125) := rfl
theorem T_139_125 : hTab 139 125 = some ((24, 14, Int.ofNat 2, []), 128) := rfl
theorem T_139_128 : hTab 139 128 = some ((31, 132, 0, []), 131) := rfl
theorem T_139_131 : hTab 139 131 = some ((7, 0, 0, []), 132) := rfl
theorem T_139_132 : hTab 139 132 = some ((3, 2, 0, []), 133) := rfl
theorem T_139_133 : hTab 139 133 = some ((33, 1, 0, []), 134) := rfl
theorem mN_139 : hmN 139 = 2 := by decide +kernel
theorem mL_139 : hmL 139 = 7 := by decide +kernel
theorem mK_139 : hmK 139 = 1 := by decide +kernel
theorem mO_139 : hmO 139 = 14 := by decide +kernel
/-- references of groups and processes stay -/
def RG (R R2 : rR) : Prop := ∀ (x : Nat) (k : Int), 229 ≤ x → x < 1293 → R2 x k = R x k
/-- where a list stands -/
abbrev LSX (K U : Int) (W : qR) (R : rR) (p : Int) (ch : Ch) (T : Int) (V : qR) (V3 : rR) (Q : qR) : Prop := XW K T U V V3 Q ∧ CHX V V3 2178 ch ∧ ¬ Q 2320 p = 0 ∧ FCM W V R V3 ∧ RG R V3
section XLSU
variable {fb : Bool} {d S b c q n a0 m k tb : Nat} {σ0 σ : hM} {W W0 W1 W2 V V1 P Q : qR} {R R1 R2 V3 : rR} {i j x z v s e w f g u p p2 K T U t a dd pa kd cp dr md off pt o : Int} {l l0 lo nm M wd A : List Int}
theorem RG_rfl : RG R R := fun _ _ _ _ => rfl
theorem RG_tr (h1 : RG R R1) (h2 : RG R1 R2) : RG R R2 := fun x k a b => (h2 x k a b).trans (h1 x k a b)
theorem RG_fa (h : FA W W2 R R2) : RG R R2 := fun x k _ b => h.2 x k (Or.inl b)
theorem RG_fs (h : FVS 134 W W2 R R2) : RG R R2 := RG_fa (FA_fs h)
theorem RG_fk (h : FK c W W2 R R2) (hc : 2175 ≤ c) : RG R R2 := fun x k a b => h.2 x k (by omega) (Or.inl ⟨a, b⟩)
theorem RG_fc (h : FC c W W2 R R2) (hc : 2175 ≤ c) : RG R R2 := fun x k _ b => h.2 x k (by omega) (Or.inl b)
theorem LSX.up {T2 : Int} {ch : Ch} (h : LSX K U W R p ch T V V3 Q) (hT : T ≤ T2) : LSX K U W R p ch T2 V V3 Q := ⟨XW.mono h.1 hT, h.2⟩
theorem LSX.msg {V2 : qR} {V4 : rR} (h : LSX K U W R p (s, f, pa, kd, cp) T V V3 Q) (hcr : chR (s, f, pa, kd, cp)) (hF : FA V V2 V3 V4) (hX : XW K (T + 4) U V2 V4 (tP Q z M)) : LSX K U W R p (s, f, pa, kd, cp) (T + 4) V2 V4 (tP Q z M) := ⟨hX, h.2.1.fa hF (by decide) (by decide) hcr.2.2, by rw [nsR_kf (KF_tP (P := Q) (s := z) (l := M)) 2320 _ rfl]; exact h.2.2.1, FCM_tr h.2.2.2.1 (FCM_fa hF), RG_tr h.2.2.2.2 (RG_fa hF)⟩
theorem x_list_loop (hp : 0 ≤ p ∧ p < 8) (hcr : chR (s, f, pa, kd, cp)) {Qf : Option AV → hM → Prop} : ∀ (m : Nat) (T off i : Int) (σ : hM) (V : qR) (V3 : rR) (Q : qR) (x6 : Option AV), i + m ≤ 1000000 → 0 ≤ i → isD Q s f → 0 ≤ lsMu Q s f off → lsMu Q s f off < m → 0 ≤ off → off + 100 * m ≤ 1000000 → T + 4 * m + 110 ≤ 2147483000 → PX σ0 V V3 σ → LSX K U W R p (s, f, pa, kd, cp) T V V3 Q → (∀ (σ : hM) (V2 : qR) (V4 : rR) (off2 i2 T2 : Int) (x6 : Option AV), T2 ≤ T + 4 * m → PX σ0 V2 V4 σ → LSX K U W R p (s, f, pa, kd, cp) T2 V2 V4 (kRdl (oL p) s f m Q off).2.1 → WP fb (d + 9) 139 120 [some (vR (some 2175)), some (vR (some (prO p + 3))), some (vI (kRdl (oL p) s f m Q off).1), some (vL off2), none, some (vI i2), x6] [] σ Qf) → WP fb (d + 9) 139 29 [some (vR (some 2175)), some (vR (some (prO p + 3))), some (vI 0), some (vL off), none, some (vI i), x6] [] σ Qf := by
  intro m
  induction m with
  | zero =>
    intro T off i σ V V3 Q x6 a1 a2 a0 a3 a4
    have a4 : lsMu Q s f off < ((0 : Nat) : Int) := a4
    omega
  | succ m ih =>
    intro T off i σ V V3 Q x6 a1 a2 a0 a3 a4 a5 a6 a7 hP hTG hc
    obtain ⟨hX, hch, hlv, -⟩ := id hTG
    obtain ⟨hs, hf, -⟩ := id hcr
    have hs : 0 ≤ s ∧ s < 3 := hs
    have hf : 0 ≤ f ∧ f ≤ 47 := hf
    have hf0 : V 2178 2161 = f := hch.2.1
    have hot3 : tX (prO p + 3) = some (Sum.inl 2) := (LIV_out hX hp hlv).1
    have hrp := prO_rng hp
    have hrd := fun (hP : PX σ0 V V3 σ) => x_reading (fb := fb) (d := d + 5) (f := f) (x := off) (n := 100) hP ⟨by omega, by omega⟩ ⟨by omega, by omega⟩ (by decide)
    have hse := fun (σ : hM) (V4 : qR) (hP : PX σ0 V4 V3 σ) (hF : FR1 V V4) (hB : BY V4 138 300 (mFr (mRead f off 100))) => mRead_s (fb := fb) (d := d) hP (hX.fr1 hF) (by omega) (hch.sf hF (by decide)).1 one_o hs hB
    have hml := rdMu_less hX.1.2.2.2.1 hs (fd := f) (off := off) ⟨by omega, by omega⟩ ⟨by omega, by omega⟩
    have hrok := rd_ok (P := Q) (s := s) (fd := f) (off := off) (n := 100)
    have her : 0 ≤ tE Q s (mRead f off 100) := tE_rng.1
    have hdir := rd_dir hX.1.2.2.2.1 hs a0 (off := off) ⟨by omega, by omega⟩ ⟨by omega, by omega⟩
    have hgn := rd_gone (P := Q) (s := s) (fd := f) (off := off) ⟨by omega, by omega⟩ ⟨by omega, by omega⟩
    have hDr := fun (h : tE Q s (mRead f off 100) = 0) => isD_rd (P := Q) (s := s) (fd := f) (off := off) ⟨by omega, by omega⟩ ⟨by omega, by omega⟩ h a0
    have hk2 := fun (V4 V5 : qR) (V6 : rR) (hF : FR1 V V4) (hF5 : FVS 134 V4 V5 V3 V6) (hX5 : XW K (T + 4) U V5 V6 (tP Q s (mRead f off 100))) => hTG.msg hcr (FA_tr (FA_fr hF) (FA_fs hF5)) hX5
    have hlv1 : ¬ tP Q s (mRead f off 100) 2320 p = 0 := by
      rw [nsR_kf (KF_tP (P := Q) (s := s) (l := mRead f off 100)) 2320 _ rfl]
      exact hlv
    have eK : kRdl (oL p) s f (m + 1) Q off = if 0 < tE Q s (mRead f off 100) then (tE Q s (mRead f off 100), tP Q s (mRead f off 100), []) else if (rdB (tA Q s (mRead f off 100))).length = 0 then (0, tP Q s (mRead f off 100), []) else ((kRdl (oL p) s f m (oL p (tP Q s (mRead f off 100)) (rdB (tA Q s (mRead f off 100)))) (off + ((rdB (tA Q s (mRead f off 100))).length : Int))).1, (kRdl (oL p) s f m (oL p (tP Q s (mRead f off 100)) (rdB (tA Q s (mRead f off 100)))) (off + ((rdB (tA Q s (mRead f off 100))).length : Int))).2.1, rdB (tA Q s (mRead f off 100)) ++ (kRdl (oL p) s f m (oL p (tP Q s (mRead f off 100)) (rdB (tA Q s (mRead f off 100)))) (off + ((rdB (tA Q s (mRead f off 100))).length : Int))).2.2) := rfl
    obtain ⟨A, hA⟩ : ∃ A, tA Q s (mRead f off 100) = A := ⟨_, rfl⟩
    obtain ⟨P1, hP1⟩ : ∃ P1, tP Q s (mRead f off 100) = P1 := ⟨_, rfl⟩
    obtain ⟨e, he⟩ : ∃ e, tE Q s (mRead f off 100) = e := ⟨_, rfl⟩
    simp only [he, hA, hP1] at hse hrok hml her hk2 eK hdir hDr hgn hlv1
    have hls := fun (x : Int) (hD : stOK (rdB A)) (hn : ((rdB A).length : Int) = x) (h0 : ¬ x = 0) (hAl : (A.length : Int) = 11 + x) (σ : hM) (V5 : qR) (V6 : rR) (hP : PX σ0 V5 V6 σ) (hX : XW K (T + 4) U V5 V6 P1) (hB : BY V5 134 300 A) => x_listStats (fb := fb) (d := d + 7) hP hX hp hlv1 hB hD hn h0 hAl
    obtain ⟨ot, hot⟩ : ∃ q, prO p + 3 = q := ⟨_, rfl⟩
    simp only [hot] at hot3 hls hc ih ⊢
    by_cases q1 : 0 < e
    · rw [if_pos q1] at eK
      rw [eK] at hc
      have hc : ∀ (σ : hM) (V2 : qR) (V4 : rR) (x6 : Option AV), PX σ0 V2 V4 σ → LSX K U W R p (s, f, pa, kd, cp) (T + 4) V2 V4 P1 → WP fb (d + 9) 139 120 [some (vR (some 2175)), some (vR (some ot)), some (vI e), some (vL off), none, some (vI i), x6] [] σ Qf := fun σ V2 V4 x6 hP h => hc σ V2 V4 off i (T + 4) x6 (by omega) hP h
      refine x_li (z := i) T_139_29 rfl ?_
      refine x_ic T_139_31 ?_
      refine x_ic2 T_139_33 (fun h => absurd (show 1000000 ≤ i from h) (by omega)) (fun _ => ?_)
      refine x_li (z := 0) T_139_36 rfl ?_
      refine x_if T_139_37 (fun h => absurd (show ¬ (0 : Int) = 0 from h) (by decide)) (fun _ => ?_)
      refine x_lr (z := some 2175) T_139_40 rfl ?_
      refine x_lr (z := some 2175) T_139_41 rfl ?_
      refine x_gR (z := some 2178) T_139_42 F_14_2 (hP.o xo_2175) (hP.rc xo_2175 rfl rfl) ?_
      refine x_lr (z := some 2175) T_139_45 rfl ?_
      refine x_gR (z := some 129) T_139_46 F_14_0 (hP.o xo_2175) (hP.rc xo_2175 rfl rfl) ?_
      refine x_lr (z := some 2175) T_139_49 rfl ?_
      refine x_gR (z := some 2178) T_139_50 F_14_2 (hP.o xo_2175) (hP.rc xo_2175 rfl rfl) ?_
      refine x_gI (z := f) T_139_53 (Or.inl F_5_1) (hP.o xo_2178) (Eq.trans (hP.gi xo_2178 (key := 2161) rfl) hf0) ?_
      refine x_ll (z := off) T_139_56 rfl ?_
      refine x_ic T_139_57 ?_
      refine x_cv4 T_139_59 mN_137 mL_137 (Nat.le_of_ble_eq_true rfl) mO_137 (hP.o xo_129) (Nat.le_of_ble_eq_true rfl) (hrd hP) ?_
      clear hP hrd
      rintro _ σ ⟨rfl, V4, hP, hB4, hF4⟩
      refine cR ?_
      refine x_cv3 T_139_62 mN_136 mL_136 (Nat.le_of_ble_eq_true rfl) mO_136 (hP.o xo_2175) (Nat.le_of_ble_eq_true rfl) (hse σ V4 hP hF4 hB4) ?_
      clear hP hse
      rintro _ σ ⟨rfl, V5, V6, hP, hX5, hB5, hF5⟩
      have hT5 := hk2 V4 V5 V6 hF4 hF5 hX5
      refine cI ?_
      refine x_si (ls1 := [some (vR (some 2175)), some (vR (some ot)), some (vI e), some (vL off), none, some (vI i), x6]) T_139_65 rfl ?_
      refine x_li (z := e) T_139_66 rfl ?_
      refine x_if T_139_67 (fun _ => ?_) (fun h => absurd (show ¬ e = 0 by omega) h)
      refine x_ic T_139_87 ?_
      refine x_si (ls1 := [some (vR (some 2175)), some (vR (some ot)), some (vI e), some (vL off), none, some (vI i), some (vI 0)]) T_139_88 rfl ?_
      refine x_li (z := 0) T_139_90 rfl ?_
      refine x_if T_139_92 (fun h => absurd (show ¬ (0 : Int) = 0 from h) (by decide)) (fun _ => ?_)
      refine x_goto T_139_95 ?_
      exact hc σ V5 V6 _ hP hT5
    have q2 : e = 0 := by omega
    subst q2
    rw [if_neg q1] at eK
    have hrok := hrok rfl
    have hml := hml rfl
    have hdir := hdir rfl
    obtain ⟨d1, d2, d3⟩ := hDr rfl
    have hgn := hgn rfl
    obtain ⟨n, hn⟩ : ∃ n : Int, ((rdB A).length : Int) = n := ⟨_, rfl⟩
    rw [hn] at hml hrok
    have hnu := fun (σ : hM) (V5 : qR) (V6 : rR) (hP : PX σ0 V5 V6 σ) (hB : BY V5 134 300 A) (h : 11 ≤ (A.length : Int)) (h2 : nu (lg A) 7 4 = n) => x_num (fb := fb) (d := d + 8) (s := 7) (k := 4) 4 hP hB rfl rfl (by decide) (by decide) (by omega) h2
    by_cases q3 : (rdB A).length = 0
    · rw [if_pos q3] at eK
      rw [eK] at hc
      have hc : ∀ (σ : hM) (V2 : qR) (V4 : rR) (x6 : Option AV), PX σ0 V2 V4 σ → LSX K U W R p (s, f, pa, kd, cp) (T + 4) V2 V4 P1 → WP fb (d + 9) 139 120 [some (vR (some 2175)), some (vR (some ot)), some (vI 0), some (vL off), none, some (vI i), x6] [] σ Qf := fun σ V2 V4 x6 hP h => hc σ V2 V4 off i (T + 4) x6 (by omega) hP h
      have hn0 : n = 0 := by omega
      subst hn0
      refine x_li (z := i) T_139_29 rfl ?_
      refine x_ic T_139_31 ?_
      refine x_ic2 T_139_33 (fun h => absurd (show 1000000 ≤ i from h) (by omega)) (fun _ => ?_)
      refine x_li (z := 0) T_139_36 rfl ?_
      refine x_if T_139_37 (fun h => absurd (show ¬ (0 : Int) = 0 from h) (by decide)) (fun _ => ?_)
      refine x_lr (z := some 2175) T_139_40 rfl ?_
      refine x_lr (z := some 2175) T_139_41 rfl ?_
      refine x_gR (z := some 2178) T_139_42 F_14_2 (hP.o xo_2175) (hP.rc xo_2175 rfl rfl) ?_
      refine x_lr (z := some 2175) T_139_45 rfl ?_
      refine x_gR (z := some 129) T_139_46 F_14_0 (hP.o xo_2175) (hP.rc xo_2175 rfl rfl) ?_
      refine x_lr (z := some 2175) T_139_49 rfl ?_
      refine x_gR (z := some 2178) T_139_50 F_14_2 (hP.o xo_2175) (hP.rc xo_2175 rfl rfl) ?_
      refine x_gI (z := f) T_139_53 (Or.inl F_5_1) (hP.o xo_2178) (Eq.trans (hP.gi xo_2178 (key := 2161) rfl) hf0) ?_
      refine x_ll (z := off) T_139_56 rfl ?_
      refine x_ic T_139_57 ?_
      refine x_cv4 T_139_59 mN_137 mL_137 (Nat.le_of_ble_eq_true rfl) mO_137 (hP.o xo_129) (Nat.le_of_ble_eq_true rfl) (hrd hP) ?_
      clear hP hrd
      rintro _ σ ⟨rfl, V4, hP, hB4, hF4⟩
      refine cR ?_
      refine x_cv3 T_139_62 mN_136 mL_136 (Nat.le_of_ble_eq_true rfl) mO_136 (hP.o xo_2175) (Nat.le_of_ble_eq_true rfl) (hse σ V4 hP hF4 hB4) ?_
      clear hP hse
      rintro _ σ ⟨rfl, V5, V6, hP, hX5, hB5, hF5⟩
      have hT5 := hk2 V4 V5 V6 hF4 hF5 hX5
      have hAl := hB5.2.2.2.2.1
      obtain ⟨r1, r2, r3⟩ := hrok (by omega)
      refine cI ?_
      refine x_si (ls1 := [some (vR (some 2175)), some (vR (some ot)), some (vI 0), some (vL off), none, some (vI i), x6]) T_139_65 rfl ?_
      refine x_li (z := 0) T_139_66 rfl ?_
      refine x_if T_139_67 (fun h => absurd (show ¬ (0 : Int) = 0 from h) (by decide)) (fun _ => ?_)
      refine x_lr (z := some 2175) T_139_70 rfl ?_
      refine x_gR (z := some 129) T_139_71 F_14_0 (hP.o xo_2175) (hP.rc xo_2175 rfl rfl) ?_
      refine x_gR (z := some 134) T_139_74 F_1_2 (hP.o xo_129) (hP.rc xo_129 rfl rfl) ?_
      refine x_ic T_139_77 ?_
      refine x_ic T_139_79 ?_
      refine x_cv3 T_139_80 mN_29 mL_29 (Nat.le_of_ble_eq_true rfl) mO_29 (hP.o xo_134) (Nat.le_of_ble_eq_true rfl) (hnu σ V5 V6 hP hB5 r1 r2) ?_
      rintro _ σ ⟨rfl, rfl⟩
      refine cL ?_
      refine x_l2i (w := 0) T_139_83 (by decide) ?_
      refine x_goto T_139_84 ?_
      refine x_si (ls1 := [some (vR (some 2175)), some (vR (some ot)), some (vI 0), some (vL off), none, some (vI i), some (vI 0)]) T_139_88 rfl ?_
      refine x_li (z := 0) T_139_90 rfl ?_
      refine x_if T_139_92 (fun h => absurd (show ¬ (0 : Int) = 0 from h) (by decide)) (fun _ => ?_)
      refine x_goto T_139_95 ?_
      exact hc σ V5 V6 _ hP hT5
    · rw [if_neg q3] at eK
      obtain ⟨m1, m2, m3⟩ := hml q3
      obtain ⟨i1, i2⟩ := isD_row (Q := oL p P1 (rdB A)) d1 (fun k => gOut_f (by decide) (by decide) _ P1) (fun k => gOut_f (by decide) (by decide) _ P1) (fun k => gOut_f (by decide) (by decide) _ P1) (fun k => gOut_f (by decide) (by decide) _ P1) (fun k => gOut_f (by decide) (by decide) _ P1)
      have hmo : rdMu (oL p P1 (rdB A)) s f (off + n) = rdMu P1 s f (off + n) := rdMu_out (fun f k a b => gOut_f a b _ P1)
      have hmu0 : lsMu Q s f off = rdMu Q s f off := if_pos hgn.2
      have hmu : 0 ≤ lsMu (oL p P1 (rdB A)) s f (off + n) ∧ lsMu (oL p P1 (rdB A)) s f (off + n) ≤ rdMu P1 s f (off + n) := by
        unfold lsMu
        split
        · rw [hmo]
          exact ⟨m1, Int.le_refl _⟩
        · exact ⟨Int.le_refl _, m1⟩
      have hgo := fun (σ : hM) (V5 : qR) (V6 : rR) (x6 : Option AV) (hP : PX σ0 V5 V6 σ) (hT5 : LSX K U W R p (s, f, pa, kd, cp) (T + 4) V5 V6 (oL p P1 (rdB A))) => ih (T + 4) (off + n) (i + 1) σ V5 V6 (oL p P1 (rdB A)) x6 (by omega) (by omega) i1 hmu.1 (by omega) (by omega) (by omega) (by omega) hP hT5 (fun σ V2 V4 off2 i2 T2 x6 b1 b2 b3 => by
        have := hc σ V2 V4 off2 i2 T2 x6 (by omega) b2 (by
          rw [eK]
          show LSX K U W R p (s, f, pa, kd, cp) T2 V2 V4 (kRdl (oL p) s f m (oL p P1 (rdB A)) (off + ((rdB A).length : Int))).2.1
          rw [hn]
          exact b3)
        rw [eK, hn] at this
        exact this)
      have hls := hls n hdir hn (by omega)
      have hmk : ∀ (V5 V7 : qR) (V6 : rR), LSX K U W R p (s, f, pa, kd, cp) (T + 4) V5 V6 P1 → XW K (T + 4) U V7 V6 (oL p P1 (rdB A)) → FB ot V5 V7 → LSX K U W R p (s, f, pa, kd, cp) (T + 4) V7 V6 (oL p P1 (rdB A)) := fun V5 V7 V6 h1 h2 h3 => ⟨h2, h1.2.1.fbw h3, lv_out h1.2.2.1, FCM_tr h1.2.2.2.1 (FCM_fb h3 (by omega)), h1.2.2.2.2⟩
      refine x_li (z := i) T_139_29 rfl ?_
      refine x_ic T_139_31 ?_
      refine x_ic2 T_139_33 (fun h => absurd (show 1000000 ≤ i from h) (by omega)) (fun _ => ?_)
      refine x_li (z := 0) T_139_36 rfl ?_
      refine x_if T_139_37 (fun h => absurd (show ¬ (0 : Int) = 0 from h) (by decide)) (fun _ => ?_)
      refine x_lr (z := some 2175) T_139_40 rfl ?_
      refine x_lr (z := some 2175) T_139_41 rfl ?_
      refine x_gR (z := some 2178) T_139_42 F_14_2 (hP.o xo_2175) (hP.rc xo_2175 rfl rfl) ?_
      refine x_lr (z := some 2175) T_139_45 rfl ?_
      refine x_gR (z := some 129) T_139_46 F_14_0 (hP.o xo_2175) (hP.rc xo_2175 rfl rfl) ?_
      refine x_lr (z := some 2175) T_139_49 rfl ?_
      refine x_gR (z := some 2178) T_139_50 F_14_2 (hP.o xo_2175) (hP.rc xo_2175 rfl rfl) ?_
      refine x_gI (z := f) T_139_53 (Or.inl F_5_1) (hP.o xo_2178) (Eq.trans (hP.gi xo_2178 (key := 2161) rfl) hf0) ?_
      refine x_ll (z := off) T_139_56 rfl ?_
      refine x_ic T_139_57 ?_
      refine x_cv4 T_139_59 mN_137 mL_137 (Nat.le_of_ble_eq_true rfl) mO_137 (hP.o xo_129) (Nat.le_of_ble_eq_true rfl) (hrd hP) ?_
      clear hP hrd
      rintro _ σ ⟨rfl, V4, hP, hB4, hF4⟩
      refine cR ?_
      refine x_cv3 T_139_62 mN_136 mL_136 (Nat.le_of_ble_eq_true rfl) mO_136 (hP.o xo_2175) (Nat.le_of_ble_eq_true rfl) (hse σ V4 hP hF4 hB4) ?_
      clear hP hse
      rintro _ σ ⟨rfl, V5, V6, hP, hX5, hB5, hF5⟩
      have hT5 := hk2 V4 V5 V6 hF4 hF5 hX5
      have hAl := hB5.2.2.2.2.1
      obtain ⟨r1, r2, r3⟩ := hrok (by omega)
      refine cI ?_
      refine x_si (ls1 := [some (vR (some 2175)), some (vR (some ot)), some (vI 0), some (vL off), none, some (vI i), x6]) T_139_65 rfl ?_
      refine x_li (z := 0) T_139_66 rfl ?_
      refine x_if T_139_67 (fun h => absurd (show ¬ (0 : Int) = 0 from h) (by decide)) (fun _ => ?_)
      refine x_lr (z := some 2175) T_139_70 rfl ?_
      refine x_gR (z := some 129) T_139_71 F_14_0 (hP.o xo_2175) (hP.rc xo_2175 rfl rfl) ?_
      refine x_gR (z := some 134) T_139_74 F_1_2 (hP.o xo_129) (hP.rc xo_129 rfl rfl) ?_
      refine x_ic T_139_77 ?_
      refine x_ic T_139_79 ?_
      refine x_cv3 T_139_80 mN_29 mL_29 (Nat.le_of_ble_eq_true rfl) mO_29 (hP.o xo_134) (Nat.le_of_ble_eq_true rfl) (hnu σ V5 V6 hP hB5 r1 r2) ?_
      rintro _ σ ⟨rfl, rfl⟩
      refine cL ?_
      refine x_l2i (w := n) T_139_83 (w32_id (by omega) (by omega)) ?_
      refine x_goto T_139_84 ?_
      refine x_si (ls1 := [some (vR (some 2175)), some (vR (some ot)), some (vI 0), some (vL off), none, some (vI i), some (vI n)]) T_139_88 rfl ?_
      refine x_li (z := n) T_139_90 rfl ?_
      refine x_if T_139_92 (fun _ => ?_) (fun h => absurd (show ¬ n = 0 by omega) h)
      refine x_lr (z := some 2175) T_139_98 rfl ?_
      refine x_lr (z := some ot) T_139_99 rfl ?_
      refine x_ic T_139_100 ?_
      refine x_li (z := n) T_139_102 rfl ?_
      refine x_ib (w := (11 + n)) T_139_104 (fun h => absurd h.1 (by decide)) (w32_id (by omega) (by omega)) ?_
      refine x_cv3 T_139_105 mN_140 mL_140 (Nat.le_of_ble_eq_true rfl) mO_140 (hP.o xo_2175) (Nat.le_of_ble_eq_true rfl) (hls (by omega) σ V5 V6 hP hX5 hB5) ?_
      clear hP hls
      rintro _ σ ⟨rfl, V7, hP, hX7, hF7⟩
      refine cV ?_
      refine x_ll (z := off) T_139_108 rfl ?_
      refine x_li (z := n) T_139_109 rfl ?_
      refine x_i2l T_139_111 ?_
      refine x_lb (w := off + n) T_139_112 (fun h => absurd h.1 (by decide)) (w64_id (by omega) (by omega)) ?_
      refine x_sl (ls1 := [some (vR (some 2175)), some (vR (some ot)), some (vI 0), some (vL (off + n)), none, some (vI i), some (vI n)]) T_139_113 rfl ?_
      refine x_inc (w := (i + 1)) (ls1 := [some (vR (some 2175)), some (vR (some ot)), some (vI 0), some (vL (off + n)), none, some (vI (i + 1)), some (vI n)]) T_139_114 rfl (w32_id (by omega) (by omega)) rfl ?_
      refine x_goto T_139_117 ?_
      exact hgo σ V7 V6 _ hP (hmk V5 V7 V6 hT5 hX7 hF7)
theorem x_list (hp : 0 ≤ p ∧ p < 8) (hcr : chR (s, f, pa, kd, cp)) (hD : isD Q s f) (hT : T + 700 ≤ 2147483000) (hP : PX σ0 V V3 σ) (hTG : LSX K U W R p (s, f, pa, kd, cp) T V V3 Q) : CL fb (d + 9) 139 [vR (some 2175), vR (some (prO p + 3))] σ (fun r σ' => r = some (vI (cList Q p (s, f, pa, kd, cp)).1) ∧ ∃ V7 V8, PX σ0 V7 V8 σ' ∧ XW K (T + 268) U V7 V8 (kDrop (cList Q p (s, f, pa, kd, cp)).2 (s, f, pa, kd, cp)) ∧ ¬ (cList Q p (s, f, pa, kd, cp)).2 2320 p = 0 ∧ FCM W V7 R V8 ∧ RG R V8) := by
  obtain ⟨hX, hch, hlv, -⟩ := id hTG
  obtain ⟨hs, hf, -⟩ := id hcr
  have hs : 0 ≤ s ∧ s < 3 := hs
  have hf : 0 ≤ f ∧ f ≤ 47 := hf
  have hf0 : V 2178 2161 = f := hch.2.1
  have hot3 : tX (prO p + 3) = some (Sum.inl 2) := (LIV_out hX hp hlv).1
  have hfin : ∀ (e : Int) (Q2 : qR) (σ : hM) (V5 : qR) (V6 : rR) (off2 i2 : Int) (x6 : Option AV), PX σ0 V5 V6 σ → LSX K U W R p (s, f, pa, kd, cp) (T + 264) V5 V6 Q2 → WP fb (d + 9) 139 120 [some (vR (some 2175)), some (vR (some (prO p + 3))), some (vI e), some (vL off2), none, some (vI i2), x6] [] σ (fun r σ' => r = some (vI e) ∧ ∃ V7 V8, PX σ0 V7 V8 σ' ∧ XW K (T + 268) U V7 V8 (kDrop Q2 (s, f, pa, kd, cp)) ∧ ¬ Q2 2320 p = 0 ∧ FCM W V7 R V8 ∧ RG R V8) := fun e Q2 σ V5 V6 off2 i2 x6 hP hTG => by
    have hck := (x_clunk1 (fb := fb) (d := d) hP hTG.1 (by omega) hTG.2.1 hcr).mono (Q := fun r σ' => ∃ e, r = some (vI e) ∧ ∃ W2 R2, PX σ0 W2 R2 σ' ∧ XW K (T + 264 + 4) U W2 R2 (kDrop Q2 (s, f, pa, kd, cp)) ∧ FA V5 W2 V6 R2) (fun r σ' h => ⟨_, h.1, h.2⟩)
    obtain ⟨ot, hot⟩ : ∃ q, prO p + 3 = q := ⟨_, rfl⟩
    rw [hot] at hot3 ⊢
    refine x_lr (z := some 2175) T_139_120 rfl ?_
    refine x_gR (z := some 129) T_139_121 F_14_0 (hP.o xo_2175) (hP.rc xo_2175 rfl rfl) ?_
    refine x_lr (z := some 2175) T_139_124 rfl ?_
    refine x_gR (z := some 2178) T_139_125 F_14_2 (hP.o xo_2175) (hP.rc xo_2175 rfl rfl) ?_
    refine x_cv2 T_139_128 mN_132 mL_132 (Nat.le_of_ble_eq_true rfl) mO_132 (hP.o xo_129) (Nat.le_of_ble_eq_true rfl) (hck) ?_
    clear hP hck
    rintro _ σ ⟨e3, rfl, V7, V8, hP, hX7, hF7⟩
    refine cI ?_
    refine x_popI T_139_131 ?_
    refine x_li (z := e) T_139_132 rfl ?_
    refine x_ri T_139_133 ?_
    exact ⟨rfl, V7, V8, hP, XW.mono hX7 (by omega), hTG.2.2.1, FCM_tr hTG.2.2.2.1 (FCM_fa hF7), RG_tr hTG.2.2.2.2 (RG_fa hF7)⟩
  have hom := x_openingM (fb := fb) (d := d + 5) (f := f) (md := 0) hP ⟨by omega, by omega⟩ (by decide)
  have hse := fun (σ : hM) (V4 : qR) (hP : PX σ0 V4 V3 σ) (hF : FR1 V V4) (hB : BY V4 138 300 (mFr (mOpen f 0))) => mOpen_s (fb := fb) (d := d) hP (hX.fr1 hF) (by omega) (hch.sf hF (by decide)).1 one_o hs hB
  have hk2 := fun (V4 V5 : qR) (V6 : rR) (hF : FR1 V V4) (hF5 : FVS 134 V4 V5 V3 V6) (hX5 : XW K (T + 4) U V5 V6 (tP Q s (mOpen f 0))) => hTG.msg hcr (FA_tr (FA_fr hF) (FA_fs hF5)) hX5
  have her : 0 ≤ tE Q s (mOpen f 0) := tE_rng.1
  have hDo := isD_op (P := Q) (s := s) (fd := f) hD
  have eK : cList Q p (s, f, pa, kd, cp) = if 0 < tE Q s (mOpen f 0) then (tE Q s (mOpen f 0), tP Q s (mOpen f 0)) else ((kRdl (oL p) s f 65 (tP Q s (mOpen f 0)) 0).1, (kRdl (oL p) s f 65 (tP Q s (mOpen f 0)) 0).2.1) := rfl
  rw [eK]
  obtain ⟨P1, hP1⟩ : ∃ P1, tP Q s (mOpen f 0) = P1 := ⟨_, rfl⟩
  obtain ⟨e, he⟩ : ∃ e, tE Q s (mOpen f 0) = e := ⟨_, rfl⟩
  simp only [he, hP1] at hse her hk2 hDo ⊢
  have hmu := lsMu_0 hDo
  by_cases q2 : e = 0
  · subst q2
    rw [if_neg (show ¬ (0 : Int) < 0 by decide)]
    have hgo := fun (σ : hM) (V5 : qR) (V6 : rR) (hP : PX σ0 V5 V6 σ) (hT5 : LSX K U W R p (s, f, pa, kd, cp) (T + 4) V5 V6 P1) => x_list_loop (fb := fb) (d := d) hp hcr 65 (T + 4) 0 0 σ V5 V6 P1 none (by decide) (by decide) hDo hmu.1 (by show _ < ((65 : Nat) : Int); omega) (by decide) (by decide) (by omega) hP hT5 (fun σ V2 V4 off2 i2 T2 x6 b1 b2 b3 => hfin _ _ σ V2 V4 off2 i2 x6 b2 (b3.up (by omega)))
    obtain ⟨ot, hot⟩ : ∃ q, prO p + 3 = q := ⟨_, rfl⟩
    simp only [hot] at hot3 hgo ⊢
    refine CL_in mL_139 rfl ?_
    show WP fb _ 139 0 [some (vR (some 2175)), some (vR (some ot)), none, none, none, none, none] [] σ _
    refine x_lr (z := some 2175) T_139_0 rfl ?_
    refine x_lr (z := some 2175) T_139_1 rfl ?_
    refine x_gR (z := some 2178) T_139_2 F_14_2 (hP.o xo_2175) (hP.rc xo_2175 rfl rfl) ?_
    refine x_lr (z := some 2175) T_139_5 rfl ?_
    refine x_gR (z := some 129) T_139_6 F_14_0 (hP.o xo_2175) (hP.rc xo_2175 rfl rfl) ?_
    refine x_lr (z := some 2175) T_139_9 rfl ?_
    refine x_gR (z := some 2178) T_139_10 F_14_2 (hP.o xo_2175) (hP.rc xo_2175 rfl rfl) ?_
    refine x_gI (z := f) T_139_13 (Or.inl F_5_1) (hP.o xo_2178) (Eq.trans (hP.gi xo_2178 (key := 2161) rfl) hf0) ?_
    refine x_ic T_139_16 ?_
    refine x_cv3 T_139_17 mN_135 mL_135 (Nat.le_of_ble_eq_true rfl) mO_135 (hP.o xo_129) (Nat.le_of_ble_eq_true rfl) (hom) ?_
    clear hP hom
    rintro _ σ ⟨rfl, V4, hP, hB4, hF4⟩
    refine cR ?_
    refine x_cv3 T_139_20 mN_136 mL_136 (Nat.le_of_ble_eq_true rfl) mO_136 (hP.o xo_2175) (Nat.le_of_ble_eq_true rfl) (hse σ V4 hP hF4 hB4) ?_
    clear hP hse
    rintro _ σ ⟨rfl, V5, V6, hP, hX5, hB5, hF5⟩
    refine cI ?_
    refine x_si (ls1 := [some (vR (some 2175)), some (vR (some ot)), some (vI 0), none, none, none, none]) T_139_23 rfl ?_
    refine x_lc T_139_24 ?_
    refine x_sl (ls1 := [some (vR (some 2175)), some (vR (some ot)), some (vI 0), some (vL 0), none, none, none]) T_139_25 rfl ?_
    refine x_ic T_139_26 ?_
    refine x_si (ls1 := [some (vR (some 2175)), some (vR (some ot)), some (vI 0), some (vL 0), none, some (vI 0), none]) T_139_27 rfl ?_
    exact hgo σ V5 V6 hP (hk2 V4 V5 V6 hF4 hF5 hX5)
  · rw [if_pos (show 0 < e by omega)]
    obtain ⟨ot, hot⟩ : ∃ q, prO p + 3 = q := ⟨_, rfl⟩
    simp only [hot] at hot3 hfin ⊢
    refine CL_in mL_139 rfl ?_
    show WP fb _ 139 0 [some (vR (some 2175)), some (vR (some ot)), none, none, none, none, none] [] σ _
    refine x_lr (z := some 2175) T_139_0 rfl ?_
    refine x_lr (z := some 2175) T_139_1 rfl ?_
    refine x_gR (z := some 2178) T_139_2 F_14_2 (hP.o xo_2175) (hP.rc xo_2175 rfl rfl) ?_
    refine x_lr (z := some 2175) T_139_5 rfl ?_
    refine x_gR (z := some 129) T_139_6 F_14_0 (hP.o xo_2175) (hP.rc xo_2175 rfl rfl) ?_
    refine x_lr (z := some 2175) T_139_9 rfl ?_
    refine x_gR (z := some 2178) T_139_10 F_14_2 (hP.o xo_2175) (hP.rc xo_2175 rfl rfl) ?_
    refine x_gI (z := f) T_139_13 (Or.inl F_5_1) (hP.o xo_2178) (Eq.trans (hP.gi xo_2178 (key := 2161) rfl) hf0) ?_
    refine x_ic T_139_16 ?_
    refine x_cv3 T_139_17 mN_135 mL_135 (Nat.le_of_ble_eq_true rfl) mO_135 (hP.o xo_129) (Nat.le_of_ble_eq_true rfl) (hom) ?_
    clear hP hom
    rintro _ σ ⟨rfl, V4, hP, hB4, hF4⟩
    refine cR ?_
    refine x_cv3 T_139_20 mN_136 mL_136 (Nat.le_of_ble_eq_true rfl) mO_136 (hP.o xo_2175) (Nat.le_of_ble_eq_true rfl) (hse σ V4 hP hF4 hB4) ?_
    clear hP hse
    rintro _ σ ⟨rfl, V5, V6, hP, hX5, hB5, hF5⟩
    refine cI ?_
    refine x_si (ls1 := [some (vR (some 2175)), some (vR (some ot)), some (vI e), none, none, none, none]) T_139_23 rfl ?_
    refine x_lc T_139_24 ?_
    refine x_sl (ls1 := [some (vR (some 2175)), some (vR (some ot)), some (vI e), some (vL 0), none, none, none]) T_139_25 rfl ?_
    refine x_ic T_139_26 ?_
    refine x_si (ls1 := [some (vR (some 2175)), some (vR (some ot)), some (vI e), some (vL 0), none, some (vI 0), none]) T_139_27 rfl ?_
    refine x_li (z := 0) T_139_29 rfl ?_
    refine x_ic T_139_31 ?_
    refine x_ic2 T_139_33 (fun h => absurd (show 1000000 ≤ (0 : Int) from h) (by decide)) (fun _ => ?_)
    refine x_li (z := e) T_139_36 rfl ?_
    refine x_if T_139_37 (fun _ => ?_) (fun h => absurd (show ¬ e = 0 by exact q2) h)
    exact hfin e P1 σ V5 V6 _ _ _ hP ((hk2 V4 V5 V6 hF4 hF5 hX5).up (by omega))
end XLSU
