/-! The class's commands: a file's bytes are read on and on; cat. -/
theorem T_133_0 : hTab 133 0 = some ((3, 2, 2, []), 1) := rfl
theorem T_133_1 : hTab 133 1 = some ((24, 16, Int.ofNat 4, []), 4) := rfl
theorem T_133_4 : hTab 133 4 = some ((0, 0, 2, []), 5) := rfl
theorem T_133_5 : hTab 133 5 = some ((19, 0, Int.ofNat 11, []), 8) := rfl
theorem T_133_11 : hTab 133 11 = some ((3, 0, 2, []), 12) := rfl
theorem T_133_12 : hTab 133 12 = some ((24, 14, Int.ofNat 0, []), 15) := rfl
theorem T_133_15 : hTab 133 15 = some ((3, 1, 2, []), 16) := rfl
theorem T_133_16 : hTab 133 16 = some ((3, 2, 2, []), 17) := rfl
theorem T_133_17 : hTab 133 17 = some ((0, 0, 1, []), 18) := rfl
theorem T_133_18 : hTab 133 18 = some ((3, 0, 2, []), 19) := rfl
theorem T_133_19 : hTab 133 19 = some ((24, 14, Int.ofNat 2, []), 22) := rfl
theorem T_133_22 : hTab 133 22 = some ((0, 0, 1, []), 23) := rfl
theorem T_133_23 : hTab 133 23 = some ((31, 117, 0, []), 26) := rfl
theorem T_133_26 : hTab 133 26 = some ((4, 3, 0, []), 27) := rfl
theorem T_133_27 : hTab 133 27 = some ((3, 3, 0, []), 28) := rfl
theorem T_133_28 : hTab 133 28 = some ((18, 1, Int.ofNat 42, []), 31) := rfl
theorem T_133_31 : hTab 133 31 = some ((3, 0, 2, []), 32) := rfl
theorem T_133_32 : hTab 133 32 = some ((3, 1, 2, []), 33) := rfl
theorem T_133_33 : hTab 133 33 = some ((24, 6, Int.ofNat 2, []), 36) := rfl
theorem T_133_36 : hTab 133 36 = some ((31, 134, 0, []), 39) := rfl
theorem T_133_39 : hTab 133 39 = some ((22, 0, Int.ofNat 43, []), 42) := rfl
theorem T_133_42 : hTab 133 42 = some ((3, 3, 0, []), 43) := rfl
theorem T_133_43 : hTab 133 43 = some ((33, 1, 0, []), 44) := rfl
theorem T_134_0 : hTab 134 0 = some ((3, 0, 2, []), 1) := rfl
theorem T_134_1 : hTab 134 1 = some ((24, 14, Int.ofNat 2, []), 4) := rfl
theorem T_134_4 : hTab 134 4 = some ((24, 5, Int.ofNat 3, []), 7) := rfl
theorem T_134_7 : hTab 134 7 = some ((18, 0, Int.ofNat 15, []), 10) := rfl
theorem T_134_10 : hTab 134 10 = some ((0, 0, 10, []), 12) := rfl
theorem T_134_12 : hTab 134 12 = some ((22, 0, Int.ofNat 38, []), 15) := rfl
theorem T_134_15 : hTab 134 15 = some ((3, 0, 2, []), 16) := rfl
theorem T_134_16 : hTab 134 16 = some ((3, 0, 2, []), 17) := rfl
theorem T_134_17 : hTab 134 17 = some ((24, 14, Int.ofNat 2, []), 20) := rfl
theorem T_134_20 : hTab 134 20 = some ((3, 0, 2, []), 21) := rfl
theorem T_134_21 : hTab 134 21 = some ((24, 14, Int.ofNat 0, []), 24) := rfl
theorem T_134_24 : hTab 134 24 = some ((3, 0, 2, []), 25) := rfl
theorem T_134_25 : hTab 134 25 = some ((24, 14, Int.ofNat 2, []), 28) := rfl
theorem T_134_28 : hTab 134 28 = some ((24, 5, Int.ofNat 1, []), 31) := rfl
theorem T_134_31 : hTab 134 31 = some ((0, 0, 0, []), 32) := rfl
theorem T_134_32 : hTab 134 32 = some ((31, 135, 0, []), 35) := rfl
theorem T_134_35 : hTab 134 35 = some ((31, 136, 0, []), 38) := rfl
theorem T_134_38 : hTab 134 38 = some ((4, 2, 0, []), 39) := rfl
theorem T_134_39 : hTab 134 39 = some ((1, 0, 0, []), 40) := rfl
theorem T_134_40 : hTab 134 40 = some ((4, 3, 1, []), 41) := rfl
theorem T_134_41 : hTab 134 41 = some ((0, 0, 0, []), 42) := rfl
theorem T_134_42 : hTab 134 42 = some ((4, 5, 0, []), 44) := rfl
theorem T_134_44 : hTab 134 44 = some ((3, 5, 0, []), 46) := rfl
theorem T_134_46 : hTab 134 46 = some ((0, 0, 1000000, []), 48) := rfl
theorem T_134_48 : hTab 134 48 = some ((19, 3, Int.ofNat 144, []), 51) := rfl
theorem T_134_51 : hTab 134 51 = some ((3, 2, 0, []), 52) := rfl
theorem T_134_52 : hTab 134 52 = some ((18, 1, Int.ofNat 144, []), 55) := rfl
theorem T_134_55 : hTab 134 55 = some ((3, 0, 2, []), 56) := rfl
theorem T_134_56 : hTab 134 56 = some ((3, 0, 2, []), 57) := rfl
theorem T_134_57 : hTab 134 57 = some ((24, 14, Int.ofNat 2, []), 60) := rfl
theorem T_134_60 : hTab 134 60 = some ((3, 0, 2, []), 61) := rfl
theorem T_134_61 : hTab 134 61 = some ((24, 14, Int.ofNat 0, []), 64) := rfl
theorem T_134_64 : hTab 134 64 = some ((3, 0, 2, []), 65) := rfl
theorem T_134_65 : hTab 134 65 = some ((24, 14, Int.ofNat 2, []), 68) := rfl
theorem T_134_68 : hTab 134 68 = some ((24, 5, Int.ofNat 1, []), 71) := rfl
theorem T_134_71 : hTab 134 71 = some ((3, 3, 1, []), 72) := rfl
theorem T_134_72 : hTab 134 72 = some ((0, 0, 100, []), 74) := rfl
theorem T_134_74 : hTab 134 74 = some ((31, 137, 0, []), 77) := rfl
theorem T_134_77 : hTab 134 77 = some ((31, 136, 0, []), 80) := rfl
theorem T_134_80 : hTab 134 80 = some ((4, 2, 0, []), 81) := rfl
theorem T_134_81 : hTab 134 81 = some ((3, 2, 0, []), 82) := rfl
theorem T_134_82 : hTab 134 82 = some ((18, 1, Int.ofNat 102, []), 85) := rfl
theorem T_134_85 : hTab 134 85 = some ((3, 0, 2, []), 86) := rfl
theorem T_134_86 : hTab 134 86 = some ((24, 14, Int.ofNat 0, []), 89) := rfl
theorem T_134_89 : hTab 134 89 = some ((24, 1, Int.ofNat 2, []), 92) := rfl
theorem T_134_92 : hTab 134 92 = some ((0, 0, 7, []), 94) := rfl
theorem T_134_94 : hTab 134 94 = some ((0, 0, 4, []), 95) := rfl
theorem T_134_95 : hTab 134 95 = some ((31, 29, 0, []), 98) := rfl
theorem T_134_98 : hTab 134 98 = some ((15, 0, 0, []), 99) := rfl
theorem T_134_99 : hTab 134 99 = some ((22, 0, Int.ofNat 103, []), 102) := rfl
theorem T_134_102 : hTab 134 102 = some ((0, 0, 0, []), 103) := rfl
theorem T_134_103 : hTab 134 103 = some ((4, 6, 0, []), 105) := rfl
theorem T_134_105 : hTab 134 105 = some ((3, 6, 0, []), 107) := rfl
theorem T_134_107 : hTab 134 107 = some ((18, 1, Int.ofNat 113, []), 110) := rfl
theorem T_134_110 : hTab 134 110 = some ((22, 0, Int.ofNat 144, []), 113) := rfl
theorem T_134_113 : hTab 134 113 = some ((3, 1, 2, []), 114) := rfl
theorem T_134_114 : hTab 134 114 = some ((3, 0, 2, []), 115) := rfl
theorem T_134_115 : hTab 134 115 = some ((24, 14, Int.ofNat 0, []), 118) := rfl
theorem T_134_118 : hTab 134 118 = some ((24, 1, Int.ofNat 2, []), 121) := rfl
theorem T_134_121 : hTab 134 121 = some ((0, 0, 11, []), 123) := rfl
theorem T_134_123 : hTab 134 123 = some ((0, 0, 11, []), 125) := rfl
theorem T_134_125 : hTab 134 125 = some ((3, 6, 0, []), 127) := rfl
theorem T_134_127 : hTab 134 127 = some ((10, 0, 0, []), 128) := rfl
theorem T_134_128 : hTab 134 128 = some ((31, 32, 0, []), 131) := rfl
theorem T_134_131 : hTab 134 131 = some ((7, 0, 0, []), 132) := rfl
theorem T_134_132 : hTab 134 132 = some ((3, 3, 1, []), 133) := rfl
theorem T_134_133 : hTab 134 133 = some ((3, 6, 0, []), 135) := rfl
theorem T_134_135 : hTab 134 135 = some ((14, 0, 0, []), 136) := rfl
theorem T_134_136 : hTab 134 136 = some ((11, 0, 0, []), 137) := rfl
theorem T_134_137 : hTab 134 137 = some ((4, 3, 1, []), 138) := rfl
theorem T_134_138 : hTab 134 138 = some ((5, 5, 1, []), 141) := rfl
theorem T_134_141 : hTab 134 141 = some ((22, 0, Int.ofNat 44, []), 144) := rfl
theorem T_134_144 : hTab 134 144 = some ((3, 0, 2, []), 145) := rfl
theorem T_134_145 : hTab 134 145 = some ((24, 14, Int.ofNat 0, []), 148) := rfl
theorem T_134_148 : hTab 134 148 = some ((3, 0, 2, []), 149) := rfl
theorem T_134_149 : hTab 134 149 = some ((24, 14, Int.ofNat 2, []), 152) := rfl
theorem T_134_152 : hTab 134 152 = some ((31, 132, 0, []), 155) := rfl
theorem T_134_155 : hTab 134 155 = some ((7, 0, 0, []), 156) := rfl
theorem T_134_156 : hTab 134 156 = some ((3, 2, 0, []), 157) := rfl
theorem T_134_157 : hTab 134 157 = some ((33, 1, 0, []), 158) := rfl
theorem mN_133 : hmN 133 = 3 := by decide +kernel
theorem mL_133 : hmL 133 = 4 := by decide +kernel
theorem mK_133 : hmK 133 = 1 := by decide +kernel
theorem mO_133 : hmO 133 = 14 := by decide +kernel
theorem mN_134 : hmN 134 = 2 := by decide +kernel
theorem mL_134 : hmL 134 = 7 := by decide +kernel
theorem mK_134 : hmK 134 = 1 := by decide +kernel
theorem mO_134 : hmO 134 = 14 := by decide +kernel
/-- what comes of reading a file whole -/
def pouR (o : qR → List Int → qR) (Q : qR) (s f kd : Int) : Int × qR × List Int := if ¬ and32 kd 128 = 0 then (10, Q, []) else if 0 < tE Q s (mOpen f 0) then (tE Q s (mOpen f 0), tP Q s (mOpen f 0), []) else kRdl o s f 601 (tP Q s (mOpen f 0)) 0
section XPOU
variable {fb : Bool} {d S b c q n a0 m k tb : Nat} {σ0 σ : hM} {W W0 W1 W2 V V1 P Q : qR} {R R1 R2 V3 : rR} {i j x z v s e w f g u p p2 K T U t a dd pa kd cp dr md off : Int} {l l0 lo nm M wd A : List Int} {o : qR → List Int → qR} {TG : Int → qR → rR → qR → List Int → Prop}
theorem x_pour_loop (h1 : ∀ (T : Int) (V : qR) (V3 : rR) (Q : qR) (l : List Int), TG T V V3 Q l → XW K T U V V3 Q ∧ CHX V V3 2178 (s, f, pa, kd, cp)) (h2 : ∀ (T : Int) (V : qR) (V3 : rR) (Q : qR) (l : List Int) (V2 : qR) (V4 : rR) (M : List Int), TG T V V3 Q l → FA V V2 V3 V4 → XW K (T + 4) U V2 V4 (tP Q s M) → TG (T + 4) V2 V4 (tP Q s M) l) (h3 : ∀ (T : Int) (V : qR) (V3 : rR) (Q : qR) (l A : List Int) (e : Int) (σ : hM), PX σ0 V V3 σ → TG T V V3 Q l → BY V 134 300 A → 11 ≤ e → e ≤ A.length → CL fb (d + 8) 32 [vR (some tb), vR (some 134), vI 11, vI e] σ (fun r σ' => ∃ e2, r = some (vI e2) ∧ ∃ V2, PX σ0 V2 V3 σ' ∧ TG T V2 V3 (o Q (seg (lg A) 11 (e - 11).toNat)) (l ++ seg (lg A) 11 (e - 11).toNat))) (h4 : ∀ (Q : qR) (b : List Int) (off : Int), rdMu (o Q b) s f off = rdMu Q s f off) (hcr : chR (s, f, pa, kd, cp)) (htb : tX tb = some (Sum.inl 2)) {Qf : Option AV → hM → Prop} : ∀ (m : Nat) (T off i : Int) (l : List Int) (σ : hM) (V : qR) (V3 : rR) (Q : qR) (x6 : Option AV), i + m ≤ 1000000 → 0 ≤ i → 0 ≤ rdMu Q s f off → rdMu Q s f off < m → 0 ≤ off → off + 100 * m ≤ 1000000 → T + 4 * m + 110 ≤ 2147483000 → PX σ0 V V3 σ → TG T V V3 Q l → (∀ (σ : hM) (V2 : qR) (V4 : rR) (off2 i2 T2 : Int) (x6 : Option AV), T2 ≤ T + 4 * m → PX σ0 V2 V4 σ → TG T2 V2 V4 (kRdl o s f m Q off).2.1 (l ++ (kRdl o s f m Q off).2.2) → WP fb (d + 9) 134 144 [some (vR (some 2175)), some (vR (some tb)), some (vI (kRdl o s f m Q off).1), some (vL off2), none, some (vI i2), x6] [] σ Qf) → WP fb (d + 9) 134 44 [some (vR (some 2175)), some (vR (some tb)), some (vI 0), some (vL off), none, some (vI i), x6] [] σ Qf := by
  intro m
  induction m with
  | zero =>
    intro T off i l σ V V3 Q x6 a1 a2 a3 a4
    have a4 : rdMu Q s f off < ((0 : Nat) : Int) := a4
    omega
  | succ m ih =>
    intro T off i l σ V V3 Q x6 a1 a2 a3 a4 a5 a6 a7 hP hTG hc
    obtain ⟨hX, hch⟩ := h1 _ _ _ _ _ hTG
    obtain ⟨hs, hf, -⟩ := id hcr
    have hs : 0 ≤ s ∧ s < 3 := hs
    have hf : 0 ≤ f ∧ f ≤ 47 := hf
    have hf0 : V 2178 2161 = f := hch.2.1
    have hrd := fun (hP : PX σ0 V V3 σ) => x_reading (fb := fb) (d := d + 5) (f := f) (x := off) (n := 100) hP ⟨by omega, by omega⟩ ⟨by omega, by omega⟩ (by decide)
    have hse := fun (σ : hM) (V4 : qR) (hP : PX σ0 V4 V3 σ) (hF : FR1 V V4) (hB : BY V4 138 300 (mFr (mRead f off 100))) => mRead_s (fb := fb) (d := d) hP (hX.fr1 hF) (by omega) (hch.sf hF (by decide)).1 one_o hs hB
    have hml := rdMu_less hX.1.2.2.2.1 hs (fd := f) (off := off) ⟨by omega, by omega⟩ ⟨by omega, by omega⟩
    have hrok := rd_ok (P := Q) (s := s) (fd := f) (off := off) (n := 100)
    have her : 0 ≤ tE Q s (mRead f off 100) := tE_rng.1
    have hk2 := fun (V4 V5 : qR) (V6 : rR) (hF : FR1 V V4) (hF5 : FVS 134 V4 V5 V3 V6) (hX5 : XW K (T + 4) U V5 V6 (tP Q s (mRead f off 100))) => h2 T V V3 Q l V5 V6 (mRead f off 100) hTG (FA_tr (FA_fr hF) (FA_fs hF5)) hX5
    have eK : kRdl o s f (m + 1) Q off = if 0 < tE Q s (mRead f off 100) then (tE Q s (mRead f off 100), tP Q s (mRead f off 100), []) else if (rdB (tA Q s (mRead f off 100))).length = 0 then (0, tP Q s (mRead f off 100), []) else ((kRdl o s f m (o (tP Q s (mRead f off 100)) (rdB (tA Q s (mRead f off 100)))) (off + ((rdB (tA Q s (mRead f off 100))).length : Int))).1, (kRdl o s f m (o (tP Q s (mRead f off 100)) (rdB (tA Q s (mRead f off 100)))) (off + ((rdB (tA Q s (mRead f off 100))).length : Int))).2.1, rdB (tA Q s (mRead f off 100)) ++ (kRdl o s f m (o (tP Q s (mRead f off 100)) (rdB (tA Q s (mRead f off 100)))) (off + ((rdB (tA Q s (mRead f off 100))).length : Int))).2.2) := rfl
    obtain ⟨A, hA⟩ : ∃ A, tA Q s (mRead f off 100) = A := ⟨_, rfl⟩
    obtain ⟨P1, hP1⟩ : ∃ P1, tP Q s (mRead f off 100) = P1 := ⟨_, rfl⟩
    obtain ⟨e, he⟩ : ∃ e, tE Q s (mRead f off 100) = e := ⟨_, rfl⟩
    simp only [he, hA, hP1] at hse hrok hml her hk2 eK
    by_cases q1 : 0 < e
    · rw [if_pos q1] at eK
      rw [eK] at hc
      have hc := fun (σ : hM) (V2 : qR) (V4 : rR) (x6 : Option AV) (hP : PX σ0 V2 V4 σ) (h : TG (T + 4) V2 V4 P1 l) => hc σ V2 V4 off i (T + 4) x6 (by omega) hP (by show TG (T + 4) V2 V4 P1 (l ++ []); rw [List.append_nil]; exact h)
      have hc : ∀ (σ : hM) (V2 : qR) (V4 : rR) (x6 : Option AV), PX σ0 V2 V4 σ → TG (T + 4) V2 V4 P1 l → WP fb (d + 9) 134 144 [some (vR (some 2175)), some (vR (some tb)), some (vI e), some (vL off), none, some (vI i), x6] [] σ Qf := hc
      refine x_li (z := i) T_134_44 rfl ?_
      refine x_ic T_134_46 ?_
      refine x_ic2 T_134_48 (fun h => absurd (show 1000000 ≤ i from h) (by omega)) (fun _ => ?_)
      refine x_li (z := 0) T_134_51 rfl ?_
      refine x_if T_134_52 (fun h => absurd (show ¬ (0 : Int) = 0 from h) (by decide)) (fun _ => ?_)
      refine x_lr (z := some 2175) T_134_55 rfl ?_
      refine x_lr (z := some 2175) T_134_56 rfl ?_
      refine x_gR (z := some 2178) T_134_57 F_14_2 (hP.o xo_2175) (hP.rc xo_2175 rfl rfl) ?_
      refine x_lr (z := some 2175) T_134_60 rfl ?_
      refine x_gR (z := some 129) T_134_61 F_14_0 (hP.o xo_2175) (hP.rc xo_2175 rfl rfl) ?_
      refine x_lr (z := some 2175) T_134_64 rfl ?_
      refine x_gR (z := some 2178) T_134_65 F_14_2 (hP.o xo_2175) (hP.rc xo_2175 rfl rfl) ?_
      refine x_gI (z := f) T_134_68 (Or.inl F_5_1) (hP.o xo_2178) (Eq.trans (hP.gi xo_2178 (key := 2161) rfl) hf0) ?_
      refine x_ll (z := off) T_134_71 rfl ?_
      refine x_ic T_134_72 ?_
      refine x_cv4 T_134_74 mN_137 mL_137 (Nat.le_of_ble_eq_true rfl) mO_137 (hP.o xo_129) (Nat.le_of_ble_eq_true rfl) (hrd hP) ?_
      clear hP hrd
      rintro _ σ ⟨rfl, V4, hP, hB4, hF4⟩
      refine cR ?_
      refine x_cv3 T_134_77 mN_136 mL_136 (Nat.le_of_ble_eq_true rfl) mO_136 (hP.o xo_2175) (Nat.le_of_ble_eq_true rfl) (hse σ V4 hP hF4 hB4) ?_
      clear hP hse
      rintro _ σ ⟨rfl, V5, V6, hP, hX5, hB5, hF5⟩
      have hT5 := hk2 V4 V5 V6 hF4 hF5 hX5
      refine cI ?_
      refine x_si (ls1 := [some (vR (some 2175)), some (vR (some tb)), some (vI e), some (vL off), none, some (vI i), x6]) T_134_80 rfl ?_
      refine x_li (z := e) T_134_81 rfl ?_
      refine x_if T_134_82 (fun _ => ?_) (fun h => absurd (show ¬ e = 0 by omega) h)
      refine x_ic T_134_102 ?_
      refine x_si (ls1 := [some (vR (some 2175)), some (vR (some tb)), some (vI e), some (vL off), none, some (vI i), some (vI 0)]) T_134_103 rfl ?_
      refine x_li (z := 0) T_134_105 rfl ?_
      refine x_if T_134_107 (fun h => absurd (show ¬ (0 : Int) = 0 from h) (by decide)) (fun _ => ?_)
      refine x_goto T_134_110 ?_
      exact hc σ V5 V6 _ hP hT5
    have q2 : e = 0 := by omega
    subst q2
    rw [if_neg q1] at eK
    have hrok := hrok rfl
    have hml := hml rfl
    obtain ⟨n, hn⟩ : ∃ n : Int, ((rdB A).length : Int) = n := ⟨_, rfl⟩
    rw [hn] at hml hrok
    have hnu := fun (σ : hM) (V5 : qR) (V6 : rR) (hP : PX σ0 V5 V6 σ) (hB : BY V5 134 300 A) (h : 11 ≤ (A.length : Int)) (h2 : nu (lg A) 7 4 = n) => x_num (fb := fb) (d := d + 8) (s := 7) (k := 4) 4 hP hB rfl rfl (by decide) (by decide) (by omega) h2
    by_cases q3 : (rdB A).length = 0
    · rw [if_pos q3] at eK
      rw [eK] at hc
      have hc := fun (σ : hM) (V2 : qR) (V4 : rR) (x6 : Option AV) (hP : PX σ0 V2 V4 σ) (h : TG (T + 4) V2 V4 P1 l) => hc σ V2 V4 off i (T + 4) x6 (by omega) hP (by show TG (T + 4) V2 V4 P1 (l ++ []); rw [List.append_nil]; exact h)
      have hc : ∀ (σ : hM) (V2 : qR) (V4 : rR) (x6 : Option AV), PX σ0 V2 V4 σ → TG (T + 4) V2 V4 P1 l → WP fb (d + 9) 134 144 [some (vR (some 2175)), some (vR (some tb)), some (vI 0), some (vL off), none, some (vI i), x6] [] σ Qf := hc
      have hn0 : n = 0 := by omega
      subst hn0
      refine x_li (z := i) T_134_44 rfl ?_
      refine x_ic T_134_46 ?_
      refine x_ic2 T_134_48 (fun h => absurd (show 1000000 ≤ i from h) (by omega)) (fun _ => ?_)
      refine x_li (z := 0) T_134_51 rfl ?_
      refine x_if T_134_52 (fun h => absurd (show ¬ (0 : Int) = 0 from h) (by decide)) (fun _ => ?_)
      refine x_lr (z := some 2175) T_134_55 rfl ?_
      refine x_lr (z := some 2175) T_134_56 rfl ?_
      refine x_gR (z := some 2178) T_134_57 F_14_2 (hP.o xo_2175) (hP.rc xo_2175 rfl rfl) ?_
      refine x_lr (z := some 2175) T_134_60 rfl ?_
      refine x_gR (z := some 129) T_134_61 F_14_0 (hP.o xo_2175) (hP.rc xo_2175 rfl rfl) ?_
      refine x_lr (z := some 2175) T_134_64 rfl ?_
      refine x_gR (z := some 2178) T_134_65 F_14_2 (hP.o xo_2175) (hP.rc xo_2175 rfl rfl) ?_
      refine x_gI (z := f) T_134_68 (Or.inl F_5_1) (hP.o xo_2178) (Eq.trans (hP.gi xo_2178 (key := 2161) rfl) hf0) ?_
      refine x_ll (z := off) T_134_71 rfl ?_
      refine x_ic T_134_72 ?_
      refine x_cv4 T_134_74 mN_137 mL_137 (Nat.le_of_ble_eq_true rfl) mO_137 (hP.o xo_129) (Nat.le_of_ble_eq_true rfl) (hrd hP) ?_
      clear hP hrd
      rintro _ σ ⟨rfl, V4, hP, hB4, hF4⟩
      refine cR ?_
      refine x_cv3 T_134_77 mN_136 mL_136 (Nat.le_of_ble_eq_true rfl) mO_136 (hP.o xo_2175) (Nat.le_of_ble_eq_true rfl) (hse σ V4 hP hF4 hB4) ?_
      clear hP hse
      rintro _ σ ⟨rfl, V5, V6, hP, hX5, hB5, hF5⟩
      have hT5 := hk2 V4 V5 V6 hF4 hF5 hX5
      have hAl := hB5.2.2.2.2.1
      obtain ⟨r1, r2, r3⟩ := hrok (by omega)
      refine cI ?_
      refine x_si (ls1 := [some (vR (some 2175)), some (vR (some tb)), some (vI 0), some (vL off), none, some (vI i), x6]) T_134_80 rfl ?_
      refine x_li (z := 0) T_134_81 rfl ?_
      refine x_if T_134_82 (fun h => absurd (show ¬ (0 : Int) = 0 from h) (by decide)) (fun _ => ?_)
      refine x_lr (z := some 2175) T_134_85 rfl ?_
      refine x_gR (z := some 129) T_134_86 F_14_0 (hP.o xo_2175) (hP.rc xo_2175 rfl rfl) ?_
      refine x_gR (z := some 134) T_134_89 F_1_2 (hP.o xo_129) (hP.rc xo_129 rfl rfl) ?_
      refine x_ic T_134_92 ?_
      refine x_ic T_134_94 ?_
      refine x_cv3 T_134_95 mN_29 mL_29 (Nat.le_of_ble_eq_true rfl) mO_29 (hP.o xo_134) (Nat.le_of_ble_eq_true rfl) (hnu σ V5 V6 hP hB5 r1 r2) ?_
      rintro _ σ ⟨rfl, rfl⟩
      refine cL ?_
      refine x_l2i (w := 0) T_134_98 (by decide) ?_
      refine x_goto T_134_99 ?_
      refine x_si (ls1 := [some (vR (some 2175)), some (vR (some tb)), some (vI 0), some (vL off), none, some (vI i), some (vI 0)]) T_134_103 rfl ?_
      refine x_li (z := 0) T_134_105 rfl ?_
      refine x_if T_134_107 (fun h => absurd (show ¬ (0 : Int) = 0 from h) (by decide)) (fun _ => ?_)
      refine x_goto T_134_110 ?_
      exact hc σ V5 V6 _ hP hT5
    · rw [if_neg q3] at eK
      obtain ⟨m1, m2, m3⟩ := hml q3
      have hgo := fun (σ : hM) (V5 : qR) (V6 : rR) (x6 : Option AV) (hP : PX σ0 V5 V6 σ) (hT5 : TG (T + 4) V5 V6 (o P1 (rdB A)) (l ++ rdB A)) => ih (T + 4) (off + n) (i + 1) (l ++ rdB A) σ V5 V6 (o P1 (rdB A)) x6 (by omega) (by omega) (by rw [h4]; exact m1) (by rw [h4]; omega) (by omega) (by omega) (by omega) hP hT5 (fun σ V2 V4 off2 i2 T2 x6 b1 b2 b3 => by
        have := hc σ V2 V4 off2 i2 T2 x6 (by omega) b2 (by
          rw [eK]
          show TG T2 V2 V4 (kRdl o s f m (o P1 (rdB A)) (off + ((rdB A).length : Int))).2.1 (l ++ (rdB A ++ (kRdl o s f m (o P1 (rdB A)) (off + ((rdB A).length : Int))).2.2))
          rw [hn, ← List.append_assoc]
          exact b3)
        rw [eK, hn] at this
        exact this)
      have had := fun (σ : hM) (V5 : qR) (V6 : rR) (hP : PX σ0 V5 V6 σ) (hT5 : TG (T + 4) V5 V6 P1 l) (hB : BY V5 134 300 A) (h : 11 + n ≤ A.length) => h3 (T + 4) V5 V6 P1 l A (11 + n) σ hP hT5 hB (by omega) h
      have hsg := rdB_seg (A := A) (n := n)
      rw [show 11 + n - 11 = n by omega] at had
      refine x_li (z := i) T_134_44 rfl ?_
      refine x_ic T_134_46 ?_
      refine x_ic2 T_134_48 (fun h => absurd (show 1000000 ≤ i from h) (by omega)) (fun _ => ?_)
      refine x_li (z := 0) T_134_51 rfl ?_
      refine x_if T_134_52 (fun h => absurd (show ¬ (0 : Int) = 0 from h) (by decide)) (fun _ => ?_)
      refine x_lr (z := some 2175) T_134_55 rfl ?_
      refine x_lr (z := some 2175) T_134_56 rfl ?_
      refine x_gR (z := some 2178) T_134_57 F_14_2 (hP.o xo_2175) (hP.rc xo_2175 rfl rfl) ?_
      refine x_lr (z := some 2175) T_134_60 rfl ?_
      refine x_gR (z := some 129) T_134_61 F_14_0 (hP.o xo_2175) (hP.rc xo_2175 rfl rfl) ?_
      refine x_lr (z := some 2175) T_134_64 rfl ?_
      refine x_gR (z := some 2178) T_134_65 F_14_2 (hP.o xo_2175) (hP.rc xo_2175 rfl rfl) ?_
      refine x_gI (z := f) T_134_68 (Or.inl F_5_1) (hP.o xo_2178) (Eq.trans (hP.gi xo_2178 (key := 2161) rfl) hf0) ?_
      refine x_ll (z := off) T_134_71 rfl ?_
      refine x_ic T_134_72 ?_
      refine x_cv4 T_134_74 mN_137 mL_137 (Nat.le_of_ble_eq_true rfl) mO_137 (hP.o xo_129) (Nat.le_of_ble_eq_true rfl) (hrd hP) ?_
      clear hP hrd
      rintro _ σ ⟨rfl, V4, hP, hB4, hF4⟩
      refine cR ?_
      refine x_cv3 T_134_77 mN_136 mL_136 (Nat.le_of_ble_eq_true rfl) mO_136 (hP.o xo_2175) (Nat.le_of_ble_eq_true rfl) (hse σ V4 hP hF4 hB4) ?_
      clear hP hse
      rintro _ σ ⟨rfl, V5, V6, hP, hX5, hB5, hF5⟩
      have hT5 := hk2 V4 V5 V6 hF4 hF5 hX5
      have hAl := hB5.2.2.2.2.1
      obtain ⟨r1, r2, r3⟩ := hrok (by omega)
      rw [hsg r3 (by omega)] at had
      refine cI ?_
      refine x_si (ls1 := [some (vR (some 2175)), some (vR (some tb)), some (vI 0), some (vL off), none, some (vI i), x6]) T_134_80 rfl ?_
      refine x_li (z := 0) T_134_81 rfl ?_
      refine x_if T_134_82 (fun h => absurd (show ¬ (0 : Int) = 0 from h) (by decide)) (fun _ => ?_)
      refine x_lr (z := some 2175) T_134_85 rfl ?_
      refine x_gR (z := some 129) T_134_86 F_14_0 (hP.o xo_2175) (hP.rc xo_2175 rfl rfl) ?_
      refine x_gR (z := some 134) T_134_89 F_1_2 (hP.o xo_129) (hP.rc xo_129 rfl rfl) ?_
      refine x_ic T_134_92 ?_
      refine x_ic T_134_94 ?_
      refine x_cv3 T_134_95 mN_29 mL_29 (Nat.le_of_ble_eq_true rfl) mO_29 (hP.o xo_134) (Nat.le_of_ble_eq_true rfl) (hnu σ V5 V6 hP hB5 r1 r2) ?_
      rintro _ σ ⟨rfl, rfl⟩
      refine cL ?_
      refine x_l2i (w := n) T_134_98 (w32_id (by omega) (by omega)) ?_
      refine x_goto T_134_99 ?_
      refine x_si (ls1 := [some (vR (some 2175)), some (vR (some tb)), some (vI 0), some (vL off), none, some (vI i), some (vI n)]) T_134_103 rfl ?_
      refine x_li (z := n) T_134_105 rfl ?_
      refine x_if T_134_107 (fun _ => ?_) (fun h => absurd (show ¬ n = 0 by omega) h)
      refine x_lr (z := some tb) T_134_113 rfl ?_
      refine x_lr (z := some 2175) T_134_114 rfl ?_
      refine x_gR (z := some 129) T_134_115 F_14_0 (hP.o xo_2175) (hP.rc xo_2175 rfl rfl) ?_
      refine x_gR (z := some 134) T_134_118 F_1_2 (hP.o xo_129) (hP.rc xo_129 rfl rfl) ?_
      refine x_ic T_134_121 ?_
      refine x_ic T_134_123 ?_
      refine x_li (z := n) T_134_125 rfl ?_
      refine x_ib (w := (11 + n)) T_134_127 (fun h => absurd h.1 (by decide)) (w32_id (by omega) (by omega)) ?_
      refine x_cv4 T_134_128 mN_32 mL_32 (Nat.le_of_ble_eq_true rfl) mO_32 (hP.o htb) (Nat.le_of_ble_eq_true rfl) (had σ V5 V6 hP hT5 hB5 (by omega)) ?_
      clear hP had
      rintro _ σ ⟨e2, rfl, V7, hP, hT7⟩
      refine cI ?_
      refine x_popI T_134_131 ?_
      refine x_ll (z := off) T_134_132 rfl ?_
      refine x_li (z := n) T_134_133 rfl ?_
      refine x_i2l T_134_135 ?_
      refine x_lb (w := off + n) T_134_136 (fun h => absurd h.1 (by decide)) (w64_id (by omega) (by omega)) ?_
      refine x_sl (ls1 := [some (vR (some 2175)), some (vR (some tb)), some (vI 0), some (vL (off + n)), none, some (vI i), some (vI n)]) T_134_137 rfl ?_
      refine x_inc (w := (i + 1)) (ls1 := [some (vR (some 2175)), some (vR (some tb)), some (vI 0), some (vL (off + n)), none, some (vI (i + 1)), some (vI n)]) T_134_138 rfl (w32_id (by omega) (by omega)) rfl ?_
      refine x_goto T_134_141 ?_
      exact hgo σ V7 V6 _ hP hT7
theorem x_pour (h0 : ∀ (T T2 : Int) (V : qR) (V3 : rR) (Q : qR) (l : List Int), T ≤ T2 → TG T V V3 Q l → TG T2 V V3 Q l) (h1 : ∀ (T : Int) (V : qR) (V3 : rR) (Q : qR) (l : List Int), TG T V V3 Q l → XW K T U V V3 Q ∧ CHX V V3 2178 (s, f, pa, kd, cp)) (h2 : ∀ (T : Int) (V : qR) (V3 : rR) (Q : qR) (l : List Int) (V2 : qR) (V4 : rR) (M : List Int), TG T V V3 Q l → FA V V2 V3 V4 → XW K (T + 4) U V2 V4 (tP Q s M) → TG (T + 4) V2 V4 (tP Q s M) l) (h3 : ∀ (T : Int) (V : qR) (V3 : rR) (Q : qR) (l A : List Int) (e : Int) (σ : hM), PX σ0 V V3 σ → TG T V V3 Q l → BY V 134 300 A → 11 ≤ e → e ≤ A.length → CL fb (d + 8) 32 [vR (some tb), vR (some 134), vI 11, vI e] σ (fun r σ' => ∃ e2, r = some (vI e2) ∧ ∃ V2, PX σ0 V2 V3 σ' ∧ TG T V2 V3 (o Q (seg (lg A) 11 (e - 11).toNat)) (l ++ seg (lg A) 11 (e - 11).toNat))) (h4 : ∀ (Q : qR) (b : List Int) (off : Int), rdMu (o Q b) s f off = rdMu Q s f off) (hcr : chR (s, f, pa, kd, cp)) (htb : tX tb = some (Sum.inl 2)) (hkd : and32 kd 128 = 0 ↔ ¬ kd = 128) (hT : T + 2700 ≤ 2147483000) (hP : PX σ0 V V3 σ) (hTG : TG T V V3 Q []) : CL fb (d + 9) 134 [vR (some 2175), vR (some tb)] σ (fun r σ' => r = some (vI (pouR o Q s f kd).1) ∧ ∃ V5 V6 V7 V8, PX σ0 V7 V8 σ' ∧ TG (T + 2408) V5 V6 (pouR o Q s f kd).2.1 (pouR o Q s f kd).2.2 ∧ XW K (T + 2412) U V7 V8 (kDrop (pouR o Q s f kd).2.1 (s, f, pa, kd, cp)) ∧ FA V5 V7 V6 V8) := by
  obtain ⟨hX, hch⟩ := h1 _ _ _ _ _ hTG
  obtain ⟨hs, hf, -⟩ := id hcr
  have hs : 0 ≤ s ∧ s < 3 := hs
  have hf : 0 ≤ f ∧ f ≤ 47 := hf
  have hf0 : V 2178 2161 = f := hch.2.1
  have hd : V 2178 2163 = if kd = 128 then 1 else 0 := hch.2.2.2.1
  have hfin : ∀ (e : Int) (Q2 : qR) (told : List Int) (σ : hM) (V5 : qR) (V6 : rR) (off2 i2 : Int) (x6 : Option AV), PX σ0 V5 V6 σ → TG (T + 2408) V5 V6 Q2 told → WP fb (d + 9) 134 144 [some (vR (some 2175)), some (vR (some tb)), some (vI e), some (vL off2), none, some (vI i2), x6] [] σ (fun r σ' => r = some (vI e) ∧ ∃ V5 V6 V7 V8, PX σ0 V7 V8 σ' ∧ TG (T + 2408) V5 V6 Q2 told ∧ XW K (T + 2412) U V7 V8 (kDrop Q2 (s, f, pa, kd, cp)) ∧ FA V5 V7 V6 V8) := fun e Q2 told σ V5 V6 off2 i2 x6 hP hTG => by
    obtain ⟨hX, hch⟩ := h1 _ _ _ _ _ hTG
    have hck := (x_clunk1 (fb := fb) (d := d) hP hX (by omega) hch hcr).mono (Q := fun r σ' => ∃ e, r = some (vI e) ∧ ∃ W2 R2, PX σ0 W2 R2 σ' ∧ XW K (T + 2408 + 4) U W2 R2 (kDrop Q2 (s, f, pa, kd, cp)) ∧ FA V5 W2 V6 R2) (fun r σ' h => ⟨_, h.1, h.2⟩)
    refine x_lr (z := some 2175) T_134_144 rfl ?_
    refine x_gR (z := some 129) T_134_145 F_14_0 (hP.o xo_2175) (hP.rc xo_2175 rfl rfl) ?_
    refine x_lr (z := some 2175) T_134_148 rfl ?_
    refine x_gR (z := some 2178) T_134_149 F_14_2 (hP.o xo_2175) (hP.rc xo_2175 rfl rfl) ?_
    refine x_cv2 T_134_152 mN_132 mL_132 (Nat.le_of_ble_eq_true rfl) mO_132 (hP.o xo_129) (Nat.le_of_ble_eq_true rfl) (hck) ?_
    clear hP hck
    rintro _ σ ⟨e3, rfl, V7, V8, hP, hX7, hF7⟩
    refine cI ?_
    refine x_popI T_134_155 ?_
    refine x_li (z := e) T_134_156 rfl ?_
    refine x_ri T_134_157 ?_
    exact ⟨rfl, V5, V6, V7, V8, hP, hTG, XW.mono hX7 (by omega), hF7⟩
  unfold pouR
  by_cases q1 : kd = 128
  · rw [if_pos (show ¬ and32 kd 128 = 0 from fun c => hkd.mp c q1)]
    rw [if_pos q1] at hd
    refine CL_in mL_134 rfl ?_
    show WP fb _ 134 0 [some (vR (some 2175)), some (vR (some tb)), none, none, none, none, none] [] σ _
    refine x_lr (z := some 2175) T_134_0 rfl ?_
    refine x_gR (z := some 2178) T_134_1 F_14_2 (hP.o xo_2175) (hP.rc xo_2175 rfl rfl) ?_
    refine x_gI (z := 1) T_134_4 (Or.inr (Or.inl F_5_3)) (hP.o xo_2178) (Eq.trans (hP.gi xo_2178 (key := 2163) rfl) hd) ?_
    refine x_if T_134_7 (fun h => absurd (show (1 : Int) = 0 from h) (by decide)) (fun _ => ?_)
    refine x_ic T_134_10 ?_
    refine x_goto T_134_12 ?_
    refine x_si (ls1 := [some (vR (some 2175)), some (vR (some tb)), some (vI 10), none, none, none, none]) T_134_38 rfl ?_
    refine x_lc T_134_39 ?_
    refine x_sl (ls1 := [some (vR (some 2175)), some (vR (some tb)), some (vI 10), some (vL 0), none, none, none]) T_134_40 rfl ?_
    refine x_ic T_134_41 ?_
    refine x_si (ls1 := [some (vR (some 2175)), some (vR (some tb)), some (vI 10), some (vL 0), none, some (vI 0), none]) T_134_42 rfl ?_
    refine x_li (z := 0) T_134_44 rfl ?_
    refine x_ic T_134_46 ?_
    refine x_ic2 T_134_48 (fun h => absurd (show 1000000 ≤ (0 : Int) from h) (by decide)) (fun _ => ?_)
    refine x_li (z := 10) T_134_51 rfl ?_
    refine x_if T_134_52 (fun _ => ?_) (fun h => absurd (show ¬ (10 : Int) = 0 by decide) h)
    exact hfin 10 Q [] σ V V3 _ _ _ hP (h0 _ _ _ _ _ _ (by omega) hTG)
  · rw [if_neg (show ¬ ¬ and32 kd 128 = 0 from fun c => c (hkd.mpr q1))]
    rw [if_neg q1] at hd
    have hom := x_openingM (fb := fb) (d := d + 5) (f := f) (md := 0) hP ⟨by omega, by omega⟩ (by decide)
    have hse := fun (σ : hM) (V4 : qR) (hP : PX σ0 V4 V3 σ) (hF : FR1 V V4) (hB : BY V4 138 300 (mFr (mOpen f 0))) => mOpen_s (fb := fb) (d := d) hP (hX.fr1 hF) (by omega) (hch.sf hF (by decide)).1 one_o hs hB
    have hk2 := fun (V4 V5 : qR) (V6 : rR) (hF : FR1 V V4) (hF5 : FVS 134 V4 V5 V3 V6) (hX5 : XW K (T + 4) U V5 V6 (tP Q s (mOpen f 0))) => h2 T V V3 Q [] V5 V6 (mOpen f 0) hTG (FA_tr (FA_fr hF) (FA_fs hF5)) hX5
    have her : 0 ≤ tE Q s (mOpen f 0) := tE_rng.1
    obtain ⟨P1, hP1⟩ : ∃ P1, tP Q s (mOpen f 0) = P1 := ⟨_, rfl⟩
    obtain ⟨e, he⟩ : ∃ e, tE Q s (mOpen f 0) = e := ⟨_, rfl⟩
    simp only [he, hP1] at hse her hk2 ⊢
    by_cases q2 : e = 0
    · subst q2
      rw [if_neg (show ¬ (0 : Int) < 0 by decide)]
      have hgo := fun (σ : hM) (V5 : qR) (V6 : rR) (hP : PX σ0 V5 V6 σ) (hT5 : TG (T + 4) V5 V6 P1 []) => x_pour_loop (fb := fb) (d := d) (U := U) (K := K) (pa := pa) (kd := kd) (cp := cp) h1 h2 h3 h4 hcr htb 601 (T + 4) 0 0 [] σ V5 V6 P1 none (by decide) (by decide) (rdMu_rng (h1 _ _ _ _ _ hT5).1.1.2.2.2.1 hs).1 (by have := (rdMu_rng (P := P1) (fd := f) (h1 _ _ _ _ _ hT5).1.1.2.2.2.1 hs).2; show _ < ((601 : Nat) : Int); omega) (by decide) (by decide) (by omega) hP hT5 (fun σ V2 V4 off2 i2 T2 x6 b1 b2 b3 => hfin _ _ _ σ V2 V4 off2 i2 x6 b2 (h0 _ _ _ _ _ _ (by omega) b3))
      refine CL_in mL_134 rfl ?_
      show WP fb _ 134 0 [some (vR (some 2175)), some (vR (some tb)), none, none, none, none, none] [] σ _
      refine x_lr (z := some 2175) T_134_0 rfl ?_
      refine x_gR (z := some 2178) T_134_1 F_14_2 (hP.o xo_2175) (hP.rc xo_2175 rfl rfl) ?_
      refine x_gI (z := 0) T_134_4 (Or.inr (Or.inl F_5_3)) (hP.o xo_2178) (Eq.trans (hP.gi xo_2178 (key := 2163) rfl) hd) ?_
      refine x_if T_134_7 (fun _ => ?_) (fun h => absurd (show (0 : Int) = 0 by rfl) h)
      refine x_lr (z := some 2175) T_134_15 rfl ?_
      refine x_lr (z := some 2175) T_134_16 rfl ?_
      refine x_gR (z := some 2178) T_134_17 F_14_2 (hP.o xo_2175) (hP.rc xo_2175 rfl rfl) ?_
      refine x_lr (z := some 2175) T_134_20 rfl ?_
      refine x_gR (z := some 129) T_134_21 F_14_0 (hP.o xo_2175) (hP.rc xo_2175 rfl rfl) ?_
      refine x_lr (z := some 2175) T_134_24 rfl ?_
      refine x_gR (z := some 2178) T_134_25 F_14_2 (hP.o xo_2175) (hP.rc xo_2175 rfl rfl) ?_
      refine x_gI (z := f) T_134_28 (Or.inl F_5_1) (hP.o xo_2178) (Eq.trans (hP.gi xo_2178 (key := 2161) rfl) hf0) ?_
      refine x_ic T_134_31 ?_
      refine x_cv3 T_134_32 mN_135 mL_135 (Nat.le_of_ble_eq_true rfl) mO_135 (hP.o xo_129) (Nat.le_of_ble_eq_true rfl) (hom) ?_
      clear hP hom
      rintro _ σ ⟨rfl, V4, hP, hB4, hF4⟩
      refine cR ?_
      refine x_cv3 T_134_35 mN_136 mL_136 (Nat.le_of_ble_eq_true rfl) mO_136 (hP.o xo_2175) (Nat.le_of_ble_eq_true rfl) (hse σ V4 hP hF4 hB4) ?_
      clear hP hse
      rintro _ σ ⟨rfl, V5, V6, hP, hX5, hB5, hF5⟩
      refine cI ?_
      refine x_si (ls1 := [some (vR (some 2175)), some (vR (some tb)), some (vI 0), none, none, none, none]) T_134_38 rfl ?_
      refine x_lc T_134_39 ?_
      refine x_sl (ls1 := [some (vR (some 2175)), some (vR (some tb)), some (vI 0), some (vL 0), none, none, none]) T_134_40 rfl ?_
      refine x_ic T_134_41 ?_
      refine x_si (ls1 := [some (vR (some 2175)), some (vR (some tb)), some (vI 0), some (vL 0), none, some (vI 0), none]) T_134_42 rfl ?_
      exact hgo σ V5 V6 hP (hk2 V4 V5 V6 hF4 hF5 hX5)
    · rw [if_pos (show 0 < e by omega)]
      refine CL_in mL_134 rfl ?_
      show WP fb _ 134 0 [some (vR (some 2175)), some (vR (some tb)), none, none, none, none, none] [] σ _
      refine x_lr (z := some 2175) T_134_0 rfl ?_
      refine x_gR (z := some 2178) T_134_1 F_14_2 (hP.o xo_2175) (hP.rc xo_2175 rfl rfl) ?_
      refine x_gI (z := 0) T_134_4 (Or.inr (Or.inl F_5_3)) (hP.o xo_2178) (Eq.trans (hP.gi xo_2178 (key := 2163) rfl) hd) ?_
      refine x_if T_134_7 (fun _ => ?_) (fun h => absurd (show (0 : Int) = 0 by rfl) h)
      refine x_lr (z := some 2175) T_134_15 rfl ?_
      refine x_lr (z := some 2175) T_134_16 rfl ?_
      refine x_gR (z := some 2178) T_134_17 F_14_2 (hP.o xo_2175) (hP.rc xo_2175 rfl rfl) ?_
      refine x_lr (z := some 2175) T_134_20 rfl ?_
      refine x_gR (z := some 129) T_134_21 F_14_0 (hP.o xo_2175) (hP.rc xo_2175 rfl rfl) ?_
      refine x_lr (z := some 2175) T_134_24 rfl ?_
      refine x_gR (z := some 2178) T_134_25 F_14_2 (hP.o xo_2175) (hP.rc xo_2175 rfl rfl) ?_
      refine x_gI (z := f) T_134_28 (Or.inl F_5_1) (hP.o xo_2178) (Eq.trans (hP.gi xo_2178 (key := 2161) rfl) hf0) ?_
      refine x_ic T_134_31 ?_
      refine x_cv3 T_134_32 mN_135 mL_135 (Nat.le_of_ble_eq_true rfl) mO_135 (hP.o xo_129) (Nat.le_of_ble_eq_true rfl) (hom) ?_
      clear hP hom
      rintro _ σ ⟨rfl, V4, hP, hB4, hF4⟩
      refine cR ?_
      refine x_cv3 T_134_35 mN_136 mL_136 (Nat.le_of_ble_eq_true rfl) mO_136 (hP.o xo_2175) (Nat.le_of_ble_eq_true rfl) (hse σ V4 hP hF4 hB4) ?_
      clear hP hse
      rintro _ σ ⟨rfl, V5, V6, hP, hX5, hB5, hF5⟩
      refine cI ?_
      refine x_si (ls1 := [some (vR (some 2175)), some (vR (some tb)), some (vI e), none, none, none, none]) T_134_38 rfl ?_
      refine x_lc T_134_39 ?_
      refine x_sl (ls1 := [some (vR (some 2175)), some (vR (some tb)), some (vI e), some (vL 0), none, none, none]) T_134_40 rfl ?_
      refine x_ic T_134_41 ?_
      refine x_si (ls1 := [some (vR (some 2175)), some (vR (some tb)), some (vI e), some (vL 0), none, some (vI 0), none]) T_134_42 rfl ?_
      refine x_li (z := 0) T_134_44 rfl ?_
      refine x_ic T_134_46 ?_
      refine x_ic2 T_134_48 (fun h => absurd (show 1000000 ≤ (0 : Int) from h) (by decide)) (fun _ => ?_)
      refine x_li (z := e) T_134_51 rfl ?_
      refine x_if T_134_52 (fun _ => ?_) (fun h => absurd (show ¬ e = 0 by exact q2) h)
      exact hfin e P1 [] σ V5 V6 _ _ _ hP (h0 _ _ _ _ _ _ (by omega) (hk2 V4 V5 V6 hF4 hF5 hX5))
theorem cCat_R {fr : Int} : cCat P fr p wd = if 0 < (kWW P p 1 wd).1 then ((kWW P p 1 wd).1, (kWW P p 1 wd).2.1, [], []) else ((pouR (oC fr p) (kWW P p 1 wd).2.1 (kWW P p 1 wd).2.2.1 (kWW P p 1 wd).2.2.2.1 (kWW P p 1 wd).2.2.2.2.2.1).1, (pouR (oC fr p) (kWW P p 1 wd).2.1 (kWW P p 1 wd).2.2.1 (kWW P p 1 wd).2.2.2.1 (kWW P p 1 wd).2.2.2.2.2.1).2.1, [(kWW P p 1 wd).2.2], (pouR (oC fr p) (kWW P p 1 wd).2.1 (kWW P p 1 wd).2.2.1 (kWW P p 1 wd).2.2.2.1 (kWW P p 1 wd).2.2.2.2.2.1).2.2) := by
  unfold cCat pouR
  by_cases q1 : 0 < (kWW P p 1 wd).1
  · rw [if_pos q1, if_pos q1]
  · rw [if_neg q1, if_neg q1]
    by_cases q2 : ¬ and32 (kWW P p 1 wd).2.2.2.2.2.1 128 = 0
    · rw [if_pos q2, if_pos q2]
    · rw [if_neg q2, if_neg q2]
      by_cases q3 : 0 < tE (kWW P p 1 wd).2.1 (kWW P p 1 wd).2.2.1 (mOpen (kWW P p 1 wd).2.2.2.1 0)
      · rw [if_pos q3, if_pos q3]
      · rw [if_neg q3, if_neg q3]
theorem x_cat (hP : PX σ0 W R σ) (hX : XW K T U W R P) (hT : T + 3200 ≤ 2147483000) (hp : 0 ≤ p ∧ p < 8) (hlv : ¬ P 2320 p = 0) (hC : CMD W k l) (hw : ((lnW l).length : Int) = 2) (hkd : (kWW P p 1 (lnB l 1)).1 = 0 → (and32 (kWW P p 1 (lnB l 1)).2.2.2.2.2.1 128 = 0 ↔ ¬ (kWW P p 1 (lnB l 1)).2.2.2.2.2.1 = 128)) : CL fb (d + 10) 133 [vR (some 2175), vR (some (prO p)), vR (some k)] σ (XCM σ0 K (T + 2712) U W R ((cCat P (-1) p (lnB l 1)).1, (cCat P (-1) p (lnB l 1)).2.1, (cCat P (-1) p (lnB l 1)).2.2.1)) := by
  have hre := x_reach (fb := fb) (d := d) (thr := 1) hP hX (by omega) hp hlv hC (w := 1) ⟨by decide, by omega⟩ one_o (by decide) (Or.inr rfl)
  have hpo := prO_o hp
  have hrp := prO_rng hp
  have h5 := hC.2.2.2.2.1.trans hw
  have hwf := (KF_kWW (thr := 1) (wd := lnB l 1) hX.1.2.2.2.1.iv hX.1.2.2.2.2.2.2 hp).1
  have hr0 := (KF_kWW (thr := 1) (wd := lnB l 1) hX.1.2.2.2.1.iv hX.1.2.2.2.2.2.2 hp).2
  have hot3 : tX (prO p + 3) = some (Sum.inl 2) := (LIV_out hX hp hlv).1
  rw [cCat_R]
  obtain ⟨A, hA⟩ : ∃ A, kWW P p 1 (lnB l 1) = A := ⟨_, rfl⟩
  rw [hA] at hre hr0 hwf hkd
  rw [hA]
  obtain ⟨e, Q, s, f, pa, kd, cp⟩ := A
  have hwf : KF Q P := hwf
  have hr0 : 0 ≤ e := hr0
  have hkd : e = 0 → (and32 kd 128 = 0 ↔ ¬ kd = 128) := hkd
  by_cases q4 : e = 0
  rotate_left
  · rw [if_pos (show 0 < e by omega)]
    obtain ⟨pr, hpr⟩ : ∃ q, prO p = q := ⟨_, rfl⟩
    rw [hpr] at hre hpo hot3 ⊢
    refine CL_in mL_133 rfl ?_
    show WP fb _ 133 0 [some (vR (some 2175)), some (vR (some pr)), some (vR (some k)), none] [] σ _
    refine x_lr (z := some k) T_133_0 rfl ?_
    refine x_gI (z := 2) T_133_1 (Or.inl F_16_4) (hP.o hC.1) (Eq.trans (hP.gi hC.1 (key := 2516) rfl) h5) ?_
    refine x_ic T_133_4 ?_
    refine x_ic2 T_133_5 (fun _ => ?_) (fun h => absurd (show (2 : Int) = 2 by decide) h)
    refine x_lr (z := some 2175) T_133_11 rfl ?_
    refine x_gR (z := some 129) T_133_12 F_14_0 (hP.o xo_2175) (hP.rc xo_2175 rfl rfl) ?_
    refine x_lr (z := some pr) T_133_15 rfl ?_
    refine x_lr (z := some k) T_133_16 rfl ?_
    refine x_ic T_133_17 ?_
    refine x_lr (z := some 2175) T_133_18 rfl ?_
    refine x_gR (z := some 2178) T_133_19 F_14_2 (hP.o xo_2175) (hP.rc xo_2175 rfl rfl) ?_
    refine x_ic T_133_22 ?_
    refine x_cv6 T_133_23 mN_117 mL_117 (Nat.le_of_ble_eq_true rfl) mO_117 (hP.o xo_129) (Nat.le_of_ble_eq_true rfl) (hre) ?_
    clear hP hre
    rintro _ σ ⟨rfl, V, V3, hP, hXV, hq, hFV⟩
    refine cI ?_
    refine x_si (ls1 := [some (vR (some 2175)), some (vR (some pr)), some (vR (some k)), some (vI e)]) T_133_26 rfl ?_
    refine x_li (z := e) T_133_27 rfl ?_
    refine x_if T_133_28 (fun _ => ?_) (fun h => absurd (show ¬ e = 0 by omega) h)
    refine x_li (z := e) T_133_42 rfl ?_
    refine x_ri T_133_43 ?_
    exact ⟨rfl, V, V3, hP, XW.mono hXV (by omega), FCM_fk hFV (by decide)⟩
  subst q4
  rw [if_neg (show ¬ (0 : Int) < 0 by decide)]
  have hlv2 : ¬ Q 2320 p = 0 := by
    rw [nsR_kf (show KF Q P from hwf) 2320 _ rfl]
    exact hlv
  have hpou := fun (σ : hM) (V : qR) (V3 : rR) (hP : PX σ0 V V3 σ) (hXV : XW K (T + 300) U V V3 Q) (hch : CHX V V3 2178 (s, f, pa, kd, cp)) (hcr : chR (s, f, pa, kd, cp)) (hFV : FCM W V R V3) => x_pour (fb := fb) (d := d) (T := T + 300) (o := oC (-1) p) (tb := prO p + 3) (TG := fun T V V3 Q _ => XW K T U V V3 Q ∧ CHX V V3 2178 (s, f, pa, kd, cp) ∧ ¬ Q 2320 p = 0 ∧ FCM W V R V3) (fun T T2 V V3 Q l h1 h2 => ⟨XW.mono h2.1 h1, h2.2⟩) (fun T V V3 Q l h => ⟨h.1, h.2.1⟩) (fun T V V3 Q l V2 V4 M h hF hX => ⟨hX, h.2.1.fa hF (by decide) (by decide) hcr.2.2, by rw [nsR_kf (KF_tP (P := Q) (s := s) (l := M)) 2320 _ rfl]; exact h.2.2.1, FCM_tr h.2.2.2 (FCM_fa hF)⟩) (fun T V V3 Q l A e σ hP h hB h11 hle => (x_outAll (fb := fb) (d := d + 8) hP h.1 hp h.2.2.1 hB (by omega) (Or.inr (by decide)) hle).mono (fun r σ' h3 => by
    obtain ⟨e2, rfl, W2, g1, g2, g3⟩ := h3
    exact ⟨e2, rfl, W2, g1, g2, h.2.1.fbw g3, lv_out h.2.2.1, FCM_tr h.2.2.2 (FCM_fb g3 (by omega))⟩)) (fun Q b off => rdMu_oC hp) hcr hot3 (hkd rfl) (by omega) hP ⟨hXV, hch, hlv2, hFV⟩
  obtain ⟨A, hA⟩ : ∃ A, pouR (oC (-1) p) Q s f kd = A := ⟨_, rfl⟩
  simp only [hA] at hpou
  show CL fb (d + 10) 133 _ σ (XCM σ0 K (T + 2712) U W R ((pouR (oC (-1) p) Q s f kd).1, (pouR (oC (-1) p) Q s f kd).2.1, [(s, f, pa, kd, cp)]))
  rw [hA]
  obtain ⟨e2, Q2, told⟩ := A
  have hpou : ∀ (σ : hM) (V : qR) (V3 : rR) (hP : PX σ0 V V3 σ) (hXV : XW K (T + 300) U V V3 Q) (hch : CHX V V3 2178 (s, f, pa, kd, cp)) (hcr : chR (s, f, pa, kd, cp)) (hFV : FCM W V R V3), CL fb (d + 9) 134 [vR (some 2175), vR (some (prO p + 3))] σ (fun r σ' => r = some (vI e2) ∧ ∃ V7 V8, PX σ0 V7 V8 σ' ∧ XW K (T + 2712) U V7 V8 (kDrop Q2 (s, f, pa, kd, cp)) ∧ FCM W V7 R V8) := fun σ V V3 hP hXV hch hcr hFV => (hpou σ V V3 hP hXV hch hcr hFV).mono (fun r σ' h => by
    obtain ⟨rfl, V5, V6, V7, V8, g1, g2, g3, g4⟩ := h
    exact ⟨rfl, V7, V8, g1, XW.mono g3 (by omega), FCM_tr g2.2.2.2 (FCM_fa g4)⟩)
  obtain ⟨pr, hpr⟩ : ∃ q, prO p = q := ⟨_, rfl⟩
  rw [hpr] at hre hpo hot3 hrp ⊢
  simp only [hpr] at hpou
  refine CL_in mL_133 rfl ?_
  show WP fb _ 133 0 [some (vR (some 2175)), some (vR (some pr)), some (vR (some k)), none] [] σ _
  refine x_lr (z := some k) T_133_0 rfl ?_
  refine x_gI (z := 2) T_133_1 (Or.inl F_16_4) (hP.o hC.1) (Eq.trans (hP.gi hC.1 (key := 2516) rfl) h5) ?_
  refine x_ic T_133_4 ?_
  refine x_ic2 T_133_5 (fun _ => ?_) (fun h => absurd (show (2 : Int) = 2 by decide) h)
  refine x_lr (z := some 2175) T_133_11 rfl ?_
  refine x_gR (z := some 129) T_133_12 F_14_0 (hP.o xo_2175) (hP.rc xo_2175 rfl rfl) ?_
  refine x_lr (z := some pr) T_133_15 rfl ?_
  refine x_lr (z := some k) T_133_16 rfl ?_
  refine x_ic T_133_17 ?_
  refine x_lr (z := some 2175) T_133_18 rfl ?_
  refine x_gR (z := some 2178) T_133_19 F_14_2 (hP.o xo_2175) (hP.rc xo_2175 rfl rfl) ?_
  refine x_ic T_133_22 ?_
  refine x_cv6 T_133_23 mN_117 mL_117 (Nat.le_of_ble_eq_true rfl) mO_117 (hP.o xo_129) (Nat.le_of_ble_eq_true rfl) (hre) ?_
  clear hP hre
  rintro _ σ ⟨rfl, V, V3, hP, hXV, hq, hFV⟩
  obtain ⟨⟨hch, hcr⟩, -⟩ := hq rfl
  refine cI ?_
  refine x_si (ls1 := [some (vR (some 2175)), some (vR (some pr)), some (vR (some k)), some (vI 0)]) T_133_26 rfl ?_
  refine x_li (z := 0) T_133_27 rfl ?_
  refine x_if T_133_28 (fun h => absurd (show ¬ (0 : Int) = 0 from h) (by decide)) (fun _ => ?_)
  refine x_lr (z := some 2175) T_133_31 rfl ?_
  refine x_lr (z := some pr) T_133_32 rfl ?_
  refine x_gR (z := some (pr + 3)) T_133_33 F_6_2 (hP.o hpo) (hP.rc hpo rfl rfl) ?_
  refine x_cv2 T_133_36 mN_134 mL_134 (Nat.le_of_ble_eq_true rfl) mO_134 (hP.o xo_2175) (Nat.le_of_ble_eq_true rfl) (hpou σ V V3 hP hXV hch hcr (FCM_fk hFV (by decide))) ?_
  clear hP hpou
  rintro _ σ ⟨rfl, V7, V8, hP, hX7, hF7⟩
  refine cI ?_
  refine x_goto T_133_39 ?_
  refine x_ri T_133_43 ?_
  exact ⟨rfl, V7, V8, hP, hX7, hF7⟩
end XPOU
