/-! The class's commands: echo, from its words on. -/
theorem T_142_0 : hTab 142 0 = some ((3, 2, 2, []), 1) := rfl
theorem T_142_1 : hTab 142 1 = some ((24, 16, Int.ofNat 4, []), 4) := rfl
theorem T_142_4 : hTab 142 4 = some ((0, 0, 1, []), 5) := rfl
theorem T_142_5 : hTab 142 5 = some ((10, 1, 0, []), 6) := rfl
theorem T_142_6 : hTab 142 6 = some ((4, 3, 0, []), 7) := rfl
theorem T_142_7 : hTab 142 7 = some ((3, 2, 2, []), 8) := rfl
theorem T_142_8 : hTab 142 8 = some ((24, 16, Int.ofNat 4, []), 11) := rfl
theorem T_142_11 : hTab 142 11 = some ((0, 0, 2, []), 12) := rfl
theorem T_142_12 : hTab 142 12 = some ((19, 5, Int.ofNat 31, []), 15) := rfl
theorem T_142_15 : hTab 142 15 = some ((3, 2, 2, []), 16) := rfl
theorem T_142_16 : hTab 142 16 = some ((3, 3, 0, []), 17) := rfl
theorem T_142_17 : hTab 142 17 = some ((0, 0, 1, []), 18) := rfl
theorem T_142_18 : hTab 142 18 = some ((10, 1, 0, []), 19) := rfl
theorem T_142_19 : hTab 142 19 = some ((34, 51, 0, []), 21) := rfl
theorem T_142_21 : hTab 142 21 = some ((31, 115, 0, []), 24) := rfl
theorem T_142_24 : hTab 142 24 = some ((18, 0, Int.ofNat 31, []), 27) := rfl
theorem T_142_27 : hTab 142 27 = some ((0, 0, 1, []), 28) := rfl
theorem T_142_28 : hTab 142 28 = some ((22, 0, Int.ofNat 32, []), 31) := rfl
theorem T_142_31 : hTab 142 31 = some ((0, 0, 0, []), 32) := rfl
theorem T_142_32 : hTab 142 32 = some ((4, 4, 0, []), 34) := rfl
theorem T_142_34 : hTab 142 34 = some ((3, 4, 0, []), 36) := rfl
theorem T_142_36 : hTab 142 36 = some ((18, 1, Int.ofNat 59, []), 39) := rfl
theorem T_142_39 : hTab 142 39 = some ((3, 2, 2, []), 40) := rfl
theorem T_142_40 : hTab 142 40 = some ((24, 16, Int.ofNat 4, []), 43) := rfl
theorem T_142_43 : hTab 142 43 = some ((0, 0, 2, []), 44) := rfl
theorem T_142_44 : hTab 142 44 = some ((19, 5, Int.ofNat 63, []), 47) := rfl
theorem T_142_47 : hTab 142 47 = some ((3, 2, 2, []), 48) := rfl
theorem T_142_48 : hTab 142 48 = some ((3, 3, 0, []), 49) := rfl
theorem T_142_49 : hTab 142 49 = some ((0, 0, 1, []), 50) := rfl
theorem T_142_50 : hTab 142 50 = some ((10, 1, 0, []), 51) := rfl
theorem T_142_51 : hTab 142 51 = some ((34, 52, 0, []), 53) := rfl
theorem T_142_53 : hTab 142 53 = some ((31, 115, 0, []), 56) := rfl
theorem T_142_56 : hTab 142 56 = some ((18, 0, Int.ofNat 63, []), 59) := rfl
theorem T_142_59 : hTab 142 59 = some ((0, 0, 1, []), 60) := rfl
theorem T_142_60 : hTab 142 60 = some ((22, 0, Int.ofNat 64, []), 63) := rfl
theorem T_142_63 : hTab 142 63 = some ((0, 0, 0, []), 64) := rfl
theorem T_142_64 : hTab 142 64 = some ((4, 5, 0, []), 66) := rfl
theorem T_142_66 : hTab 142 66 = some ((3, 0, 2, []), 67) := rfl
theorem T_142_67 : hTab 142 67 = some ((24, 14, Int.ofNat 1, []), 70) := rfl
theorem T_142_70 : hTab 142 70 = some ((31, 27, 0, []), 73) := rfl
theorem T_142_73 : hTab 142 73 = some ((3, 2, 2, []), 74) := rfl
theorem T_142_74 : hTab 142 74 = some ((3, 0, 2, []), 75) := rfl
theorem T_142_75 : hTab 142 75 = some ((24, 14, Int.ofNat 1, []), 78) := rfl
theorem T_142_78 : hTab 142 78 = some ((0, 0, 1, []), 79) := rfl
theorem T_142_79 : hTab 142 79 = some ((3, 5, 0, []), 81) := rfl
theorem T_142_81 : hTab 142 81 = some ((18, 0, Int.ofNat 90, []), 84) := rfl
theorem T_142_84 : hTab 142 84 = some ((3, 3, 0, []), 85) := rfl
theorem T_142_85 : hTab 142 85 = some ((0, 0, 1, []), 86) := rfl
theorem T_142_86 : hTab 142 86 = some ((10, 1, 0, []), 87) := rfl
theorem T_142_87 : hTab 142 87 = some ((22, 0, Int.ofNat 94, []), 90) := rfl
theorem T_142_90 : hTab 142 90 = some ((3, 2, 2, []), 91) := rfl
theorem T_142_91 : hTab 142 91 = some ((24, 16, Int.ofNat 4, []), 94) := rfl
theorem T_142_94 : hTab 142 94 = some ((31, 108, 0, []), 97) := rfl
theorem T_142_97 : hTab 142 97 = some ((3, 0, 2, []), 98) := rfl
theorem T_142_98 : hTab 142 98 = some ((24, 14, Int.ofNat 1, []), 101) := rfl
theorem T_142_101 : hTab 142 101 = some ((0, 0, 10, []), 103) := rfl
theorem T_142_103 : hTab 142 103 = some ((31, 73, 0, []), 106) := rfl
theorem T_142_106 : hTab 142 106 = some ((7, 0, 0, []), 107) := rfl
theorem T_142_107 : hTab 142 107 = some ((3, 5, 0, []), 109) := rfl
theorem T_142_109 : hTab 142 109 = some ((18, 1, Int.ofNat 134, []), 112) := rfl
theorem T_142_112 : hTab 142 112 = some ((3, 1, 2, []), 113) := rfl
theorem T_142_113 : hTab 142 113 = some ((24, 6, Int.ofNat 2, []), 116) := rfl
theorem T_142_116 : hTab 142 116 = some ((3, 0, 2, []), 117) := rfl
theorem T_142_117 : hTab 142 117 = some ((24, 14, Int.ofNat 1, []), 120) := rfl
theorem T_142_120 : hTab 142 120 = some ((0, 0, 0, []), 121) := rfl
theorem T_142_121 : hTab 142 121 = some ((3, 0, 2, []), 122) := rfl
theorem T_142_122 : hTab 142 122 = some ((24, 14, Int.ofNat 1, []), 125) := rfl
theorem T_142_125 : hTab 142 125 = some ((31, 28, 0, []), 128) := rfl
theorem T_142_128 : hTab 142 128 = some ((31, 32, 0, []), 131) := rfl
theorem T_142_131 : hTab 142 131 = some ((7, 0, 0, []), 132) := rfl
theorem T_142_132 : hTab 142 132 = some ((0, 0, 0, []), 133) := rfl
theorem T_142_133 : hTab 142 133 = some ((33, 1, 0, []), 134) := rfl
theorem T_142_134 : hTab 142 134 = some ((1, 0, 0, []), 135) := rfl
theorem T_142_135 : hTab 142 135 = some ((4, 6, 1, []), 137) := rfl
theorem T_142_137 : hTab 142 137 = some ((3, 0, 2, []), 138) := rfl
theorem T_142_138 : hTab 142 138 = some ((24, 14, Int.ofNat 0, []), 141) := rfl
theorem T_142_141 : hTab 142 141 = some ((3, 1, 2, []), 142) := rfl
theorem T_142_142 : hTab 142 142 = some ((3, 2, 2, []), 143) := rfl
theorem T_142_143 : hTab 142 143 = some ((3, 3, 0, []), 144) := rfl
theorem T_142_144 : hTab 142 144 = some ((3, 0, 2, []), 145) := rfl
theorem T_142_145 : hTab 142 145 = some ((24, 14, Int.ofNat 2, []), 148) := rfl
theorem T_142_148 : hTab 142 148 = some ((0, 0, 1, []), 149) := rfl
theorem T_142_149 : hTab 142 149 = some ((31, 117, 0, []), 152) := rfl
theorem T_142_152 : hTab 142 152 = some ((4, 8, 0, []), 154) := rfl
theorem T_142_154 : hTab 142 154 = some ((3, 8, 0, []), 156) := rfl
theorem T_142_156 : hTab 142 156 = some ((0, 0, 1, []), 157) := rfl
theorem T_142_157 : hTab 142 157 = some ((19, 1, Int.ofNat 164, []), 160) := rfl
theorem T_142_160 : hTab 142 160 = some ((0, 0, 1, []), 161) := rfl
theorem T_142_161 : hTab 142 161 = some ((22, 0, Int.ofNat 165, []), 164) := rfl
theorem T_142_164 : hTab 142 164 = some ((0, 0, 0, []), 165) := rfl
theorem T_142_165 : hTab 142 165 = some ((4, 9, 0, []), 167) := rfl
theorem T_142_167 : hTab 142 167 = some ((3, 9, 0, []), 169) := rfl
theorem T_142_169 : hTab 142 169 = some ((18, 0, Int.ofNat 186, []), 172) := rfl
theorem T_142_172 : hTab 142 172 = some ((3, 0, 2, []), 173) := rfl
theorem T_142_173 : hTab 142 173 = some ((3, 1, 2, []), 174) := rfl
theorem T_142_174 : hTab 142 174 = some ((3, 2, 2, []), 175) := rfl
theorem T_142_175 : hTab 142 175 = some ((3, 3, 0, []), 176) := rfl
theorem T_142_176 : hTab 142 176 = some ((1, 0, 438, []), 179) := rfl
theorem T_142_179 : hTab 142 179 = some ((0, 0, 1, []), 180) := rfl
theorem T_142_180 : hTab 142 180 = some ((31, 143, 0, []), 183) := rfl
theorem T_142_183 : hTab 142 183 = some ((22, 0, Int.ofNat 188, []), 186) := rfl
theorem T_142_186 : hTab 142 186 = some ((3, 8, 0, []), 188) := rfl
theorem T_142_188 : hTab 142 188 = some ((4, 8, 0, []), 190) := rfl
theorem T_142_190 : hTab 142 190 = some ((3, 8, 0, []), 192) := rfl
theorem T_142_192 : hTab 142 192 = some ((18, 0, Int.ofNat 198, []), 195) := rfl
theorem T_142_195 : hTab 142 195 = some ((3, 8, 0, []), 197) := rfl
theorem T_142_197 : hTab 142 197 = some ((33, 1, 0, []), 198) := rfl
section XECI
variable {fb : Bool} {d S b c q n0 a0 k tb pr : Nat} {σ0 σ : hM} {W W0 W1 W2 V V1 P Q : qR} {R R1 R2 V3 : rR} {i j x z v s e w f g u p p2 K T U T2 t a pa kd cp dr md off la tw rd made N : Int} {l l0 lo nm M wd A X : List Int}
/-- into a file -/
theorem ech_134 (hP : PX σ0 W R σ) (hX : XW K T U W R P) (hT : T + 1700 ≤ 2147483000) (hp : 0 ≤ p ∧ p < 8) (hlv : ¬ P 2320 p = 0) (hC : CMD W k l) (hN : ((lnW l).length : Int) = N) (hN2 : 3 ≤ N) (hz : N - 2 = z) (hB : BY W 2176 101 (ecX l z)) (h1 : 1 ≤ ((ecX l z).length : Int)) (h2 : ((ecX l z).length : Int) ≤ 100) (htw : tw = 0 ∨ tw = 1) : WP fb (d + 11) 142 134 [some (vR (some 2175)), some (vR (some (prO p))), some (vR (some k)), some (vI (N - 1)), some (vI tw), some (vI 1), none, none, none, none, none, none] [] σ (XCM σ0 K (T + 700) U W R (cEcho1 P p tw l z (lnB l (N - 1)))) := by
  have hre := x_reach (fb := fb) (d := d + 1) (thr := 1) hP hX (by omega) hp hlv hC (w := N - 1) ⟨by omega, by omega⟩ one_o (by decide) (Or.inr rfl)
  have hpo := prO_o hp
  have hk := hC.1
  have hwf := (KF_kWW (thr := 1) (wd := lnB l (N - 1)) hX.1.2.2.2.1.iv hX.1.2.2.2.2.2.2 hp).1
  have hr0 := (KF_kWW (thr := 1) (wd := lnB l (N - 1)) hX.1.2.2.2.1.iv hX.1.2.2.2.2.2.2 hp).2
  unfold cEcho1
  obtain ⟨wd, hwd⟩ : ∃ wd, lnB l (N - 1) = wd := ⟨_, rfl⟩
  have hmk := fun (σ : hM) (V : qR) (V3 : rR) (Q : qR) (hlv : ¬ Q 2320 p = 0) (hP : PX σ0 V V3 σ) (hX : XW K (T + 300) U V V3 Q) (hC : CMD V k l) => x_makeT (fb := fb) (d := d) (w := N - 1) (perm := 438) (mode := 1) hP hX (by omega) hp hlv hC ⟨by omega, by omega⟩ (by decide) (by decide)
  rw [hwd] at hre hwf hr0
  simp only [hwd] at hmk
  rw [hwd]
  obtain ⟨A, hA⟩ : ∃ A, kWW P p 1 wd = A := ⟨_, rfl⟩
  rw [hA] at hre hr0 hwf
  rw [hA]
  obtain ⟨e, Q, s, f, pa, kd, cp⟩ := A
  replace hwf : KF Q P := hwf
  replace hr0 : 0 ≤ e := hr0
  have hlv2 : ¬ Q 2320 p = 0 := by
    rw [nsR_kf (show KF Q P from hwf) 2320 _ rfl]
    exact hlv
  have hmk := fun (σ : hM) (V : qR) (V3 : rR) => hmk σ V V3 Q hlv2
  by_cases q1 : e = 1
  · subst q1
    rw [if_pos (show (((1 : Int), Q, (s, f, pa, kd, cp)) : Int × qR × Ch).1 = 1 from rfl)]
    show WP fb (d + 11) 142 134 _ [] σ (XCM σ0 K (T + 700) U W R (ecC (kCreate Q p wd 438 1) l z))
    have hok : ∀ (V : qR) (V3 : rR), XW K (T + 300) U V V3 Q → KF (kCreate Q p wd 438 1).2.1 Q ∧ 0 ≤ (kCreate Q p wd 438 1).1 ∧ ((kCreate Q p wd 438 1).1 = 0 → ∃ c, (kCreate Q p wd 438 1).2.2 = [c]) := fun V V3 hX => kCreate_ok hX.1.2.2.2.1.iv hX.1.2.2.2.2.2.2 hp
    obtain ⟨A, hA⟩ : ∃ A, kCreate Q p wd 438 1 = A := ⟨_, rfl⟩
    rw [hA] at hok
    simp only [hA] at hmk
    rw [hA]
    obtain ⟨e2, Q2, h⟩ := A
    unfold ecC
    by_cases q2 : 0 < e2
    · rw [if_pos q2]
      obtain ⟨prr, hpr⟩ : ∃ q, prO p = q := ⟨_, rfl⟩
      rw [hpr] at hre hpo ⊢
      simp only [hpr] at hmk
      refine x_lc T_142_134 ?_
      refine x_sl (ls1 := [some (vR (some 2175)), some (vR (some prr)), some (vR (some k)), some (vI (N - 1)), some (vI tw), some (vI 1), some (vL 0), none, none, none, none, none]) T_142_135 rfl ?_
      refine x_lr (z := some 2175) T_142_137 rfl ?_
      refine x_gR (z := some 129) T_142_138 F_14_0 (hP.o xo_2175) (hP.rc xo_2175 rfl rfl) ?_
      refine x_lr (z := some prr) T_142_141 rfl ?_
      refine x_lr (z := some k) T_142_142 rfl ?_
      refine x_li (z := (N - 1)) T_142_143 rfl ?_
      refine x_lr (z := some 2175) T_142_144 rfl ?_
      refine x_gR (z := some 2178) T_142_145 F_14_2 (hP.o xo_2175) (hP.rc xo_2175 rfl rfl) ?_
      refine x_ic T_142_148 ?_
      refine x_cv6 T_142_149 mN_117 mL_117 (Nat.le_of_ble_eq_true rfl) mO_117 (hP.o xo_129) (Nat.le_of_ble_eq_true rfl) (hre) ?_
      clear hP hre
      rintro _ σ ⟨rfl, V, V3, hP, hXV, hq, hFV⟩
      refine cI ?_
      refine x_si (ls1 := [some (vR (some 2175)), some (vR (some prr)), some (vR (some k)), some (vI (N - 1)), some (vI tw), some (vI 1), some (vL 0), none, some (vI 1), none, none, none]) T_142_152 rfl ?_
      refine x_li (z := 1) T_142_154 rfl ?_
      refine x_ic T_142_156 ?_
      refine x_ic2 T_142_157 (fun h => absurd (show ¬ (1 : Int) = 1 from h) (by decide)) (fun _ => ?_)
      refine x_ic T_142_160 ?_
      refine x_goto T_142_161 ?_
      refine x_si (ls1 := [some (vR (some 2175)), some (vR (some prr)), some (vR (some k)), some (vI (N - 1)), some (vI tw), some (vI 1), some (vL 0), none, some (vI 1), some (vI 1), none, none]) T_142_165 rfl ?_
      refine x_li (z := 1) T_142_167 rfl ?_
      refine x_if T_142_169 (fun h => absurd (show (1 : Int) = 0 from h) (by decide)) (fun _ => ?_)
      refine x_lr (z := some 2175) T_142_172 rfl ?_
      refine x_lr (z := some prr) T_142_173 rfl ?_
      refine x_lr (z := some k) T_142_174 rfl ?_
      refine x_li (z := (N - 1)) T_142_175 rfl ?_
      refine x_lc T_142_176 ?_
      refine x_ic T_142_179 ?_
      refine x_cv6 T_142_180 mN_143 mL_143 (Nat.le_of_ble_eq_true rfl) mO_143 (hP.o xo_2175) (Nat.le_of_ble_eq_true rfl) (hmk σ V V3 hP hXV (hC.fcm (FCM_fk hFV (by decide)))) ?_
      clear hP hmk
      rintro _ σ ⟨rfl, V5, V6, hP, hX5, hc5, hF5⟩
      have hX5 : XW K (T + 300 + 320) U V5 V6 (if e2 = 0 then Q2 else kDrops Q2 h) := hX5
      rw [if_neg (by omega)] at hX5
      refine cI ?_
      refine x_goto T_142_183 ?_
      refine x_si (ls1 := [some (vR (some 2175)), some (vR (some prr)), some (vR (some k)), some (vI (N - 1)), some (vI tw), some (vI 1), some (vL 0), none, some (vI e2), some (vI 1), none, none]) T_142_188 rfl ?_
      refine x_li (z := e2) T_142_190 rfl ?_
      refine x_if T_142_192 (fun h => absurd (show e2 = 0 from h) (by omega)) (fun _ => ?_)
      refine x_li (z := e2) T_142_195 rfl ?_
      refine x_ri T_142_197 ?_
      exact ⟨rfl, V5, V6, hP, XW.mono hX5 (by omega), FCM_tr (FCM_fk hFV (by decide)) (FCM_fk hF5 (by decide))⟩
    · rw [if_neg q2]
      have hgo := fun (hc : ∃ c, h = [c]) (he : e2 = 0) (σ : hM) (V5 : qR) (V6 : rR) (hP : PX σ0 V5 V6 σ) (ch : Ch) (hX5 : XW K (T + 300 + 320) U V5 V6 Q2) (hch : CHX V5 V6 2178 ch) (hcr : chR ch) (hh : h = [ch]) (hB5 : BY V5 2176 101 (ecX l z)) (hF : FCM W V5 R V6) => (show WP fb (d + 11) 142 292 [some (vR (some 2175)), some (vR (some (prO p))), some (vR (some k)), some (vI (N - 1)), some (vI tw), some (vI 1), some (vL 0), none, some (vI 0), some (vI 1), none, none] [] σ (XCM σ0 K (T + 700) U W R (ecW Q2 (h.headD c0) 0 l z)) from by
        obtain ⟨s, f, pa, kd, cp⟩ := ch
        refine (ech_292 (fb := fb) (d := d + 1) (pr := prO p) (k := k) (la := N - 1) (tw := tw) (rd := 1) (made := 1) (off := 0) (x10 := none) (x11 := none) hP hX5 (by omega) hk hpo hch hcr hB5 h1 h2 (by decide) hF).mono ?_
        rintro r σ' ⟨r1, W2, R2, r2, r3, r4⟩
        rw [hh]
        exact ⟨r1, W2, R2, r2, XW.mono r3 (by omega), r4⟩)
      have he0 : ∀ (V : qR) (V3 : rR), XW K (T + 300) U V V3 Q → e2 = 0 ∧ ∃ c, h = [c] := fun V V3 hX => by
        have h3 : 0 ≤ e2 := (hok V V3 hX).2.1
        have h4 : e2 = 0 := by omega
        exact ⟨h4, (hok V V3 hX).2.2 h4⟩
      obtain ⟨prr, hpr⟩ : ∃ q, prO p = q := ⟨_, rfl⟩
      simp only [hpr] at hre hpo hmk hgo ⊢
      refine x_lc T_142_134 ?_
      refine x_sl (ls1 := [some (vR (some 2175)), some (vR (some prr)), some (vR (some k)), some (vI (N - 1)), some (vI tw), some (vI 1), some (vL 0), none, none, none, none, none]) T_142_135 rfl ?_
      refine x_lr (z := some 2175) T_142_137 rfl ?_
      refine x_gR (z := some 129) T_142_138 F_14_0 (hP.o xo_2175) (hP.rc xo_2175 rfl rfl) ?_
      refine x_lr (z := some prr) T_142_141 rfl ?_
      refine x_lr (z := some k) T_142_142 rfl ?_
      refine x_li (z := (N - 1)) T_142_143 rfl ?_
      refine x_lr (z := some 2175) T_142_144 rfl ?_
      refine x_gR (z := some 2178) T_142_145 F_14_2 (hP.o xo_2175) (hP.rc xo_2175 rfl rfl) ?_
      refine x_ic T_142_148 ?_
      refine x_cv6 T_142_149 mN_117 mL_117 (Nat.le_of_ble_eq_true rfl) mO_117 (hP.o xo_129) (Nat.le_of_ble_eq_true rfl) (hre) ?_
      clear hP hre
      rintro _ σ ⟨rfl, V, V3, hP, hXV, hq, hFV⟩
      obtain ⟨h20, hcc⟩ := he0 V V3 hXV
      subst h20
      refine cI ?_
      refine x_si (ls1 := [some (vR (some 2175)), some (vR (some prr)), some (vR (some k)), some (vI (N - 1)), some (vI tw), some (vI 1), some (vL 0), none, some (vI 1), none, none, none]) T_142_152 rfl ?_
      refine x_li (z := 1) T_142_154 rfl ?_
      refine x_ic T_142_156 ?_
      refine x_ic2 T_142_157 (fun h => absurd (show ¬ (1 : Int) = 1 from h) (by decide)) (fun _ => ?_)
      refine x_ic T_142_160 ?_
      refine x_goto T_142_161 ?_
      refine x_si (ls1 := [some (vR (some 2175)), some (vR (some prr)), some (vR (some k)), some (vI (N - 1)), some (vI tw), some (vI 1), some (vL 0), none, some (vI 1), some (vI 1), none, none]) T_142_165 rfl ?_
      refine x_li (z := 1) T_142_167 rfl ?_
      refine x_if T_142_169 (fun h => absurd (show (1 : Int) = 0 from h) (by decide)) (fun _ => ?_)
      refine x_lr (z := some 2175) T_142_172 rfl ?_
      refine x_lr (z := some prr) T_142_173 rfl ?_
      refine x_lr (z := some k) T_142_174 rfl ?_
      refine x_li (z := (N - 1)) T_142_175 rfl ?_
      refine x_lc T_142_176 ?_
      refine x_ic T_142_179 ?_
      refine x_cv6 T_142_180 mN_143 mL_143 (Nat.le_of_ble_eq_true rfl) mO_143 (hP.o xo_2175) (Nat.le_of_ble_eq_true rfl) (hmk σ V V3 hP hXV (hC.fcm (FCM_fk hFV (by decide)))) ?_
      clear hP hmk
      rintro _ σ ⟨rfl, V5, V6, hP, hX5, hc5, hF5⟩
      obtain ⟨ch, hh, hc1, hc2⟩ := hc5 rfl
      refine cI ?_
      refine x_goto T_142_183 ?_
      refine x_si (ls1 := [some (vR (some 2175)), some (vR (some prr)), some (vR (some k)), some (vI (N - 1)), some (vI tw), some (vI 1), some (vL 0), none, some (vI 0), some (vI 1), none, none]) T_142_188 rfl ?_
      refine x_li (z := 0) T_142_190 rfl ?_
      refine x_if T_142_192 (fun _ => ?_) (fun h => absurd (show (0 : Int) = 0 by rfl) h)
      refine x_li (z := 1) T_142_198 rfl ?_
      refine x_if T_142_200 (fun _ => ?_) (fun h => absurd (show ¬ (1 : Int) = 0 by decide) h)
      exact hgo hcc rfl σ V5 V6 hP ch hX5 hc1 hc2 hh (BY_fk2 (BY_fk2 hB hFV (by decide)) hF5 (by decide)) (FCM_tr (FCM_fk hFV (by decide)) (FCM_fk hF5 (by decide)))
  rw [if_neg (show ¬ ((e, Q, (s, f, pa, kd, cp)) : Int × qR × Ch).1 = 1 from q1)]
  by_cases q2 : e = 0
  rotate_left
  · rw [if_pos (show 0 < ((e, Q, (s, f, pa, kd, cp)) : Int × qR × Ch).1 by show 0 < e; omega)]
    show WP fb (d + 11) 142 134 _ [] σ (XCM σ0 K (T + 700) U W R (e, Q, []))
    obtain ⟨prr, hpr⟩ : ∃ q, prO p = q := ⟨_, rfl⟩
    rw [hpr] at hre hpo ⊢
    refine x_lc T_142_134 ?_
    refine x_sl (ls1 := [some (vR (some 2175)), some (vR (some prr)), some (vR (some k)), some (vI (N - 1)), some (vI tw), some (vI 1), some (vL 0), none, none, none, none, none]) T_142_135 rfl ?_
    refine x_lr (z := some 2175) T_142_137 rfl ?_
    refine x_gR (z := some 129) T_142_138 F_14_0 (hP.o xo_2175) (hP.rc xo_2175 rfl rfl) ?_
    refine x_lr (z := some prr) T_142_141 rfl ?_
    refine x_lr (z := some k) T_142_142 rfl ?_
    refine x_li (z := (N - 1)) T_142_143 rfl ?_
    refine x_lr (z := some 2175) T_142_144 rfl ?_
    refine x_gR (z := some 2178) T_142_145 F_14_2 (hP.o xo_2175) (hP.rc xo_2175 rfl rfl) ?_
    refine x_ic T_142_148 ?_
    refine x_cv6 T_142_149 mN_117 mL_117 (Nat.le_of_ble_eq_true rfl) mO_117 (hP.o xo_129) (Nat.le_of_ble_eq_true rfl) (hre) ?_
    clear hP hre
    rintro _ σ ⟨rfl, V, V3, hP, hXV, hq, hFV⟩
    refine cI ?_
    refine x_si (ls1 := [some (vR (some 2175)), some (vR (some prr)), some (vR (some k)), some (vI (N - 1)), some (vI tw), some (vI 1), some (vL 0), none, some (vI e), none, none, none]) T_142_152 rfl ?_
    refine x_li (z := e) T_142_154 rfl ?_
    refine x_ic T_142_156 ?_
    refine x_ic2 T_142_157 (fun _ => ?_) (fun h => absurd (show ¬ e = 1 by exact q1) h)
    refine x_ic T_142_164 ?_
    refine x_si (ls1 := [some (vR (some 2175)), some (vR (some prr)), some (vR (some k)), some (vI (N - 1)), some (vI tw), some (vI 1), some (vL 0), none, some (vI e), some (vI 0), none, none]) T_142_165 rfl ?_
    refine x_li (z := 0) T_142_167 rfl ?_
    refine x_if T_142_169 (fun _ => ?_) (fun h => absurd (show (0 : Int) = 0 by rfl) h)
    refine x_li (z := e) T_142_186 rfl ?_
    refine x_si (ls1 := [some (vR (some 2175)), some (vR (some prr)), some (vR (some k)), some (vI (N - 1)), some (vI tw), some (vI 1), some (vL 0), none, some (vI e), some (vI 0), none, none]) T_142_188 rfl ?_
    refine x_li (z := e) T_142_190 rfl ?_
    refine x_if T_142_192 (fun h => absurd (show e = 0 from h) (by omega)) (fun _ => ?_)
    refine x_li (z := e) T_142_195 rfl ?_
    refine x_ri T_142_197 ?_
    exact ⟨rfl, V, V3, hP, XW.mono hXV (by omega), FCM_fk hFV (by decide)⟩
  subst q2
  rw [if_neg (show ¬ 0 < (((0 : Int), Q, (s, f, pa, kd, cp)) : Int × qR × Ch).1 from Int.lt_irrefl 0)]
  show WP fb (d + 11) 142 134 _ [] σ (XCM σ0 K (T + 700) U W R (ecO Q (s, f, pa, kd, cp) tw l z))
  have hgo := fun (σ : hM) (V5 : qR) (V6 : rR) (hP : PX σ0 V5 V6 σ) (hX5 : XW K (T + 300) U V5 V6 Q) (hch : CHX V5 V6 2178 (s, f, pa, kd, cp)) (hcr : chR (s, f, pa, kd, cp)) (hB5 : BY V5 2176 101 (ecX l z)) (hF : FCM W V5 R V6) => (ech_198 (fb := fb) (d := d + 1) (pr := prO p) (k := k) (la := N - 1) (tw := tw) (rd := 1) (x10 := none) (x11 := none) hP hX5 (by omega) hk hpo hch hcr hB5 h1 h2 htw hF).mono (Q := XCM σ0 K (T + 700) U W R (ecO Q (s, f, pa, kd, cp) tw l z)) (fun r σ' h => by
    obtain ⟨r1, W2, R2, r2, r3, r4⟩ := h
    exact ⟨r1, W2, R2, r2, XW.mono r3 (by omega), r4⟩)
  obtain ⟨prr, hpr⟩ : ∃ q, prO p = q := ⟨_, rfl⟩
  simp only [hpr] at hre hpo hgo ⊢
  refine x_lc T_142_134 ?_
  refine x_sl (ls1 := [some (vR (some 2175)), some (vR (some prr)), some (vR (some k)), some (vI (N - 1)), some (vI tw), some (vI 1), some (vL 0), none, none, none, none, none]) T_142_135 rfl ?_
  refine x_lr (z := some 2175) T_142_137 rfl ?_
  refine x_gR (z := some 129) T_142_138 F_14_0 (hP.o xo_2175) (hP.rc xo_2175 rfl rfl) ?_
  refine x_lr (z := some prr) T_142_141 rfl ?_
  refine x_lr (z := some k) T_142_142 rfl ?_
  refine x_li (z := (N - 1)) T_142_143 rfl ?_
  refine x_lr (z := some 2175) T_142_144 rfl ?_
  refine x_gR (z := some 2178) T_142_145 F_14_2 (hP.o xo_2175) (hP.rc xo_2175 rfl rfl) ?_
  refine x_ic T_142_148 ?_
  refine x_cv6 T_142_149 mN_117 mL_117 (Nat.le_of_ble_eq_true rfl) mO_117 (hP.o xo_129) (Nat.le_of_ble_eq_true rfl) (hre) ?_
  clear hP hre
  rintro _ σ ⟨rfl, V, V3, hP, hXV, hq, hFV⟩
  obtain ⟨⟨hch, hcr⟩, -⟩ := hq rfl
  refine cI ?_
  refine x_si (ls1 := [some (vR (some 2175)), some (vR (some prr)), some (vR (some k)), some (vI (N - 1)), some (vI tw), some (vI 1), some (vL 0), none, some (vI 0), none, none, none]) T_142_152 rfl ?_
  refine x_li (z := 0) T_142_154 rfl ?_
  refine x_ic T_142_156 ?_
  refine x_ic2 T_142_157 (fun _ => ?_) (fun h => absurd (show ¬ (0 : Int) = 1 by decide) h)
  refine x_ic T_142_164 ?_
  refine x_si (ls1 := [some (vR (some 2175)), some (vR (some prr)), some (vR (some k)), some (vI (N - 1)), some (vI tw), some (vI 1), some (vL 0), none, some (vI 0), some (vI 0), none, none]) T_142_165 rfl ?_
  refine x_li (z := 0) T_142_167 rfl ?_
  refine x_if T_142_169 (fun _ => ?_) (fun h => absurd (show (0 : Int) = 0 by rfl) h)
  refine x_li (z := 0) T_142_186 rfl ?_
  refine x_si (ls1 := [some (vR (some 2175)), some (vR (some prr)), some (vR (some k)), some (vI (N - 1)), some (vI tw), some (vI 1), some (vL 0), none, some (vI 0), some (vI 0), none, none]) T_142_188 rfl ?_
  refine x_li (z := 0) T_142_190 rfl ?_
  refine x_if T_142_192 (fun _ => ?_) (fun h => absurd (show (0 : Int) = 0 by rfl) h)
  exact hgo σ V V3 hP hXV hch hcr (BY_fk2 hB hFV (by decide)) (FCM_fk hFV (by decide))
theorem XR.hiw (h : XR K T U W R P) (hW : ∀ (x : Nat) (k : Int), x < 2175 ∨ 2372 ≤ x → W2 x k = W x k) (hR : ∀ (x : Nat) (k : Int), x < 2175 ∨ 2372 ≤ x ∨ k = 2267 → R2 x k = R x k) : XR K T U W2 R2 P := by
  obtain ⟨⟨a1, a2, a3⟩, x2, x3, x4, x5, x6, x7⟩ := h
  have h6 := XQ.len7 ⟨a1, a2, a3⟩ x5.1
  have hb : ∀ {b n : Nat} {l : List Int}, BY W b n l → b + 1 < 229 → BY W2 b n l := fun {b n l} h hb => by
    obtain ⟨y1, y2, y3, y4, y5, y6, y7⟩ := h
    exact ⟨y1, y2, y3, (hW _ _ (by omega)).trans y4, y5, y6, fun i i0 i1 => (hW _ _ (by omega)).trans (y7 i i0 i1)⟩
  refine ⟨⟨fun s s0 s1 => ?_, a2.fv (hW 0 0 (by omega)) (hW 0 1 (by omega)) (fun b => hR b _ (by omega)), ?_⟩, ?_, x3.fr x4.iv (fun x k x0 x1 _ => hW x k (by omega)) (fun x k x0 x1 => hR x k (by omega)) (fun _ _ _ => rfl), x4, x5, x6, x7⟩
  · obtain ⟨o, t, h⟩ := a1 s s0 s1
    exact ⟨o, t, h.fr (fun x k _ _ => hW x k (by omega)) (fun x k _ _ => hR x k (by omega)) (fun _ c k _ _ _ q => hW c k (by omega)) (fun n q => h6 s n s0 q)⟩
  · obtain ⟨b1, b2, b3⟩ := a3
    exact ⟨hb b1 (by decide), hb b2 (by decide), fun p p0 p1 => (hW _ _ (by omega)).trans (b3 p p0 p1)⟩
  · obtain ⟨b1, b2, b3⟩ := x2
    exact ⟨(hW _ _ (by decide)).trans b1, (hW _ _ (by decide)).trans b2, fun i i0 i1 => ⟨(b3 i i0 i1).1, hb (b3 i i0 i1).2 (by omega)⟩⟩
/-- what lies above the servers is written -/
theorem XW.hiw (h : XW K T U W R P) (hW : ∀ (x : Nat) (k : Int), x < 2175 ∨ 2372 ≤ x → W2 x k = W x k) (hR : ∀ (x : Nat) (k : Int), x < 2175 ∨ 2372 ≤ x ∨ k = 2267 → R2 x k = R x k) : XW K T U W2 R2 P := by
  obtain ⟨l0, y1, y2, y3, y4, y5, y6, y7⟩ := h.2
  exact ⟨h.1.hiw hW hR, l0, y1, y2, y3, (hW _ _ (by decide)).trans y4, y5, y6, fun i i0 i1 => (hW _ _ (by decide)).trans (y7 i i0 i1)⟩
theorem two62 {A : List Int} : A = txt 47 ↔ (A.length : Int) = 2 ∧ lg A 0 = 62 ∧ lg A 1 = 62 := by
  have e : txt 47 = [62, 62] := by decide
  rw [e]
  constructor
  · rintro rfl
    exact ⟨rfl, rfl, rfl⟩
  · rintro ⟨h1, h2, h3⟩
    match A, h1, h2, h3 with
    | [a, b], _, h2, h3 =>
      have h2 : a = 62 := h2
      have h3 : b = 62 := h3
      rw [h2, h3]
theorem one62 {A : List Int} : A = txt 48 ↔ (A.length : Int) = 1 ∧ lg A 0 = 62 := by
  have e : txt 48 = [62] := by decide
  rw [e]
  constructor
  · rintro rfl
    exact ⟨rfl, rfl⟩
  · rintro ⟨h1, h2⟩
    match A, h1, h2 with
    | [a], _, h2 =>
      have h2 : a = 62 := h2
      rw [h2]
/-- from where it is known whether there is a file -/
theorem ech_64 (hP : PX σ0 W R σ) (hX : XW K T U W R P) (hT : T + 1700 ≤ 2147483000) (hp : 0 ≤ p ∧ p < 8) (hlv : ¬ P 2320 p = 0) (hC : CMD W k l) (hN : ((lnW l).length : Int) = N) (hN1 : 1 ≤ N) (hec : (ecM l = 0 ∧ rd = 0 ∧ tw = 0) ∨ (3 ≤ N ∧ rd = 1 ∧ ecM l = tw + 1 ∧ (tw = 0 ∨ tw = 1))) : WP fb (d + 11) 142 64 [some (vR (some 2175)), some (vR (some (prO p))), some (vR (some k)), some (vI (N - 1)), some (vI tw), none, none, none, none, none, none, none] [vI rd] σ (XCM σ0 K (T + 700) U W R (cEcho P p l)) := by
  have hpo := prO_o hp
  have hrp := prO_rng hp
  have hk := hC.1
  have hkr := hC.2.2.1
  have h5 := hC.2.2.2.2.1.trans hN
  have hll := hC.2.2.2.1.2.2.2.2.1
  have hN50 : N ≤ 50 := by
    have := (lnW_ok hll).2
    omega
  have hot3 : tX (prO p + 3) = some (Sum.inl 2) := (LIV_out hX hp hlv).1
  have hcl := x_clear0 (fb := fb) (d := d + 10) (b := 2176) (N := 101) hP ⟨xo_2176, xa_2177, by decide⟩
  have hjn := fun (a : Int) (h1 : 1 ≤ a) (h2 : a ≤ N) (h3 : (ecT l a 1 (a - 1).toNat).length ≤ 101) (σ : hM) (V : qR) (hP : PX σ0 V R σ) (hB : BY V 2176 101 []) (hF : FB 2176 W V) => x_join (fb := fb) (d := d + 9) (b := 2176) (a := 1) (z := a) hP (hC.fcm (R := R) (R2 := R) (FCM_fb hF (by decide))) hB (by omega) (by omega) (by decide) h1 (by omega) h3
  have hnl := fun (Y : List Int) (h3 : Y.length ≤ 100) (σ : hM) (V : qR) (hP : PX σ0 V R σ) (hB : BY V 2176 101 Y) => (x_add (fb := fb) (d := d + 10) (x := 10) hP hB (by decide)).mono (Q := fun r σ' => ∃ e2, r = some (vI e2) ∧ ∃ W2, PX σ0 W2 R σ' ∧ BY W2 2176 101 (Y ++ [10]) ∧ FB 2176 V W2) (fun r σ' h => by
    obtain ⟨rfl, W2, r1, r2, r3⟩ := h
    rw [if_pos (by show (Y.length : Int) < 101; omega)] at r2
    exact ⟨_, rfl, W2, r1, r2, r3⟩)
  have hXF : ∀ V : qR, FB 2176 W V → XW K T U V R P := fun V hF => hX.hiw (fun x k hx => hF x k (by omega) (by omega)) (fun _ _ _ => rfl)
  have hbd : ∀ a : Int, 1 ≤ a → a ≤ N → (ecT l a 1 (a - 1).toNat).length ≤ 99 := fun a h1 h2 => by
    by_cases q : a = 1
    · rw [q]
      show 0 ≤ 99
      decide
    · have := ecT_99 (l := l) (z := a) hll (by omega) (by omega) (w := 1) (m := (a - 1).toNat) (by decide) (by omega)
      omega
  rcases hec with ⟨e1, rfl, rfl⟩ | ⟨e1, rfl, e2, e3⟩
  · have eK : cEcho P p l = (0, gOut P p (ecT l N 1 (N - 1).toNat ++ [10]), []) := by
      unfold cEcho
      rw [if_pos e1, hN]
    rw [eK]
    have hjn := hjn N hN1 (Int.le_refl _) (by have := hbd N hN1 (Int.le_refl _); omega)
    have hnl := hnl (ecT l N 1 (N - 1).toNat) (by have := hbd N hN1 (Int.le_refl _); omega)
    obtain ⟨Y, hY⟩ : ∃ Y, ecT l N 1 (N - 1).toNat ++ [10] = Y := ⟨_, rfl⟩
    rw [hY]
    simp only [hY] at hnl
    obtain ⟨z, hz⟩ : ∃ z : Int, (Y.length : Int) = z := ⟨_, rfl⟩
    have hsz := fun (σ : hM) (V : qR) (hP : PX σ0 V R σ) (hB : BY V 2176 101 Y) => x_size (fb := fb) (d := d + 10) hP hB hz
    have hou := fun (σ : hM) (V : qR) (hP : PX σ0 V R σ) (hB : BY V 2176 101 Y) (hF : FB 2176 W V) => x_outAll (fb := fb) (d := d + 10) (s := 0) (e := z) hP (hXF V hF) hp hlv hB (by omega) (Or.inr (by decide)) (by omega)
    rw [show (z - 0).toNat = Y.length by omega, seg_all] at hou
    obtain ⟨pr, hpr⟩ : ∃ q, prO p = q := ⟨_, rfl⟩
    simp only [hpr] at hpo hrp hot3 hou ⊢
    refine x_si (ls1 := [some (vR (some 2175)), some (vR (some pr)), some (vR (some k)), some (vI (N - 1)), some (vI 0), some (vI 0), none, none, none, none, none, none]) T_142_64 rfl ?_
    refine x_lr (z := some 2175) T_142_66 rfl ?_
    refine x_gR (z := some 2176) T_142_67 F_14_1 (hP.o xo_2175) (hP.rc xo_2175 rfl rfl) ?_
    refine x_cv1 T_142_70 mN_27 mL_27 (Nat.le_of_ble_eq_true rfl) mO_27 (hP.o xo_2176) (Nat.le_of_ble_eq_true rfl) (hcl) ?_
    clear hP hcl
    rintro _ σ ⟨rfl, V1, hP, hB1, hF1⟩
    have hn1 : V1 k 2516 = N := (hF1 _ _ (by omega) (by omega)).trans h5
    refine cV ?_
    refine x_lr (z := some k) T_142_73 rfl ?_
    refine x_lr (z := some 2175) T_142_74 rfl ?_
    refine x_gR (z := some 2176) T_142_75 F_14_1 (hP.o xo_2175) (hP.rc xo_2175 rfl rfl) ?_
    refine x_ic T_142_78 ?_
    refine x_li (z := 0) T_142_79 rfl ?_
    refine x_if T_142_81 (fun _ => ?_) (fun h => absurd (show (0 : Int) = 0 by rfl) h)
    refine x_lr (z := some k) T_142_90 rfl ?_
    refine x_gI (z := N) T_142_91 (Or.inl F_16_4) (hP.o hk) (Eq.trans (hP.gi hk (key := 2516) rfl) hn1) ?_
    refine x_cv4 T_142_94 mN_108 mL_108 (Nat.le_of_ble_eq_true rfl) mO_108 (hP.o hk) (Nat.le_of_ble_eq_true rfl) (hjn σ V1 hP hB1 hF1) ?_
    clear hP hjn
    rintro _ σ ⟨rfl, V2, hP, hB2, hF2⟩
    refine cV ?_
    refine x_lr (z := some 2175) T_142_97 rfl ?_
    refine x_gR (z := some 2176) T_142_98 F_14_1 (hP.o xo_2175) (hP.rc xo_2175 rfl rfl) ?_
    refine x_ic T_142_101 ?_
    refine x_cv2 T_142_103 mN_73 mL_73 (Nat.le_of_ble_eq_true rfl) mO_73 (hP.o xo_2176) (Nat.le_of_ble_eq_true rfl) (hnl σ V2 hP hB2) ?_
    clear hP hnl
    rintro _ σ ⟨e4, rfl, V4, hP, hB4, hF4⟩
    have hF5 := FB_tr hF1 (FB_tr hF2 hF4)
    refine cI ?_
    refine x_popI T_142_106 ?_
    refine x_li (z := 0) T_142_107 rfl ?_
    refine x_if T_142_109 (fun h => absurd (show ¬ (0 : Int) = 0 from h) (by decide)) (fun _ => ?_)
    refine x_lr (z := some pr) T_142_112 rfl ?_
    refine x_gR (z := some (pr + 3)) T_142_113 F_6_2 (hP.o hpo) (hP.rc hpo rfl rfl) ?_
    refine x_lr (z := some 2175) T_142_116 rfl ?_
    refine x_gR (z := some 2176) T_142_117 F_14_1 (hP.o xo_2175) (hP.rc xo_2175 rfl rfl) ?_
    refine x_ic T_142_120 ?_
    refine x_lr (z := some 2175) T_142_121 rfl ?_
    refine x_gR (z := some 2176) T_142_122 F_14_1 (hP.o xo_2175) (hP.rc xo_2175 rfl rfl) ?_
    refine x_cv1 T_142_125 mN_28 mL_28 (Nat.le_of_ble_eq_true rfl) mO_28 (hP.o xo_2176) (Nat.le_of_ble_eq_true rfl) (hsz σ V4 hP hB4) ?_
    rintro _ σ ⟨rfl, rfl⟩
    refine cI ?_
    refine x_cv4 T_142_128 mN_32 mL_32 (Nat.le_of_ble_eq_true rfl) mO_32 (hP.o hot3) (Nat.le_of_ble_eq_true rfl) (hou σ V4 hP hB4 hF5) ?_
    clear hP hou
    rintro _ σ ⟨e5, rfl, V6, hP, hX6, hF6⟩
    refine cI ?_
    refine x_popI T_142_131 ?_
    refine x_ic T_142_132 ?_
    refine x_ri T_142_133 ?_
    exact ⟨rfl, V6, R, hP, XW.mono hX6 (by omega), FCM_tr (FCM_fb hF5 (by decide)) (FCM_fb hF6 (by omega))⟩
  · have eK : cEcho P p l = cEcho1 P p tw l (N - 2) (lnB l (N - 1)) := by
      unfold cEcho
      rw [if_neg (by omega), hN]
      congr 1
      rcases e3 with rfl | rfl
      · rw [if_neg (by omega)]
      · rw [if_pos (by omega)]
    rw [eK]
    have hbd2 := hbd (N - 2) (by omega) (by omega)
    have hjn := hjn (N - 2) (by omega) (by omega) (by omega)
    have hnl := hnl (ecT l (N - 2) 1 (N - 2 - 1).toNat) (by omega)
    have eX : ecX l (N - 2) = ecT l (N - 2) 1 (N - 2 - 1).toNat ++ [10] := rfl
    have hxl : ((ecX l (N - 2)).length : Int) = (ecT l (N - 2) 1 (N - 2 - 1).toNat).length + 1 := by
      rw [eX, List.length_append]
      rfl
    rw [← eX] at hnl
    have hgo := fun (σ : hM) (V : qR) (hP : PX σ0 V R σ) (hB : BY V 2176 101 (ecX l (N - 2))) (hF : FB 2176 W V) => (ech_134 (fb := fb) (d := d) (tw := tw) (z := N - 2) hP (hXF V hF) hT hp hlv (hC.fcm (R := R) (R2 := R) (FCM_fb hF (by decide))) hN e1 rfl hB (by omega) (by omega) e3).mono (Q := XCM σ0 K (T + 700) U W R (cEcho1 P p tw l (N - 2) (lnB l (N - 1)))) (fun r σ' h => by
      obtain ⟨r1, W2, R2, r2, r3, r4⟩ := h
      exact ⟨r1, W2, R2, r2, r3, FCM_tr (FCM_fb hF (by decide)) r4⟩)
    obtain ⟨pr, hpr⟩ : ∃ q, prO p = q := ⟨_, rfl⟩
    simp only [hpr] at hpo hrp hot3 hgo ⊢
    refine x_si (ls1 := [some (vR (some 2175)), some (vR (some pr)), some (vR (some k)), some (vI (N - 1)), some (vI tw), some (vI 1), none, none, none, none, none, none]) T_142_64 rfl ?_
    refine x_lr (z := some 2175) T_142_66 rfl ?_
    refine x_gR (z := some 2176) T_142_67 F_14_1 (hP.o xo_2175) (hP.rc xo_2175 rfl rfl) ?_
    refine x_cv1 T_142_70 mN_27 mL_27 (Nat.le_of_ble_eq_true rfl) mO_27 (hP.o xo_2176) (Nat.le_of_ble_eq_true rfl) (hcl) ?_
    clear hP hcl
    rintro _ σ ⟨rfl, V1, hP, hB1, hF1⟩
    refine cV ?_
    refine x_lr (z := some k) T_142_73 rfl ?_
    refine x_lr (z := some 2175) T_142_74 rfl ?_
    refine x_gR (z := some 2176) T_142_75 F_14_1 (hP.o xo_2175) (hP.rc xo_2175 rfl rfl) ?_
    refine x_ic T_142_78 ?_
    refine x_li (z := 1) T_142_79 rfl ?_
    refine x_if T_142_81 (fun h => absurd (show (1 : Int) = 0 from h) (by decide)) (fun _ => ?_)
    refine x_li (z := (N - 1)) T_142_84 rfl ?_
    refine x_ic T_142_85 ?_
    refine x_ib (w := N - 2) T_142_86 (fun h => absurd h.1 (by decide)) (w32_e (show N - 1 - 1 = N - 2 by omega) (by omega) (by omega)) ?_
    refine x_goto T_142_87 ?_
    refine x_cv4 T_142_94 mN_108 mL_108 (Nat.le_of_ble_eq_true rfl) mO_108 (hP.o hk) (Nat.le_of_ble_eq_true rfl) (hjn σ V1 hP hB1 hF1) ?_
    clear hP hjn
    rintro _ σ ⟨rfl, V2, hP, hB2, hF2⟩
    refine cV ?_
    refine x_lr (z := some 2175) T_142_97 rfl ?_
    refine x_gR (z := some 2176) T_142_98 F_14_1 (hP.o xo_2175) (hP.rc xo_2175 rfl rfl) ?_
    refine x_ic T_142_101 ?_
    refine x_cv2 T_142_103 mN_73 mL_73 (Nat.le_of_ble_eq_true rfl) mO_73 (hP.o xo_2176) (Nat.le_of_ble_eq_true rfl) (hnl σ V2 hP hB2) ?_
    clear hP hnl
    rintro _ σ ⟨e4, rfl, V4, hP, hB4, hF4⟩
    have hF5 := FB_tr hF1 (FB_tr hF2 hF4)
    refine cI ?_
    refine x_popI T_142_106 ?_
    refine x_li (z := 1) T_142_107 rfl ?_
    refine x_if T_142_109 (fun _ => ?_) (fun h => absurd (show ¬ (1 : Int) = 0 by decide) h)
    exact hgo σ V4 hP hB4 hF5
theorem x_echo (hP : PX σ0 W R σ) (hX : XW K T U W R P) (hT : T + 1700 ≤ 2147483000) (hp : 0 ≤ p ∧ p < 8) (hlv : ¬ P 2320 p = 0) (hC : CMD W k l) (hN : ((lnW l).length : Int) = N) (hN1 : 1 ≤ N) : CL fb (d + 11) 142 [vR (some 2175), vR (some (prO p)), vR (some k)] σ (XCM σ0 K (T + 700) U W R (cEcho P p l)) := by
  have hpo := prO_o hp
  have hk := hC.1
  have h5 := hC.2.2.2.2.1.trans hN
  have hN50 : N ≤ 50 := by
    have := (lnW_ok hC.2.2.2.1.2.2.2.2.1).2
    omega
  have hgo := fun (rd tw : Int) (hec : (ecM l = 0 ∧ rd = 0 ∧ tw = 0) ∨ (3 ≤ N ∧ rd = 1 ∧ ecM l = tw + 1 ∧ (tw = 0 ∨ tw = 1))) => ech_64 (fb := fb) (d := d) hP hX hT hp hlv hC hN hN1 hec
  have hi1 := fun (h : 3 ≤ N) => x_is (fb := fb) (d := d + 5) (j := 47) (w := N - 2) (by decide) hP hC ⟨by omega, by omega⟩
  have hi2 := fun (h : 3 ≤ N) => x_is (fb := fb) (d := d + 5) (j := 48) (w := N - 2) (by decide) hP hC ⟨by omega, by omega⟩
  have eM : ecM l = if N ≤ 2 then 0 else if lnB l (N - 2) = txt 47 then 2 else if lnB l (N - 2) = txt 48 then 1 else 0 := by
    unfold ecM
    rw [hN]
    by_cases q : N ≤ 2
    · rw [if_pos q, if_pos q]
    · rw [if_neg q, if_neg q]
      by_cases q1 : lnB l (N - 2) = txt 47
      · rw [if_pos q1, if_pos (two62.mp q1)]
      · rw [if_neg q1, if_neg (fun c => q1 (two62.mpr c))]
        by_cases q2 : lnB l (N - 2) = txt 48
        · rw [if_pos q2, if_pos (one62.mp q2)]
        · rw [if_neg q2, if_neg (fun c => q2 (one62.mpr c))]
  obtain ⟨pr, hpr⟩ : ∃ q, prO p = q := ⟨_, rfl⟩
  simp only [hpr] at hpo hgo ⊢
  by_cases q : N ≤ 2
  · rw [if_pos q] at eM
    have hgo := hgo 0 0 (Or.inl ⟨eM, rfl, rfl⟩)
    refine CL_in mL_142 rfl ?_
    show WP fb _ 142 0 [some (vR (some 2175)), some (vR (some pr)), some (vR (some k)), none, none, none, none, none, none, none, none, none] [] σ _
    refine x_lr (z := some k) T_142_0 rfl ?_
    refine x_gI (z := N) T_142_1 (Or.inl F_16_4) (hP.o hk) (Eq.trans (hP.gi hk (key := 2516) rfl) h5) ?_
    refine x_ic T_142_4 ?_
    refine x_ib (w := (N - 1)) T_142_5 (fun h => absurd h.1 (by decide)) (w32_id (by omega) (by omega)) ?_
    refine x_si (ls1 := [some (vR (some 2175)), some (vR (some pr)), some (vR (some k)), some (vI (N - 1)), none, none, none, none, none, none, none, none]) T_142_6 rfl ?_
    refine x_lr (z := some k) T_142_7 rfl ?_
    refine x_gI (z := N) T_142_8 (Or.inl F_16_4) (hP.o hk) (Eq.trans (hP.gi hk (key := 2516) rfl) h5) ?_
    refine x_ic T_142_11 ?_
    refine x_ic2 T_142_12 (fun _ => ?_) (fun h => absurd (show N ≤ 2 by omega) h)
    refine x_ic T_142_31 ?_
    refine x_si (ls1 := [some (vR (some 2175)), some (vR (some pr)), some (vR (some k)), some (vI (N - 1)), some (vI 0), none, none, none, none, none, none, none]) T_142_32 rfl ?_
    refine x_li (z := 0) T_142_34 rfl ?_
    refine x_if T_142_36 (fun h => absurd (show ¬ (0 : Int) = 0 from h) (by decide)) (fun _ => ?_)
    refine x_lr (z := some k) T_142_39 rfl ?_
    refine x_gI (z := N) T_142_40 (Or.inl F_16_4) (hP.o hk) (Eq.trans (hP.gi hk (key := 2516) rfl) h5) ?_
    refine x_ic T_142_43 ?_
    refine x_ic2 T_142_44 (fun _ => ?_) (fun h => absurd (show N ≤ 2 by omega) h)
    refine x_ic T_142_63 ?_
    exact hgo
  rw [if_neg q] at eM
  have hi1 := hi1 (by omega)
  have hi2 := hi2 (by omega)
  by_cases q1 : lnB l (N - 2) = txt 47
  · rw [if_pos q1] at eM hi1
    have hgo := hgo 1 1 (Or.inr ⟨by omega, rfl, eM, Or.inr rfl⟩)
    refine CL_in mL_142 rfl ?_
    show WP fb _ 142 0 [some (vR (some 2175)), some (vR (some pr)), some (vR (some k)), none, none, none, none, none, none, none, none, none] [] σ _
    refine x_lr (z := some k) T_142_0 rfl ?_
    refine x_gI (z := N) T_142_1 (Or.inl F_16_4) (hP.o hk) (Eq.trans (hP.gi hk (key := 2516) rfl) h5) ?_
    refine x_ic T_142_4 ?_
    refine x_ib (w := (N - 1)) T_142_5 (fun h => absurd h.1 (by decide)) (w32_id (by omega) (by omega)) ?_
    refine x_si (ls1 := [some (vR (some 2175)), some (vR (some pr)), some (vR (some k)), some (vI (N - 1)), none, none, none, none, none, none, none, none]) T_142_6 rfl ?_
    refine x_lr (z := some k) T_142_7 rfl ?_
    refine x_gI (z := N) T_142_8 (Or.inl F_16_4) (hP.o hk) (Eq.trans (hP.gi hk (key := 2516) rfl) h5) ?_
    refine x_ic T_142_11 ?_
    refine x_ic2 T_142_12 (fun h => absurd (show N ≤ 2 from h) (by omega)) (fun _ => ?_)
    refine x_lr (z := some k) T_142_15 rfl ?_
    refine x_li (z := (N - 1)) T_142_16 rfl ?_
    refine x_ic T_142_17 ?_
    refine x_ib (w := N - 2) T_142_18 (fun h => absurd h.1 (by decide)) (w32_e (show N - 1 - 1 = N - 2 by omega) (by omega) (by omega)) ?_
    refine x_sta T_142_19 rfl ?_
    refine x_cv3 T_142_21 mN_115 mL_115 (Nat.le_of_ble_eq_true rfl) mO_115 (hP.o hk) (Nat.le_of_ble_eq_true rfl) (hi1) ?_
    rintro _ σ ⟨rfl, rfl⟩
    refine cI ?_
    refine x_if T_142_24 (fun h => absurd (show (1 : Int) = 0 from h) (by decide)) (fun _ => ?_)
    refine x_ic T_142_27 ?_
    refine x_goto T_142_28 ?_
    refine x_si (ls1 := [some (vR (some 2175)), some (vR (some pr)), some (vR (some k)), some (vI (N - 1)), some (vI 1), none, none, none, none, none, none, none]) T_142_32 rfl ?_
    refine x_li (z := 1) T_142_34 rfl ?_
    refine x_if T_142_36 (fun _ => ?_) (fun h => absurd (show ¬ (1 : Int) = 0 by decide) h)
    refine x_ic T_142_59 ?_
    refine x_goto T_142_60 ?_
    exact hgo
  rw [if_neg q1] at eM hi1
  by_cases q2 : lnB l (N - 2) = txt 48
  · rw [if_pos q2] at eM hi2
    have hgo := hgo 1 0 (Or.inr ⟨by omega, rfl, eM, Or.inl rfl⟩)
    refine CL_in mL_142 rfl ?_
    show WP fb _ 142 0 [some (vR (some 2175)), some (vR (some pr)), some (vR (some k)), none, none, none, none, none, none, none, none, none] [] σ _
    refine x_lr (z := some k) T_142_0 rfl ?_
    refine x_gI (z := N) T_142_1 (Or.inl F_16_4) (hP.o hk) (Eq.trans (hP.gi hk (key := 2516) rfl) h5) ?_
    refine x_ic T_142_4 ?_
    refine x_ib (w := (N - 1)) T_142_5 (fun h => absurd h.1 (by decide)) (w32_id (by omega) (by omega)) ?_
    refine x_si (ls1 := [some (vR (some 2175)), some (vR (some pr)), some (vR (some k)), some (vI (N - 1)), none, none, none, none, none, none, none, none]) T_142_6 rfl ?_
    refine x_lr (z := some k) T_142_7 rfl ?_
    refine x_gI (z := N) T_142_8 (Or.inl F_16_4) (hP.o hk) (Eq.trans (hP.gi hk (key := 2516) rfl) h5) ?_
    refine x_ic T_142_11 ?_
    refine x_ic2 T_142_12 (fun h => absurd (show N ≤ 2 from h) (by omega)) (fun _ => ?_)
    refine x_lr (z := some k) T_142_15 rfl ?_
    refine x_li (z := (N - 1)) T_142_16 rfl ?_
    refine x_ic T_142_17 ?_
    refine x_ib (w := N - 2) T_142_18 (fun h => absurd h.1 (by decide)) (w32_e (show N - 1 - 1 = N - 2 by omega) (by omega) (by omega)) ?_
    refine x_sta T_142_19 rfl ?_
    refine x_cv3 T_142_21 mN_115 mL_115 (Nat.le_of_ble_eq_true rfl) mO_115 (hP.o hk) (Nat.le_of_ble_eq_true rfl) (hi1) ?_
    rintro _ σ ⟨rfl, rfl⟩
    refine cI ?_
    refine x_if T_142_24 (fun _ => ?_) (fun h => absurd (show (0 : Int) = 0 by rfl) h)
    refine x_ic T_142_31 ?_
    refine x_si (ls1 := [some (vR (some 2175)), some (vR (some pr)), some (vR (some k)), some (vI (N - 1)), some (vI 0), none, none, none, none, none, none, none]) T_142_32 rfl ?_
    refine x_li (z := 0) T_142_34 rfl ?_
    refine x_if T_142_36 (fun h => absurd (show ¬ (0 : Int) = 0 from h) (by decide)) (fun _ => ?_)
    refine x_lr (z := some k) T_142_39 rfl ?_
    refine x_gI (z := N) T_142_40 (Or.inl F_16_4) (hP.o hk) (Eq.trans (hP.gi hk (key := 2516) rfl) h5) ?_
    refine x_ic T_142_43 ?_
    refine x_ic2 T_142_44 (fun h => absurd (show N ≤ 2 from h) (by omega)) (fun _ => ?_)
    refine x_lr (z := some k) T_142_47 rfl ?_
    refine x_li (z := (N - 1)) T_142_48 rfl ?_
    refine x_ic T_142_49 ?_
    refine x_ib (w := N - 2) T_142_50 (fun h => absurd h.1 (by decide)) (w32_e (show N - 1 - 1 = N - 2 by omega) (by omega) (by omega)) ?_
    refine x_sta T_142_51 rfl ?_
    refine x_cv3 T_142_53 mN_115 mL_115 (Nat.le_of_ble_eq_true rfl) mO_115 (hP.o hk) (Nat.le_of_ble_eq_true rfl) (hi2) ?_
    rintro _ σ ⟨rfl, rfl⟩
    refine cI ?_
    refine x_if T_142_56 (fun h => absurd (show (1 : Int) = 0 from h) (by decide)) (fun _ => ?_)
    refine x_ic T_142_59 ?_
    refine x_goto T_142_60 ?_
    exact hgo
  · rw [if_neg q2] at eM hi2
    have hgo := hgo 0 0 (Or.inl ⟨eM, rfl, rfl⟩)
    refine CL_in mL_142 rfl ?_
    show WP fb _ 142 0 [some (vR (some 2175)), some (vR (some pr)), some (vR (some k)), none, none, none, none, none, none, none, none, none] [] σ _
    refine x_lr (z := some k) T_142_0 rfl ?_
    refine x_gI (z := N) T_142_1 (Or.inl F_16_4) (hP.o hk) (Eq.trans (hP.gi hk (key := 2516) rfl) h5) ?_
    refine x_ic T_142_4 ?_
    refine x_ib (w := (N - 1)) T_142_5 (fun h => absurd h.1 (by decide)) (w32_id (by omega) (by omega)) ?_
    refine x_si (ls1 := [some (vR (some 2175)), some (vR (some pr)), some (vR (some k)), some (vI (N - 1)), none, none, none, none, none, none, none, none]) T_142_6 rfl ?_
    refine x_lr (z := some k) T_142_7 rfl ?_
    refine x_gI (z := N) T_142_8 (Or.inl F_16_4) (hP.o hk) (Eq.trans (hP.gi hk (key := 2516) rfl) h5) ?_
    refine x_ic T_142_11 ?_
    refine x_ic2 T_142_12 (fun h => absurd (show N ≤ 2 from h) (by omega)) (fun _ => ?_)
    refine x_lr (z := some k) T_142_15 rfl ?_
    refine x_li (z := (N - 1)) T_142_16 rfl ?_
    refine x_ic T_142_17 ?_
    refine x_ib (w := N - 2) T_142_18 (fun h => absurd h.1 (by decide)) (w32_e (show N - 1 - 1 = N - 2 by omega) (by omega) (by omega)) ?_
    refine x_sta T_142_19 rfl ?_
    refine x_cv3 T_142_21 mN_115 mL_115 (Nat.le_of_ble_eq_true rfl) mO_115 (hP.o hk) (Nat.le_of_ble_eq_true rfl) (hi1) ?_
    rintro _ σ ⟨rfl, rfl⟩
    refine cI ?_
    refine x_if T_142_24 (fun _ => ?_) (fun h => absurd (show (0 : Int) = 0 by rfl) h)
    refine x_ic T_142_31 ?_
    refine x_si (ls1 := [some (vR (some 2175)), some (vR (some pr)), some (vR (some k)), some (vI (N - 1)), some (vI 0), none, none, none, none, none, none, none]) T_142_32 rfl ?_
    refine x_li (z := 0) T_142_34 rfl ?_
    refine x_if T_142_36 (fun h => absurd (show ¬ (0 : Int) = 0 from h) (by decide)) (fun _ => ?_)
    refine x_lr (z := some k) T_142_39 rfl ?_
    refine x_gI (z := N) T_142_40 (Or.inl F_16_4) (hP.o hk) (Eq.trans (hP.gi hk (key := 2516) rfl) h5) ?_
    refine x_ic T_142_43 ?_
    refine x_ic2 T_142_44 (fun h => absurd (show N ≤ 2 from h) (by omega)) (fun _ => ?_)
    refine x_lr (z := some k) T_142_47 rfl ?_
    refine x_li (z := (N - 1)) T_142_48 rfl ?_
    refine x_ic T_142_49 ?_
    refine x_ib (w := N - 2) T_142_50 (fun h => absurd h.1 (by decide)) (w32_e (show N - 1 - 1 = N - 2 by omega) (by omega) (by omega)) ?_
    refine x_sta T_142_51 rfl ?_
    refine x_cv3 T_142_53 mN_115 mL_115 (Nat.le_of_ble_eq_true rfl) mO_115 (hP.o hk) (Nat.le_of_ble_eq_true rfl) (hi2) ?_
    rintro _ σ ⟨rfl, rfl⟩
    refine cI ?_
    refine x_if T_142_56 (fun _ => ?_) (fun h => absurd (show (0 : Int) = 0 by rfl) h)
    refine x_ic T_142_63 ?_
    exact hgo
end XECI
