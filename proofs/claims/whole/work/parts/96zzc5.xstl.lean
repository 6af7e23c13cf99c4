/-! The class's commands: what a process is told; a file that was opened becomes a descriptor; open, create. -/
theorem T_148_0 : hTab 148 0 = some ((3, 2, 2, []), 1) := rfl
theorem T_148_1 : hTab 148 1 = some ((0, 0, 1, []), 2) := rfl
theorem T_148_2 : hTab 148 2 = some ((31, 149, 0, []), 5) := rfl
theorem T_148_5 : hTab 148 5 = some ((4, 3, 0, []), 6) := rfl
theorem T_148_6 : hTab 148 6 = some ((3, 2, 2, []), 7) := rfl
theorem T_148_7 : hTab 148 7 = some ((0, 0, 3, []), 8) := rfl
theorem T_148_8 : hTab 148 8 = some ((31, 151, 0, []), 11) := rfl
theorem T_148_11 : hTab 148 11 = some ((4, 4, 0, []), 13) := rfl
theorem T_148_13 : hTab 148 13 = some ((3, 2, 2, []), 14) := rfl
theorem T_148_14 : hTab 148 14 = some ((24, 16, Int.ofNat 4, []), 17) := rfl
theorem T_148_17 : hTab 148 17 = some ((0, 0, 4, []), 18) := rfl
theorem T_148_18 : hTab 148 18 = some ((19, 1, Int.ofNat 37, []), 21) := rfl
theorem T_148_21 : hTab 148 21 = some ((3, 3, 0, []), 22) := rfl
theorem T_148_22 : hTab 148 22 = some ((0, 0, (-1), []), 23) := rfl
theorem T_148_23 : hTab 148 23 = some ((19, 0, Int.ofNat 37, []), 26) := rfl
theorem T_148_26 : hTab 148 26 = some ((3, 4, 0, []), 28) := rfl
theorem T_148_28 : hTab 148 28 = some ((18, 2, Int.ofNat 37, []), 31) := rfl
theorem T_148_31 : hTab 148 31 = some ((3, 4, 0, []), 33) := rfl
theorem T_148_33 : hTab 148 33 = some ((0, 0, 2, []), 34) := rfl
theorem T_148_34 : hTab 148 34 = some ((19, 5, Int.ofNat 40, []), 37) := rfl
theorem T_148_37 : hTab 148 37 = some ((0, 0, 18, []), 39) := rfl
theorem T_148_39 : hTab 148 39 = some ((33, 1, 0, []), 40) := rfl
theorem T_148_40 : hTab 148 40 = some ((3, 1, 2, []), 41) := rfl
theorem T_148_41 : hTab 148 41 = some ((31, 152, 0, []), 44) := rfl
theorem T_148_44 : hTab 148 44 = some ((0, 0, (-1), []), 45) := rfl
theorem T_148_45 : hTab 148 45 = some ((19, 1, Int.ofNat 51, []), 48) := rfl
theorem T_148_48 : hTab 148 48 = some ((0, 0, 20, []), 50) := rfl
theorem T_148_50 : hTab 148 50 = some ((33, 1, 0, []), 51) := rfl
theorem T_148_51 : hTab 148 51 = some ((3, 0, 2, []), 52) := rfl
theorem T_148_52 : hTab 148 52 = some ((3, 1, 2, []), 53) := rfl
theorem T_148_53 : hTab 148 53 = some ((3, 2, 2, []), 54) := rfl
theorem T_148_54 : hTab 148 54 = some ((0, 0, 2, []), 55) := rfl
theorem T_148_55 : hTab 148 55 = some ((3, 3, 0, []), 56) := rfl
theorem T_148_56 : hTab 148 56 = some ((14, 0, 0, []), 57) := rfl
theorem T_148_57 : hTab 148 57 = some ((3, 4, 0, []), 59) := rfl
theorem T_148_59 : hTab 148 59 = some ((31, 143, 0, []), 62) := rfl
theorem T_148_62 : hTab 148 62 = some ((4, 5, 0, []), 64) := rfl
theorem T_148_64 : hTab 148 64 = some ((3, 5, 0, []), 66) := rfl
theorem T_148_66 : hTab 148 66 = some ((18, 1, Int.ofNat 74, []), 69) := rfl
theorem T_148_69 : hTab 148 69 = some ((3, 0, 2, []), 70) := rfl
theorem T_148_70 : hTab 148 70 = some ((3, 1, 2, []), 71) := rfl
theorem T_148_71 : hTab 148 71 = some ((31, 153, 0, []), 74) := rfl
theorem T_148_74 : hTab 148 74 = some ((3, 5, 0, []), 76) := rfl
theorem T_148_76 : hTab 148 76 = some ((33, 1, 0, []), 77) := rfl
theorem T_153_0 : hTab 153 0 = some ((3, 1, 2, []), 1) := rfl
theorem T_153_1 : hTab 153 1 = some ((31, 152, 0, []), 4) := rfl
theorem T_153_4 : hTab 153 4 = some ((4, 2, 0, []), 5) := rfl
theorem T_153_5 : hTab 153 5 = some ((3, 0, 2, []), 6) := rfl
theorem T_153_6 : hTab 153 6 = some ((24, 14, Int.ofNat 0, []), 9) := rfl
theorem T_153_9 : hTab 153 9 = some ((31, 154, 0, []), 12) := rfl
theorem T_153_12 : hTab 153 12 = some ((4, 3, 2, []), 13) := rfl
theorem T_153_13 : hTab 153 13 = some ((3, 3, 2, []), 14) := rfl
theorem T_153_14 : hTab 153 14 = some ((3, 0, 2, []), 15) := rfl
theorem T_153_15 : hTab 153 15 = some ((24, 14, Int.ofNat 2, []), 18) := rfl
theorem T_153_18 : hTab 153 18 = some ((24, 5, Int.ofNat 0, []), 21) := rfl
theorem T_153_21 : hTab 153 21 = some ((3, 0, 2, []), 22) := rfl
theorem T_153_22 : hTab 153 22 = some ((24, 14, Int.ofNat 2, []), 25) := rfl
theorem T_153_25 : hTab 153 25 = some ((24, 5, Int.ofNat 1, []), 28) := rfl
theorem T_153_28 : hTab 153 28 = some ((3, 0, 2, []), 29) := rfl
theorem T_153_29 : hTab 153 29 = some ((24, 14, Int.ofNat 2, []), 32) := rfl
theorem T_153_32 : hTab 153 32 = some ((24, 5, Int.ofNat 2, []), 35) := rfl
theorem T_153_35 : hTab 153 35 = some ((3, 0, 2, []), 36) := rfl
theorem T_153_36 : hTab 153 36 = some ((24, 14, Int.ofNat 2, []), 39) := rfl
theorem T_153_39 : hTab 153 39 = some ((24, 5, Int.ofNat 3, []), 42) := rfl
theorem T_153_42 : hTab 153 42 = some ((31, 128, 0, []), 45) := rfl
theorem T_153_45 : hTab 153 45 = some ((3, 3, 2, []), 46) := rfl
theorem T_153_46 : hTab 153 46 = some ((0, 0, 1, []), 47) := rfl
theorem T_153_47 : hTab 153 47 = some ((25, 5, Int.ofNat 7, []), 50) := rfl
theorem T_153_50 : hTab 153 50 = some ((3, 1, 2, []), 51) := rfl
theorem T_153_51 : hTab 153 51 = some ((3, 2, 0, []), 52) := rfl
theorem T_153_52 : hTab 153 52 = some ((3, 3, 2, []), 53) := rfl
theorem T_153_53 : hTab 153 53 = some ((31, 155, 0, []), 56) := rfl
theorem T_153_56 : hTab 153 56 = some ((3, 1, 2, []), 57) := rfl
theorem T_153_57 : hTab 153 57 = some ((24, 6, Int.ofNat 2, []), 60) := rfl
theorem T_153_60 : hTab 153 60 = some ((3, 2, 0, []), 61) := rfl
theorem T_153_61 : hTab 153 61 = some ((14, 0, 0, []), 62) := rfl
theorem T_153_62 : hTab 153 62 = some ((31, 75, 0, []), 65) := rfl
theorem T_153_65 : hTab 153 65 = some ((3, 1, 2, []), 66) := rfl
theorem T_153_66 : hTab 153 66 = some ((24, 6, Int.ofNat 2, []), 69) := rfl
theorem T_153_69 : hTab 153 69 = some ((0, 0, 10, []), 71) := rfl
theorem T_153_71 : hTab 153 71 = some ((31, 73, 0, []), 74) := rfl
theorem T_153_74 : hTab 153 74 = some ((7, 0, 0, []), 75) := rfl
theorem T_153_75 : hTab 153 75 = some ((33, 0, 0, []), 76) := rfl
theorem T_164_0 : hTab 164 0 = some ((3, 2, 2, []), 1) := rfl
theorem T_164_1 : hTab 164 1 = some ((0, 0, 2, []), 2) := rfl
theorem T_164_2 : hTab 164 2 = some ((31, 151, 0, []), 5) := rfl
theorem T_164_5 : hTab 164 5 = some ((4, 3, 0, []), 6) := rfl
theorem T_164_6 : hTab 164 6 = some ((3, 2, 2, []), 7) := rfl
theorem T_164_7 : hTab 164 7 = some ((24, 16, Int.ofNat 4, []), 10) := rfl
theorem T_164_10 : hTab 164 10 = some ((0, 0, 3, []), 11) := rfl
theorem T_164_11 : hTab 164 11 = some ((19, 1, Int.ofNat 23, []), 14) := rfl
theorem T_164_14 : hTab 164 14 = some ((3, 3, 0, []), 15) := rfl
theorem T_164_15 : hTab 164 15 = some ((18, 2, Int.ofNat 23, []), 18) := rfl
theorem T_164_18 : hTab 164 18 = some ((3, 3, 0, []), 19) := rfl
theorem T_164_19 : hTab 164 19 = some ((0, 0, 2, []), 20) := rfl
theorem T_164_20 : hTab 164 20 = some ((19, 5, Int.ofNat 26, []), 23) := rfl
theorem T_164_23 : hTab 164 23 = some ((0, 0, 18, []), 25) := rfl
theorem T_164_25 : hTab 164 25 = some ((33, 1, 0, []), 26) := rfl
theorem T_164_26 : hTab 164 26 = some ((3, 1, 2, []), 27) := rfl
theorem T_164_27 : hTab 164 27 = some ((31, 152, 0, []), 30) := rfl
theorem T_164_30 : hTab 164 30 = some ((0, 0, (-1), []), 31) := rfl
theorem T_164_31 : hTab 164 31 = some ((19, 1, Int.ofNat 37, []), 34) := rfl
theorem T_164_34 : hTab 164 34 = some ((0, 0, 20, []), 36) := rfl
theorem T_164_36 : hTab 164 36 = some ((33, 1, 0, []), 37) := rfl
theorem T_164_37 : hTab 164 37 = some ((3, 0, 2, []), 38) := rfl
theorem T_164_38 : hTab 164 38 = some ((24, 14, Int.ofNat 0, []), 41) := rfl
theorem T_164_41 : hTab 164 41 = some ((3, 1, 2, []), 42) := rfl
theorem T_164_42 : hTab 164 42 = some ((3, 2, 2, []), 43) := rfl
theorem T_164_43 : hTab 164 43 = some ((0, 0, 1, []), 44) := rfl
theorem T_164_44 : hTab 164 44 = some ((3, 0, 2, []), 45) := rfl
theorem T_164_45 : hTab 164 45 = some ((24, 14, Int.ofNat 2, []), 48) := rfl
theorem T_164_48 : hTab 164 48 = some ((0, 0, 1, []), 49) := rfl
theorem T_164_49 : hTab 164 49 = some ((31, 117, 0, []), 52) := rfl
theorem T_164_52 : hTab 164 52 = some ((4, 4, 0, []), 54) := rfl
theorem T_164_54 : hTab 164 54 = some ((3, 4, 0, []), 56) := rfl
theorem T_164_56 : hTab 164 56 = some ((18, 0, Int.ofNat 62, []), 59) := rfl
theorem T_164_59 : hTab 164 59 = some ((3, 4, 0, []), 61) := rfl
theorem T_164_61 : hTab 164 61 = some ((33, 1, 0, []), 62) := rfl
theorem T_164_62 : hTab 164 62 = some ((3, 0, 2, []), 63) := rfl
theorem T_164_63 : hTab 164 63 = some ((3, 0, 2, []), 64) := rfl
theorem T_164_64 : hTab 164 64 = some ((24, 14, Int.ofNat 2, []), 67) := rfl
theorem T_164_67 : hTab 164 67 = some ((3, 0, 2, []), 68) := rfl
theorem T_164_68 : hTab 164 68 = some ((24, 14, Int.ofNat 0, []), 71) := rfl
theorem T_164_71 : hTab 164 71 = some ((3, 0, 2, []), 72) := rfl
theorem T_164_72 : hTab 164 72 = some ((24, 14, Int.ofNat 2, []), 75) := rfl
theorem T_164_75 : hTab 164 75 = some ((24, 5, Int.ofNat 1, []), 78) := rfl
theorem T_164_78 : hTab 164 78 = some ((3, 3, 0, []), 79) := rfl
theorem T_164_79 : hTab 164 79 = some ((31, 135, 0, []), 82) := rfl
theorem T_164_82 : hTab 164 82 = some ((31, 136, 0, []), 85) := rfl
theorem T_164_85 : hTab 164 85 = some ((4, 4, 0, []), 87) := rfl
theorem T_164_87 : hTab 164 87 = some ((3, 4, 0, []), 89) := rfl
theorem T_164_89 : hTab 164 89 = some ((18, 1, Int.ofNat 100, []), 92) := rfl
theorem T_164_92 : hTab 164 92 = some ((3, 0, 2, []), 93) := rfl
theorem T_164_93 : hTab 164 93 = some ((3, 1, 2, []), 94) := rfl
theorem T_164_94 : hTab 164 94 = some ((31, 153, 0, []), 97) := rfl
theorem T_164_97 : hTab 164 97 = some ((22, 0, Int.ofNat 112, []), 100) := rfl
theorem T_164_100 : hTab 164 100 = some ((3, 0, 2, []), 101) := rfl
theorem T_164_101 : hTab 164 101 = some ((24, 14, Int.ofNat 0, []), 104) := rfl
theorem T_164_104 : hTab 164 104 = some ((3, 0, 2, []), 105) := rfl
theorem T_164_105 : hTab 164 105 = some ((24, 14, Int.ofNat 2, []), 108) := rfl
theorem T_164_108 : hTab 164 108 = some ((31, 132, 0, []), 111) := rfl
theorem T_164_111 : hTab 164 111 = some ((7, 0, 0, []), 112) := rfl
theorem T_164_112 : hTab 164 112 = some ((3, 4, 0, []), 114) := rfl
theorem T_164_114 : hTab 164 114 = some ((33, 1, 0, []), 115) := rfl
theorem mN_148 : hmN 148 = 3 := by decide +kernel
theorem mL_148 : hmL 148 = 6 := by decide +kernel
theorem mK_148 : hmK 148 = 1 := by decide +kernel
theorem mO_148 : hmO 148 = 14 := by decide +kernel
theorem mN_153 : hmN 153 = 2 := by decide +kernel
theorem mL_153 : hmL 153 = 4 := by decide +kernel
theorem mK_153 : hmK 153 = 1 := by decide +kernel
theorem mO_153 : hmO 153 = 14 := by decide +kernel
theorem mN_164 : hmN 164 = 3 := by decide +kernel
theorem mL_164 : hmL 164 = 5 := by decide +kernel
theorem mK_164 : hmK 164 = 1 := by decide +kernel
theorem mO_164 : hmO 164 = 14 := by decide +kernel
section XSTL
variable {fb : Bool} {d S b c q n a0 m k : Nat} {σ0 σ : hM} {W W1 W2 P Q : qR} {R R1 R2 : rR} {i j x z v s e w f g u p p2 o K T U t a dd pa dr md : Int} {l l0 lo nm M wd A : List Int} {ch : Ch}
theorem LIV_out (hX : XW K T U W R P) (hp : 0 ≤ p ∧ p < 8) (hlv : ¬ P 2320 p = 0) : BY W (prO p + 3) 1000 (seg (P 2328) (1000 * p) (P 2329 p).toNat) := ((hX.1.2.2.1.1 p hp.1 hp.2).2.2.2 hlv).2.2.2.2.1
theorem byt_dec (hv : 0 ≤ v) : byt (decL v) := fun k hk => by
  by_cases q : k < ((decL v).length : Int)
  · have hm : lg (decL v) k ∈ decL v := by
      unfold lg
      rw [List.getD_eq_getElem?_getD, List.getElem?_eq_getElem (show k.toNat < (decL v).length by omega)]
      exact List.getElem_mem ..
    have := dcL_b hv (ndF v 18 0) _ hm
    omega
  · rw [lg_out (by omega)]
    decide
/-- what a process is told: a byte, a number, bytes of a row -/
abbrev XOU (σ0 : hM) (K T U : Int) (W : qR) (R : rR) (P : qR) (p : Int) (l : List Int) : Option AV → hM → Prop := fun r σ' => ∃ W2, PX σ0 W2 R σ' ∧ XW K T U W2 R (gOut P p l) ∧ FB (prO p + 3) W W2
theorem x_outAdd (hP : PX σ0 W R σ) (hX : XW K T U W R P) (hp : 0 ≤ p ∧ p < 8) (hlv : ¬ P 2320 p = 0) (hx : 0 ≤ x ∧ x ≤ 255) : CL fb d 73 [vR (some (prO p + 3)), vI x] σ (fun r σ' => ∃ e, r = some (vI e) ∧ XOU σ0 K T U W R P p [x] r σ') := by
  have hB := LIV_out hX hp hlv
  refine (x_add (fb := fb) (d := d) hP hB hx).mono ?_
  rintro r σ' ⟨rfl, W2, g1, g2, g3⟩
  rw [tk1 hB.2.2.2.2.1] at g2
  exact ⟨_, rfl, W2, g1, hX.out1 hp (byt_cons hx byt_nil) hlv g3 g2, g3⟩
theorem x_outNum (hP : PX σ0 W R σ) (hX : XW K T U W R P) (hp : 0 ≤ p ∧ p < 8) (hlv : ¬ P 2320 p = 0) (hv : 0 ≤ v ∧ v < 1000000000000000000) : CL fb d 75 [vR (some (prO p + 3)), vL v] σ (fun r σ' => r = none ∧ XOU σ0 K T U W R P p (decL v) r σ') := by
  have hB := LIV_out hX hp hlv
  refine (x_addNumber (fb := fb) (d := d) hP hB hv).mono ?_
  rintro r σ' ⟨rfl, W2, g1, g2, g3⟩
  exact ⟨rfl, W2, g1, hX.out1 hp (byt_dec hv.1) hlv g3 g2, g3⟩
theorem x_outAll (hP : PX σ0 W R σ) (hX : XW K T U W R P) (hp : 0 ≤ p ∧ p < 8) (hlv : ¬ P 2320 p = 0) (hC : BY W c q lo) (hcb : c ≠ prO p + 3) (h : e ≤ s ∨ 0 ≤ s) (he : e ≤ lo.length) : CL fb d 32 [vR (some (prO p + 3)), vR (some c), vI s, vI e] σ (fun r σ' => ∃ e2, r = some (vI e2) ∧ XOU σ0 K T U W R P p (seg (lg lo) s (e - s).toNat) r σ') := by
  have hB := LIV_out hX hp hlv
  refine (x_addAll (fb := fb) (d := d) hP hB hC hcb h he).mono ?_
  rintro r σ' ⟨rfl, W2, g1, g2, g3⟩
  exact ⟨_, rfl, W2, g1, hX.out1 hp (byt_seg (fun i i0 i1 => hC.2.2.2.2.2.1 _ (by omega))) hlv g3 g2, g3⟩
theorem lv_out (hlv : ¬ P 2320 p = 0) : ¬ gOut P p2 l 2320 p = 0 := by
  rw [gOut_f (by decide) (by decide)]
  exact hlv
theorem x_settle (hP : PX σ0 W R σ) (hX : XW K T U W R P) (hp : 0 ≤ p ∧ p < 8) (hlv : ¬ P 2320 p = 0) (hfd : 0 ≤ qFd P p) (hch : CHX W R 2178 ch) (hcr : chR ch) (hU : 0 ≤ U) : CL fb (d + 1) 153 [vR (some 2175), vR (some (prO p))] σ (fun r σ' => r = none ∧ ∃ W2 R2, PX σ0 W2 R2 σ' ∧ XW K T U W2 R2 (gKeep P p ch) ∧ FCM W W2 R R2) := by
  have hG := hX.1.2.2.2.1
  have hq := qFo_ok hX.1.2.2.2.2.2.1 hp hfd
  have hfd2 : qFd P p < 8 ∧ P 2327 (8 * p + qFd P p) < 0 := by
    rcases fdR_rng (P := P) (p := p) 8 0 with q | ⟨q1, q2, q3⟩
    · have q : qFd P p = -1 := q
      omega
    · have e2 : fdR P p 8 0 = qFd P p := rfl
      rw [e2] at q2 q3
      exact ⟨by omega, q3⟩
  have hsd := x_spareDescriptor (fb := fb) (d := d) hP hX.1.2.2.1 hp hlv hG.iv
  have hso := x_spareOpening (fb := fb) (d := d) hP hX.1.2.2.1 hX.1.2.2.2.2.2.1 hq.2.1
  have hgk : gKeep P p ch = gOut (gOut (gK1 P p (qFd P p) (qFo P) ch) p [48 + qFd P p]) p [10] := rfl
  rw [hgk]
  obtain ⟨dd, hdd⟩ : ∃ z, qFd P p = z := ⟨_, rfl⟩
  obtain ⟨o, ho⟩ : ∃ z, qFo P = z := ⟨_, rfl⟩
  rw [hdd] at hfd hfd2 hsd
  rw [ho] at hq hso
  rw [hdd, ho]
  obtain ⟨s, f, pa, kd, cp⟩ := ch
  obtain ⟨h1, h2, -⟩ := hcr
  have h1 : 0 ≤ s ∧ s < 3 := h1
  have h2 : 0 ≤ f ∧ f ≤ 47 := h2
  obtain ⟨c1, c2, c3, c4, -⟩ := hch
  obtain ⟨dr, hdr⟩ : ∃ z : Int, (if kd = 128 then 1 else 0) = z := ⟨_, rfl⟩
  have hdr2 : dr = 0 ∨ dr = 1 := by rw [← hdr]; split <;> decide
  have c1 : W 2178 2160 = s := c1
  have c2 : W 2178 2161 = f := c2
  have c3 : W 2178 2162 = pa := c3
  have c4 : W 2178 2163 = dr := c4.trans hdr
  have hX1 := hX.kep (ch := (s, f, pa, kd, cp)) (pa := pa) (dr := dr) hp hlv ⟨hfd, hfd2.1⟩ hfd2.2 ⟨hq.1, hq.2.1⟩ hq.2.2 h1 h2 hU
  have hlv1 : ¬ gK1 P p dd o (s, f, pa, kd, cp) 2320 p = 0 := by
    rw [gK1_f (by decide) (by decide) (by decide) (by decide) (by decide)]
    exact hlv
  have hde : decL dd = [48 + dd] := dec1 ⟨hfd, by omega⟩
  rw [← hde]
  obtain ⟨P1, hP1⟩ : ∃ z, gK1 P p dd o (s, f, pa, kd, cp) = z := ⟨_, rfl⟩
  rw [hP1] at hX1 hlv1
  rw [hP1]
  have hot : tX (1229 + o.toNat) = some (Sum.inl 5) := tX_opn o.toNat (by omega)
  have hor : 1229 + o.toNat < 1293 := by omega
  have hor2 : 1229 ≤ 1229 + o.toNat := by omega
  have hpo := prO_o hp
  have hrp := prO_rng hp
  have hot3 : tX (prO p + 3) = some (Sum.inl 2) := (LIV_out hX hp hlv).1
  have hst := fun (ob : Nat) (hot : tX ob = some (Sum.inl 5)) (σ : hM) (V : qR) (V3 : rR) (hP : PX σ0 V V3 σ) => x_setOpening (fb := fb) (d := d) (p := p) (k := dd) (r := some ob) hP hp ⟨hfd, hfd2.1⟩ (fun b hb => by cases hb; exact hot)
  have had := fun (σ : hM) (V : qR) (V3 : rR) (hP : PX σ0 V V3 σ) (hX : XW K T U V V3 P1) => x_outNum (fb := fb) (d := d) (v := dd) hP hX hp hlv1 ⟨hfd, by omega⟩
  have hnl := fun (σ : hM) (V : qR) (V3 : rR) (hP : PX σ0 V V3 σ) (hX : XW K T U V V3 (gOut P1 p (decL dd))) => x_outAdd (fb := fb) (d := d) (x := 10) hP hX hp (lv_out hlv1) (by decide)
  obtain ⟨ob, hob⟩ : ∃ z, 1229 + o.toNat = z := ⟨_, rfl⟩
  obtain ⟨pr, hpr⟩ : ∃ z, prO p = z := ⟨_, rfl⟩
  rw [hob] at hso hX1 hot hor hor2
  rw [hpr] at hsd hX1 hpo hrp hot3
  simp only [hpr] at hst had hnl
  rw [hpr]
  have hst2 := hst ob hot
  clear hst
  have hbc := fun (σ : hM) (hP : PX σ0 W R σ) => x_become (fb := fb) (d := d) (s := s) (f2 := f) (p := pa) (e := dr) hP hot hdr2
  have hFC : FCM W (rU (chW W ob s f pa dr) ob 2167 1) R (oU (oU R ob 2164 none) (pr + 6) dd (some ob)) := ⟨fun x k x0 x1 _ => by
    unfold chW
    rw [rU_f (by omega), rU_f (by omega), rU_f (by omega), rU_f (by omega), rU_f (by omega), rU_f (by omega), rU_f (by omega), rU_f (by omega)], fun x k x0 => (if_neg (fun c => by omega)).trans (if_neg (fun c => by omega))⟩
  obtain ⟨V1, hV1⟩ : ∃ z, rU (chW W ob s f pa dr) ob 2167 1 = z := ⟨_, rfl⟩
  rw [hV1] at hX1 hFC
  obtain ⟨V3, hV3⟩ : ∃ z, oU (oU R ob 2164 none) (pr + 6) dd (some ob) = z := ⟨_, rfl⟩
  rw [hV3] at hX1 hFC
  refine CL_in mL_153 rfl ?_
  show WP fb _ 153 0 [some (vR (some 2175)), some (vR (some pr)), none, none] [] σ _
  refine x_lr (z := some pr) T_153_0 rfl ?_
  refine x_cv1 T_153_1 mN_152 mL_152 (Nat.le_of_ble_eq_true rfl) mO_152 (hP.o hpo) (Nat.le_of_ble_eq_true rfl) (hsd) ?_
  rintro _ σ ⟨rfl, rfl⟩
  refine cI ?_
  refine x_si (ls1 := [some (vR (some 2175)), some (vR (some pr)), some (vI dd), none]) T_153_4 rfl ?_
  refine x_lr (z := some 2175) T_153_5 rfl ?_
  refine x_gR (z := some 129) T_153_6 F_14_0 (hP.o xo_2175) (hP.rc xo_2175 rfl rfl) ?_
  refine x_cv1 T_153_9 mN_154 mL_154 (Nat.le_of_ble_eq_true rfl) mO_154 (hP.o xo_129) (Nat.le_of_ble_eq_true rfl) (hso) ?_
  rintro _ σ ⟨rfl, rfl⟩
  refine cR ?_
  refine x_sr (ls1 := [some (vR (some 2175)), some (vR (some pr)), some (vI dd), some (vR (some ob))]) T_153_12 rfl ?_
  refine x_lr (z := some ob) T_153_13 rfl ?_
  refine x_lr (z := some 2175) T_153_14 rfl ?_
  refine x_gR (z := some 2178) T_153_15 F_14_2 (hP.o xo_2175) (hP.rc xo_2175 rfl rfl) ?_
  refine x_gI (z := s) T_153_18 (Or.inl F_5_0) (hP.o xo_2178) (Eq.trans (hP.gi xo_2178 (key := 2160) rfl) c1) ?_
  refine x_lr (z := some 2175) T_153_21 rfl ?_
  refine x_gR (z := some 2178) T_153_22 F_14_2 (hP.o xo_2175) (hP.rc xo_2175 rfl rfl) ?_
  refine x_gI (z := f) T_153_25 (Or.inl F_5_1) (hP.o xo_2178) (Eq.trans (hP.gi xo_2178 (key := 2161) rfl) c2) ?_
  refine x_lr (z := some 2175) T_153_28 rfl ?_
  refine x_gR (z := some 2178) T_153_29 F_14_2 (hP.o xo_2175) (hP.rc xo_2175 rfl rfl) ?_
  refine x_gI (z := pa) T_153_32 (Or.inl F_5_2) (hP.o xo_2178) (Eq.trans (hP.gi xo_2178 (key := 2162) rfl) c3) ?_
  refine x_lr (z := some 2175) T_153_35 rfl ?_
  refine x_gR (z := some 2178) T_153_36 F_14_2 (hP.o xo_2175) (hP.rc xo_2175 rfl rfl) ?_
  refine x_gI (z := dr) T_153_39 (Or.inr (Or.inl F_5_3)) (hP.o xo_2178) (Eq.trans (hP.gi xo_2178 (key := 2163) rfl) c4) ?_
  refine x_cv5 T_153_42 mN_128 mL_128 (Nat.le_of_ble_eq_true rfl) mO_128 (hP.o hot) (Nat.le_of_ble_eq_true rfl) (hbc σ hP) ?_
  clear hP hbc
  rintro _ σ ⟨rfl, hP⟩
  refine cV ?_
  refine x_lr (z := some ob) T_153_45 rfl ?_
  refine x_ic T_153_46 ?_
  refine z_pI hP T_153_47 F_5_7 hot (key := 2167) rfl (fun σ hP => ?_)
  refine x_lr (z := some pr) T_153_50 rfl ?_
  refine x_li (z := dd) T_153_51 rfl ?_
  refine x_lr (z := some ob) T_153_52 rfl ?_
  refine x_cv3 T_153_53 mN_155 mL_155 (Nat.le_of_ble_eq_true rfl) mO_155 (hP.o hpo) (Nat.le_of_ble_eq_true rfl) (hst2 σ _ _ hP) ?_
  clear hP hst2
  rintro _ σ ⟨rfl, hP⟩
  rw [hV1, hV3] at hP
  refine cV ?_
  refine x_lr (z := some pr) T_153_56 rfl ?_
  refine x_gR (z := some (pr + 3)) T_153_57 F_6_2 (hP.o hpo) (hP.rc hpo rfl rfl) ?_
  refine x_li (z := dd) T_153_60 rfl ?_
  refine x_i2l T_153_61 ?_
  refine x_cv2 T_153_62 mN_75 mL_75 (Nat.le_of_ble_eq_true rfl) mO_75 (hP.o hot3) (Nat.le_of_ble_eq_true rfl) (had σ _ _ hP hX1) ?_
  clear hP had
  rintro _ σ ⟨rfl, V4, hP, hX4, hF4⟩
  refine cV ?_
  refine x_lr (z := some pr) T_153_65 rfl ?_
  refine x_gR (z := some (pr + 3)) T_153_66 F_6_2 (hP.o hpo) (hP.rc hpo rfl rfl) ?_
  refine x_ic T_153_69 ?_
  refine x_cv2 T_153_71 mN_73 mL_73 (Nat.le_of_ble_eq_true rfl) mO_73 (hP.o hot3) (Nat.le_of_ble_eq_true rfl) (hnl σ V4 V3 hP hX4) ?_
  clear hP hnl
  rintro _ σ ⟨e3, rfl, V5, hP, hX5, hF5⟩
  refine cI ?_
  refine x_popI T_153_74 ?_
  refine x_rv T_153_75 ?_
  exact ⟨rfl, V5, V3, hP, hX5, FCM_tr hFC (FCM_tr (FCM_fb hF4 (by omega)) (FCM_fb hF5 (by omega)))⟩
theorem dg27 : dgV wd 2 = if dgV wd 7 ≤ 2 then dgV wd 7 else -1 := by
  unfold dgV
  by_cases q1 : wd.length = 1 ∧ 48 ≤ lg wd 0 ∧ lg wd 0 ≤ 48 + 7
  · rw [if_pos q1]
    by_cases q2 : lg wd 0 ≤ 48 + 2
    · rw [if_pos (show wd.length = 1 ∧ 48 ≤ lg wd 0 ∧ lg wd 0 ≤ 48 + 2 from ⟨q1.1, q1.2.1, q2⟩), if_pos (by omega)]
    · rw [if_neg (show ¬ (wd.length = 1 ∧ 48 ≤ lg wd 0 ∧ lg wd 0 ≤ 48 + 2) from fun c => q2 c.2.2), if_neg (by omega)]
  · rw [if_neg (show ¬ (wd.length = 1 ∧ 48 ≤ lg wd 0 ∧ lg wd 0 ≤ 48 + 2) from fun c => q1 ⟨c.1, c.2.1, by omega⟩), if_neg q1, if_pos (show (-1 : Int) ≤ 2 by decide)]
theorem mOpen_s (hP : PX σ0 W R σ) (hX : XW K T U W R P) (hT : T + 110 ≤ 2147483000) (hs0 : W c 2160 = s) (hc : tX c = some (Sum.inl 5)) (hs : 0 ≤ s ∧ s < 3) (hB : BY W 138 300 (mFr (mOpen f x))) : CL fb (d + 8) 136 [vR (some 2175), vR (some c), vR (some 138)] σ (XF σ0 K (T + 4) U W R (tE P s (mOpen f x)) (tP P s (mOpen f x)) (tA P s (mOpen f x))) := by
  have hl : (mOpen f x).length = 8 := by unfold mOpen; simp only [List.length_append, leb_len]
  have h0 : lg (mOpen f x) 0 = 112 := rfl
  exact x_send hP hX hT hc hs0 hs hB ⟨by omega, by omega⟩ (by rw [h0]; decide) (fun q => by rw [h0] at q; exact absurd q (by decide)) (fun q => by rw [h0] at q; exact absurd q (by decide))
theorem x_openC (hP : PX σ0 W R σ) (hX : XW K T U W R P) (hT : T + 1200 ≤ 2147483000) (hU : 10000 ≤ U) (hp : 0 ≤ p ∧ p < 8) (hlv : ¬ P 2320 p = 0) (hC : CMD W k l) (hw : ((lnW l).length : Int) = 3) : CL fb (d + 10) 164 [vR (some 2175), vR (some (prO p)), vR (some k)] σ (XCM σ0 K (T + 308) U W R (cOpen P p (dgV (lnB l 2) 2) (lnB l 1))) := by
  have hre := x_reach (fb := fb) (d := d) (thr := 1) hP hX (by omega) hp hlv hC (w := 1) ⟨by decide, by omega⟩ one_o (by decide) (Or.inr rfl)
  have hpo := prO_o hp
  have h5 := hC.2.2.2.2.1.trans hw
  have hdg := x_digit7 (fb := fb) (d := d + 6) (w := 2) hP hC ⟨by decide, by omega⟩
  have hr1 := dgV_rng (wd := lnB l 2) (most := 7)
  have e27 := dg27 (wd := lnB l 2)
  have hsd := x_spareDescriptor (fb := fb) (d := d + 9) hP hX.1.2.2.1 hp hlv hX.1.2.2.2.1.iv
  have hfr : qFd P p = -1 ∨ 0 ≤ qFd P p := by
    rcases fdR_rng (P := P) (p := p) 8 0 with q | ⟨q1, q2, q3⟩
    · exact Or.inl q
    · exact Or.inr q1
  obtain ⟨dd, hdd⟩ : ∃ q, dgV (lnB l 2) 7 = q := ⟨_, rfl⟩
  rw [hdd] at hdg hr1 e27
  rw [e27]
  have hsl := fun (Q : qR) (hlv : ¬ Q 2320 p = 0) (hfd : 0 ≤ qFd Q p) (σ : hM) (V : qR) (V3 : rR) (ch : Ch) (hP : PX σ0 V V3 σ) (hX : XW K (T + 304) U V V3 Q) (hch : CHX V V3 2178 ch) (hcr : chR ch) => x_settle (fb := fb) (d := d + 8) hP hX hp hlv hfd hch hcr (by omega)
  have hwf := (KF_kWW (thr := 1) (wd := lnB l 1) hX.1.2.2.2.1.iv hX.1.2.2.2.2.2.2 hp).1
  have hr0 := (KF_kWW (thr := 1) (wd := lnB l 1) hX.1.2.2.2.1.iv hX.1.2.2.2.2.2.2 hp).2
  obtain ⟨pr, hpr⟩ : ∃ q, prO p = q := ⟨_, rfl⟩
  rw [hpr] at hre hpo hsd ⊢
  simp only [hpr] at hsl
  unfold cOpen
  obtain ⟨fd, hfd⟩ : ∃ q, qFd P p = q := ⟨_, rfl⟩
  rw [hfd] at hsd hfr
  rw [hfd]
  obtain ⟨A, hA⟩ : ∃ A, kWW P p 1 (lnB l 1) = A := ⟨_, rfl⟩
  rw [hA] at hre hr0 hwf
  rw [hA]
  obtain ⟨e, Q, s, f, pa, kd, cp⟩ := A
  have hwf : KF Q P := hwf
  have hr0 : 0 ≤ e := hr0
  by_cases q1 : dd < 0
  · have : dd = -1 := by omega
    subst this
    rw [if_pos (by decide)]
    refine CL_in mL_164 rfl ?_
    show WP fb _ 164 0 [some (vR (some 2175)), some (vR (some pr)), some (vR (some k)), none, none] [] σ _
    refine x_lr (z := some k) T_164_0 rfl ?_
    refine x_ic T_164_1 ?_
    refine x_cv2 T_164_2 mN_151 mL_151 (Nat.le_of_ble_eq_true rfl) mO_151 (hP.o hC.1) (Nat.le_of_ble_eq_true rfl) (hdg) ?_
    rintro _ σ ⟨rfl, rfl⟩
    refine cI ?_
    refine x_si (ls1 := [some (vR (some 2175)), some (vR (some pr)), some (vR (some k)), some (vI (-1)), none]) T_164_5 rfl ?_
    refine x_lr (z := some k) T_164_6 rfl ?_
    refine x_gI (z := 3) T_164_7 (Or.inl F_16_4) (hP.o hC.1) (Eq.trans (hP.gi hC.1 (key := 2516) rfl) h5) ?_
    refine x_ic T_164_10 ?_
    refine x_ic2 T_164_11 (fun h => absurd (show ¬ (3 : Int) = 3 from h) (by decide)) (fun _ => ?_)
    refine x_li (z := (-1)) T_164_14 rfl ?_
    refine x_if T_164_15 (fun _ => ?_) (fun h => absurd (show ((-1) : Int) < 0 by decide) h)
    refine x_ic T_164_23 ?_
    refine x_ri T_164_25 ?_
    exact ⟨rfl, W, R, hP, XW.mono hX (by omega), FCM_rfl⟩
  by_cases q2 : 2 < dd
  · rw [if_neg (show ¬ dd ≤ 2 by omega), if_pos (by decide)]
    refine CL_in mL_164 rfl ?_
    show WP fb _ 164 0 [some (vR (some 2175)), some (vR (some pr)), some (vR (some k)), none, none] [] σ _
    refine x_lr (z := some k) T_164_0 rfl ?_
    refine x_ic T_164_1 ?_
    refine x_cv2 T_164_2 mN_151 mL_151 (Nat.le_of_ble_eq_true rfl) mO_151 (hP.o hC.1) (Nat.le_of_ble_eq_true rfl) (hdg) ?_
    rintro _ σ ⟨rfl, rfl⟩
    refine cI ?_
    refine x_si (ls1 := [some (vR (some 2175)), some (vR (some pr)), some (vR (some k)), some (vI dd), none]) T_164_5 rfl ?_
    refine x_lr (z := some k) T_164_6 rfl ?_
    refine x_gI (z := 3) T_164_7 (Or.inl F_16_4) (hP.o hC.1) (Eq.trans (hP.gi hC.1 (key := 2516) rfl) h5) ?_
    refine x_ic T_164_10 ?_
    refine x_ic2 T_164_11 (fun h => absurd (show ¬ (3 : Int) = 3 from h) (by decide)) (fun _ => ?_)
    refine x_li (z := dd) T_164_14 rfl ?_
    refine x_if T_164_15 (fun h => absurd (show dd < 0 from h) (by omega)) (fun _ => ?_)
    refine x_li (z := dd) T_164_18 rfl ?_
    refine x_ic T_164_19 ?_
    refine x_ic2 T_164_20 (fun h => absurd (show dd ≤ 2 from h) (by omega)) (fun _ => ?_)
    refine x_ic T_164_23 ?_
    refine x_ri T_164_25 ?_
    exact ⟨rfl, W, R, hP, XW.mono hX (by omega), FCM_rfl⟩
  rw [if_pos (show dd ≤ 2 by omega), if_neg q1]
  by_cases q3 : fd < 0
  · have : fd = -1 := by omega
    subst this
    rw [if_pos (by decide)]
    refine CL_in mL_164 rfl ?_
    show WP fb _ 164 0 [some (vR (some 2175)), some (vR (some pr)), some (vR (some k)), none, none] [] σ _
    refine x_lr (z := some k) T_164_0 rfl ?_
    refine x_ic T_164_1 ?_
    refine x_cv2 T_164_2 mN_151 mL_151 (Nat.le_of_ble_eq_true rfl) mO_151 (hP.o hC.1) (Nat.le_of_ble_eq_true rfl) (hdg) ?_
    rintro _ σ ⟨rfl, rfl⟩
    refine cI ?_
    refine x_si (ls1 := [some (vR (some 2175)), some (vR (some pr)), some (vR (some k)), some (vI dd), none]) T_164_5 rfl ?_
    refine x_lr (z := some k) T_164_6 rfl ?_
    refine x_gI (z := 3) T_164_7 (Or.inl F_16_4) (hP.o hC.1) (Eq.trans (hP.gi hC.1 (key := 2516) rfl) h5) ?_
    refine x_ic T_164_10 ?_
    refine x_ic2 T_164_11 (fun h => absurd (show ¬ (3 : Int) = 3 from h) (by decide)) (fun _ => ?_)
    refine x_li (z := dd) T_164_14 rfl ?_
    refine x_if T_164_15 (fun h => absurd (show dd < 0 from h) (by omega)) (fun _ => ?_)
    refine x_li (z := dd) T_164_18 rfl ?_
    refine x_ic T_164_19 ?_
    refine x_ic2 T_164_20 (fun _ => ?_) (fun h => absurd (show dd ≤ 2 by omega) h)
    refine x_lr (z := some pr) T_164_26 rfl ?_
    refine x_cv1 T_164_27 mN_152 mL_152 (Nat.le_of_ble_eq_true rfl) mO_152 (hP.o hpo) (Nat.le_of_ble_eq_true rfl) (hsd) ?_
    rintro _ σ ⟨rfl, rfl⟩
    refine cI ?_
    refine x_ic T_164_30 ?_
    refine x_ic2 T_164_31 (fun h => absurd (show ¬ ((-1) : Int) = (-1) from h) (by decide)) (fun _ => ?_)
    refine x_ic T_164_34 ?_
    refine x_ri T_164_36 ?_
    exact ⟨rfl, W, R, hP, XW.mono hX (by omega), FCM_rfl⟩
  rw [if_neg q3]
  by_cases q4 : e = 0
  rotate_left
  · rw [if_pos (show 0 < e by omega)]
    refine CL_in mL_164 rfl ?_
    show WP fb _ 164 0 [some (vR (some 2175)), some (vR (some pr)), some (vR (some k)), none, none] [] σ _
    refine x_lr (z := some k) T_164_0 rfl ?_
    refine x_ic T_164_1 ?_
    refine x_cv2 T_164_2 mN_151 mL_151 (Nat.le_of_ble_eq_true rfl) mO_151 (hP.o hC.1) (Nat.le_of_ble_eq_true rfl) (hdg) ?_
    rintro _ σ ⟨rfl, rfl⟩
    refine cI ?_
    refine x_si (ls1 := [some (vR (some 2175)), some (vR (some pr)), some (vR (some k)), some (vI dd), none]) T_164_5 rfl ?_
    refine x_lr (z := some k) T_164_6 rfl ?_
    refine x_gI (z := 3) T_164_7 (Or.inl F_16_4) (hP.o hC.1) (Eq.trans (hP.gi hC.1 (key := 2516) rfl) h5) ?_
    refine x_ic T_164_10 ?_
    refine x_ic2 T_164_11 (fun h => absurd (show ¬ (3 : Int) = 3 from h) (by decide)) (fun _ => ?_)
    refine x_li (z := dd) T_164_14 rfl ?_
    refine x_if T_164_15 (fun h => absurd (show dd < 0 from h) (by omega)) (fun _ => ?_)
    refine x_li (z := dd) T_164_18 rfl ?_
    refine x_ic T_164_19 ?_
    refine x_ic2 T_164_20 (fun _ => ?_) (fun h => absurd (show dd ≤ 2 by omega) h)
    refine x_lr (z := some pr) T_164_26 rfl ?_
    refine x_cv1 T_164_27 mN_152 mL_152 (Nat.le_of_ble_eq_true rfl) mO_152 (hP.o hpo) (Nat.le_of_ble_eq_true rfl) (hsd) ?_
    rintro _ σ ⟨rfl, rfl⟩
    refine cI ?_
    refine x_ic T_164_30 ?_
    refine x_ic2 T_164_31 (fun _ => ?_) (fun h => absurd (show ¬ fd = (-1) by omega) h)
    refine x_lr (z := some 2175) T_164_37 rfl ?_
    refine x_gR (z := some 129) T_164_38 F_14_0 (hP.o xo_2175) (hP.rc xo_2175 rfl rfl) ?_
    refine x_lr (z := some pr) T_164_41 rfl ?_
    refine x_lr (z := some k) T_164_42 rfl ?_
    refine x_ic T_164_43 ?_
    refine x_lr (z := some 2175) T_164_44 rfl ?_
    refine x_gR (z := some 2178) T_164_45 F_14_2 (hP.o xo_2175) (hP.rc xo_2175 rfl rfl) ?_
    refine x_ic T_164_48 ?_
    refine x_cv6 T_164_49 mN_117 mL_117 (Nat.le_of_ble_eq_true rfl) mO_117 (hP.o xo_129) (Nat.le_of_ble_eq_true rfl) (hre) ?_
    clear hP hre
    rintro _ σ ⟨rfl, V, V3, hP, hXV, hq, hFV⟩
    refine cI ?_
    refine x_si (ls1 := [some (vR (some 2175)), some (vR (some pr)), some (vR (some k)), some (vI dd), some (vI e)]) T_164_52 rfl ?_
    refine x_li (z := e) T_164_54 rfl ?_
    refine x_if T_164_56 (fun h => absurd (show e = 0 from h) (by omega)) (fun _ => ?_)
    refine x_li (z := e) T_164_59 rfl ?_
    refine x_ri T_164_61 ?_
    exact ⟨rfl, V, V3, hP, XW.mono hXV (by omega), FCM_fk hFV (by decide)⟩
  subst q4
  rw [if_neg (show ¬ (0 : Int) < 0 by decide)]
  have hom := fun (σ : hM) (V : qR) (V3 : rR) (hP : PX σ0 V V3 σ) (hf : 0 ≤ f ∧ f ≤ 47) => x_openingM (fb := fb) (d := d + 6) (f := f) (md := dd) hP ⟨by omega, by omega⟩ ⟨by omega, by omega⟩
  have hse := fun (σ : hM) (V : qR) (V3 : rR) (hX : XW K (T + 300) U V V3 Q) (V4 : qR) (hP : PX σ0 V4 V3 σ) (hF : FR1 V V4) (hB : BY V4 138 300 (mFr (mOpen f dd))) (hs0 : V4 2178 2160 = s) (hs : 0 ≤ s ∧ s < 3) => mOpen_s (fb := fb) (d := d + 1) hP (hX.fr1 hF) (by omega) hs0 one_o hs hB
  have hter : 0 ≤ tE Q s (mOpen f dd) := tE_rng.1
  show CL fb (d + 10) 164 _ σ (XCM σ0 K (T + 308) U W R (if 0 < tE Q s (mOpen f dd) then (tE Q s (mOpen f dd), tP Q s (mOpen f dd), [(s, f, pa, kd, cp)]) else (0, gKeep (tP Q s (mOpen f dd)) p (s, f, pa, kd, cp), [])))
  have hkf2 : KF (tP Q s (mOpen f dd)) P := KF_tr KF_tP hwf
  have hlv2 : ¬ tP Q s (mOpen f dd) 2320 p = 0 := by
    rw [nsR_kf hkf2 2320 _ rfl]
    exact hlv
  have hfd2 : qFd (tP Q s (mOpen f dd)) p = fd := (qFd_kf hkf2).trans hfd
  obtain ⟨Q2, hQ2⟩ : ∃ q, tP Q s (mOpen f dd) = q := ⟨_, rfl⟩
  obtain ⟨e2, he2⟩ : ∃ q, tE Q s (mOpen f dd) = q := ⟨_, rfl⟩
  rw [hQ2] at hlv2 hfd2
  rw [he2] at hter
  simp only [hQ2, he2] at hse
  rw [hQ2, he2]
  have hsl := hsl Q2 hlv2 (by omega)
  by_cases q5 : e2 = 0
  · subst q5
    rw [if_neg (show ¬ (0 : Int) < 0 by decide)]
    refine CL_in mL_164 rfl ?_
    show WP fb _ 164 0 [some (vR (some 2175)), some (vR (some pr)), some (vR (some k)), none, none] [] σ _
    refine x_lr (z := some k) T_164_0 rfl ?_
    refine x_ic T_164_1 ?_
    refine x_cv2 T_164_2 mN_151 mL_151 (Nat.le_of_ble_eq_true rfl) mO_151 (hP.o hC.1) (Nat.le_of_ble_eq_true rfl) (hdg) ?_
    rintro _ σ ⟨rfl, rfl⟩
    refine cI ?_
    refine x_si (ls1 := [some (vR (some 2175)), some (vR (some pr)), some (vR (some k)), some (vI dd), none]) T_164_5 rfl ?_
    refine x_lr (z := some k) T_164_6 rfl ?_
    refine x_gI (z := 3) T_164_7 (Or.inl F_16_4) (hP.o hC.1) (Eq.trans (hP.gi hC.1 (key := 2516) rfl) h5) ?_
    refine x_ic T_164_10 ?_
    refine x_ic2 T_164_11 (fun h => absurd (show ¬ (3 : Int) = 3 from h) (by decide)) (fun _ => ?_)
    refine x_li (z := dd) T_164_14 rfl ?_
    refine x_if T_164_15 (fun h => absurd (show dd < 0 from h) (by omega)) (fun _ => ?_)
    refine x_li (z := dd) T_164_18 rfl ?_
    refine x_ic T_164_19 ?_
    refine x_ic2 T_164_20 (fun _ => ?_) (fun h => absurd (show dd ≤ 2 by omega) h)
    refine x_lr (z := some pr) T_164_26 rfl ?_
    refine x_cv1 T_164_27 mN_152 mL_152 (Nat.le_of_ble_eq_true rfl) mO_152 (hP.o hpo) (Nat.le_of_ble_eq_true rfl) (hsd) ?_
    rintro _ σ ⟨rfl, rfl⟩
    refine cI ?_
    refine x_ic T_164_30 ?_
    refine x_ic2 T_164_31 (fun _ => ?_) (fun h => absurd (show ¬ fd = (-1) by omega) h)
    refine x_lr (z := some 2175) T_164_37 rfl ?_
    refine x_gR (z := some 129) T_164_38 F_14_0 (hP.o xo_2175) (hP.rc xo_2175 rfl rfl) ?_
    refine x_lr (z := some pr) T_164_41 rfl ?_
    refine x_lr (z := some k) T_164_42 rfl ?_
    refine x_ic T_164_43 ?_
    refine x_lr (z := some 2175) T_164_44 rfl ?_
    refine x_gR (z := some 2178) T_164_45 F_14_2 (hP.o xo_2175) (hP.rc xo_2175 rfl rfl) ?_
    refine x_ic T_164_48 ?_
    refine x_cv6 T_164_49 mN_117 mL_117 (Nat.le_of_ble_eq_true rfl) mO_117 (hP.o xo_129) (Nat.le_of_ble_eq_true rfl) (hre) ?_
    clear hP hre
    rintro _ σ ⟨rfl, V, V3, hP, hXV, hq, hFV⟩
    obtain ⟨⟨hch, hcr⟩, -⟩ := hq rfl
    have hf0 : V 2178 2161 = f := hch.2.1
    refine cI ?_
    refine x_si (ls1 := [some (vR (some 2175)), some (vR (some pr)), some (vR (some k)), some (vI dd), some (vI 0)]) T_164_52 rfl ?_
    refine x_li (z := 0) T_164_54 rfl ?_
    refine x_if T_164_56 (fun _ => ?_) (fun h => absurd (show (0 : Int) = 0 by rfl) h)
    refine x_lr (z := some 2175) T_164_62 rfl ?_
    refine x_lr (z := some 2175) T_164_63 rfl ?_
    refine x_gR (z := some 2178) T_164_64 F_14_2 (hP.o xo_2175) (hP.rc xo_2175 rfl rfl) ?_
    refine x_lr (z := some 2175) T_164_67 rfl ?_
    refine x_gR (z := some 129) T_164_68 F_14_0 (hP.o xo_2175) (hP.rc xo_2175 rfl rfl) ?_
    refine x_lr (z := some 2175) T_164_71 rfl ?_
    refine x_gR (z := some 2178) T_164_72 F_14_2 (hP.o xo_2175) (hP.rc xo_2175 rfl rfl) ?_
    refine x_gI (z := f) T_164_75 (Or.inl F_5_1) (hP.o xo_2178) (Eq.trans (hP.gi xo_2178 (key := 2161) rfl) hf0) ?_
    refine x_li (z := dd) T_164_78 rfl ?_
    refine x_cv3 T_164_79 mN_135 mL_135 (Nat.le_of_ble_eq_true rfl) mO_135 (hP.o xo_129) (Nat.le_of_ble_eq_true rfl) (hom σ V V3 hP hcr.2.1) ?_
    clear hP hom
    rintro _ σ ⟨rfl, V4, hP, hB4, hF4⟩
    refine cR ?_
    refine x_cv3 T_164_82 mN_136 mL_136 (Nat.le_of_ble_eq_true rfl) mO_136 (hP.o xo_2175) (Nat.le_of_ble_eq_true rfl) (hse σ V V3 hXV V4 hP hF4 hB4 (hch.sf hF4 (by decide)).1 hcr.1) ?_
    clear hP hse
    rintro _ σ ⟨rfl, V5, V6, hP, hX5, hB5, hF5⟩
    have hc5 := hch.fa (FA_tr (FA_fr hF4) (FA_fs hF5)) (by decide) (by decide) hcr.2.2
    refine cI ?_
    refine x_si (ls1 := [some (vR (some 2175)), some (vR (some pr)), some (vR (some k)), some (vI dd), some (vI 0)]) T_164_85 rfl ?_
    refine x_li (z := 0) T_164_87 rfl ?_
    refine x_if T_164_89 (fun h => absurd (show ¬ (0 : Int) = 0 from h) (by decide)) (fun _ => ?_)
    refine x_lr (z := some 2175) T_164_92 rfl ?_
    refine x_lr (z := some pr) T_164_93 rfl ?_
    refine x_cv2 T_164_94 mN_153 mL_153 (Nat.le_of_ble_eq_true rfl) mO_153 (hP.o xo_2175) (Nat.le_of_ble_eq_true rfl) (hsl σ V5 V6 _ hP (XW.mono hX5 (by omega)) hc5 hcr) ?_
    clear hP hsl
    rintro _ σ ⟨rfl, V7, V8, hP, hX7, hF7⟩
    refine cV ?_
    refine x_goto T_164_97 ?_
    refine x_li (z := 0) T_164_112 rfl ?_
    refine x_ri T_164_114 ?_
    exact ⟨rfl, V7, V8, hP, XW.mono hX7 (by omega), FCM_tr (FCM_tr (FCM_fk hFV (by decide)) (FCM_tr (FCM_fr hF4) (FCM_fs hF5))) hF7⟩
  · rw [if_pos (show 0 < e2 by omega)]
    have hck := fun (σ : hM) (V5 : qR) (V6 : rR) (hP : PX σ0 V5 V6 σ) (hX : XW K (T + 304) U V5 V6 Q2) (hch : CHX V5 V6 2178 (s, f, pa, kd, cp)) (hcr : chR (s, f, pa, kd, cp)) => (x_clunk1 (fb := fb) (d := d + 1) hP hX (by omega) hch hcr).mono (Q := fun r σ' => ∃ e, r = some (vI e) ∧ ∃ W2 R2, PX σ0 W2 R2 σ' ∧ XW K (T + 304 + 4) U W2 R2 (kDrop Q2 (s, f, pa, kd, cp)) ∧ FA V5 W2 V6 R2) (fun r σ' h => ⟨_, h.1, h.2⟩)
    refine CL_in mL_164 rfl ?_
    show WP fb _ 164 0 [some (vR (some 2175)), some (vR (some pr)), some (vR (some k)), none, none] [] σ _
    refine x_lr (z := some k) T_164_0 rfl ?_
    refine x_ic T_164_1 ?_
    refine x_cv2 T_164_2 mN_151 mL_151 (Nat.le_of_ble_eq_true rfl) mO_151 (hP.o hC.1) (Nat.le_of_ble_eq_true rfl) (hdg) ?_
    rintro _ σ ⟨rfl, rfl⟩
    refine cI ?_
    refine x_si (ls1 := [some (vR (some 2175)), some (vR (some pr)), some (vR (some k)), some (vI dd), none]) T_164_5 rfl ?_
    refine x_lr (z := some k) T_164_6 rfl ?_
    refine x_gI (z := 3) T_164_7 (Or.inl F_16_4) (hP.o hC.1) (Eq.trans (hP.gi hC.1 (key := 2516) rfl) h5) ?_
    refine x_ic T_164_10 ?_
    refine x_ic2 T_164_11 (fun h => absurd (show ¬ (3 : Int) = 3 from h) (by decide)) (fun _ => ?_)
    refine x_li (z := dd) T_164_14 rfl ?_
    refine x_if T_164_15 (fun h => absurd (show dd < 0 from h) (by omega)) (fun _ => ?_)
    refine x_li (z := dd) T_164_18 rfl ?_
    refine x_ic T_164_19 ?_
    refine x_ic2 T_164_20 (fun _ => ?_) (fun h => absurd (show dd ≤ 2 by omega) h)
    refine x_lr (z := some pr) T_164_26 rfl ?_
    refine x_cv1 T_164_27 mN_152 mL_152 (Nat.le_of_ble_eq_true rfl) mO_152 (hP.o hpo) (Nat.le_of_ble_eq_true rfl) (hsd) ?_
    rintro _ σ ⟨rfl, rfl⟩
    refine cI ?_
    refine x_ic T_164_30 ?_
    refine x_ic2 T_164_31 (fun _ => ?_) (fun h => absurd (show ¬ fd = (-1) by omega) h)
    refine x_lr (z := some 2175) T_164_37 rfl ?_
    refine x_gR (z := some 129) T_164_38 F_14_0 (hP.o xo_2175) (hP.rc xo_2175 rfl rfl) ?_
    refine x_lr (z := some pr) T_164_41 rfl ?_
    refine x_lr (z := some k) T_164_42 rfl ?_
    refine x_ic T_164_43 ?_
    refine x_lr (z := some 2175) T_164_44 rfl ?_
    refine x_gR (z := some 2178) T_164_45 F_14_2 (hP.o xo_2175) (hP.rc xo_2175 rfl rfl) ?_
    refine x_ic T_164_48 ?_
    refine x_cv6 T_164_49 mN_117 mL_117 (Nat.le_of_ble_eq_true rfl) mO_117 (hP.o xo_129) (Nat.le_of_ble_eq_true rfl) (hre) ?_
    clear hP hre
    rintro _ σ ⟨rfl, V, V3, hP, hXV, hq, hFV⟩
    obtain ⟨⟨hch, hcr⟩, -⟩ := hq rfl
    have hf0 : V 2178 2161 = f := hch.2.1
    refine cI ?_
    refine x_si (ls1 := [some (vR (some 2175)), some (vR (some pr)), some (vR (some k)), some (vI dd), some (vI 0)]) T_164_52 rfl ?_
    refine x_li (z := 0) T_164_54 rfl ?_
    refine x_if T_164_56 (fun _ => ?_) (fun h => absurd (show (0 : Int) = 0 by rfl) h)
    refine x_lr (z := some 2175) T_164_62 rfl ?_
    refine x_lr (z := some 2175) T_164_63 rfl ?_
    refine x_gR (z := some 2178) T_164_64 F_14_2 (hP.o xo_2175) (hP.rc xo_2175 rfl rfl) ?_
    refine x_lr (z := some 2175) T_164_67 rfl ?_
    refine x_gR (z := some 129) T_164_68 F_14_0 (hP.o xo_2175) (hP.rc xo_2175 rfl rfl) ?_
    refine x_lr (z := some 2175) T_164_71 rfl ?_
    refine x_gR (z := some 2178) T_164_72 F_14_2 (hP.o xo_2175) (hP.rc xo_2175 rfl rfl) ?_
    refine x_gI (z := f) T_164_75 (Or.inl F_5_1) (hP.o xo_2178) (Eq.trans (hP.gi xo_2178 (key := 2161) rfl) hf0) ?_
    refine x_li (z := dd) T_164_78 rfl ?_
    refine x_cv3 T_164_79 mN_135 mL_135 (Nat.le_of_ble_eq_true rfl) mO_135 (hP.o xo_129) (Nat.le_of_ble_eq_true rfl) (hom σ V V3 hP hcr.2.1) ?_
    clear hP hom
    rintro _ σ ⟨rfl, V4, hP, hB4, hF4⟩
    refine cR ?_
    refine x_cv3 T_164_82 mN_136 mL_136 (Nat.le_of_ble_eq_true rfl) mO_136 (hP.o xo_2175) (Nat.le_of_ble_eq_true rfl) (hse σ V V3 hXV V4 hP hF4 hB4 (hch.sf hF4 (by decide)).1 hcr.1) ?_
    clear hP hse
    rintro _ σ ⟨rfl, V5, V6, hP, hX5, hB5, hF5⟩
    have hc5 := hch.fa (FA_tr (FA_fr hF4) (FA_fs hF5)) (by decide) (by decide) hcr.2.2
    refine cI ?_
    refine x_si (ls1 := [some (vR (some 2175)), some (vR (some pr)), some (vR (some k)), some (vI dd), some (vI e2)]) T_164_85 rfl ?_
    refine x_li (z := e2) T_164_87 rfl ?_
    refine x_if T_164_89 (fun _ => ?_) (fun h => absurd (show ¬ e2 = 0 by exact q5) h)
    refine x_lr (z := some 2175) T_164_100 rfl ?_
    refine x_gR (z := some 129) T_164_101 F_14_0 (hP.o xo_2175) (hP.rc xo_2175 rfl rfl) ?_
    refine x_lr (z := some 2175) T_164_104 rfl ?_
    refine x_gR (z := some 2178) T_164_105 F_14_2 (hP.o xo_2175) (hP.rc xo_2175 rfl rfl) ?_
    refine x_cv2 T_164_108 mN_132 mL_132 (Nat.le_of_ble_eq_true rfl) mO_132 (hP.o xo_129) (Nat.le_of_ble_eq_true rfl) (hck σ V5 V6 hP (XW.mono hX5 (by omega)) hc5 hcr) ?_
    clear hP hck
    rintro _ σ ⟨e3, rfl, V7, V8, hP, hX7, hF7⟩
    refine cI ?_
    refine x_popI T_164_111 ?_
    refine x_li (z := e2) T_164_112 rfl ?_
    refine x_ri T_164_114 ?_
    exact ⟨rfl, V7, V8, hP, XW.mono hX7 (by omega), FCM_tr (FCM_tr (FCM_fk hFV (by decide)) (FCM_tr (FCM_fr hF4) (FCM_fs hF5))) (FCM_fa hF7)⟩
theorem x_createC (hP : PX σ0 W R σ) (hX : XW K T U W R P) (hT : T + 1200 ≤ 2147483000) (hU : 10000 ≤ U) (hp : 0 ≤ p ∧ p < 8) (hlv : ¬ P 2320 p = 0) (hC : CMD W k l) (hw : ((lnW l).length : Int) = 4) : CL fb (d + 11) 148 [vR (some 2175), vR (some (prO p)), vR (some k)] σ (XCM σ0 K (T + 324) U W R (cCrt P p (nmN (lnB l 1) 8 3) (dgV (lnB l 3) 2) (lnB l 2))) := by
  have hpo := prO_o hp
  have h5 := hC.2.2.2.2.1.trans hw
  have hoc := x_octal (fb := fb) (d := d + 7) (w := 1) hP hC (by decide)
  rw [if_pos (by omega)] at hoc
  have hnr := nmN_r8 (wd := lnB l 1)
  have hdg := x_digit7 (fb := fb) (d := d + 7) (w := 3) hP hC ⟨by decide, by omega⟩
  have hr1 := dgV_rng (wd := lnB l 3) (most := 7)
  have e27 := dg27 (wd := lnB l 3)
  have hsd := x_spareDescriptor (fb := fb) (d := d + 10) hP hX.1.2.2.1 hp hlv hX.1.2.2.2.1.iv
  have hfr : qFd P p = -1 ∨ 0 ≤ qFd P p := by
    rcases fdR_rng (P := P) (p := p) 8 0 with q | ⟨q1, q2, q3⟩
    · exact Or.inl q
    · exact Or.inr q1
  obtain ⟨dd, hdd⟩ : ∃ q, dgV (lnB l 3) 7 = q := ⟨_, rfl⟩
  rw [hdd] at hdg hr1 e27
  rw [e27]
  obtain ⟨n, hn⟩ : ∃ q, nmN (lnB l 1) 8 3 = q := ⟨_, rfl⟩
  rw [hn] at hoc hnr
  rw [hn]
  have hmk := fun (h1 : 0 ≤ dd ∧ dd ≤ 2) (h2 : 0 ≤ n) => x_make (fb := fb) (d := d) (w := 2) (perm := n) (mode := dd) hP hX hT hp hlv hC ⟨by decide, by omega⟩ ⟨by omega, by omega⟩ ⟨by omega, by omega⟩
  have hsl := fun (Q : qR) (hlv : ¬ Q 2320 p = 0) (hfd : 0 ≤ qFd Q p) (σ : hM) (V : qR) (V3 : rR) (ch : Ch) (hP : PX σ0 V V3 σ) (hX : XW K (T + 320) U V V3 Q) (hch : CHX V V3 2178 ch) (hcr : chR ch) => x_settle (fb := fb) (d := d + 9) hP hX hp hlv hfd hch hcr (by omega)
  have hok := kCreate_ok (wd := lnB l 2) (perm := n) (mode := dd) hX.1.2.2.2.1.iv hX.1.2.2.2.2.2.2 hp
  obtain ⟨pr, hpr⟩ : ∃ q, prO p = q := ⟨_, rfl⟩
  rw [hpr] at hpo hsd ⊢
  simp only [hpr] at hsl hmk
  unfold cCrt
  have hfd2 := fun (Q : qR) (h : KF Q P) => qFd_kf (p := p) h
  obtain ⟨fd, hfd⟩ : ∃ q, qFd P p = q := ⟨_, rfl⟩
  rw [hfd] at hsd hfr
  simp only [hfd] at hfd2
  rw [hfd]
  by_cases q0 : n < 0
  · rw [if_pos (Or.inl q0)]
    have : n = -1 := by omega
    subst this
    refine CL_in mL_148 rfl ?_
    show WP fb _ 148 0 [some (vR (some 2175)), some (vR (some pr)), some (vR (some k)), none, none, none] [] σ _
    refine x_lr (z := some k) T_148_0 rfl ?_
    refine x_ic T_148_1 ?_
    refine x_cv2 T_148_2 mN_149 mL_149 (Nat.le_of_ble_eq_true rfl) mO_149 (hP.o hC.1) (Nat.le_of_ble_eq_true rfl) (hoc) ?_
    rintro _ σ ⟨rfl, rfl⟩
    refine cI ?_
    refine x_si (ls1 := [some (vR (some 2175)), some (vR (some pr)), some (vR (some k)), some (vI (-1)), none, none]) T_148_5 rfl ?_
    refine x_lr (z := some k) T_148_6 rfl ?_
    refine x_ic T_148_7 ?_
    refine x_cv2 T_148_8 mN_151 mL_151 (Nat.le_of_ble_eq_true rfl) mO_151 (hP.o hC.1) (Nat.le_of_ble_eq_true rfl) (hdg) ?_
    rintro _ σ ⟨rfl, rfl⟩
    refine cI ?_
    refine x_si (ls1 := [some (vR (some 2175)), some (vR (some pr)), some (vR (some k)), some (vI (-1)), some (vI dd), none]) T_148_11 rfl ?_
    refine x_lr (z := some k) T_148_13 rfl ?_
    refine x_gI (z := 4) T_148_14 (Or.inl F_16_4) (hP.o hC.1) (Eq.trans (hP.gi hC.1 (key := 2516) rfl) h5) ?_
    refine x_ic T_148_17 ?_
    refine x_ic2 T_148_18 (fun h => absurd (show ¬ (4 : Int) = 4 from h) (by decide)) (fun _ => ?_)
    refine x_li (z := (-1)) T_148_21 rfl ?_
    refine x_ic T_148_22 ?_
    refine x_ic2 T_148_23 (fun _ => ?_) (fun h => absurd (show ((-1) : Int) = (-1) by rfl) h)
    refine x_ic T_148_37 ?_
    refine x_ri T_148_39 ?_
    exact ⟨rfl, W, R, hP, XW.mono hX (by omega), FCM_rfl⟩
  by_cases q1 : dd < 0
  · have : dd = -1 := by omega
    subst this
    rw [if_pos (Or.inr (by decide))]
    refine CL_in mL_148 rfl ?_
    show WP fb _ 148 0 [some (vR (some 2175)), some (vR (some pr)), some (vR (some k)), none, none, none] [] σ _
    refine x_lr (z := some k) T_148_0 rfl ?_
    refine x_ic T_148_1 ?_
    refine x_cv2 T_148_2 mN_149 mL_149 (Nat.le_of_ble_eq_true rfl) mO_149 (hP.o hC.1) (Nat.le_of_ble_eq_true rfl) (hoc) ?_
    rintro _ σ ⟨rfl, rfl⟩
    refine cI ?_
    refine x_si (ls1 := [some (vR (some 2175)), some (vR (some pr)), some (vR (some k)), some (vI n), none, none]) T_148_5 rfl ?_
    refine x_lr (z := some k) T_148_6 rfl ?_
    refine x_ic T_148_7 ?_
    refine x_cv2 T_148_8 mN_151 mL_151 (Nat.le_of_ble_eq_true rfl) mO_151 (hP.o hC.1) (Nat.le_of_ble_eq_true rfl) (hdg) ?_
    rintro _ σ ⟨rfl, rfl⟩
    refine cI ?_
    refine x_si (ls1 := [some (vR (some 2175)), some (vR (some pr)), some (vR (some k)), some (vI n), some (vI (-1)), none]) T_148_11 rfl ?_
    refine x_lr (z := some k) T_148_13 rfl ?_
    refine x_gI (z := 4) T_148_14 (Or.inl F_16_4) (hP.o hC.1) (Eq.trans (hP.gi hC.1 (key := 2516) rfl) h5) ?_
    refine x_ic T_148_17 ?_
    refine x_ic2 T_148_18 (fun h => absurd (show ¬ (4 : Int) = 4 from h) (by decide)) (fun _ => ?_)
    refine x_li (z := n) T_148_21 rfl ?_
    refine x_ic T_148_22 ?_
    refine x_ic2 T_148_23 (fun h => absurd (show n = (-1) from h) (by omega)) (fun _ => ?_)
    refine x_li (z := (-1)) T_148_26 rfl ?_
    refine x_if T_148_28 (fun _ => ?_) (fun h => absurd (show ((-1) : Int) < 0 by decide) h)
    refine x_ic T_148_37 ?_
    refine x_ri T_148_39 ?_
    exact ⟨rfl, W, R, hP, XW.mono hX (by omega), FCM_rfl⟩
  by_cases q2 : 2 < dd
  · rw [if_neg (show ¬ dd ≤ 2 by omega), if_pos (Or.inr (by decide))]
    refine CL_in mL_148 rfl ?_
    show WP fb _ 148 0 [some (vR (some 2175)), some (vR (some pr)), some (vR (some k)), none, none, none] [] σ _
    refine x_lr (z := some k) T_148_0 rfl ?_
    refine x_ic T_148_1 ?_
    refine x_cv2 T_148_2 mN_149 mL_149 (Nat.le_of_ble_eq_true rfl) mO_149 (hP.o hC.1) (Nat.le_of_ble_eq_true rfl) (hoc) ?_
    rintro _ σ ⟨rfl, rfl⟩
    refine cI ?_
    refine x_si (ls1 := [some (vR (some 2175)), some (vR (some pr)), some (vR (some k)), some (vI n), none, none]) T_148_5 rfl ?_
    refine x_lr (z := some k) T_148_6 rfl ?_
    refine x_ic T_148_7 ?_
    refine x_cv2 T_148_8 mN_151 mL_151 (Nat.le_of_ble_eq_true rfl) mO_151 (hP.o hC.1) (Nat.le_of_ble_eq_true rfl) (hdg) ?_
    rintro _ σ ⟨rfl, rfl⟩
    refine cI ?_
    refine x_si (ls1 := [some (vR (some 2175)), some (vR (some pr)), some (vR (some k)), some (vI n), some (vI dd), none]) T_148_11 rfl ?_
    refine x_lr (z := some k) T_148_13 rfl ?_
    refine x_gI (z := 4) T_148_14 (Or.inl F_16_4) (hP.o hC.1) (Eq.trans (hP.gi hC.1 (key := 2516) rfl) h5) ?_
    refine x_ic T_148_17 ?_
    refine x_ic2 T_148_18 (fun h => absurd (show ¬ (4 : Int) = 4 from h) (by decide)) (fun _ => ?_)
    refine x_li (z := n) T_148_21 rfl ?_
    refine x_ic T_148_22 ?_
    refine x_ic2 T_148_23 (fun h => absurd (show n = (-1) from h) (by omega)) (fun _ => ?_)
    refine x_li (z := dd) T_148_26 rfl ?_
    refine x_if T_148_28 (fun h => absurd (show dd < 0 from h) (by omega)) (fun _ => ?_)
    refine x_li (z := dd) T_148_31 rfl ?_
    refine x_ic T_148_33 ?_
    refine x_ic2 T_148_34 (fun h => absurd (show dd ≤ 2 from h) (by omega)) (fun _ => ?_)
    refine x_ic T_148_37 ?_
    refine x_ri T_148_39 ?_
    exact ⟨rfl, W, R, hP, XW.mono hX (by omega), FCM_rfl⟩
  rw [if_pos (show dd ≤ 2 by omega), if_neg (show ¬ (n < 0 ∨ dd < 0) by omega)]
  by_cases q3 : fd < 0
  · have : fd = -1 := by omega
    subst this
    rw [if_pos (by decide)]
    refine CL_in mL_148 rfl ?_
    show WP fb _ 148 0 [some (vR (some 2175)), some (vR (some pr)), some (vR (some k)), none, none, none] [] σ _
    refine x_lr (z := some k) T_148_0 rfl ?_
    refine x_ic T_148_1 ?_
    refine x_cv2 T_148_2 mN_149 mL_149 (Nat.le_of_ble_eq_true rfl) mO_149 (hP.o hC.1) (Nat.le_of_ble_eq_true rfl) (hoc) ?_
    rintro _ σ ⟨rfl, rfl⟩
    refine cI ?_
    refine x_si (ls1 := [some (vR (some 2175)), some (vR (some pr)), some (vR (some k)), some (vI n), none, none]) T_148_5 rfl ?_
    refine x_lr (z := some k) T_148_6 rfl ?_
    refine x_ic T_148_7 ?_
    refine x_cv2 T_148_8 mN_151 mL_151 (Nat.le_of_ble_eq_true rfl) mO_151 (hP.o hC.1) (Nat.le_of_ble_eq_true rfl) (hdg) ?_
    rintro _ σ ⟨rfl, rfl⟩
    refine cI ?_
    refine x_si (ls1 := [some (vR (some 2175)), some (vR (some pr)), some (vR (some k)), some (vI n), some (vI dd), none]) T_148_11 rfl ?_
    refine x_lr (z := some k) T_148_13 rfl ?_
    refine x_gI (z := 4) T_148_14 (Or.inl F_16_4) (hP.o hC.1) (Eq.trans (hP.gi hC.1 (key := 2516) rfl) h5) ?_
    refine x_ic T_148_17 ?_
    refine x_ic2 T_148_18 (fun h => absurd (show ¬ (4 : Int) = 4 from h) (by decide)) (fun _ => ?_)
    refine x_li (z := n) T_148_21 rfl ?_
    refine x_ic T_148_22 ?_
    refine x_ic2 T_148_23 (fun h => absurd (show n = (-1) from h) (by omega)) (fun _ => ?_)
    refine x_li (z := dd) T_148_26 rfl ?_
    refine x_if T_148_28 (fun h => absurd (show dd < 0 from h) (by omega)) (fun _ => ?_)
    refine x_li (z := dd) T_148_31 rfl ?_
    refine x_ic T_148_33 ?_
    refine x_ic2 T_148_34 (fun _ => ?_) (fun h => absurd (show dd ≤ 2 by omega) h)
    refine x_lr (z := some pr) T_148_40 rfl ?_
    refine x_cv1 T_148_41 mN_152 mL_152 (Nat.le_of_ble_eq_true rfl) mO_152 (hP.o hpo) (Nat.le_of_ble_eq_true rfl) (hsd) ?_
    rintro _ σ ⟨rfl, rfl⟩
    refine cI ?_
    refine x_ic T_148_44 ?_
    refine x_ic2 T_148_45 (fun h => absurd (show ¬ ((-1) : Int) = (-1) from h) (by decide)) (fun _ => ?_)
    refine x_ic T_148_48 ?_
    refine x_ri T_148_50 ?_
    exact ⟨rfl, W, R, hP, XW.mono hX (by omega), FCM_rfl⟩
  rw [if_neg q3]
  have hmk := hmk ⟨by omega, by omega⟩ (by omega)
  obtain ⟨A, hA⟩ : ∃ A, kCreate P p (lnB l 2) n dd = A := ⟨_, rfl⟩
  rw [hA] at hmk hok
  rw [hA]
  obtain ⟨e, Q, h⟩ := A
  have hk1 : KF Q P := hok.1
  have hlv2 : ¬ Q 2320 p = 0 := by
    rw [nsR_kf hk1 2320 _ rfl]
    exact hlv
  have hsl := hsl Q hlv2 (by rw [hfd2 Q hk1]; omega)
  unfold cMk2
  by_cases q4 : e = 0
  · subst q4
    show CL fb (d + 11) 148 _ σ (XCM σ0 K (T + 324) U W R (if (0 : Int) = 0 then (0, gKeep Q p (h.headD c0), []) else (0, Q, h)))
    rw [if_pos rfl]
    refine CL_in mL_148 rfl ?_
    show WP fb _ 148 0 [some (vR (some 2175)), some (vR (some pr)), some (vR (some k)), none, none, none] [] σ _
    refine x_lr (z := some k) T_148_0 rfl ?_
    refine x_ic T_148_1 ?_
    refine x_cv2 T_148_2 mN_149 mL_149 (Nat.le_of_ble_eq_true rfl) mO_149 (hP.o hC.1) (Nat.le_of_ble_eq_true rfl) (hoc) ?_
    rintro _ σ ⟨rfl, rfl⟩
    refine cI ?_
    refine x_si (ls1 := [some (vR (some 2175)), some (vR (some pr)), some (vR (some k)), some (vI n), none, none]) T_148_5 rfl ?_
    refine x_lr (z := some k) T_148_6 rfl ?_
    refine x_ic T_148_7 ?_
    refine x_cv2 T_148_8 mN_151 mL_151 (Nat.le_of_ble_eq_true rfl) mO_151 (hP.o hC.1) (Nat.le_of_ble_eq_true rfl) (hdg) ?_
    rintro _ σ ⟨rfl, rfl⟩
    refine cI ?_
    refine x_si (ls1 := [some (vR (some 2175)), some (vR (some pr)), some (vR (some k)), some (vI n), some (vI dd), none]) T_148_11 rfl ?_
    refine x_lr (z := some k) T_148_13 rfl ?_
    refine x_gI (z := 4) T_148_14 (Or.inl F_16_4) (hP.o hC.1) (Eq.trans (hP.gi hC.1 (key := 2516) rfl) h5) ?_
    refine x_ic T_148_17 ?_
    refine x_ic2 T_148_18 (fun h => absurd (show ¬ (4 : Int) = 4 from h) (by decide)) (fun _ => ?_)
    refine x_li (z := n) T_148_21 rfl ?_
    refine x_ic T_148_22 ?_
    refine x_ic2 T_148_23 (fun h => absurd (show n = (-1) from h) (by omega)) (fun _ => ?_)
    refine x_li (z := dd) T_148_26 rfl ?_
    refine x_if T_148_28 (fun h => absurd (show dd < 0 from h) (by omega)) (fun _ => ?_)
    refine x_li (z := dd) T_148_31 rfl ?_
    refine x_ic T_148_33 ?_
    refine x_ic2 T_148_34 (fun _ => ?_) (fun h => absurd (show dd ≤ 2 by omega) h)
    refine x_lr (z := some pr) T_148_40 rfl ?_
    refine x_cv1 T_148_41 mN_152 mL_152 (Nat.le_of_ble_eq_true rfl) mO_152 (hP.o hpo) (Nat.le_of_ble_eq_true rfl) (hsd) ?_
    rintro _ σ ⟨rfl, rfl⟩
    refine cI ?_
    refine x_ic T_148_44 ?_
    refine x_ic2 T_148_45 (fun _ => ?_) (fun h => absurd (show ¬ fd = (-1) by omega) h)
    refine x_lr (z := some 2175) T_148_51 rfl ?_
    refine x_lr (z := some pr) T_148_52 rfl ?_
    refine x_lr (z := some k) T_148_53 rfl ?_
    refine x_ic T_148_54 ?_
    refine x_li (z := n) T_148_55 rfl ?_
    refine x_i2l T_148_56 ?_
    refine x_li (z := dd) T_148_57 rfl ?_
    refine x_cv6 T_148_59 mN_143 mL_143 (Nat.le_of_ble_eq_true rfl) mO_143 (hP.o xo_2175) (Nat.le_of_ble_eq_true rfl) (hmk) ?_
    clear hP hmk
    rintro _ σ ⟨rfl, V5, V6, hP, hX5, hc5, hF5⟩
    obtain ⟨ch, hh, hc1, hc2⟩ := hc5 rfl
    have hh : h = [ch] := hh
    subst hh
    refine cI ?_
    refine x_si (ls1 := [some (vR (some 2175)), some (vR (some pr)), some (vR (some k)), some (vI n), some (vI dd), some (vI 0)]) T_148_62 rfl ?_
    refine x_li (z := 0) T_148_64 rfl ?_
    refine x_if T_148_66 (fun h => absurd (show ¬ (0 : Int) = 0 from h) (by decide)) (fun _ => ?_)
    refine x_lr (z := some 2175) T_148_69 rfl ?_
    refine x_lr (z := some pr) T_148_70 rfl ?_
    refine x_cv2 T_148_71 mN_153 mL_153 (Nat.le_of_ble_eq_true rfl) mO_153 (hP.o xo_2175) (Nat.le_of_ble_eq_true rfl) (hsl σ V5 V6 ch hP hX5 hc1 hc2) ?_
    clear hP hsl
    rintro _ σ ⟨rfl, V7, V8, hP, hX7, hF7⟩
    refine cV ?_
    refine x_li (z := 0) T_148_74 rfl ?_
    refine x_ri T_148_76 ?_
    exact ⟨rfl, V7, V8, hP, XW.mono hX7 (by omega), FCM_tr hF5 hF7⟩
  · show CL fb (d + 11) 148 _ σ (XCM σ0 K (T + 324) U W R (if e = 0 then (0, gKeep Q p (h.headD c0), []) else (e, Q, h)))
    rw [if_neg q4]
    refine CL_in mL_148 rfl ?_
    show WP fb _ 148 0 [some (vR (some 2175)), some (vR (some pr)), some (vR (some k)), none, none, none] [] σ _
    refine x_lr (z := some k) T_148_0 rfl ?_
    refine x_ic T_148_1 ?_
    refine x_cv2 T_148_2 mN_149 mL_149 (Nat.le_of_ble_eq_true rfl) mO_149 (hP.o hC.1) (Nat.le_of_ble_eq_true rfl) (hoc) ?_
    rintro _ σ ⟨rfl, rfl⟩
    refine cI ?_
    refine x_si (ls1 := [some (vR (some 2175)), some (vR (some pr)), some (vR (some k)), some (vI n), none, none]) T_148_5 rfl ?_
    refine x_lr (z := some k) T_148_6 rfl ?_
    refine x_ic T_148_7 ?_
    refine x_cv2 T_148_8 mN_151 mL_151 (Nat.le_of_ble_eq_true rfl) mO_151 (hP.o hC.1) (Nat.le_of_ble_eq_true rfl) (hdg) ?_
    rintro _ σ ⟨rfl, rfl⟩
    refine cI ?_
    refine x_si (ls1 := [some (vR (some 2175)), some (vR (some pr)), some (vR (some k)), some (vI n), some (vI dd), none]) T_148_11 rfl ?_
    refine x_lr (z := some k) T_148_13 rfl ?_
    refine x_gI (z := 4) T_148_14 (Or.inl F_16_4) (hP.o hC.1) (Eq.trans (hP.gi hC.1 (key := 2516) rfl) h5) ?_
    refine x_ic T_148_17 ?_
    refine x_ic2 T_148_18 (fun h => absurd (show ¬ (4 : Int) = 4 from h) (by decide)) (fun _ => ?_)
    refine x_li (z := n) T_148_21 rfl ?_
    refine x_ic T_148_22 ?_
    refine x_ic2 T_148_23 (fun h => absurd (show n = (-1) from h) (by omega)) (fun _ => ?_)
    refine x_li (z := dd) T_148_26 rfl ?_
    refine x_if T_148_28 (fun h => absurd (show dd < 0 from h) (by omega)) (fun _ => ?_)
    refine x_li (z := dd) T_148_31 rfl ?_
    refine x_ic T_148_33 ?_
    refine x_ic2 T_148_34 (fun _ => ?_) (fun h => absurd (show dd ≤ 2 by omega) h)
    refine x_lr (z := some pr) T_148_40 rfl ?_
    refine x_cv1 T_148_41 mN_152 mL_152 (Nat.le_of_ble_eq_true rfl) mO_152 (hP.o hpo) (Nat.le_of_ble_eq_true rfl) (hsd) ?_
    rintro _ σ ⟨rfl, rfl⟩
    refine cI ?_
    refine x_ic T_148_44 ?_
    refine x_ic2 T_148_45 (fun _ => ?_) (fun h => absurd (show ¬ fd = (-1) by omega) h)
    refine x_lr (z := some 2175) T_148_51 rfl ?_
    refine x_lr (z := some pr) T_148_52 rfl ?_
    refine x_lr (z := some k) T_148_53 rfl ?_
    refine x_ic T_148_54 ?_
    refine x_li (z := n) T_148_55 rfl ?_
    refine x_i2l T_148_56 ?_
    refine x_li (z := dd) T_148_57 rfl ?_
    refine x_cv6 T_148_59 mN_143 mL_143 (Nat.le_of_ble_eq_true rfl) mO_143 (hP.o xo_2175) (Nat.le_of_ble_eq_true rfl) (hmk) ?_
    clear hP hmk
    rintro _ σ ⟨rfl, V5, V6, hP, hX5, hc5, hF5⟩
    have hX5 : XW K (T + 320) U V5 V6 (if e = 0 then Q else kDrops Q h) := hX5
    rw [if_neg q4] at hX5
    refine cI ?_
    refine x_si (ls1 := [some (vR (some 2175)), some (vR (some pr)), some (vR (some k)), some (vI n), some (vI dd), some (vI e)]) T_148_62 rfl ?_
    refine x_li (z := e) T_148_64 rfl ?_
    refine x_if T_148_66 (fun _ => ?_) (fun h => absurd (show ¬ e = 0 by exact q4) h)
    refine x_li (z := e) T_148_74 rfl ?_
    refine x_ri T_148_76 ?_
    exact ⟨rfl, V5, V6, hP, XW.mono hX5 (by omega), hF5⟩
end XSTL
