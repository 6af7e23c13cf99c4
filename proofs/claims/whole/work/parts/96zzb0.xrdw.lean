/-! The class's commands: write, read. -/
theorem T_165_0 : hTab 165 0 = some ((3, 2, 2, []), 1) := rfl
theorem T_165_1 : hTab 165 1 = some ((0, 0, 2, []), 2) := rfl
theorem T_165_2 : hTab 165 2 = some ((31, 160, 0, []), 5) := rfl
theorem T_165_5 : hTab 165 5 = some ((4, 3, 0, []), 6) := rfl
theorem T_165_6 : hTab 165 6 = some ((3, 2, 2, []), 7) := rfl
theorem T_165_7 : hTab 165 7 = some ((0, 0, 1, []), 8) := rfl
theorem T_165_8 : hTab 165 8 = some ((31, 151, 0, []), 11) := rfl
theorem T_165_11 : hTab 165 11 = some ((4, 4, 0, []), 13) := rfl
theorem T_165_13 : hTab 165 13 = some ((3, 2, 2, []), 14) := rfl
theorem T_165_14 : hTab 165 14 = some ((24, 16, Int.ofNat 4, []), 17) := rfl
theorem T_165_17 : hTab 165 17 = some ((0, 0, 3, []), 18) := rfl
theorem T_165_18 : hTab 165 18 = some ((19, 1, Int.ofNat 38, []), 21) := rfl
theorem T_165_21 : hTab 165 21 = some ((3, 4, 0, []), 23) := rfl
theorem T_165_23 : hTab 165 23 = some ((0, 0, (-1), []), 24) := rfl
theorem T_165_24 : hTab 165 24 = some ((19, 0, Int.ofNat 38, []), 27) := rfl
theorem T_165_27 : hTab 165 27 = some ((3, 3, 0, []), 28) := rfl
theorem T_165_28 : hTab 165 28 = some ((0, 0, 1, []), 29) := rfl
theorem T_165_29 : hTab 165 29 = some ((19, 2, Int.ofNat 38, []), 32) := rfl
theorem T_165_32 : hTab 165 32 = some ((3, 3, 0, []), 33) := rfl
theorem T_165_33 : hTab 165 33 = some ((0, 0, 100, []), 35) := rfl
theorem T_165_35 : hTab 165 35 = some ((19, 5, Int.ofNat 41, []), 38) := rfl
theorem T_165_38 : hTab 165 38 = some ((0, 0, 18, []), 40) := rfl
theorem T_165_40 : hTab 165 40 = some ((33, 1, 0, []), 41) := rfl
theorem T_165_41 : hTab 165 41 = some ((3, 1, 2, []), 42) := rfl
theorem T_165_42 : hTab 165 42 = some ((3, 4, 0, []), 44) := rfl
theorem T_165_44 : hTab 165 44 = some ((31, 166, 0, []), 47) := rfl
theorem T_165_47 : hTab 165 47 = some ((4, 5, 2, []), 49) := rfl
theorem T_165_49 : hTab 165 49 = some ((3, 5, 2, []), 51) := rfl
theorem T_165_51 : hTab 165 51 = some ((20, 1, Int.ofNat 57, []), 54) := rfl
theorem T_165_54 : hTab 165 54 = some ((0, 0, 19, []), 56) := rfl
theorem T_165_56 : hTab 165 56 = some ((33, 1, 0, []), 57) := rfl
theorem T_165_57 : hTab 165 57 = some ((3, 0, 2, []), 58) := rfl
theorem T_165_58 : hTab 165 58 = some ((3, 5, 2, []), 60) := rfl
theorem T_165_60 : hTab 165 60 = some ((3, 0, 2, []), 61) := rfl
theorem T_165_61 : hTab 165 61 = some ((24, 14, Int.ofNat 0, []), 64) := rfl
theorem T_165_64 : hTab 165 64 = some ((3, 5, 2, []), 66) := rfl
theorem T_165_66 : hTab 165 66 = some ((24, 5, Int.ofNat 1, []), 69) := rfl
theorem T_165_69 : hTab 165 69 = some ((3, 5, 2, []), 71) := rfl
theorem T_165_71 : hTab 165 71 = some ((24, 5, Int.ofNat 6, []), 74) := rfl
theorem T_165_74 : hTab 165 74 = some ((14, 0, 0, []), 75) := rfl
theorem T_165_75 : hTab 165 75 = some ((3, 3, 0, []), 76) := rfl
theorem T_165_76 : hTab 165 76 = some ((31, 137, 0, []), 79) := rfl
theorem T_165_79 : hTab 165 79 = some ((31, 136, 0, []), 82) := rfl
theorem T_165_82 : hTab 165 82 = some ((4, 6, 0, []), 84) := rfl
theorem T_165_84 : hTab 165 84 = some ((3, 6, 0, []), 86) := rfl
theorem T_165_86 : hTab 165 86 = some ((18, 1, Int.ofNat 139, []), 89) := rfl
theorem T_165_89 : hTab 165 89 = some ((3, 0, 2, []), 90) := rfl
theorem T_165_90 : hTab 165 90 = some ((24, 14, Int.ofNat 0, []), 93) := rfl
theorem T_165_93 : hTab 165 93 = some ((24, 1, Int.ofNat 2, []), 96) := rfl
theorem T_165_96 : hTab 165 96 = some ((0, 0, 7, []), 98) := rfl
theorem T_165_98 : hTab 165 98 = some ((0, 0, 4, []), 99) := rfl
theorem T_165_99 : hTab 165 99 = some ((31, 29, 0, []), 102) := rfl
theorem T_165_102 : hTab 165 102 = some ((15, 0, 0, []), 103) := rfl
theorem T_165_103 : hTab 165 103 = some ((4, 7, 0, []), 105) := rfl
theorem T_165_105 : hTab 165 105 = some ((3, 1, 2, []), 106) := rfl
theorem T_165_106 : hTab 165 106 = some ((24, 6, Int.ofNat 2, []), 109) := rfl
theorem T_165_109 : hTab 165 109 = some ((3, 0, 2, []), 110) := rfl
theorem T_165_110 : hTab 165 110 = some ((24, 14, Int.ofNat 0, []), 113) := rfl
theorem T_165_113 : hTab 165 113 = some ((24, 1, Int.ofNat 2, []), 116) := rfl
theorem T_165_116 : hTab 165 116 = some ((0, 0, 11, []), 118) := rfl
theorem T_165_118 : hTab 165 118 = some ((0, 0, 11, []), 120) := rfl
theorem T_165_120 : hTab 165 120 = some ((3, 7, 0, []), 122) := rfl
theorem T_165_122 : hTab 165 122 = some ((10, 0, 0, []), 123) := rfl
theorem T_165_123 : hTab 165 123 = some ((31, 32, 0, []), 126) := rfl
theorem T_165_126 : hTab 165 126 = some ((7, 0, 0, []), 127) := rfl
theorem T_165_127 : hTab 165 127 = some ((3, 5, 2, []), 129) := rfl
theorem T_165_129 : hTab 165 129 = some ((6, 0, 0, []), 130) := rfl
theorem T_165_130 : hTab 165 130 = some ((24, 5, Int.ofNat 6, []), 133) := rfl
theorem T_165_133 : hTab 165 133 = some ((3, 7, 0, []), 135) := rfl
theorem T_165_135 : hTab 165 135 = some ((10, 0, 0, []), 136) := rfl
theorem T_165_136 : hTab 165 136 = some ((25, 5, Int.ofNat 6, []), 139) := rfl
theorem T_165_139 : hTab 165 139 = some ((3, 6, 0, []), 141) := rfl
theorem T_165_141 : hTab 165 141 = some ((33, 1, 0, []), 142) := rfl
theorem T_167_0 : hTab 167 0 = some ((3, 2, 2, []), 1) := rfl
theorem T_167_1 : hTab 167 1 = some ((0, 0, 1, []), 2) := rfl
theorem T_167_2 : hTab 167 2 = some ((31, 151, 0, []), 5) := rfl
theorem T_167_5 : hTab 167 5 = some ((4, 3, 0, []), 6) := rfl
theorem T_167_6 : hTab 167 6 = some ((3, 2, 2, []), 7) := rfl
theorem T_167_7 : hTab 167 7 = some ((24, 16, Int.ofNat 4, []), 10) := rfl
theorem T_167_10 : hTab 167 10 = some ((0, 0, 3, []), 11) := rfl
theorem T_167_11 : hTab 167 11 = some ((19, 1, Int.ofNat 19, []), 14) := rfl
theorem T_167_14 : hTab 167 14 = some ((3, 3, 0, []), 15) := rfl
theorem T_167_15 : hTab 167 15 = some ((0, 0, (-1), []), 16) := rfl
theorem T_167_16 : hTab 167 16 = some ((19, 1, Int.ofNat 22, []), 19) := rfl
theorem T_167_19 : hTab 167 19 = some ((0, 0, 18, []), 21) := rfl
theorem T_167_21 : hTab 167 21 = some ((33, 1, 0, []), 22) := rfl
theorem T_167_22 : hTab 167 22 = some ((3, 1, 2, []), 23) := rfl
theorem T_167_23 : hTab 167 23 = some ((3, 3, 0, []), 24) := rfl
theorem T_167_24 : hTab 167 24 = some ((31, 166, 0, []), 27) := rfl
theorem T_167_27 : hTab 167 27 = some ((4, 4, 2, []), 29) := rfl
theorem T_167_29 : hTab 167 29 = some ((3, 4, 2, []), 31) := rfl
theorem T_167_31 : hTab 167 31 = some ((20, 1, Int.ofNat 37, []), 34) := rfl
theorem T_167_34 : hTab 167 34 = some ((0, 0, 19, []), 36) := rfl
theorem T_167_36 : hTab 167 36 = some ((33, 1, 0, []), 37) := rfl
theorem T_167_37 : hTab 167 37 = some ((3, 0, 2, []), 38) := rfl
theorem T_167_38 : hTab 167 38 = some ((3, 4, 2, []), 40) := rfl
theorem T_167_40 : hTab 167 40 = some ((3, 0, 2, []), 41) := rfl
theorem T_167_41 : hTab 167 41 = some ((24, 14, Int.ofNat 0, []), 44) := rfl
theorem T_167_44 : hTab 167 44 = some ((3, 4, 2, []), 46) := rfl
theorem T_167_46 : hTab 167 46 = some ((24, 5, Int.ofNat 1, []), 49) := rfl
theorem T_167_49 : hTab 167 49 = some ((3, 4, 2, []), 51) := rfl
theorem T_167_51 : hTab 167 51 = some ((24, 5, Int.ofNat 6, []), 54) := rfl
theorem T_167_54 : hTab 167 54 = some ((14, 0, 0, []), 55) := rfl
theorem T_167_55 : hTab 167 55 = some ((3, 2, 2, []), 56) := rfl
theorem T_167_56 : hTab 167 56 = some ((24, 16, Int.ofNat 0, []), 59) := rfl
theorem T_167_59 : hTab 167 59 = some ((3, 2, 2, []), 60) := rfl
theorem T_167_60 : hTab 167 60 = some ((0, 0, 2, []), 61) := rfl
theorem T_167_61 : hTab 167 61 = some ((31, 104, 0, []), 64) := rfl
theorem T_167_64 : hTab 167 64 = some ((3, 2, 2, []), 65) := rfl
theorem T_167_65 : hTab 167 65 = some ((0, 0, 2, []), 66) := rfl
theorem T_167_66 : hTab 167 66 = some ((31, 106, 0, []), 69) := rfl
theorem T_167_69 : hTab 167 69 = some ((31, 146, 0, []), 72) := rfl
theorem T_167_72 : hTab 167 72 = some ((31, 136, 0, []), 75) := rfl
theorem T_167_75 : hTab 167 75 = some ((4, 5, 0, []), 77) := rfl
theorem T_167_77 : hTab 167 77 = some ((3, 5, 0, []), 79) := rfl
theorem T_167_79 : hTab 167 79 = some ((18, 1, Int.ofNat 106, []), 82) := rfl
theorem T_167_82 : hTab 167 82 = some ((3, 4, 2, []), 84) := rfl
theorem T_167_84 : hTab 167 84 = some ((6, 0, 0, []), 85) := rfl
theorem T_167_85 : hTab 167 85 = some ((24, 5, Int.ofNat 6, []), 88) := rfl
theorem T_167_88 : hTab 167 88 = some ((3, 0, 2, []), 89) := rfl
theorem T_167_89 : hTab 167 89 = some ((24, 14, Int.ofNat 0, []), 92) := rfl
theorem T_167_92 : hTab 167 92 = some ((24, 1, Int.ofNat 2, []), 95) := rfl
theorem T_167_95 : hTab 167 95 = some ((0, 0, 7, []), 97) := rfl
theorem T_167_97 : hTab 167 97 = some ((0, 0, 4, []), 98) := rfl
theorem T_167_98 : hTab 167 98 = some ((31, 29, 0, []), 101) := rfl
theorem T_167_101 : hTab 167 101 = some ((15, 0, 0, []), 102) := rfl
theorem T_167_102 : hTab 167 102 = some ((10, 0, 0, []), 103) := rfl
theorem T_167_103 : hTab 167 103 = some ((25, 5, Int.ofNat 6, []), 106) := rfl
theorem T_167_106 : hTab 167 106 = some ((3, 5, 0, []), 108) := rfl
theorem T_167_108 : hTab 167 108 = some ((33, 1, 0, []), 109) := rfl
theorem F_6_2 : (hFd 6 2).2.2.1 = 4 := rfl
theorem mN_165 : hmN 165 = 3 := by decide +kernel
theorem mL_165 : hmL 165 = 8 := by decide +kernel
theorem mK_165 : hmK 165 = 1 := by decide +kernel
theorem mO_165 : hmO 165 = 14 := by decide +kernel
theorem mN_167 : hmN 167 = 3 := by decide +kernel
theorem mL_167 : hmL 167 = 6 := by decide +kernel
theorem mK_167 : hmK 167 = 1 := by decide +kernel
theorem mO_167 : hmO 167 = 14 := by decide +kernel
section XRDW
variable {fb : Bool} {d S b c q n a0 m k : Nat} {σ0 σ : hM} {W W1 W2 P Q : qR} {R R1 R2 : rR} {i j x z v s e w f g u p o K T U t N dd off : Int} {l l0 lo nm M wd A : List Int}
theorem rU_idv {f : Nat} {k : Int} (h : P f k = v) : rU P f k v = P := by
  funext g j
  by_cases q : g = f ∧ j = k
  · obtain ⟨rfl, rfl⟩ := q
    rw [rU_s, h]
  · exact if_neg q
theorem XW.monoU {U2 : Int} (h : XW K T U W R P) (hU : U ≤ U2) : XW K T U2 W R P := ⟨⟨h.1.1, h.1.2.1, h.1.2.2.1, h.1.2.2.2.1.monoU hU, h.1.2.2.2.2⟩, h.2⟩
theorem wr_ok {fd : Int} (h : tE P s (mWr fd off wd) = 0) (hl : wd.length ≤ 200) : ((tA P s (mWr fd off wd)).length : Int) = 11 ∧ nu (lg (tA P s (mWr fd off wd))) 7 4 = (wd.length : Int) := by
  have hml := mWr_len (fd := fd) (off := off) (wd := wd)
  obtain ⟨h1, h2⟩ := tE_0 h ⟨by omega, by omega⟩
  have e0 : lg (mWr fd off wd) 0 = 118 := rfl
  rw [e0] at h1 h2
  have hz : 4 + ((mWr fd off wd).length : Int) - 23 = (wd.length : Int) := by omega
  have h3 : tA P s (mWr fd off wd) = ansL (msgA (mWr fd off wd)) (118 + 1) (leb 4 (wd.length : Int)) := by rw [← hz]; exact h2
  have e4 : (256 : Int) ^ 4 = 4294967296 := by decide
  have e5 : nu (lg ((leb 4 (7 + ((leb 4 (wd.length : Int)).length : Int)) ++ [(118 + 1) % 256, msgA (mWr fd off wd) 5, msgA (mWr fd off wd) 6]) ++ (leb 4 (wd.length : Int) ++ []))) 7 4 = (wd.length : Int) := nu_lg2 4 rfl ⟨by omega, by omega⟩
  rw [h3]
  unfold ansL
  refine ⟨?_, ?_⟩
  · simp only [List.length_append, leb_len, List.length_cons, List.length_nil]
    decide
  · rw [List.append_nil] at e5
    rw [← List.append_assoc]
    exact e5
/-- an opening's object -/
theorem XW.opn (h : XW K T U W R P) (hp : 0 ≤ p ∧ p < 8) (hlv : ¬ P 2320 p = 0) (hd : 0 ≤ dd ∧ dd < 8) (ho : P 2327 (8 * p + dd) = o) (h0 : 0 ≤ o) : o < 64 ∧ (W (1229 + o.toNat) 2160 = P 2331 o ∧ W (1229 + o.toNat) 2161 = P 2332 o ∧ W (1229 + o.toNat) 2166 = P 2333 o) ∧ (0 ≤ P 2331 o ∧ P 2331 o < 3) ∧ (0 ≤ P 2332 o ∧ P 2332 o ≤ 47) ∧ 0 ≤ P 2333 o ∧ P 2333 o ≤ U := by
  have hI := h.1.2.2.2.1.iv
  have b0 : -1 ≤ P 2327 (8 * p + dd) ∧ P 2327 (8 * p + dd) ≤ 63 := IV.a hI 2327 0 64 rfl rfl rfl (by omega) (by omega)
  have b1 : 0 ≤ P 2331 o ∧ P 2331 o ≤ 2 := IV.a hI 2331 0 64 rfl rfl rfl (by omega) (by omega)
  have b2 : 0 ≤ P 2332 o ∧ P 2332 o ≤ 47 := IV.a hI 2332 0 64 rfl rfl rfl (by omega) (by omega)
  have b3 : 0 ≤ P 2333 o ∧ P 2333 o ≤ U := IV.a hI 2333 0 64 rfl rfl rfl (by omega) (by omega)
  have hgo := h.1.2.2.2.2.2.1.1 (8 * p + dd) (by omega) (by omega) (by rw [show (8 * p + dd) / 8 = p by omega]; exact hlv) (by omega)
  rw [ho] at hgo
  exact ⟨by omega, (h.1.2.2.1.2.2 o h0 (by omega)).2 (by omega), ⟨b1.1, by omega⟩, b2, b3⟩
theorem mWr_s (hP : PX σ0 W R σ) (hX : XW K T U W R P) (hT : T + 110 ≤ 2147483000) (hs0 : W c 2160 = s) (hc : tX c = some (Sum.inl 5)) (hs : 0 ≤ s ∧ s < 3) (hn : wd.length ≤ 200) (hB : BY W 138 300 (mFr (mWr f off wd))) : CL fb (d + 8) 136 [vR (some 2175), vR (some c), vR (some 138)] σ (XF σ0 K (T + 4) U W R (tE P s (mWr f off wd)) (tP P s (mWr f off wd)) (tA P s (mWr f off wd))) := by
  have hl := mWr_len (fd := f) (off := off) (wd := wd)
  exact x_send hP hX hT hc hs0 hs hB ⟨by omega, by omega⟩ (by rw [mWr_0]; decide) (fun q => by rw [mWr_0] at q; exact absurd q (by decide)) (fun q => by rw [mWr_0] at q; exact absurd q (by decide))
theorem mRead_s (hP : PX σ0 W R σ) (hX : XW K T U W R P) (hT : T + 110 ≤ 2147483000) (hs0 : W c 2160 = s) (hc : tX c = some (Sum.inl 5)) (hs : 0 ≤ s ∧ s < 3) (hB : BY W 138 300 (mFr (mRead f off x))) : CL fb (d + 8) 136 [vR (some 2175), vR (some c), vR (some 138)] σ (XF σ0 K (T + 4) U W R (tE P s (mRead f off x)) (tP P s (mRead f off x)) (tA P s (mRead f off x))) := by
  have hl : (mRead f off x).length = 19 := by unfold mRead; simp only [List.length_append, leb_len]
  have h0 : lg (mRead f off x) 0 = 116 := rfl
  exact x_send hP hX hT hc hs0 hs hB ⟨by omega, by omega⟩ (by rw [h0]; decide) (fun q => by rw [h0] at q; exact absurd q (by decide)) (fun q => by rw [h0] at q; exact absurd q (by decide))
theorem opF (h : FVS 134 W W2 R R2) (hx : 1229 ≤ c ∧ c < 1293) (hk : k ≠ 2198) : W2 c k = W c k := h.1 _ _ (by omega) (Or.inl hx.2) (by omega) (by omega) (by omega) (fun q => by unfold ioP at q; omega) (by omega) (by omega)
theorem x_write (hP : PX σ0 W R σ) (hX : XW K T U W R P) (hT : T + 200 ≤ 2147483000) (hU : 0 ≤ U ∧ U ≤ 2147480000) (hp : 0 ≤ p ∧ p < 8) (hlv : ¬ P 2320 p = 0) (hC : CMD W k l) (hN : ((lnW l).length : Int) = 3) : CL fb (d + 10) 167 [vR (some 2175), vR (some (prO p)), vR (some k)] σ (XCM σ0 K (T + 4) (U + 400) W R ((cWrt P p (dgV (lnB l 1) 7) (lnB l 2)).1, (cWrt P p (dgV (lnB l 1) 7) (lnB l 2)).2, [])) := by
  have hpo := prO_o hp
  have hrp := prO_rng hp
  have h5 := hC.2.2.2.2.1.trans hN
  have hll := hC.2.2.2.1.2.2.2.2.1
  have hkr := hC.2.2.1
  have hdg := x_digit7 (fb := fb) (d := d + 6) (w := 1) hP hC ⟨by decide, by omega⟩
  have hr1 := dgV_rng (wd := lnB l 1) (most := 7)
  obtain ⟨dd, hdd⟩ : ∃ q, dgV (lnB l 1) 7 = q := ⟨_, rfl⟩
  rw [hdd] at hdg hr1
  rw [hdd]
  have hop := fun (h : 0 ≤ dd ∧ dd < 8) => x_opOf (fb := fb) (d := d + 9) (k := dd) hP hX.1.2.2.1 hp hlv h
  obtain ⟨a, b2, g1, g2, g3, -, g4, hse2⟩ := hC.at2 (R := R) (w := 2) ⟨by decide, by omega⟩
  obtain ⟨hsa, hsb⟩ := hse2 W R FCM_rfl
  have hso := x_startOf (fb := fb) (d := d + 9) (w := 2) hP hC ⟨by decide, by omega⟩ hsa
  have heo := x_endOf (fb := fb) (d := d + 9) (w := 2) hP hC ⟨by decide, by omega⟩ hsb
  obtain ⟨wd, hwd⟩ : ∃ q, lnB l 2 = q := ⟨_, rfl⟩
  rw [hwd] at g4
  rw [hwd]
  have hwl : (wd.length : Int) = b2 - a := by rw [g4, seg_len]; omega
  have eK : cWrt P p dd wd = if dd < 0 then (18, P) else if P 2327 (8 * p + dd) < 0 then (19, P) else (tE P (P 2331 (P 2327 (8 * p + dd))) (mWr (P 2332 (P 2327 (8 * p + dd))) (P 2333 (P 2327 (8 * p + dd))) wd), rU (tP P (P 2331 (P 2327 (8 * p + dd))) (mWr (P 2332 (P 2327 (8 * p + dd))) (P 2333 (P 2327 (8 * p + dd))) wd)) 2333 (P 2327 (8 * p + dd)) (P 2333 (P 2327 (8 * p + dd)) + if 0 < tE P (P 2331 (P 2327 (8 * p + dd))) (mWr (P 2332 (P 2327 (8 * p + dd))) (P 2333 (P 2327 (8 * p + dd))) wd) then 0 else (wd.length : Int))) := rfl
  obtain ⟨o, ho⟩ : ∃ q, P 2327 (8 * p + dd) = q := ⟨_, rfl⟩
  rw [ho] at hop eK
  rw [eK]
  have hog := fun (h : 0 ≤ dd ∧ dd < 8) (h0 : 0 ≤ o) => hX.opn hp hlv h ho h0
  obtain ⟨sv, hsv⟩ : ∃ q, P 2331 o = q := ⟨_, rfl⟩
  obtain ⟨fo, hfo⟩ : ∃ q, P 2332 o = q := ⟨_, rfl⟩
  obtain ⟨off, hoff⟩ : ∃ q, P 2333 o = q := ⟨_, rfl⟩
  rw [hsv, hfo, hoff] at hog
  rw [hsv, hfo, hoff]
  obtain ⟨pr, hpr⟩ : ∃ q, prO p = q := ⟨_, rfl⟩
  rw [hpr] at hop hpo ⊢
  have hXm : XW K (T + 4) (U + 400) W R P := (hX.mono (by omega)).monoU (by omega)
  by_cases q1 : dd < 0
  · rw [if_pos q1]
    have : dd = -1 := by omega
    subst this
    refine CL_in mL_167 rfl ?_
    show WP fb _ 167 0 [some (vR (some 2175)), some (vR (some pr)), some (vR (some k)), none, none, none] [] σ _
    refine x_lr (z := some k) T_167_0 rfl ?_
    refine x_ic T_167_1 ?_
    refine x_cv2 T_167_2 mN_151 mL_151 (Nat.le_of_ble_eq_true rfl) mO_151 (hP.o hC.1) (Nat.le_of_ble_eq_true rfl) (hdg) ?_
    rintro _ σ ⟨rfl, rfl⟩
    refine cI ?_
    refine x_si (ls1 := [some (vR (some 2175)), some (vR (some pr)), some (vR (some k)), some (vI (-1)), none, none]) T_167_5 rfl ?_
    refine x_lr (z := some k) T_167_6 rfl ?_
    refine x_gI (z := 3) T_167_7 (Or.inl F_16_4) (hP.o hC.1) (Eq.trans (hP.gi hC.1 (key := 2516) rfl) h5) ?_
    refine x_ic T_167_10 ?_
    refine x_ic2 T_167_11 (fun h => absurd (show ¬ (3 : Int) = 3 from h) (by decide)) (fun _ => ?_)
    refine x_li (z := (-1)) T_167_14 rfl ?_
    refine x_ic T_167_15 ?_
    refine x_ic2 T_167_16 (fun h => absurd (show ¬ ((-1) : Int) = (-1) from h) (by decide)) (fun _ => ?_)
    refine x_ic T_167_19 ?_
    refine x_ri T_167_21 ?_
    exact ⟨rfl, W, R, hP, hXm, FCM_rfl⟩
  rw [if_neg q1]
  have hop := hop ⟨by omega, by omega⟩
  by_cases q3 : o < 0
  · rw [if_pos q3] at hop
    rw [if_pos q3]
    refine CL_in mL_167 rfl ?_
    show WP fb _ 167 0 [some (vR (some 2175)), some (vR (some pr)), some (vR (some k)), none, none, none] [] σ _
    refine x_lr (z := some k) T_167_0 rfl ?_
    refine x_ic T_167_1 ?_
    refine x_cv2 T_167_2 mN_151 mL_151 (Nat.le_of_ble_eq_true rfl) mO_151 (hP.o hC.1) (Nat.le_of_ble_eq_true rfl) (hdg) ?_
    rintro _ σ ⟨rfl, rfl⟩
    refine cI ?_
    refine x_si (ls1 := [some (vR (some 2175)), some (vR (some pr)), some (vR (some k)), some (vI dd), none, none]) T_167_5 rfl ?_
    refine x_lr (z := some k) T_167_6 rfl ?_
    refine x_gI (z := 3) T_167_7 (Or.inl F_16_4) (hP.o hC.1) (Eq.trans (hP.gi hC.1 (key := 2516) rfl) h5) ?_
    refine x_ic T_167_10 ?_
    refine x_ic2 T_167_11 (fun h => absurd (show ¬ (3 : Int) = 3 from h) (by decide)) (fun _ => ?_)
    refine x_li (z := dd) T_167_14 rfl ?_
    refine x_ic T_167_15 ?_
    refine x_ic2 T_167_16 (fun _ => ?_) (fun h => absurd (show ¬ dd = (-1) by omega) h)
    refine x_lr (z := some pr) T_167_22 rfl ?_
    refine x_li (z := dd) T_167_23 rfl ?_
    refine x_cv2 T_167_24 mN_166 mL_166 (Nat.le_of_ble_eq_true rfl) mO_166 (hP.o hpo) (Nat.le_of_ble_eq_true rfl) (hop) ?_
    rintro _ σ ⟨rfl, rfl⟩
    refine cR ?_
    refine x_sr (ls1 := [some (vR (some 2175)), some (vR (some pr)), some (vR (some k)), some (vI dd), some (vR none), none]) T_167_27 rfl ?_
    refine x_lr (z := none) T_167_29 rfl ?_
    refine x_nnul T_167_31 (fun a0 h0 => absurd h0 (by simp)) (fun _ => ?_)
    refine x_ic T_167_34 ?_
    refine x_ri T_167_36 ?_
    exact ⟨rfl, W, R, hP, hXm, FCM_rfl⟩
  rw [if_neg q3] at hop
  rw [if_neg q3]
  obtain ⟨o1, ⟨o2, o3, o4⟩, o5, o6, o7⟩ := hog ⟨by omega, by omega⟩ (by omega)
  have hot : tX (1229 + o.toNat) = some (Sum.inl 5) := tX_opn o.toNat (by omega)
  have hoc : 1229 ≤ 1229 + o.toNat ∧ 1229 + o.toNat < 1293 := by omega
  have hfin := fun (σ : hM) (V : qR) (V3 : rR) (x : Int) (hX : XW K (T + 4) U V V3 (tP P sv (mWr fo off wd))) (hx : 0 ≤ x ∧ x ≤ U + 400) => hX.off (o := o) (U2 := U + 400) ⟨by omega, o1⟩ (by omega) hx
  obtain ⟨ob, hob⟩ : ∃ q, 1229 + o.toNat = q := ⟨_, rfl⟩
  rw [hob] at hop hot o2 o3 o4 hoc
  simp only [hob] at hfin
  have hwr := x_writing (fb := fb) (d := d + 6) (f := fo) (x := off) (s := a) (e := b2) (nm := wd) hP ⟨by omega, by omega⟩ ⟨by omega, by omega⟩ hC.2.2.2.1 (by omega) ⟨g1, by omega, g3⟩ g4.symm (by omega)
  have hsd := fun (σ : hM) (V4 : qR) (hP : PX σ0 V4 R σ) (hF : FR1 W V4) (hB : BY V4 138 300 (mFr (mWr fo off wd))) => mWr_s (fb := fb) (d := d + 1) (c := ob) hP (hX.fr1 hF) (by omega) ((hF _ _ (by omega) (by omega) (by omega)).trans o2) hot o5 (by omega) hB
  have hwk := wr_ok (P := P) (s := sv) (fd := fo) (off := off) (wd := wd)
  obtain ⟨A, hA⟩ : ∃ A, tA P sv (mWr fo off wd) = A := ⟨_, rfl⟩
  have htp : tP P sv (mWr fo off wd) 2333 o = off := (tP_f (by decide) (by decide) (by decide) (by decide)).trans hoff
  have her := tE_rng (P := P) (s := sv) (l := mWr fo off wd)
  obtain ⟨e, he⟩ : ∃ q, tE P sv (mWr fo off wd) = q := ⟨_, rfl⟩
  rw [hA, he] at hwk
  simp only [hA, he] at hsd
  rw [he] at her ⊢
  by_cases q4 : e = 0
  · subst q4
    rw [if_neg (show ¬ (0 : Int) < 0 by decide)]
    obtain ⟨w1, w2⟩ := hwk rfl (by omega)
    have hnu := fun (σ : hM) (V : qR) (V3 : rR) (hP : PX σ0 V V3 σ) (hB : BY V 134 300 A) => x_num (fb := fb) (d := d + 9) (s := 7) (k := 4) 4 hP hB rfl rfl (by decide) (by decide) (by omega) w2
    obtain ⟨n, hn⟩ : ∃ q : Int, (wd.length : Int) = q := ⟨_, rfl⟩
    rw [hn] at hwl ⊢
    simp only [hn] at hnu
    refine CL_in mL_167 rfl ?_
    show WP fb _ 167 0 [some (vR (some 2175)), some (vR (some pr)), some (vR (some k)), none, none, none] [] σ _
    refine x_lr (z := some k) T_167_0 rfl ?_
    refine x_ic T_167_1 ?_
    refine x_cv2 T_167_2 mN_151 mL_151 (Nat.le_of_ble_eq_true rfl) mO_151 (hP.o hC.1) (Nat.le_of_ble_eq_true rfl) (hdg) ?_
    rintro _ σ ⟨rfl, rfl⟩
    refine cI ?_
    refine x_si (ls1 := [some (vR (some 2175)), some (vR (some pr)), some (vR (some k)), some (vI dd), none, none]) T_167_5 rfl ?_
    refine x_lr (z := some k) T_167_6 rfl ?_
    refine x_gI (z := 3) T_167_7 (Or.inl F_16_4) (hP.o hC.1) (Eq.trans (hP.gi hC.1 (key := 2516) rfl) h5) ?_
    refine x_ic T_167_10 ?_
    refine x_ic2 T_167_11 (fun h => absurd (show ¬ (3 : Int) = 3 from h) (by decide)) (fun _ => ?_)
    refine x_li (z := dd) T_167_14 rfl ?_
    refine x_ic T_167_15 ?_
    refine x_ic2 T_167_16 (fun _ => ?_) (fun h => absurd (show ¬ dd = (-1) by omega) h)
    refine x_lr (z := some pr) T_167_22 rfl ?_
    refine x_li (z := dd) T_167_23 rfl ?_
    refine x_cv2 T_167_24 mN_166 mL_166 (Nat.le_of_ble_eq_true rfl) mO_166 (hP.o hpo) (Nat.le_of_ble_eq_true rfl) (hop) ?_
    rintro _ σ ⟨rfl, rfl⟩
    refine cR ?_
    refine x_sr (ls1 := [some (vR (some 2175)), some (vR (some pr)), some (vR (some k)), some (vI dd), some (vR (some ob)), none]) T_167_27 rfl ?_
    refine x_lr (z := some ob) T_167_29 rfl ?_
    refine x_nnul T_167_31 (fun _ _ => ?_) (fun h0 => absurd h0 (by simp))
    refine x_lr (z := some 2175) T_167_37 rfl ?_
    refine x_lr (z := some ob) T_167_38 rfl ?_
    refine x_lr (z := some 2175) T_167_40 rfl ?_
    refine x_gR (z := some 129) T_167_41 F_14_0 (hP.o xo_2175) (hP.rc xo_2175 rfl rfl) ?_
    refine x_lr (z := some ob) T_167_44 rfl ?_
    refine x_gI (z := fo) T_167_46 (Or.inl F_5_1) (hP.o hot) (Eq.trans (hP.gi hot (key := 2161) rfl) o3) ?_
    refine x_lr (z := some ob) T_167_49 rfl ?_
    refine x_gI (z := off) T_167_51 (Or.inl F_5_6) (hP.o hot) (Eq.trans (hP.gi hot (key := 2166) rfl) o4) ?_
    refine x_i2l T_167_54 ?_
    refine x_lr (z := some k) T_167_55 rfl ?_
    refine x_gR (z := some (k + 1)) T_167_56 F_16_0 (hP.o hC.1) (hP.rc hC.1 rfl rfl) ?_
    refine x_lr (z := some k) T_167_59 rfl ?_
    refine x_ic T_167_60 ?_
    refine x_cv2 T_167_61 mN_104 mL_104 (Nat.le_of_ble_eq_true rfl) mO_104 (hP.o hC.1) (Nat.le_of_ble_eq_true rfl) (hso) ?_
    rintro _ σ ⟨rfl, rfl⟩
    refine cI ?_
    refine x_lr (z := some k) T_167_64 rfl ?_
    refine x_ic T_167_65 ?_
    refine x_cv2 T_167_66 mN_106 mL_106 (Nat.le_of_ble_eq_true rfl) mO_106 (hP.o hC.1) (Nat.le_of_ble_eq_true rfl) (heo) ?_
    rintro _ σ ⟨rfl, rfl⟩
    refine cI ?_
    refine x_cv6 T_167_69 mN_146 mL_146 (Nat.le_of_ble_eq_true rfl) mO_146 (hP.o xo_129) (Nat.le_of_ble_eq_true rfl) (hwr) ?_
    clear hP hwr
    rintro _ σ ⟨rfl, V4, hP, hB4, hF4⟩
    refine cR ?_
    refine x_cv3 T_167_72 mN_136 mL_136 (Nat.le_of_ble_eq_true rfl) mO_136 (hP.o xo_2175) (Nat.le_of_ble_eq_true rfl) (hsd σ V4 hP hF4 hB4) ?_
    clear hP hsd
    rintro _ σ ⟨rfl, V5, V6, hP, hX5, hB5, hF5⟩
    have ho5 : V5 ob 2166 = off := (opF hF5 hoc (by decide)).trans ((hF4 _ _ (by omega) (by omega) (by omega)).trans o4)
    refine cI ?_
    refine x_si (ls1 := [some (vR (some 2175)), some (vR (some pr)), some (vR (some k)), some (vI dd), some (vR (some ob)), some (vI 0)]) T_167_75 rfl ?_
    refine x_li (z := 0) T_167_77 rfl ?_
    refine x_if T_167_79 (fun h => absurd (show ¬ (0 : Int) = 0 from h) (by decide)) (fun _ => ?_)
    refine x_lr (z := some ob) T_167_82 rfl ?_
    refine x_dupR T_167_84 ?_
    refine x_gI (z := off) T_167_85 (Or.inl F_5_6) (hP.o hot) (Eq.trans (hP.gi hot (key := 2166) rfl) ho5) ?_
    refine x_lr (z := some 2175) T_167_88 rfl ?_
    refine x_gR (z := some 129) T_167_89 F_14_0 (hP.o xo_2175) (hP.rc xo_2175 rfl rfl) ?_
    refine x_gR (z := some 134) T_167_92 F_1_2 (hP.o xo_129) (hP.rc xo_129 rfl rfl) ?_
    refine x_ic T_167_95 ?_
    refine x_ic T_167_97 ?_
    refine x_cv3 T_167_98 mN_29 mL_29 (Nat.le_of_ble_eq_true rfl) mO_29 (hP.o xo_134) (Nat.le_of_ble_eq_true rfl) (hnu σ V5 V6 hP hB5) ?_
    rintro _ σ ⟨rfl, rfl⟩
    refine cL ?_
    refine x_l2i (w := n) T_167_101 (w32_id (by omega) (by omega)) ?_
    refine x_ib (w := (off + n)) T_167_102 (fun h => absurd h.1 (by decide)) (w32_id (by omega) (by omega)) ?_
    refine z_pI hP T_167_103 F_5_6 hot (key := 2166) rfl (fun σ hP => ?_)
    refine x_li (z := 0) T_167_106 rfl ?_
    refine x_ri T_167_108 ?_
    exact ⟨rfl, _, V6, hP, hfin σ V5 V6 _ hX5 ⟨by omega, by omega⟩, FCM_tr (FCM_fr hF4) (FCM_tr (FCM_fs hF5) ⟨fun x k hx _ _ => if_neg (fun c => by omega), fun _ _ _ => rfl⟩)⟩
  · rw [if_pos (show 0 < e by omega), Int.add_zero, rU_idv htp]
    refine CL_in mL_167 rfl ?_
    show WP fb _ 167 0 [some (vR (some 2175)), some (vR (some pr)), some (vR (some k)), none, none, none] [] σ _
    refine x_lr (z := some k) T_167_0 rfl ?_
    refine x_ic T_167_1 ?_
    refine x_cv2 T_167_2 mN_151 mL_151 (Nat.le_of_ble_eq_true rfl) mO_151 (hP.o hC.1) (Nat.le_of_ble_eq_true rfl) (hdg) ?_
    rintro _ σ ⟨rfl, rfl⟩
    refine cI ?_
    refine x_si (ls1 := [some (vR (some 2175)), some (vR (some pr)), some (vR (some k)), some (vI dd), none, none]) T_167_5 rfl ?_
    refine x_lr (z := some k) T_167_6 rfl ?_
    refine x_gI (z := 3) T_167_7 (Or.inl F_16_4) (hP.o hC.1) (Eq.trans (hP.gi hC.1 (key := 2516) rfl) h5) ?_
    refine x_ic T_167_10 ?_
    refine x_ic2 T_167_11 (fun h => absurd (show ¬ (3 : Int) = 3 from h) (by decide)) (fun _ => ?_)
    refine x_li (z := dd) T_167_14 rfl ?_
    refine x_ic T_167_15 ?_
    refine x_ic2 T_167_16 (fun _ => ?_) (fun h => absurd (show ¬ dd = (-1) by omega) h)
    refine x_lr (z := some pr) T_167_22 rfl ?_
    refine x_li (z := dd) T_167_23 rfl ?_
    refine x_cv2 T_167_24 mN_166 mL_166 (Nat.le_of_ble_eq_true rfl) mO_166 (hP.o hpo) (Nat.le_of_ble_eq_true rfl) (hop) ?_
    rintro _ σ ⟨rfl, rfl⟩
    refine cR ?_
    refine x_sr (ls1 := [some (vR (some 2175)), some (vR (some pr)), some (vR (some k)), some (vI dd), some (vR (some ob)), none]) T_167_27 rfl ?_
    refine x_lr (z := some ob) T_167_29 rfl ?_
    refine x_nnul T_167_31 (fun _ _ => ?_) (fun h0 => absurd h0 (by simp))
    refine x_lr (z := some 2175) T_167_37 rfl ?_
    refine x_lr (z := some ob) T_167_38 rfl ?_
    refine x_lr (z := some 2175) T_167_40 rfl ?_
    refine x_gR (z := some 129) T_167_41 F_14_0 (hP.o xo_2175) (hP.rc xo_2175 rfl rfl) ?_
    refine x_lr (z := some ob) T_167_44 rfl ?_
    refine x_gI (z := fo) T_167_46 (Or.inl F_5_1) (hP.o hot) (Eq.trans (hP.gi hot (key := 2161) rfl) o3) ?_
    refine x_lr (z := some ob) T_167_49 rfl ?_
    refine x_gI (z := off) T_167_51 (Or.inl F_5_6) (hP.o hot) (Eq.trans (hP.gi hot (key := 2166) rfl) o4) ?_
    refine x_i2l T_167_54 ?_
    refine x_lr (z := some k) T_167_55 rfl ?_
    refine x_gR (z := some (k + 1)) T_167_56 F_16_0 (hP.o hC.1) (hP.rc hC.1 rfl rfl) ?_
    refine x_lr (z := some k) T_167_59 rfl ?_
    refine x_ic T_167_60 ?_
    refine x_cv2 T_167_61 mN_104 mL_104 (Nat.le_of_ble_eq_true rfl) mO_104 (hP.o hC.1) (Nat.le_of_ble_eq_true rfl) (hso) ?_
    rintro _ σ ⟨rfl, rfl⟩
    refine cI ?_
    refine x_lr (z := some k) T_167_64 rfl ?_
    refine x_ic T_167_65 ?_
    refine x_cv2 T_167_66 mN_106 mL_106 (Nat.le_of_ble_eq_true rfl) mO_106 (hP.o hC.1) (Nat.le_of_ble_eq_true rfl) (heo) ?_
    rintro _ σ ⟨rfl, rfl⟩
    refine cI ?_
    refine x_cv6 T_167_69 mN_146 mL_146 (Nat.le_of_ble_eq_true rfl) mO_146 (hP.o xo_129) (Nat.le_of_ble_eq_true rfl) (hwr) ?_
    clear hP hwr
    rintro _ σ ⟨rfl, V4, hP, hB4, hF4⟩
    refine cR ?_
    refine x_cv3 T_167_72 mN_136 mL_136 (Nat.le_of_ble_eq_true rfl) mO_136 (hP.o xo_2175) (Nat.le_of_ble_eq_true rfl) (hsd σ V4 hP hF4 hB4) ?_
    clear hP hsd
    rintro _ σ ⟨rfl, V5, V6, hP, hX5, hB5, hF5⟩
    refine cI ?_
    refine x_si (ls1 := [some (vR (some 2175)), some (vR (some pr)), some (vR (some k)), some (vI dd), some (vR (some ob)), some (vI e)]) T_167_75 rfl ?_
    refine x_li (z := e) T_167_77 rfl ?_
    refine x_if T_167_79 (fun _ => ?_) (fun h => absurd (show ¬ e = 0 by omega) h)
    refine x_li (z := e) T_167_106 rfl ?_
    refine x_ri T_167_108 ?_
    exact ⟨rfl, V5, V6, hP, hX5.monoU (by omega), FCM_tr (FCM_fr hF4) (FCM_fs hF5)⟩
theorem rdB_seg {n : Int} (h : n = (A.length : Int) - 11) (h0 : 0 ≤ n) : seg (lg A) 11 n.toNat = rdB A := by
  refine seg_eq.mpr ⟨by unfold rdB; rw [List.length_drop]; omega, fun i i0 i1 => ?_⟩
  unfold rdB
  rw [lg_drop i0]
  rfl
theorem x_read (hP : PX σ0 W R σ) (hX : XW K T U W R P) (hT : T + 200 ≤ 2147483000) (hU : 0 ≤ U ∧ U ≤ 2147480000) (hp : 0 ≤ p ∧ p < 8) (hlv : ¬ P 2320 p = 0) (hC : CMD W k l) (hN : ((lnW l).length : Int) = 3) : CL fb (d + 10) 165 [vR (some 2175), vR (some (prO p)), vR (some k)] σ (XCM σ0 K (T + 4) (U + 400) W R ((cRead P p (dgV (lnB l 1) 7) (nmN (lnB l 2) 10 4)).1, (cRead P p (dgV (lnB l 1) 7) (nmN (lnB l 2) 10 4)).2, [])) := by
  have hpo := prO_o hp
  have hrp := prO_rng hp
  have h5 := hC.2.2.2.2.1.trans hN
  have hll := hC.2.2.2.1.2.2.2.2.1
  have hkr := hC.2.2.1
  have hdg := x_digit7 (fb := fb) (d := d + 6) (w := 1) hP hC ⟨by decide, by omega⟩
  have hr1 := dgV_rng (wd := lnB l 1) (most := 7)
  obtain ⟨dd, hdd⟩ : ∃ q, dgV (lnB l 1) 7 = q := ⟨_, rfl⟩
  rw [hdd] at hdg hr1
  rw [hdd]
  have hop := fun (h : 0 ≤ dd ∧ dd < 8) => x_opOf (fb := fb) (d := d + 9) (k := dd) hP hX.1.2.2.1 hp hlv h
  have hde := x_decimal (fb := fb) (d := d + 6) (w := 2) hP hC (by decide)
  rw [if_pos (by omega)] at hde
  have hr2 := nmN_rng (wd := lnB l 2)
  obtain ⟨n, hn⟩ : ∃ q, nmN (lnB l 2) 10 4 = q := ⟨_, rfl⟩
  rw [hn] at hde hr2
  rw [hn]
  have eK : cRead P p dd n = if dd < 0 ∨ ¬ (1 ≤ n ∧ n ≤ 100) then (18, P) else if P 2327 (8 * p + dd) < 0 then (19, P) else if 0 < tE P (P 2331 (P 2327 (8 * p + dd))) (mRead (P 2332 (P 2327 (8 * p + dd))) (P 2333 (P 2327 (8 * p + dd))) n) then (tE P (P 2331 (P 2327 (8 * p + dd))) (mRead (P 2332 (P 2327 (8 * p + dd))) (P 2333 (P 2327 (8 * p + dd))) n), tP P (P 2331 (P 2327 (8 * p + dd))) (mRead (P 2332 (P 2327 (8 * p + dd))) (P 2333 (P 2327 (8 * p + dd))) n)) else (0, cRd2 (tP P (P 2331 (P 2327 (8 * p + dd))) (mRead (P 2332 (P 2327 (8 * p + dd))) (P 2333 (P 2327 (8 * p + dd))) n)) p (P 2327 (8 * p + dd)) (tA P (P 2331 (P 2327 (8 * p + dd))) (mRead (P 2332 (P 2327 (8 * p + dd))) (P 2333 (P 2327 (8 * p + dd))) n))) := rfl
  obtain ⟨o, ho⟩ : ∃ q, P 2327 (8 * p + dd) = q := ⟨_, rfl⟩
  rw [ho] at hop eK
  rw [eK]
  have hog := fun (h : 0 ≤ dd ∧ dd < 8) (h0 : 0 ≤ o) => hX.opn hp hlv h ho h0
  obtain ⟨sv, hsv⟩ : ∃ q, P 2331 o = q := ⟨_, rfl⟩
  obtain ⟨fo, hfo⟩ : ∃ q, P 2332 o = q := ⟨_, rfl⟩
  obtain ⟨off, hoff⟩ : ∃ q, P 2333 o = q := ⟨_, rfl⟩
  rw [hsv, hfo, hoff] at hog
  rw [hsv, hfo, hoff]
  have hprr : prO p = 295 + 125 * p.toNat := rfl
  obtain ⟨pr, hpr⟩ : ∃ q, prO p = q := ⟨_, rfl⟩
  rw [hpr] at hop hpo hprr ⊢
  have hXm : XW K (T + 4) (U + 400) W R P := (hX.mono (by omega)).monoU (by omega)
  by_cases q1 : dd < 0
  · rw [if_pos (Or.inl q1)]
    have : dd = -1 := by omega
    subst this
    refine CL_in mL_165 rfl ?_
    show WP fb _ 165 0 [some (vR (some 2175)), some (vR (some pr)), some (vR (some k)), none, none, none, none, none] [] σ _
    refine x_lr (z := some k) T_165_0 rfl ?_
    refine x_ic T_165_1 ?_
    refine x_cv2 T_165_2 mN_160 mL_160 (Nat.le_of_ble_eq_true rfl) mO_160 (hP.o hC.1) (Nat.le_of_ble_eq_true rfl) (hde) ?_
    rintro _ σ ⟨rfl, rfl⟩
    refine cI ?_
    refine x_si (ls1 := [some (vR (some 2175)), some (vR (some pr)), some (vR (some k)), some (vI n), none, none, none, none]) T_165_5 rfl ?_
    refine x_lr (z := some k) T_165_6 rfl ?_
    refine x_ic T_165_7 ?_
    refine x_cv2 T_165_8 mN_151 mL_151 (Nat.le_of_ble_eq_true rfl) mO_151 (hP.o hC.1) (Nat.le_of_ble_eq_true rfl) (hdg) ?_
    rintro _ σ ⟨rfl, rfl⟩
    refine cI ?_
    refine x_si (ls1 := [some (vR (some 2175)), some (vR (some pr)), some (vR (some k)), some (vI n), some (vI (-1)), none, none, none]) T_165_11 rfl ?_
    refine x_lr (z := some k) T_165_13 rfl ?_
    refine x_gI (z := 3) T_165_14 (Or.inl F_16_4) (hP.o hC.1) (Eq.trans (hP.gi hC.1 (key := 2516) rfl) h5) ?_
    refine x_ic T_165_17 ?_
    refine x_ic2 T_165_18 (fun h => absurd (show ¬ (3 : Int) = 3 from h) (by decide)) (fun _ => ?_)
    refine x_li (z := (-1)) T_165_21 rfl ?_
    refine x_ic T_165_23 ?_
    refine x_ic2 T_165_24 (fun _ => ?_) (fun h => absurd (show ((-1) : Int) = (-1) by decide) h)
    refine x_ic T_165_38 ?_
    refine x_ri T_165_40 ?_
    exact ⟨rfl, W, R, hP, hXm, FCM_rfl⟩
  by_cases q2 : n < 1
  · rw [if_pos (Or.inr (by omega))]
    refine CL_in mL_165 rfl ?_
    show WP fb _ 165 0 [some (vR (some 2175)), some (vR (some pr)), some (vR (some k)), none, none, none, none, none] [] σ _
    refine x_lr (z := some k) T_165_0 rfl ?_
    refine x_ic T_165_1 ?_
    refine x_cv2 T_165_2 mN_160 mL_160 (Nat.le_of_ble_eq_true rfl) mO_160 (hP.o hC.1) (Nat.le_of_ble_eq_true rfl) (hde) ?_
    rintro _ σ ⟨rfl, rfl⟩
    refine cI ?_
    refine x_si (ls1 := [some (vR (some 2175)), some (vR (some pr)), some (vR (some k)), some (vI n), none, none, none, none]) T_165_5 rfl ?_
    refine x_lr (z := some k) T_165_6 rfl ?_
    refine x_ic T_165_7 ?_
    refine x_cv2 T_165_8 mN_151 mL_151 (Nat.le_of_ble_eq_true rfl) mO_151 (hP.o hC.1) (Nat.le_of_ble_eq_true rfl) (hdg) ?_
    rintro _ σ ⟨rfl, rfl⟩
    refine cI ?_
    refine x_si (ls1 := [some (vR (some 2175)), some (vR (some pr)), some (vR (some k)), some (vI n), some (vI dd), none, none, none]) T_165_11 rfl ?_
    refine x_lr (z := some k) T_165_13 rfl ?_
    refine x_gI (z := 3) T_165_14 (Or.inl F_16_4) (hP.o hC.1) (Eq.trans (hP.gi hC.1 (key := 2516) rfl) h5) ?_
    refine x_ic T_165_17 ?_
    refine x_ic2 T_165_18 (fun h => absurd (show ¬ (3 : Int) = 3 from h) (by decide)) (fun _ => ?_)
    refine x_li (z := dd) T_165_21 rfl ?_
    refine x_ic T_165_23 ?_
    refine x_ic2 T_165_24 (fun h => absurd (show dd = (-1) from h) (by omega)) (fun _ => ?_)
    refine x_li (z := n) T_165_27 rfl ?_
    refine x_ic T_165_28 ?_
    refine x_ic2 T_165_29 (fun _ => ?_) (fun h => absurd (show n < 1 by omega) h)
    refine x_ic T_165_38 ?_
    refine x_ri T_165_40 ?_
    exact ⟨rfl, W, R, hP, hXm, FCM_rfl⟩
  by_cases q2b : 100 < n
  · rw [if_pos (Or.inr (by omega))]
    refine CL_in mL_165 rfl ?_
    show WP fb _ 165 0 [some (vR (some 2175)), some (vR (some pr)), some (vR (some k)), none, none, none, none, none] [] σ _
    refine x_lr (z := some k) T_165_0 rfl ?_
    refine x_ic T_165_1 ?_
    refine x_cv2 T_165_2 mN_160 mL_160 (Nat.le_of_ble_eq_true rfl) mO_160 (hP.o hC.1) (Nat.le_of_ble_eq_true rfl) (hde) ?_
    rintro _ σ ⟨rfl, rfl⟩
    refine cI ?_
    refine x_si (ls1 := [some (vR (some 2175)), some (vR (some pr)), some (vR (some k)), some (vI n), none, none, none, none]) T_165_5 rfl ?_
    refine x_lr (z := some k) T_165_6 rfl ?_
    refine x_ic T_165_7 ?_
    refine x_cv2 T_165_8 mN_151 mL_151 (Nat.le_of_ble_eq_true rfl) mO_151 (hP.o hC.1) (Nat.le_of_ble_eq_true rfl) (hdg) ?_
    rintro _ σ ⟨rfl, rfl⟩
    refine cI ?_
    refine x_si (ls1 := [some (vR (some 2175)), some (vR (some pr)), some (vR (some k)), some (vI n), some (vI dd), none, none, none]) T_165_11 rfl ?_
    refine x_lr (z := some k) T_165_13 rfl ?_
    refine x_gI (z := 3) T_165_14 (Or.inl F_16_4) (hP.o hC.1) (Eq.trans (hP.gi hC.1 (key := 2516) rfl) h5) ?_
    refine x_ic T_165_17 ?_
    refine x_ic2 T_165_18 (fun h => absurd (show ¬ (3 : Int) = 3 from h) (by decide)) (fun _ => ?_)
    refine x_li (z := dd) T_165_21 rfl ?_
    refine x_ic T_165_23 ?_
    refine x_ic2 T_165_24 (fun h => absurd (show dd = (-1) from h) (by omega)) (fun _ => ?_)
    refine x_li (z := n) T_165_27 rfl ?_
    refine x_ic T_165_28 ?_
    refine x_ic2 T_165_29 (fun h => absurd (show n < 1 from h) (by omega)) (fun _ => ?_)
    refine x_li (z := n) T_165_32 rfl ?_
    refine x_ic T_165_33 ?_
    refine x_ic2 T_165_35 (fun h => absurd (show n ≤ 100 from h) (by omega)) (fun _ => ?_)
    refine x_ic T_165_38 ?_
    refine x_ri T_165_40 ?_
    exact ⟨rfl, W, R, hP, hXm, FCM_rfl⟩
  rw [if_neg (show ¬ (dd < 0 ∨ ¬ (1 ≤ n ∧ n ≤ 100)) by omega)]
  have hop := hop ⟨by omega, by omega⟩
  by_cases q3 : o < 0
  · rw [if_pos q3] at hop
    rw [if_pos q3]
    refine CL_in mL_165 rfl ?_
    show WP fb _ 165 0 [some (vR (some 2175)), some (vR (some pr)), some (vR (some k)), none, none, none, none, none] [] σ _
    refine x_lr (z := some k) T_165_0 rfl ?_
    refine x_ic T_165_1 ?_
    refine x_cv2 T_165_2 mN_160 mL_160 (Nat.le_of_ble_eq_true rfl) mO_160 (hP.o hC.1) (Nat.le_of_ble_eq_true rfl) (hde) ?_
    rintro _ σ ⟨rfl, rfl⟩
    refine cI ?_
    refine x_si (ls1 := [some (vR (some 2175)), some (vR (some pr)), some (vR (some k)), some (vI n), none, none, none, none]) T_165_5 rfl ?_
    refine x_lr (z := some k) T_165_6 rfl ?_
    refine x_ic T_165_7 ?_
    refine x_cv2 T_165_8 mN_151 mL_151 (Nat.le_of_ble_eq_true rfl) mO_151 (hP.o hC.1) (Nat.le_of_ble_eq_true rfl) (hdg) ?_
    rintro _ σ ⟨rfl, rfl⟩
    refine cI ?_
    refine x_si (ls1 := [some (vR (some 2175)), some (vR (some pr)), some (vR (some k)), some (vI n), some (vI dd), none, none, none]) T_165_11 rfl ?_
    refine x_lr (z := some k) T_165_13 rfl ?_
    refine x_gI (z := 3) T_165_14 (Or.inl F_16_4) (hP.o hC.1) (Eq.trans (hP.gi hC.1 (key := 2516) rfl) h5) ?_
    refine x_ic T_165_17 ?_
    refine x_ic2 T_165_18 (fun h => absurd (show ¬ (3 : Int) = 3 from h) (by decide)) (fun _ => ?_)
    refine x_li (z := dd) T_165_21 rfl ?_
    refine x_ic T_165_23 ?_
    refine x_ic2 T_165_24 (fun h => absurd (show dd = (-1) from h) (by omega)) (fun _ => ?_)
    refine x_li (z := n) T_165_27 rfl ?_
    refine x_ic T_165_28 ?_
    refine x_ic2 T_165_29 (fun h => absurd (show n < 1 from h) (by omega)) (fun _ => ?_)
    refine x_li (z := n) T_165_32 rfl ?_
    refine x_ic T_165_33 ?_
    refine x_ic2 T_165_35 (fun _ => ?_) (fun h => absurd (show n ≤ 100 by omega) h)
    refine x_lr (z := some pr) T_165_41 rfl ?_
    refine x_li (z := dd) T_165_42 rfl ?_
    refine x_cv2 T_165_44 mN_166 mL_166 (Nat.le_of_ble_eq_true rfl) mO_166 (hP.o hpo) (Nat.le_of_ble_eq_true rfl) (hop) ?_
    rintro _ σ ⟨rfl, rfl⟩
    refine cR ?_
    refine x_sr (ls1 := [some (vR (some 2175)), some (vR (some pr)), some (vR (some k)), some (vI n), some (vI dd), some (vR none), none, none]) T_165_47 rfl ?_
    refine x_lr (z := none) T_165_49 rfl ?_
    refine x_nnul T_165_51 (fun a0 h0 => absurd h0 (by simp)) (fun _ => ?_)
    refine x_ic T_165_54 ?_
    refine x_ri T_165_56 ?_
    exact ⟨rfl, W, R, hP, hXm, FCM_rfl⟩
  rw [if_neg q3] at hop
  rw [if_neg q3]
  obtain ⟨o1, ⟨o2, o3, o4⟩, o5, o6, o7⟩ := hog ⟨by omega, by omega⟩ (by omega)
  have hot : tX (1229 + o.toNat) = some (Sum.inl 5) := tX_opn o.toNat (by omega)
  have hoc : 1229 ≤ 1229 + o.toNat ∧ 1229 + o.toNat < 1293 := by omega
  have hrd := x_reading (fb := fb) (d := d + 6) (f := fo) (x := off) (n := n) hP ⟨by omega, by omega⟩ ⟨by omega, by omega⟩ ⟨by omega, by omega⟩
  have hrk := rd_ok (P := P) (s := sv) (fd := fo) (off := off) (n := n)
  have hfin := fun (V : qR) (V3 : rR) (Q2 : qR) (x : Int) (hX : XW K (T + 4) U V V3 Q2) (hx : 0 ≤ x ∧ x ≤ U + 400) => hX.off (o := o) (U2 := U + 400) ⟨by omega, o1⟩ (by omega) hx
  obtain ⟨ob, hob⟩ : ∃ q, 1229 + o.toNat = q := ⟨_, rfl⟩
  rw [hob] at hop hot o2 o3 o4 hoc
  simp only [hob] at hfin
  have hsd := fun (σ : hM) (V4 : qR) (hP : PX σ0 V4 R σ) (hF : FR1 W V4) (hB : BY V4 138 300 (mFr (mRead fo off n))) => mRead_s (fb := fb) (d := d + 1) (c := ob) hP (hX.fr1 hF) (by omega) ((hF _ _ (by omega) (by omega) (by omega)).trans o2) hot o5 hB
  have htp : tP P sv (mRead fo off n) 2333 o = off := (tP_f (by decide) (by decide) (by decide) (by decide)).trans hoff
  have hlv2 : ¬ tP P sv (mRead fo off n) 2320 p = 0 := by rw [tP_f (by decide) (by decide) (by decide) (by decide)]; exact hlv
  have her := tE_rng (P := P) (s := sv) (l := mRead fo off n)
  obtain ⟨A, hA⟩ : ∃ A, tA P sv (mRead fo off n) = A := ⟨_, rfl⟩
  obtain ⟨Q, hQ⟩ : ∃ A, tP P sv (mRead fo off n) = A := ⟨_, rfl⟩
  obtain ⟨e, he⟩ : ∃ q, tE P sv (mRead fo off n) = q := ⟨_, rfl⟩
  rw [hA, he] at hrk
  simp only [hA, he, hQ] at hsd
  rw [hQ] at htp hlv2
  rw [he] at her
  rw [he, hA, hQ]
  by_cases q4 : e = 0
  rotate_left
  · rw [if_pos (show 0 < e by omega)]
    refine CL_in mL_165 rfl ?_
    show WP fb _ 165 0 [some (vR (some 2175)), some (vR (some pr)), some (vR (some k)), none, none, none, none, none] [] σ _
    refine x_lr (z := some k) T_165_0 rfl ?_
    refine x_ic T_165_1 ?_
    refine x_cv2 T_165_2 mN_160 mL_160 (Nat.le_of_ble_eq_true rfl) mO_160 (hP.o hC.1) (Nat.le_of_ble_eq_true rfl) (hde) ?_
    rintro _ σ ⟨rfl, rfl⟩
    refine cI ?_
    refine x_si (ls1 := [some (vR (some 2175)), some (vR (some pr)), some (vR (some k)), some (vI n), none, none, none, none]) T_165_5 rfl ?_
    refine x_lr (z := some k) T_165_6 rfl ?_
    refine x_ic T_165_7 ?_
    refine x_cv2 T_165_8 mN_151 mL_151 (Nat.le_of_ble_eq_true rfl) mO_151 (hP.o hC.1) (Nat.le_of_ble_eq_true rfl) (hdg) ?_
    rintro _ σ ⟨rfl, rfl⟩
    refine cI ?_
    refine x_si (ls1 := [some (vR (some 2175)), some (vR (some pr)), some (vR (some k)), some (vI n), some (vI dd), none, none, none]) T_165_11 rfl ?_
    refine x_lr (z := some k) T_165_13 rfl ?_
    refine x_gI (z := 3) T_165_14 (Or.inl F_16_4) (hP.o hC.1) (Eq.trans (hP.gi hC.1 (key := 2516) rfl) h5) ?_
    refine x_ic T_165_17 ?_
    refine x_ic2 T_165_18 (fun h => absurd (show ¬ (3 : Int) = 3 from h) (by decide)) (fun _ => ?_)
    refine x_li (z := dd) T_165_21 rfl ?_
    refine x_ic T_165_23 ?_
    refine x_ic2 T_165_24 (fun h => absurd (show dd = (-1) from h) (by omega)) (fun _ => ?_)
    refine x_li (z := n) T_165_27 rfl ?_
    refine x_ic T_165_28 ?_
    refine x_ic2 T_165_29 (fun h => absurd (show n < 1 from h) (by omega)) (fun _ => ?_)
    refine x_li (z := n) T_165_32 rfl ?_
    refine x_ic T_165_33 ?_
    refine x_ic2 T_165_35 (fun _ => ?_) (fun h => absurd (show n ≤ 100 by omega) h)
    refine x_lr (z := some pr) T_165_41 rfl ?_
    refine x_li (z := dd) T_165_42 rfl ?_
    refine x_cv2 T_165_44 mN_166 mL_166 (Nat.le_of_ble_eq_true rfl) mO_166 (hP.o hpo) (Nat.le_of_ble_eq_true rfl) (hop) ?_
    rintro _ σ ⟨rfl, rfl⟩
    refine cR ?_
    refine x_sr (ls1 := [some (vR (some 2175)), some (vR (some pr)), some (vR (some k)), some (vI n), some (vI dd), some (vR (some ob)), none, none]) T_165_47 rfl ?_
    refine x_lr (z := some ob) T_165_49 rfl ?_
    refine x_nnul T_165_51 (fun _ _ => ?_) (fun h0 => absurd h0 (by simp))
    refine x_lr (z := some 2175) T_165_57 rfl ?_
    refine x_lr (z := some ob) T_165_58 rfl ?_
    refine x_lr (z := some 2175) T_165_60 rfl ?_
    refine x_gR (z := some 129) T_165_61 F_14_0 (hP.o xo_2175) (hP.rc xo_2175 rfl rfl) ?_
    refine x_lr (z := some ob) T_165_64 rfl ?_
    refine x_gI (z := fo) T_165_66 (Or.inl F_5_1) (hP.o hot) (Eq.trans (hP.gi hot (key := 2161) rfl) o3) ?_
    refine x_lr (z := some ob) T_165_69 rfl ?_
    refine x_gI (z := off) T_165_71 (Or.inl F_5_6) (hP.o hot) (Eq.trans (hP.gi hot (key := 2166) rfl) o4) ?_
    refine x_i2l T_165_74 ?_
    refine x_li (z := n) T_165_75 rfl ?_
    refine x_cv4 T_165_76 mN_137 mL_137 (Nat.le_of_ble_eq_true rfl) mO_137 (hP.o xo_129) (Nat.le_of_ble_eq_true rfl) (hrd) ?_
    clear hP hrd
    rintro _ σ ⟨rfl, V4, hP, hB4, hF4⟩
    refine cR ?_
    refine x_cv3 T_165_79 mN_136 mL_136 (Nat.le_of_ble_eq_true rfl) mO_136 (hP.o xo_2175) (Nat.le_of_ble_eq_true rfl) (hsd σ V4 hP hF4 hB4) ?_
    clear hP hsd
    rintro _ σ ⟨rfl, V5, V6, hP, hX5, hB5, hF5⟩
    refine cI ?_
    refine x_si (ls1 := [some (vR (some 2175)), some (vR (some pr)), some (vR (some k)), some (vI n), some (vI dd), some (vR (some ob)), some (vI e), none]) T_165_82 rfl ?_
    refine x_li (z := e) T_165_84 rfl ?_
    refine x_if T_165_86 (fun _ => ?_) (fun h => absurd (show ¬ e = 0 by omega) h)
    refine x_li (z := e) T_165_139 rfl ?_
    refine x_ri T_165_141 ?_
    exact ⟨rfl, V5, V6, hP, hX5.monoU (by omega), FCM_tr (FCM_fr hF4) (FCM_fs hF5)⟩
  subst q4
  rw [if_neg (show ¬ (0 : Int) < 0 by decide)]
  obtain ⟨u, hu⟩ : ∃ q, nu (lg A) 7 4 = q := ⟨_, rfl⟩
  rw [hu] at hrk
  have eQ : cRd2 Q p o A = rU (gOut Q p (rdB A)) 2333 o (off + ((rdB A).length : Int)) := by unfold cRd2; rw [htp]
  rw [eQ]
  have hnu := fun (σ : hM) (V : qR) (V3 : rR) (hP : PX σ0 V V3 σ) (hB : BY V 134 300 A) (h11 : 11 ≤ (A.length : Int)) => x_num (fb := fb) (d := d + 9) (s := 7) (k := 4) 4 hP hB rfl rfl (by decide) (by decide) (by omega) hu
  have hou := fun (V : qR) (V3 : rR) (hX : XW K (T + 4) U V V3 Q) => ((hX.1.2.2.1.1 p hp.1 hp.2).2.2.2 hlv2).2.2.2.2.1
  have hO1 := fun (V V2 : qR) (V3 : rR) (hX : XW K (T + 4) U V V3 Q) (hb : byt (rdB A)) (hF : FB (prO p + 3) V V2) (hB : BY V2 (prO p + 3) 1000 ((seg (Q 2328) (1000 * p) (Q 2329 p).toNat ++ rdB A).take 1000)) => hX.out1 hp hb hlv2 hF hB
  have hot3 : tX (pr + 3) = some (Sum.inl 2) := by rw [← hpr]; exact (((hX.1.2.2.1.1 p hp.1 hp.2).2.2.2 hlv).2.2.2.2.1).1
  obtain ⟨Z, hZ⟩ : ∃ A, seg (Q 2328) (1000 * p) (Q 2329 p).toNat = A := ⟨_, rfl⟩
  simp only [hZ, hpr] at hou hO1
  have had := fun (σ : hM) (V : qR) (V3 : rR) (hP : PX σ0 V V3 σ) (hX : XW K (T + 4) U V V3 Q) (hB : BY V 134 300 A) (h1 : 11 + u ≤ (A.length : Int)) => x_addAll (fb := fb) (d := d + 9) (s := 11) (e := 11 + u) hP (hou V V3 hX) hB (by omega) (Or.inr (by decide)) h1
  have hsg : u = (A.length : Int) - 11 → 0 ≤ u → seg (lg A) 11 (11 + u - 11).toNat = rdB A := fun h1 h0 => by rw [show 11 + u - 11 = u by omega]; exact rdB_seg h1 h0
  refine CL_in mL_165 rfl ?_
  show WP fb _ 165 0 [some (vR (some 2175)), some (vR (some pr)), some (vR (some k)), none, none, none, none, none] [] σ _
  refine x_lr (z := some k) T_165_0 rfl ?_
  refine x_ic T_165_1 ?_
  refine x_cv2 T_165_2 mN_160 mL_160 (Nat.le_of_ble_eq_true rfl) mO_160 (hP.o hC.1) (Nat.le_of_ble_eq_true rfl) (hde) ?_
  rintro _ σ ⟨rfl, rfl⟩
  refine cI ?_
  refine x_si (ls1 := [some (vR (some 2175)), some (vR (some pr)), some (vR (some k)), some (vI n), none, none, none, none]) T_165_5 rfl ?_
  refine x_lr (z := some k) T_165_6 rfl ?_
  refine x_ic T_165_7 ?_
  refine x_cv2 T_165_8 mN_151 mL_151 (Nat.le_of_ble_eq_true rfl) mO_151 (hP.o hC.1) (Nat.le_of_ble_eq_true rfl) (hdg) ?_
  rintro _ σ ⟨rfl, rfl⟩
  refine cI ?_
  refine x_si (ls1 := [some (vR (some 2175)), some (vR (some pr)), some (vR (some k)), some (vI n), some (vI dd), none, none, none]) T_165_11 rfl ?_
  refine x_lr (z := some k) T_165_13 rfl ?_
  refine x_gI (z := 3) T_165_14 (Or.inl F_16_4) (hP.o hC.1) (Eq.trans (hP.gi hC.1 (key := 2516) rfl) h5) ?_
  refine x_ic T_165_17 ?_
  refine x_ic2 T_165_18 (fun h => absurd (show ¬ (3 : Int) = 3 from h) (by decide)) (fun _ => ?_)
  refine x_li (z := dd) T_165_21 rfl ?_
  refine x_ic T_165_23 ?_
  refine x_ic2 T_165_24 (fun h => absurd (show dd = (-1) from h) (by omega)) (fun _ => ?_)
  refine x_li (z := n) T_165_27 rfl ?_
  refine x_ic T_165_28 ?_
  refine x_ic2 T_165_29 (fun h => absurd (show n < 1 from h) (by omega)) (fun _ => ?_)
  refine x_li (z := n) T_165_32 rfl ?_
  refine x_ic T_165_33 ?_
  refine x_ic2 T_165_35 (fun _ => ?_) (fun h => absurd (show n ≤ 100 by omega) h)
  refine x_lr (z := some pr) T_165_41 rfl ?_
  refine x_li (z := dd) T_165_42 rfl ?_
  refine x_cv2 T_165_44 mN_166 mL_166 (Nat.le_of_ble_eq_true rfl) mO_166 (hP.o hpo) (Nat.le_of_ble_eq_true rfl) (hop) ?_
  rintro _ σ ⟨rfl, rfl⟩
  refine cR ?_
  refine x_sr (ls1 := [some (vR (some 2175)), some (vR (some pr)), some (vR (some k)), some (vI n), some (vI dd), some (vR (some ob)), none, none]) T_165_47 rfl ?_
  refine x_lr (z := some ob) T_165_49 rfl ?_
  refine x_nnul T_165_51 (fun _ _ => ?_) (fun h0 => absurd h0 (by simp))
  refine x_lr (z := some 2175) T_165_57 rfl ?_
  refine x_lr (z := some ob) T_165_58 rfl ?_
  refine x_lr (z := some 2175) T_165_60 rfl ?_
  refine x_gR (z := some 129) T_165_61 F_14_0 (hP.o xo_2175) (hP.rc xo_2175 rfl rfl) ?_
  refine x_lr (z := some ob) T_165_64 rfl ?_
  refine x_gI (z := fo) T_165_66 (Or.inl F_5_1) (hP.o hot) (Eq.trans (hP.gi hot (key := 2161) rfl) o3) ?_
  refine x_lr (z := some ob) T_165_69 rfl ?_
  refine x_gI (z := off) T_165_71 (Or.inl F_5_6) (hP.o hot) (Eq.trans (hP.gi hot (key := 2166) rfl) o4) ?_
  refine x_i2l T_165_74 ?_
  refine x_li (z := n) T_165_75 rfl ?_
  refine x_cv4 T_165_76 mN_137 mL_137 (Nat.le_of_ble_eq_true rfl) mO_137 (hP.o xo_129) (Nat.le_of_ble_eq_true rfl) (hrd) ?_
  clear hP hrd
  rintro _ σ ⟨rfl, V4, hP, hB4, hF4⟩
  refine cR ?_
  refine x_cv3 T_165_79 mN_136 mL_136 (Nat.le_of_ble_eq_true rfl) mO_136 (hP.o xo_2175) (Nat.le_of_ble_eq_true rfl) (hsd σ V4 hP hF4 hB4) ?_
  clear hP hsd
  rintro _ σ ⟨rfl, V5, V6, hP, hX5, hB5, hF5⟩
  have hAl := hB5.2.2.2.2.1
  obtain ⟨k1, k2, k3⟩ := hrk rfl (by omega)
  have hsg := hsg (by omega) (by omega)
  have ho5 : V5 ob 2166 = off := (opF hF5 hoc (by decide)).trans ((hF4 _ _ (by omega) (by omega) (by omega)).trans o4)
  have had := had σ V5 V6 hP hX5 hB5 (by omega)
  rw [hsg] at had
  refine cI ?_
  refine x_si (ls1 := [some (vR (some 2175)), some (vR (some pr)), some (vR (some k)), some (vI n), some (vI dd), some (vR (some ob)), some (vI 0), none]) T_165_82 rfl ?_
  refine x_li (z := 0) T_165_84 rfl ?_
  refine x_if T_165_86 (fun h => absurd (show ¬ (0 : Int) = 0 from h) (by decide)) (fun _ => ?_)
  refine x_lr (z := some 2175) T_165_89 rfl ?_
  refine x_gR (z := some 129) T_165_90 F_14_0 (hP.o xo_2175) (hP.rc xo_2175 rfl rfl) ?_
  refine x_gR (z := some 134) T_165_93 F_1_2 (hP.o xo_129) (hP.rc xo_129 rfl rfl) ?_
  refine x_ic T_165_96 ?_
  refine x_ic T_165_98 ?_
  refine x_cv3 T_165_99 mN_29 mL_29 (Nat.le_of_ble_eq_true rfl) mO_29 (hP.o xo_134) (Nat.le_of_ble_eq_true rfl) (hnu σ V5 V6 hP hB5 k1) ?_
  rintro _ σ ⟨rfl, rfl⟩
  refine cL ?_
  refine x_l2i (w := u) T_165_102 (w32_id (by omega) (by omega)) ?_
  refine x_si (ls1 := [some (vR (some 2175)), some (vR (some pr)), some (vR (some k)), some (vI n), some (vI dd), some (vR (some ob)), some (vI 0), some (vI u)]) T_165_103 rfl ?_
  refine x_lr (z := some pr) T_165_105 rfl ?_
  refine x_gR (z := some (pr + 3)) T_165_106 F_6_2 (hP.o hpo) (hP.rc hpo rfl rfl) ?_
  refine x_lr (z := some 2175) T_165_109 rfl ?_
  refine x_gR (z := some 129) T_165_110 F_14_0 (hP.o xo_2175) (hP.rc xo_2175 rfl rfl) ?_
  refine x_gR (z := some 134) T_165_113 F_1_2 (hP.o xo_129) (hP.rc xo_129 rfl rfl) ?_
  refine x_ic T_165_116 ?_
  refine x_ic T_165_118 ?_
  refine x_li (z := u) T_165_120 rfl ?_
  refine x_ib (w := (11 + u)) T_165_122 (fun h => absurd h.1 (by decide)) (w32_id (by omega) (by omega)) ?_
  refine x_cv4 T_165_123 mN_32 mL_32 (Nat.le_of_ble_eq_true rfl) mO_32 (hP.o hot3) (Nat.le_of_ble_eq_true rfl) (had) ?_
  clear hP had
  rintro _ σ ⟨rfl, V7, hP, hB7, hF7⟩
  have hX7 := hO1 V5 V7 V6 hX5 (byt_drop hB5.2.2.2.2.2.1) hF7 hB7
  have ho7 : V7 ob 2166 = off := (hF7 _ _ (by omega) (by omega)).trans ho5
  refine cI ?_
  refine x_popI T_165_126 ?_
  refine x_lr (z := some ob) T_165_127 rfl ?_
  refine x_dupR T_165_129 ?_
  refine x_gI (z := off) T_165_130 (Or.inl F_5_6) (hP.o hot) (Eq.trans (hP.gi hot (key := 2166) rfl) ho7) ?_
  refine x_li (z := u) T_165_133 rfl ?_
  refine x_ib (w := (off + u)) T_165_135 (fun h => absurd h.1 (by decide)) (w32_id (by omega) (by omega)) ?_
  refine z_pI hP T_165_136 F_5_6 hot (key := 2166) rfl (fun σ hP => ?_)
  refine x_li (z := 0) T_165_139 rfl ?_
  refine x_ri T_165_141 ?_
  refine ⟨rfl, _, V6, hP, ?_, FCM_tr (FCM_fr hF4) (FCM_tr (FCM_fs hF5) (FCM_tr (FCM_fb hF7 (by omega)) ⟨fun x k hx _ _ => if_neg (fun c => by omega), fun _ _ _ => rfl⟩))⟩
  rw [show ((rdB A).length : Int) = u by omega]
  exact hfin V7 V6 _ _ hX7 ⟨by omega, by omega⟩
end XRDW
