/-! What descriptors read and write; chmod. -/
theorem T_395_0 : hTab 395 0 = some ((3, 0, 2, []), 1) := rfl
theorem T_395_1 : hTab 395 1 = some ((0, 0, 1, []), 2) := rfl
theorem T_395_2 : hTab 395 2 = some ((0, 0, 7, []), 4) := rfl
theorem T_395_4 : hTab 395 4 = some ((31, 359, 0, []), 7) := rfl
theorem T_395_7 : hTab 395 7 = some ((4, 2, 0, []), 8) := rfl
theorem T_395_8 : hTab 395 8 = some ((3, 0, 2, []), 9) := rfl
theorem T_395_9 : hTab 395 9 = some ((0, 0, 2, []), 10) := rfl
theorem T_395_10 : hTab 395 10 = some ((0, 0, 10, []), 12) := rfl
theorem T_395_12 : hTab 395 12 = some ((0, 0, 4, []), 13) := rfl
theorem T_395_13 : hTab 395 13 = some ((31, 390, 0, []), 16) := rfl
theorem T_395_16 : hTab 395 16 = some ((4, 3, 0, []), 17) := rfl
theorem T_395_17 : hTab 395 17 = some ((3, 2, 0, []), 18) := rfl
theorem T_395_18 : hTab 395 18 = some ((18, 2, Int.ofNat 33, []), 21) := rfl
theorem T_395_21 : hTab 395 21 = some ((3, 3, 0, []), 22) := rfl
theorem T_395_22 : hTab 395 22 = some ((14, 0, 0, []), 23) := rfl
theorem T_395_23 : hTab 395 23 = some ((1, 0, 1, []), 24) := rfl
theorem T_395_24 : hTab 395 24 = some ((1, 0, 100, []), 27) := rfl
theorem T_395_27 : hTab 395 27 = some ((31, 282, 0, []), 30) := rfl
theorem T_395_30 : hTab 395 30 = some ((18, 1, Int.ofNat 36, []), 33) := rfl
theorem T_395_33 : hTab 395 33 = some ((0, 0, 18, []), 35) := rfl
theorem T_395_35 : hTab 395 35 = some ((33, 1, 0, []), 36) := rfl
theorem T_395_36 : hTab 395 36 = some ((3, 0, 2, []), 37) := rfl
theorem T_395_37 : hTab 395 37 = some ((24, 17, Int.ofNat 57, []), 40) := rfl
theorem T_395_40 : hTab 395 40 = some ((0, 0, 8, []), 42) := rfl
theorem T_395_42 : hTab 395 42 = some ((3, 1, 0, []), 43) := rfl
theorem T_395_43 : hTab 395 43 = some ((10, 2, 0, []), 44) := rfl
theorem T_395_44 : hTab 395 44 = some ((3, 2, 0, []), 45) := rfl
theorem T_395_45 : hTab 395 45 = some ((10, 0, 0, []), 46) := rfl
theorem T_395_46 : hTab 395 46 = some ((26, 0, 0, []), 47) := rfl
theorem T_395_47 : hTab 395 47 = some ((4, 4, 0, []), 49) := rfl
theorem T_395_49 : hTab 395 49 = some ((3, 4, 0, []), 51) := rfl
theorem T_395_51 : hTab 395 51 = some ((18, 3, Int.ofNat 57, []), 54) := rfl
theorem T_395_54 : hTab 395 54 = some ((0, 0, 19, []), 56) := rfl
theorem T_395_56 : hTab 395 56 = some ((33, 1, 0, []), 57) := rfl
theorem T_395_57 : hTab 395 57 = some ((3, 0, 2, []), 58) := rfl
theorem T_395_58 : hTab 395 58 = some ((3, 0, 2, []), 59) := rfl
theorem T_395_59 : hTab 395 59 = some ((24, 17, Int.ofNat 61, []), 62) := rfl
theorem T_395_62 : hTab 395 62 = some ((3, 4, 0, []), 64) := rfl
theorem T_395_64 : hTab 395 64 = some ((26, 0, 0, []), 65) := rfl
theorem T_395_65 : hTab 395 65 = some ((3, 0, 2, []), 66) := rfl
theorem T_395_66 : hTab 395 66 = some ((24, 17, Int.ofNat 62, []), 69) := rfl
theorem T_395_69 : hTab 395 69 = some ((3, 4, 0, []), 71) := rfl
theorem T_395_71 : hTab 395 71 = some ((26, 0, 0, []), 72) := rfl
theorem T_395_72 : hTab 395 72 = some ((3, 0, 2, []), 73) := rfl
theorem T_395_73 : hTab 395 73 = some ((24, 17, Int.ofNat 63, []), 76) := rfl
theorem T_395_76 : hTab 395 76 = some ((3, 4, 0, []), 78) := rfl
theorem T_395_78 : hTab 395 78 = some ((26, 0, 0, []), 79) := rfl
theorem T_395_79 : hTab 395 79 = some ((3, 3, 0, []), 80) := rfl
theorem T_395_80 : hTab 395 80 = some ((31, 350, 0, []), 83) := rfl
theorem T_395_83 : hTab 395 83 = some ((4, 5, 0, []), 85) := rfl
theorem T_395_85 : hTab 395 85 = some ((3, 5, 0, []), 87) := rfl
theorem T_395_87 : hTab 395 87 = some ((18, 5, Int.ofNat 93, []), 90) := rfl
theorem T_395_90 : hTab 395 90 = some ((3, 5, 0, []), 92) := rfl
theorem T_395_92 : hTab 395 92 = some ((33, 1, 0, []), 93) := rfl
theorem T_395_93 : hTab 395 93 = some ((3, 0, 2, []), 94) := rfl
theorem T_395_94 : hTab 395 94 = some ((0, 0, 7, []), 96) := rfl
theorem T_395_96 : hTab 395 96 = some ((0, 0, 4, []), 97) := rfl
theorem T_395_97 : hTab 395 97 = some ((31, 339, 0, []), 100) := rfl
theorem T_395_100 : hTab 395 100 = some ((15, 0, 0, []), 101) := rfl
theorem T_395_101 : hTab 395 101 = some ((4, 6, 0, []), 103) := rfl
theorem T_395_103 : hTab 395 103 = some ((0, 0, 0, []), 104) := rfl
theorem T_395_104 : hTab 395 104 = some ((4, 7, 0, []), 106) := rfl
theorem T_395_106 : hTab 395 106 = some ((3, 7, 0, []), 108) := rfl
theorem T_395_108 : hTab 395 108 = some ((3, 6, 0, []), 110) := rfl
theorem T_395_110 : hTab 395 110 = some ((19, 3, Int.ofNat 134, []), 113) := rfl
theorem T_395_113 : hTab 395 113 = some ((3, 0, 2, []), 114) := rfl
theorem T_395_114 : hTab 395 114 = some ((3, 1, 0, []), 115) := rfl
theorem T_395_115 : hTab 395 115 = some ((3, 0, 2, []), 116) := rfl
theorem T_395_116 : hTab 395 116 = some ((24, 17, Int.ofNat 5, []), 119) := rfl
theorem T_395_119 : hTab 395 119 = some ((0, 0, 11, []), 121) := rfl
theorem T_395_121 : hTab 395 121 = some ((3, 7, 0, []), 123) := rfl
theorem T_395_123 : hTab 395 123 = some ((10, 0, 0, []), 124) := rfl
theorem T_395_124 : hTab 395 124 = some ((26, 0, 0, []), 125) := rfl
theorem T_395_125 : hTab 395 125 = some ((31, 351, 0, []), 128) := rfl
theorem T_395_128 : hTab 395 128 = some ((5, 7, 1, []), 131) := rfl
theorem T_395_131 : hTab 395 131 = some ((22, 0, Int.ofNat 106, []), 134) := rfl
theorem T_395_134 : hTab 395 134 = some ((3, 0, 2, []), 135) := rfl
theorem T_395_135 : hTab 395 135 = some ((24, 17, Int.ofNat 63, []), 138) := rfl
theorem T_395_138 : hTab 395 138 = some ((3, 4, 0, []), 140) := rfl
theorem T_395_140 : hTab 395 140 = some ((8, 0, 0, []), 141) := rfl
theorem T_395_141 : hTab 395 141 = some ((26, 0, 0, []), 142) := rfl
theorem T_395_142 : hTab 395 142 = some ((3, 6, 0, []), 144) := rfl
theorem T_395_144 : hTab 395 144 = some ((10, 0, 0, []), 145) := rfl
theorem T_395_145 : hTab 395 145 = some ((27, 0, 0, []), 146) := rfl
theorem T_395_146 : hTab 395 146 = some ((0, 0, 0, []), 147) := rfl
theorem T_395_147 : hTab 395 147 = some ((33, 1, 0, []), 148) := rfl
theorem F_17_63 : (hFd 17 63).2.2.1 = 4 := rfl
theorem mN_395 : hmN 395 = 2 := by decide +kernel
theorem mL_395 : hmL 395 = 8 := by decide +kernel
theorem mK_395 : hmK 395 = 1 := by decide +kernel
theorem mO_395 : hmO 395 = 17 := by decide +kernel
/-- bytes that a read told -/
def rdB (A : List Int) : List Int := A.drop 11
def cRd2 (P : qR) (p o : Int) (A : List Int) : qR := rU (gOut P p (rdB A)) 2333 o (P 2333 o + ((rdB A).length : Int))
def cRead (P : qR) (p dd n : Int) : Int × qR := if dd < 0 ∨ ¬ (1 ≤ n ∧ n ≤ 100) then (18, P) else if P 2327 (8 * p + dd) < 0 then (19, P) else if 0 < tE P (P 2331 (P 2327 (8 * p + dd))) (mRead (P 2332 (P 2327 (8 * p + dd))) (P 2333 (P 2327 (8 * p + dd))) n) then (tE P (P 2331 (P 2327 (8 * p + dd))) (mRead (P 2332 (P 2327 (8 * p + dd))) (P 2333 (P 2327 (8 * p + dd))) n), tP P (P 2331 (P 2327 (8 * p + dd))) (mRead (P 2332 (P 2327 (8 * p + dd))) (P 2333 (P 2327 (8 * p + dd))) n)) else (0, cRd2 (tP P (P 2331 (P 2327 (8 * p + dd))) (mRead (P 2332 (P 2327 (8 * p + dd))) (P 2333 (P 2327 (8 * p + dd))) n)) p (P 2327 (8 * p + dd)) (tA P (P 2331 (P 2327 (8 * p + dd))) (mRead (P 2332 (P 2327 (8 * p + dd))) (P 2333 (P 2327 (8 * p + dd))) n)))
section MDESC2
variable {fb : Bool} {d : Nat} {σ0 σ : hM} {P Q R S S1 S2 : qR} {T U s w g u p k e t z o thr pt : Int} {l nm wd A : List Int} {h : List Ch} {a f : Int → Int} {x : Int × Int} {c : Ch}
theorem IV.monoU {b : Bool} {W : qR} {U1 : Int} (h : IV b T U W) (hU : U ≤ U1) : IV b T U1 W := h.mono (Int.le_refl T) hU
theorem GI.monoU {U1 : Int} (h : GI T U P) (hU : U ≤ U1) : GI T U1 P := ⟨⟨h.1.1.mono (Int.le_refl T) hU, h.1.2⟩, h.2⟩
theorem KS.monoU {U1 : Int} (hK : KS T U P S l h) (hU : U ≤ U1) : KS T U1 P S l h := ⟨hK.1.monoU hU, hK.2.1, hK.2.2.1.monoU hU, hK.2.2.2⟩
theorem lg_drop {n : Nat} {l : List Int} {i : Int} (hi : 0 ≤ i) : lg (l.drop n) i = lg l ((n : Int) + i) := by
  unfold lg
  rw [List.getD_eq_getElem?_getD, List.getD_eq_getElem?_getD, List.getElem?_drop, show ((n : Int) + i).toNat = n + i.toNat by omega]
theorem rd_ok {fd off n : Int} (h : tE P s (mRead fd off n) = 0) (hz : ((tA P s (mRead fd off n)).length : Int) ≤ 407) : 11 ≤ ((tA P s (mRead fd off n)).length : Int) ∧ nu (lg (tA P s (mRead fd off n))) 7 4 = ((rdB (tA P s (mRead fd off n))).length : Int) ∧ ((rdB (tA P s (mRead fd off n))).length : Int) = ((tA P s (mRead fd off n)).length : Int) - 11 := by
  obtain ⟨h1, h2⟩ := tE_0 h ⟨by show 3 ≤ 19; decide, by show 19 ≤ 416; decide⟩
  have e0 : lg (mRead fd off n) 0 = 116 := rfl
  rw [e0] at h1 h2
  obtain ⟨P1, hP1⟩ : ∃ P1, gM1 P (seg (msgA (mRead fd off n)) 0 (4 + ((mRead fd off n).length : Int)).toNat) = P1 := ⟨_, rfl⟩
  rw [hP1] at h1 h2
  obtain ⟨D, hD⟩ : ∃ D, rdD P1 s (qFid P1 s 0 (nu (msgA (mRead fd off n)) 7 4)) (w64 (nu (msgA (mRead fd off n)) 11 8)) (nu (msgA (mRead fd off n)) 19 4) = D := ⟨_, rfl⟩
  have h3 : tA P s (mRead fd off n) = ansL (msgA (mRead fd off n)) (116 + 1) (leb 4 (D.length : Int) ++ D) := by rw [← hD]; exact h2
  have hlen : (tA P s (mRead fd off n)).length = 11 + D.length := by
    rw [h3]
    unfold ansL
    simp only [List.length_append, leb_len, List.length_cons, List.length_nil]
    omega
  have hr : ((rdB (tA P s (mRead fd off n))).length : Int) = ((tA P s (mRead fd off n)).length : Int) - 11 := by
    unfold rdB
    rw [List.length_drop]
    omega
  refine ⟨by omega, ?_, hr⟩
  have e4 : (256 : Int) ^ 4 = 4294967296 := by decide
  have e5 : nu (lg ((leb 4 (7 + ((leb 4 (D.length : Int) ++ D).length : Int)) ++ [(116 + 1) % 256, msgA (mRead fd off n) 5, msgA (mRead fd off n) 6]) ++ (leb 4 (D.length : Int) ++ D))) 7 4 = (D.length : Int) := nu_lg2 4 rfl ⟨by omega, by omega⟩
  have e6 : nu (lg (tA P s (mRead fd off n))) 7 4 = (D.length : Int) := by
    rw [h3]
    unfold ansL
    rw [← List.append_assoc]
    exact e5
  rw [e6, hr]
  omega
theorem byt_mem (hb : byt l) : ∀ b ∈ l, 0 ≤ b ∧ b ≤ 255 := fun b hm => by
  obtain ⟨i, hi, rfl⟩ := List.getElem_of_mem hm
  have := hb (i : Int) (by omega)
  unfold lg at this
  rw [Int.toNat_natCast, List.getD_eq_getElem?_getD, List.getElem?_eq_getElem hi] at this
  exact this
theorem byt_drop {n : Nat} (hb : byt l) : byt (l.drop n) := fun k hk => by
  rw [lg_drop hk]
  exact hb _ (by omega)
theorem gOut_snoc {b : Int} : gOut P p (l ++ [b]) = gTell (gOut P p l) p b := gOut_app
theorem m_read_loop {dd n1 o e0 many : Int} (hA : AN S A) (hJ : IV true T U S) (hp : 0 ≤ p ∧ p < 8) (hG : GI T U P) (hm : many = ((rdB A).length : Int)) (h11 : ((rdB A).length : Int) = (A.length : Int) - 11) {Q : Option AV → hM → Prop} (hQ : ∀ (σ : hM), PM σ0 (gOut P p (rdB A)) S σ → WP fb (d + 1) 395 134 [some (vR (some 2281)), some (vI p), some (vI dd), some (vI n1), some (vI o), some (vI e0), some (vI many), some (vI many)] [] σ Q) : ∀ (m : Nat) (k : Int) (σ : hM), k + m = many → 0 ≤ k → PM σ0 (gOut P p ((rdB A).take k.toNat)) S σ → WP fb (d + 1) 395 106 [some (vR (some 2281)), some (vI p), some (vI dd), some (vI n1), some (vI o), some (vI e0), some (vI many), some (vI k)] [] σ Q := by
  have hb : byt (rdB A) := byt_drop hA.2.2.2
  have h407 := hA.2.2.1
  intro m
  induction m with
  | zero =>
    intro k σ h1 h2 hP
    have hk : k = many := by omega
    rw [show (rdB A).take k.toNat = rdB A by rw [List.take_of_length_le (by omega)]] at hP
    subst hk
    have hgo := hQ σ hP
    refine x_li (z := k) T_395_106 rfl ?_
    refine x_li (z := k) T_395_108 rfl ?_
    refine x_ic2 T_395_110 (fun _ => ?_) (fun h => absurd (show k ≤ k by omega) h)
    exact hgo
  | succ m ih =>
    intro k σ h1 h2 hP
    have hx : S 2286 (11 + k) = lg (rdB A) k := by
      rw [hA.2.1 (11 + k) (by omega) (by omega)]
      unfold rdB
      rw [lg_drop h2]
      rfl
    have e1 : (rdB A).take (k + 1).toNat = (rdB A).take k.toNat ++ [lg (rdB A) k] := by
      rw [show (k + 1).toNat = k.toNat + 1 by omega, List.take_add_one, List.getElem?_eq_getElem (show k.toNat < (rdB A).length by omega)]
      unfold lg
      rw [List.getD_eq_getElem?_getD, List.getElem?_eq_getElem (show k.toNat < (rdB A).length by omega)]
      rfl
    have hG2 : GI T U (gOut P p ((rdB A).take k.toNat)) := GI_out hp _ P hG (fun b hm => byt_mem hb b (List.mem_of_mem_take hm))
    have ht := m_tell (fb := fb) (d := d) (b := lg (rdB A) k) hP hG2.iv hp
    have hgo := fun (σ : hM) (hP : PM σ0 (gTell (gOut P p ((rdB A).take k.toNat)) p (lg (rdB A) k)) S σ) => ih (k + 1) σ (by omega) (by omega) (by rw [e1, gOut_snoc]; exact hP)
    refine x_li (z := k) T_395_106 rfl ?_
    refine x_li (z := many) T_395_108 rfl ?_
    refine x_ic2 T_395_110 (fun h => absurd (show many ≤ k from h) (by omega)) (fun _ => ?_)
    refine x_lr (z := some 2281) T_395_113 rfl ?_
    refine x_li (z := p) T_395_114 rfl ?_
    refine x_lr (z := some 2281) T_395_115 rfl ?_
    refine x_gR (z := some 2286) T_395_116 F_17_5 (PM.t hP) (PM.r hP 5 2286 rfl) ?_
    refine x_ic T_395_119 ?_
    refine x_li (z := k) T_395_121 rfl ?_
    refine x_ib (w := (11 + k)) T_395_123 (fun h => absurd h.1 (by decide)) (w32_id (by omega) (by omega)) ?_
    refine x_alI (z := lg (rdB A) k) T_395_124 (by decide) (PM.ta hP 2286 0 512 rfl rfl) (by omega) (by omega) (Eq.trans (PM.aS hP 2286 rfl rfl (by omega)) hx) ?_
    refine x_cv3 T_395_125 mN_351 mL_351 (Nat.le_of_ble_eq_true rfl) mO_351 (PM.t hP) (Nat.le_of_ble_eq_true rfl) (ht) ?_
    clear hP ht
    rintro _ σ ⟨rfl, hP⟩
    refine cV ?_
    refine x_inc (w := (k + 1)) (ls1 := [some (vR (some 2281)), some (vI p), some (vI dd), some (vI n1), some (vI o), some (vI e0), some (vI many), some (vI (k + 1))]) T_395_128 rfl (w32_id (by omega) (by omega)) rfl ?_
    refine x_goto T_395_131 ?_
    exact hgo σ hP
theorem GI_off {v : Int} (h : GI T U P) (hv : 0 ≤ v ∧ v ≤ U) : GI T U (rU P 2333 k v) := GI_one (f := 2333) (ty := 0) (len := 64) h rfl hv rfl rfl rfl rfl rfl rfl rfl rfl rfl (by decide) (by decide)
theorem PTS_out (h : PTS P) : PTS (gOut P p l) := h.row (fun _ => gOut_f (by decide) (by decide) l P) (fun _ => gOut_f (by decide) (by decide) l P)
theorem m_readWords (hP : PM σ0 P S σ) (hK : KS T U P S l h) (hp : 0 ≤ p ∧ p < 8) (hT : T + 49 ≤ 2147483000) (hU : U ≤ 2147480000) (hw : 2 < ((lnW l).length : Int)) : CL fb (d + 12) 395 [vR (some 2281), vI p] σ (KC (T + 4) (U + 400) σ0 S l (cRead P p (dgV (lnB l 1) 7) (nmN (lnB l 2) 10 4)).1 (cRead P p (dgV (lnB l 1) 7) (nmN (lnB l 2) 10 4)).2 h) := by
  have hdg := m_digit (fb := fb) (d := d + 10) (most := 7) hP hK.2.2.2.2 (w := 1) ⟨by decide, by omega⟩ (by decide)
  have hnb := m_numberOf (fb := fb) (d := d + 10) (base := 10) (most := 4) hP hK.2.2.2.2 (w := 2) ⟨by decide, hw⟩ (by decide) (by decide)
  have hdr : dgV (lnB l 1) 7 = -1 ∨ (0 ≤ dgV (lnB l 1) 7 ∧ dgV (lnB l 1) 7 ≤ 7) := by
    unfold dgV
    split <;> omega
  obtain ⟨dd, hdd⟩ : ∃ dd, dgV (lnB l 1) 7 = dd := ⟨_, rfl⟩
  obtain ⟨n, hn⟩ : ∃ n, nmN (lnB l 2) 10 4 = n := ⟨_, rfl⟩
  rw [hdd] at hdg hdr
  rw [hn] at hnb
  rw [hdd, hn]
  unfold cRead
  by_cases q1 : dd < 0 ∨ ¬ (1 ≤ n ∧ n ≤ 100)
  · rw [if_pos q1]
    dsimp only
    have hKm : KS (T + 4) (U + 400) P S l h := (hK.mono (by omega)).monoU (by omega)
    by_cases q2 : dd < 0
    · skip
      refine CL_in mL_395 rfl ?_
      show WP fb _ 395 0 [some (vR (some 2281)), some (vI p), none, none, none, none, none, none] [] σ _
      refine x_lr (z := some 2281) T_395_0 rfl ?_
      refine x_ic T_395_1 ?_
      refine x_ic T_395_2 ?_
      refine x_cv3 T_395_4 mN_359 mL_359 (Nat.le_of_ble_eq_true rfl) mO_359 (PM.t hP) (Nat.le_of_ble_eq_true rfl) (hdg) ?_
      rintro _ σ ⟨rfl, rfl⟩
      refine cI ?_
      refine x_si (ls1 := [some (vR (some 2281)), some (vI p), some (vI dd), none, none, none, none, none]) T_395_7 rfl ?_
      refine x_lr (z := some 2281) T_395_8 rfl ?_
      refine x_ic T_395_9 ?_
      refine x_ic T_395_10 ?_
      refine x_ic T_395_12 ?_
      refine x_cv4 T_395_13 mN_390 mL_390 (Nat.le_of_ble_eq_true rfl) mO_390 (PM.t hP) (Nat.le_of_ble_eq_true rfl) (hnb) ?_
      rintro _ σ ⟨rfl, rfl⟩
      refine cI ?_
      refine x_si (ls1 := [some (vR (some 2281)), some (vI p), some (vI dd), some (vI n), none, none, none, none]) T_395_16 rfl ?_
      refine x_li (z := dd) T_395_17 rfl ?_
      refine x_if T_395_18 (fun _ => ?_) (fun h => absurd (show dd < 0 by omega) h)
      refine x_ic T_395_33 ?_
      refine x_ri T_395_35 ?_
      exact ⟨S, rfl, hP, hKm, SX_rfl⟩
    · skip
      refine CL_in mL_395 rfl ?_
      show WP fb _ 395 0 [some (vR (some 2281)), some (vI p), none, none, none, none, none, none] [] σ _
      refine x_lr (z := some 2281) T_395_0 rfl ?_
      refine x_ic T_395_1 ?_
      refine x_ic T_395_2 ?_
      refine x_cv3 T_395_4 mN_359 mL_359 (Nat.le_of_ble_eq_true rfl) mO_359 (PM.t hP) (Nat.le_of_ble_eq_true rfl) (hdg) ?_
      rintro _ σ ⟨rfl, rfl⟩
      refine cI ?_
      refine x_si (ls1 := [some (vR (some 2281)), some (vI p), some (vI dd), none, none, none, none, none]) T_395_7 rfl ?_
      refine x_lr (z := some 2281) T_395_8 rfl ?_
      refine x_ic T_395_9 ?_
      refine x_ic T_395_10 ?_
      refine x_ic T_395_12 ?_
      refine x_cv4 T_395_13 mN_390 mL_390 (Nat.le_of_ble_eq_true rfl) mO_390 (PM.t hP) (Nat.le_of_ble_eq_true rfl) (hnb) ?_
      rintro _ σ ⟨rfl, rfl⟩
      refine cI ?_
      refine x_si (ls1 := [some (vR (some 2281)), some (vI p), some (vI dd), some (vI n), none, none, none, none]) T_395_16 rfl ?_
      refine x_li (z := dd) T_395_17 rfl ?_
      refine x_if T_395_18 (fun h => absurd (show dd < 0 from h) (by omega)) (fun _ => ?_)
      refine x_li (z := n) T_395_21 rfl ?_
      refine x_i2l T_395_22 ?_
      refine x_lc T_395_23 ?_
      refine x_lc T_395_24 ?_
      refine x_cs3 T_395_27 mN_282 mL_282 (Nat.le_of_ble_eq_true rfl) mK_282 (Nat.le_of_ble_eq_true rfl) (m_in) ?_
      rintro _ σ ⟨rfl, rfl⟩
      refine cI ?_
      refine x_if T_395_30 (fun h => absurd (show ¬ (if 1 ≤ n ∧ n ≤ 100 then (1 : Int) else 0) = 0 from h) (by rw [if_neg (by omega)]; decide)) (fun _ => ?_)
      refine x_ic T_395_33 ?_
      refine x_ri T_395_35 ?_
      exact ⟨S, rfl, hP, hKm, SX_rfl⟩
  · rw [if_neg q1]
    have bo : -1 ≤ P 2327 (8 * p + dd) ∧ P 2327 (8 * p + dd) ≤ 63 := IV.a hK.1.iv 2327 0 64 rfl rfl rfl (by omega) (by omega)
    obtain ⟨o, ho⟩ : ∃ o, P 2327 (8 * p + dd) = o := ⟨_, rfl⟩
    rw [ho] at bo ⊢
    by_cases q2 : o < 0
    · rw [if_pos q2]
      dsimp only
      have hKm : KS (T + 4) (U + 400) P S l h := (hK.mono (by omega)).monoU (by omega)
      refine CL_in mL_395 rfl ?_
      show WP fb _ 395 0 [some (vR (some 2281)), some (vI p), none, none, none, none, none, none] [] σ _
      refine x_lr (z := some 2281) T_395_0 rfl ?_
      refine x_ic T_395_1 ?_
      refine x_ic T_395_2 ?_
      refine x_cv3 T_395_4 mN_359 mL_359 (Nat.le_of_ble_eq_true rfl) mO_359 (PM.t hP) (Nat.le_of_ble_eq_true rfl) (hdg) ?_
      rintro _ σ ⟨rfl, rfl⟩
      refine cI ?_
      refine x_si (ls1 := [some (vR (some 2281)), some (vI p), some (vI dd), none, none, none, none, none]) T_395_7 rfl ?_
      refine x_lr (z := some 2281) T_395_8 rfl ?_
      refine x_ic T_395_9 ?_
      refine x_ic T_395_10 ?_
      refine x_ic T_395_12 ?_
      refine x_cv4 T_395_13 mN_390 mL_390 (Nat.le_of_ble_eq_true rfl) mO_390 (PM.t hP) (Nat.le_of_ble_eq_true rfl) (hnb) ?_
      rintro _ σ ⟨rfl, rfl⟩
      refine cI ?_
      refine x_si (ls1 := [some (vR (some 2281)), some (vI p), some (vI dd), some (vI n), none, none, none, none]) T_395_16 rfl ?_
      refine x_li (z := dd) T_395_17 rfl ?_
      refine x_if T_395_18 (fun h => absurd (show dd < 0 from h) (by omega)) (fun _ => ?_)
      refine x_li (z := n) T_395_21 rfl ?_
      refine x_i2l T_395_22 ?_
      refine x_lc T_395_23 ?_
      refine x_lc T_395_24 ?_
      refine x_cs3 T_395_27 mN_282 mL_282 (Nat.le_of_ble_eq_true rfl) mK_282 (Nat.le_of_ble_eq_true rfl) (m_in) ?_
      rintro _ σ ⟨rfl, rfl⟩
      refine cI ?_
      refine x_if T_395_30 (fun _ => ?_) (fun h => absurd (show ¬ (if 1 ≤ n ∧ n ≤ 100 then (1 : Int) else 0) = 0 by rw [if_pos (by omega)]; decide) h)
      refine x_lr (z := some 2281) T_395_36 rfl ?_
      refine x_gR (z := some 2327) T_395_37 F_17_57 (PM.t hP) (PM.r hP 57 2327 rfl) ?_
      refine x_ic T_395_40 ?_
      refine x_li (z := p) T_395_42 rfl ?_
      refine x_ib (w := (8 * p)) T_395_43 (fun h => absurd h.1 (by decide)) (w32_id (by omega) (by omega)) ?_
      refine x_li (z := dd) T_395_44 rfl ?_
      refine x_ib (w := ((8 * p) + dd)) T_395_45 (fun h => absurd h.1 (by decide)) (w32_id (by omega) (by omega)) ?_
      refine x_alI (z := o) T_395_46 (by decide) (PM.ta hP 2327 0 64 rfl rfl) (by omega) (by omega) (Eq.trans (PM.aP hP 2327 rfl rfl (by omega)) ho) ?_
      refine x_si (ls1 := [some (vR (some 2281)), some (vI p), some (vI dd), some (vI n), some (vI o), none, none, none]) T_395_47 rfl ?_
      refine x_li (z := o) T_395_49 rfl ?_
      refine x_if T_395_51 (fun h => absurd (show 0 ≤ o from h) (by omega)) (fun _ => ?_)
      refine x_ic T_395_54 ?_
      refine x_ri T_395_56 ?_
      exact ⟨S, rfl, hP, hKm, SX_rfl⟩
    rw [if_neg q2]
    have b1 : 0 ≤ P 2331 o ∧ P 2331 o ≤ 2 := IV.a hK.1.iv 2331 0 64 rfl rfl rfl (by omega) (by omega)
    have b2 : 0 ≤ P 2332 o ∧ P 2332 o ≤ 47 := IV.a hK.1.iv 2332 0 64 rfl rfl rfl (by omega) (by omega)
    have b3 : 0 ≤ P 2333 o ∧ P 2333 o ≤ U := IV.a hK.1.iv 2333 0 64 rfl rfl rfl (by omega) (by omega)
    obtain ⟨sv, hsv⟩ : ∃ sv, P 2331 o = sv := ⟨_, rfl⟩
    obtain ⟨fd, hfd⟩ : ∃ fd, P 2332 o = fd := ⟨_, rfl⟩
    obtain ⟨of, hof⟩ : ∃ of, P 2333 o = of := ⟨_, rfl⟩
    rw [hsv] at b1 ⊢
    rw [hfd] at b2 ⊢
    rw [hof] at b3 ⊢
    have hrd := fun (σ : hM) (hP : PM σ0 P S σ) => g_askRead (fb := fb) (d := d) (σ := σ) (f := fd) (o := of) (n := n) hP hK.2.2.1 hK.1 hT (show 0 ≤ sv ∧ sv < 3 by omega)
    obtain ⟨A, hA0⟩ : ∃ A, tA P sv (mRead fd of n) = A := ⟨_, rfl⟩
    obtain ⟨P1, hP1⟩ : ∃ P1, tP P sv (mRead fd of n) = P1 := ⟨_, rfl⟩
    have hkf : KF P1 P := by rw [← hP1]; exact KF_tP
    have her := tE_rng (P := P) (s := sv) (l := mRead fd of n)
    have hrok := rd_ok (P := P) (s := sv) (fd := fd) (off := of) (n := n)
    obtain ⟨e, he⟩ : ∃ e, tE P sv (mRead fd of n) = e := ⟨_, rfl⟩
    rw [he, hA0] at hrok
    rw [he] at her
    rw [he, hA0, hP1]
    by_cases q3 : 0 < e
    · rw [if_pos q3]
      dsimp only
      refine CL_in mL_395 rfl ?_
      show WP fb _ 395 0 [some (vR (some 2281)), some (vI p), none, none, none, none, none, none] [] σ _
      refine x_lr (z := some 2281) T_395_0 rfl ?_
      refine x_ic T_395_1 ?_
      refine x_ic T_395_2 ?_
      refine x_cv3 T_395_4 mN_359 mL_359 (Nat.le_of_ble_eq_true rfl) mO_359 (PM.t hP) (Nat.le_of_ble_eq_true rfl) (hdg) ?_
      rintro _ σ ⟨rfl, rfl⟩
      refine cI ?_
      refine x_si (ls1 := [some (vR (some 2281)), some (vI p), some (vI dd), none, none, none, none, none]) T_395_7 rfl ?_
      refine x_lr (z := some 2281) T_395_8 rfl ?_
      refine x_ic T_395_9 ?_
      refine x_ic T_395_10 ?_
      refine x_ic T_395_12 ?_
      refine x_cv4 T_395_13 mN_390 mL_390 (Nat.le_of_ble_eq_true rfl) mO_390 (PM.t hP) (Nat.le_of_ble_eq_true rfl) (hnb) ?_
      rintro _ σ ⟨rfl, rfl⟩
      refine cI ?_
      refine x_si (ls1 := [some (vR (some 2281)), some (vI p), some (vI dd), some (vI n), none, none, none, none]) T_395_16 rfl ?_
      refine x_li (z := dd) T_395_17 rfl ?_
      refine x_if T_395_18 (fun h => absurd (show dd < 0 from h) (by omega)) (fun _ => ?_)
      refine x_li (z := n) T_395_21 rfl ?_
      refine x_i2l T_395_22 ?_
      refine x_lc T_395_23 ?_
      refine x_lc T_395_24 ?_
      refine x_cs3 T_395_27 mN_282 mL_282 (Nat.le_of_ble_eq_true rfl) mK_282 (Nat.le_of_ble_eq_true rfl) (m_in) ?_
      rintro _ σ ⟨rfl, rfl⟩
      refine cI ?_
      refine x_if T_395_30 (fun _ => ?_) (fun h => absurd (show ¬ (if 1 ≤ n ∧ n ≤ 100 then (1 : Int) else 0) = 0 by rw [if_pos (by omega)]; decide) h)
      refine x_lr (z := some 2281) T_395_36 rfl ?_
      refine x_gR (z := some 2327) T_395_37 F_17_57 (PM.t hP) (PM.r hP 57 2327 rfl) ?_
      refine x_ic T_395_40 ?_
      refine x_li (z := p) T_395_42 rfl ?_
      refine x_ib (w := (8 * p)) T_395_43 (fun h => absurd h.1 (by decide)) (w32_id (by omega) (by omega)) ?_
      refine x_li (z := dd) T_395_44 rfl ?_
      refine x_ib (w := ((8 * p) + dd)) T_395_45 (fun h => absurd h.1 (by decide)) (w32_id (by omega) (by omega)) ?_
      refine x_alI (z := o) T_395_46 (by decide) (PM.ta hP 2327 0 64 rfl rfl) (by omega) (by omega) (Eq.trans (PM.aP hP 2327 rfl rfl (by omega)) ho) ?_
      refine x_si (ls1 := [some (vR (some 2281)), some (vI p), some (vI dd), some (vI n), some (vI o), none, none, none]) T_395_47 rfl ?_
      refine x_li (z := o) T_395_49 rfl ?_
      refine x_if T_395_51 (fun _ => ?_) (fun h => absurd (show 0 ≤ o by omega) h)
      refine x_lr (z := some 2281) T_395_57 rfl ?_
      refine x_lr (z := some 2281) T_395_58 rfl ?_
      refine x_gR (z := some 2331) T_395_59 F_17_61 (PM.t hP) (PM.r hP 61 2331 rfl) ?_
      refine x_li (z := o) T_395_62 rfl ?_
      refine x_alI (z := sv) T_395_64 (by decide) (PM.ta hP 2331 0 64 rfl rfl) (by omega) (by omega) (Eq.trans (PM.aP hP 2331 rfl rfl (by omega)) hsv) ?_
      refine x_lr (z := some 2281) T_395_65 rfl ?_
      refine x_gR (z := some 2332) T_395_66 F_17_62 (PM.t hP) (PM.r hP 62 2332 rfl) ?_
      refine x_li (z := o) T_395_69 rfl ?_
      refine x_alI (z := fd) T_395_71 (by decide) (PM.ta hP 2332 0 64 rfl rfl) (by omega) (by omega) (Eq.trans (PM.aP hP 2332 rfl rfl (by omega)) hfd) ?_
      refine x_lr (z := some 2281) T_395_72 rfl ?_
      refine x_gR (z := some 2333) T_395_73 F_17_63 (PM.t hP) (PM.r hP 63 2333 rfl) ?_
      refine x_li (z := o) T_395_76 rfl ?_
      refine x_alI (z := of) T_395_78 (by decide) (PM.ta hP 2333 0 64 rfl rfl) (by omega) (by omega) (Eq.trans (PM.aP hP 2333 rfl rfl (by omega)) hof) ?_
      refine x_li (z := n) T_395_79 rfl ?_
      refine x_cv5 T_395_80 mN_350 mL_350 (Nat.le_of_ble_eq_true rfl) mO_350 (PM.t hP) (Nat.le_of_ble_eq_true rfl) (hrd σ hP) ?_
      clear hP
      intro r σ hr
      obtain ⟨S3, hr0, hP, hK3, hX3, hA⟩ := hK.ask (T1 := T + 4) (by omega) hr
      rw [he] at hr0
      subst hr0
      rw [hP1] at hP hK3
      refine cI ?_
      refine x_si (ls1 := [some (vR (some 2281)), some (vI p), some (vI dd), some (vI n), some (vI o), some (vI e), none, none]) T_395_83 rfl ?_
      refine x_li (z := e) T_395_85 rfl ?_
      refine x_if T_395_87 (fun h => absurd (show e ≤ 0 from h) (by omega)) (fun _ => ?_)
      refine x_li (z := e) T_395_90 rfl ?_
      refine x_ri T_395_92 ?_
      exact ⟨S3, rfl, hP, hK3.monoU (by omega), hX3⟩
    · have q4 : e = 0 := by omega
      subst q4
      rw [if_neg q3]
      dsimp only
      obtain ⟨many, hmany⟩ : ∃ many : Int, ((rdB A).length : Int) = many := ⟨_, rfl⟩
      refine CL_in mL_395 rfl ?_
      show WP fb _ 395 0 [some (vR (some 2281)), some (vI p), none, none, none, none, none, none] [] σ _
      refine x_lr (z := some 2281) T_395_0 rfl ?_
      refine x_ic T_395_1 ?_
      refine x_ic T_395_2 ?_
      refine x_cv3 T_395_4 mN_359 mL_359 (Nat.le_of_ble_eq_true rfl) mO_359 (PM.t hP) (Nat.le_of_ble_eq_true rfl) (hdg) ?_
      rintro _ σ ⟨rfl, rfl⟩
      refine cI ?_
      refine x_si (ls1 := [some (vR (some 2281)), some (vI p), some (vI dd), none, none, none, none, none]) T_395_7 rfl ?_
      refine x_lr (z := some 2281) T_395_8 rfl ?_
      refine x_ic T_395_9 ?_
      refine x_ic T_395_10 ?_
      refine x_ic T_395_12 ?_
      refine x_cv4 T_395_13 mN_390 mL_390 (Nat.le_of_ble_eq_true rfl) mO_390 (PM.t hP) (Nat.le_of_ble_eq_true rfl) (hnb) ?_
      rintro _ σ ⟨rfl, rfl⟩
      refine cI ?_
      refine x_si (ls1 := [some (vR (some 2281)), some (vI p), some (vI dd), some (vI n), none, none, none, none]) T_395_16 rfl ?_
      refine x_li (z := dd) T_395_17 rfl ?_
      refine x_if T_395_18 (fun h => absurd (show dd < 0 from h) (by omega)) (fun _ => ?_)
      refine x_li (z := n) T_395_21 rfl ?_
      refine x_i2l T_395_22 ?_
      refine x_lc T_395_23 ?_
      refine x_lc T_395_24 ?_
      refine x_cs3 T_395_27 mN_282 mL_282 (Nat.le_of_ble_eq_true rfl) mK_282 (Nat.le_of_ble_eq_true rfl) (m_in) ?_
      rintro _ σ ⟨rfl, rfl⟩
      refine cI ?_
      refine x_if T_395_30 (fun _ => ?_) (fun h => absurd (show ¬ (if 1 ≤ n ∧ n ≤ 100 then (1 : Int) else 0) = 0 by rw [if_pos (by omega)]; decide) h)
      refine x_lr (z := some 2281) T_395_36 rfl ?_
      refine x_gR (z := some 2327) T_395_37 F_17_57 (PM.t hP) (PM.r hP 57 2327 rfl) ?_
      refine x_ic T_395_40 ?_
      refine x_li (z := p) T_395_42 rfl ?_
      refine x_ib (w := (8 * p)) T_395_43 (fun h => absurd h.1 (by decide)) (w32_id (by omega) (by omega)) ?_
      refine x_li (z := dd) T_395_44 rfl ?_
      refine x_ib (w := ((8 * p) + dd)) T_395_45 (fun h => absurd h.1 (by decide)) (w32_id (by omega) (by omega)) ?_
      refine x_alI (z := o) T_395_46 (by decide) (PM.ta hP 2327 0 64 rfl rfl) (by omega) (by omega) (Eq.trans (PM.aP hP 2327 rfl rfl (by omega)) ho) ?_
      refine x_si (ls1 := [some (vR (some 2281)), some (vI p), some (vI dd), some (vI n), some (vI o), none, none, none]) T_395_47 rfl ?_
      refine x_li (z := o) T_395_49 rfl ?_
      refine x_if T_395_51 (fun _ => ?_) (fun h => absurd (show 0 ≤ o by omega) h)
      refine x_lr (z := some 2281) T_395_57 rfl ?_
      refine x_lr (z := some 2281) T_395_58 rfl ?_
      refine x_gR (z := some 2331) T_395_59 F_17_61 (PM.t hP) (PM.r hP 61 2331 rfl) ?_
      refine x_li (z := o) T_395_62 rfl ?_
      refine x_alI (z := sv) T_395_64 (by decide) (PM.ta hP 2331 0 64 rfl rfl) (by omega) (by omega) (Eq.trans (PM.aP hP 2331 rfl rfl (by omega)) hsv) ?_
      refine x_lr (z := some 2281) T_395_65 rfl ?_
      refine x_gR (z := some 2332) T_395_66 F_17_62 (PM.t hP) (PM.r hP 62 2332 rfl) ?_
      refine x_li (z := o) T_395_69 rfl ?_
      refine x_alI (z := fd) T_395_71 (by decide) (PM.ta hP 2332 0 64 rfl rfl) (by omega) (by omega) (Eq.trans (PM.aP hP 2332 rfl rfl (by omega)) hfd) ?_
      refine x_lr (z := some 2281) T_395_72 rfl ?_
      refine x_gR (z := some 2333) T_395_73 F_17_63 (PM.t hP) (PM.r hP 63 2333 rfl) ?_
      refine x_li (z := o) T_395_76 rfl ?_
      refine x_alI (z := of) T_395_78 (by decide) (PM.ta hP 2333 0 64 rfl rfl) (by omega) (by omega) (Eq.trans (PM.aP hP 2333 rfl rfl (by omega)) hof) ?_
      refine x_li (z := n) T_395_79 rfl ?_
      refine x_cv5 T_395_80 mN_350 mL_350 (Nat.le_of_ble_eq_true rfl) mO_350 (PM.t hP) (Nat.le_of_ble_eq_true rfl) (hrd σ hP) ?_
      clear hP
      intro r σ hr
      obtain ⟨S3, hr0, hP, hK3, hX3, hA⟩ := hK.ask (T1 := T + 4) (by omega) hr
      rw [he] at hr0
      subst hr0
      rw [hP1] at hP hK3
      rw [hA0] at hA
      obtain ⟨r1, r2, r3⟩ := hrok rfl hA.2.2.1
      have h407 := hA.2.2.1
      refine cI ?_
      refine x_si (ls1 := [some (vR (some 2281)), some (vI p), some (vI dd), some (vI n), some (vI o), some (vI 0), none, none]) T_395_83 rfl ?_
      refine x_li (z := 0) T_395_85 rfl ?_
      refine x_if T_395_87 (fun _ => ?_) (fun h => absurd (show (0 : Int) ≤ 0 by decide) h)
      refine x_lr (z := some 2281) T_395_93 rfl ?_
      refine x_ic T_395_94 ?_
      refine x_ic T_395_96 ?_
      refine x_cv3 T_395_97 mN_339 mL_339 (Nat.le_of_ble_eq_true rfl) mO_339 (PM.t hP) (Nat.le_of_ble_eq_true rfl) ((CL.mono (m_told hP hK3.2.2.1 (by decide) (by decide) (by decide)) (fun r σ1 hr => by rw [show ((4 : Int)).toNat = 4 from rfl, AN_nu hA (by decide) (by omega), r2, hmany, w64_id (by omega) (by omega)] at hr; exact hr) : CL fb _ 339 [vR (some 2281), vI 7, vI 4] σ (rPL many σ))) ?_
      rintro _ σ ⟨rfl, rfl⟩
      refine cL ?_
      refine x_l2i (w := many) T_395_100 (w32_id (by omega) (by omega)) ?_
      refine x_si (ls1 := [some (vR (some 2281)), some (vI p), some (vI dd), some (vI n), some (vI o), some (vI 0), some (vI many), none]) T_395_101 rfl ?_
      refine x_ic T_395_103 ?_
      refine x_si (ls1 := [some (vR (some 2281)), some (vI p), some (vI dd), some (vI n), some (vI o), some (vI 0), some (vI many), some (vI 0)]) T_395_104 rfl ?_
      refine m_read_loop (d := d + 11) (A := A) (P := P1) hA hK3.2.2.1 hp hK3.1 hmany.symm r3 ?_ many.toNat 0 σ (by omega) (by decide) (by show PM σ0 (gOut P1 p ((rdB A).take 0)) S3 σ; rw [List.take_zero]; exact hP)
      clear hP
      intro σ hP
      have e1 : gOut P1 p (rdB A) 2333 o = of := (gOut_f (by decide) (by decide) _ _).trans ((hkf _ _ rfl (by decide) (by decide) (by decide)).trans hof)
      have e2 : cRd2 P1 p o A = rU (gOut P1 p (rdB A)) 2333 o (of + many) := by
        unfold cRd2
        rw [show P1 2333 o = of from (hkf _ _ rfl (by decide) (by decide) (by decide)).trans hof, hmany]
      have hG4 := (GI_out hp (rdB A) P1 hK3.1 (byt_mem (byt_drop hA.2.2.2))).monoU (show U ≤ U + 400 by omega)
      refine x_lr (z := some 2281) T_395_134 rfl ?_
      refine x_gR (z := some 2333) T_395_135 F_17_63 (PM.t hP) (PM.r hP 63 2333 rfl) ?_
      refine x_li (z := o) T_395_138 rfl ?_
      refine x_dup2 T_395_140 ?_
      refine x_alI (z := of) T_395_141 (by decide) (PM.ta hP 2333 0 64 rfl rfl) (by omega) (by omega) (Eq.trans (PM.aP hP 2333 rfl rfl (by omega)) e1) ?_
      refine x_li (z := many) T_395_142 rfl ?_
      refine x_ib (w := (of + many)) T_395_144 (fun h => absurd h.1 (by decide)) (w32_id (by omega) (by omega)) ?_
      refine y_aIP hP T_395_145 2333 64 rfl rfl rfl (by omega) (by omega) (fun σ hP => ?_)
      refine x_ic T_395_146 ?_
      refine x_ri T_395_147 ?_
      exact ⟨S3, rfl, by rw [e2]; exact hP, by rw [e2]; exact ⟨GI_off hG4 (by omega), (PTS_out hK3.2.1).row (fun _ => rU_f (by decide)) (fun _ => rU_f (by decide)), hK3.2.2.1.monoU (by omega), hK3.2.2.2⟩, hX3⟩
end MDESC2
