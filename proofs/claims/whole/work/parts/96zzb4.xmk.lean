/-! The class's commands: a file is made. -/
theorem T_143_67 : hTab 143 67 = some ((3, 0, 2, []), 68) := rfl
theorem T_143_68 : hTab 143 68 = some ((24, 14, Int.ofNat 2, []), 71) := rfl
theorem T_143_71 : hTab 143 71 = some ((24, 5, Int.ofNat 4, []), 74) := rfl
theorem T_143_74 : hTab 143 74 = some ((20, 0, Int.ofNat 134, []), 77) := rfl
theorem T_143_77 : hTab 143 77 = some ((3, 0, 2, []), 78) := rfl
theorem T_143_78 : hTab 143 78 = some ((24, 14, Int.ofNat 2, []), 81) := rfl
theorem T_143_81 : hTab 143 81 = some ((24, 5, Int.ofNat 4, []), 84) := rfl
theorem T_143_84 : hTab 143 84 = some ((31, 144, 0, []), 87) := rfl
theorem T_143_87 : hTab 143 87 = some ((4, 8, 2, []), 89) := rfl
theorem T_143_89 : hTab 143 89 = some ((3, 0, 2, []), 90) := rfl
theorem T_143_90 : hTab 143 90 = some ((24, 14, Int.ofNat 0, []), 93) := rfl
theorem T_143_93 : hTab 143 93 = some ((3, 0, 2, []), 94) := rfl
theorem T_143_94 : hTab 143 94 = some ((24, 14, Int.ofNat 2, []), 97) := rfl
theorem T_143_97 : hTab 143 97 = some ((31, 132, 0, []), 100) := rfl
theorem T_143_100 : hTab 143 100 = some ((7, 0, 0, []), 101) := rfl
theorem T_143_101 : hTab 143 101 = some ((3, 8, 2, []), 103) := rfl
theorem T_143_103 : hTab 143 103 = some ((20, 1, Int.ofNat 111, []), 106) := rfl
theorem T_143_106 : hTab 143 106 = some ((0, 0, 17, []), 108) := rfl
theorem T_143_108 : hTab 143 108 = some ((22, 0, Int.ofNat 124, []), 111) := rfl
theorem T_143_111 : hTab 143 111 = some ((3, 0, 2, []), 112) := rfl
theorem T_143_112 : hTab 143 112 = some ((24, 14, Int.ofNat 0, []), 115) := rfl
theorem T_143_115 : hTab 143 115 = some ((3, 8, 2, []), 117) := rfl
theorem T_143_117 : hTab 143 117 = some ((3, 0, 2, []), 118) := rfl
theorem T_143_118 : hTab 143 118 = some ((24, 14, Int.ofNat 2, []), 121) := rfl
theorem T_143_121 : hTab 143 121 = some ((31, 141, 0, []), 124) := rfl
theorem T_143_124 : hTab 143 124 = some ((4, 7, 0, []), 126) := rfl
theorem T_143_126 : hTab 143 126 = some ((3, 7, 0, []), 128) := rfl
theorem T_143_128 : hTab 143 128 = some ((18, 0, Int.ofNat 134, []), 131) := rfl
theorem T_143_131 : hTab 143 131 = some ((3, 7, 0, []), 133) := rfl
theorem T_143_133 : hTab 143 133 = some ((33, 1, 0, []), 134) := rfl
theorem T_143_134 : hTab 143 134 = some ((3, 0, 2, []), 135) := rfl
theorem T_143_135 : hTab 143 135 = some ((3, 0, 2, []), 136) := rfl
theorem T_143_136 : hTab 143 136 = some ((24, 14, Int.ofNat 2, []), 139) := rfl
theorem T_143_139 : hTab 143 139 = some ((3, 0, 2, []), 140) := rfl
theorem T_143_140 : hTab 143 140 = some ((24, 14, Int.ofNat 0, []), 143) := rfl
theorem T_143_143 : hTab 143 143 = some ((3, 0, 2, []), 144) := rfl
theorem T_143_144 : hTab 143 144 = some ((24, 14, Int.ofNat 2, []), 147) := rfl
theorem T_143_147 : hTab 143 147 = some ((24, 5, Int.ofNat 1, []), 150) := rfl
theorem T_143_150 : hTab 143 150 = some ((3, 4, 1, []), 152) := rfl
theorem T_143_152 : hTab 143 152 = some ((3, 6, 0, []), 154) := rfl
theorem T_143_154 : hTab 143 154 = some ((31, 145, 0, []), 157) := rfl
theorem T_143_157 : hTab 143 157 = some ((31, 136, 0, []), 160) := rfl
theorem T_143_160 : hTab 143 160 = some ((4, 7, 0, []), 162) := rfl
theorem T_143_162 : hTab 143 162 = some ((3, 7, 0, []), 164) := rfl
theorem T_143_164 : hTab 143 164 = some ((18, 0, Int.ofNat 179, []), 167) := rfl
theorem T_143_167 : hTab 143 167 = some ((3, 0, 2, []), 168) := rfl
theorem T_143_168 : hTab 143 168 = some ((24, 14, Int.ofNat 0, []), 171) := rfl
theorem T_143_171 : hTab 143 171 = some ((3, 0, 2, []), 172) := rfl
theorem T_143_172 : hTab 143 172 = some ((24, 14, Int.ofNat 2, []), 175) := rfl
theorem T_143_175 : hTab 143 175 = some ((31, 132, 0, []), 178) := rfl
theorem T_143_178 : hTab 143 178 = some ((7, 0, 0, []), 179) := rfl
theorem T_143_179 : hTab 143 179 = some ((3, 7, 0, []), 181) := rfl
theorem T_143_181 : hTab 143 181 = some ((33, 1, 0, []), 182) := rfl
theorem mN_143 : hmN 143 = 6 := by decide +kernel
theorem mL_143 : hmL 143 = 9 := by decide +kernel
theorem mK_143 : hmK 143 = 1 := by decide +kernel
theorem mO_143 : hmO 143 = 14 := by decide +kernel
/-- what making a file comes to: the channel is held where it was made -/
abbrev XMK (σ0 : hM) (K T U : Int) (W : qR) (R : rR) (a : Int × qR × List Ch) : Option AV → hM → Prop := fun r σ' => r = some (vI a.1) ∧ ∃ W2 R2, PX σ0 W2 R2 σ' ∧ XW K T U W2 R2 (if a.1 = 0 then a.2.1 else kDrops a.2.1 a.2.2) ∧ (a.1 = 0 → ∃ c, a.2.2 = [c] ∧ CHX W2 R2 2178 c ∧ chR c) ∧ FCM W W2 R R2
section XMKS
variable {fb : Bool} {d b q m k c a0 y0 pr : Nat} {σ0 σ : hM} {W W0 W1 W2 W3 P Q V : qR} {R R1 R2 V3 : rR} {i j x z v s e w p o n g K T U T2 thr pa kd dr pt perm mode : Int} {l l0 lo nm M raw : List Int} {f : Int} {ch : Ch} {x7 x8 : Option AV}
theorem mCre_s (hP : PX σ0 W R σ) (hX : XW K T U W R P) (hT : T + 110 ≤ 2147483000) (hs0 : W c 2160 = s) (hc : tX c = some (Sum.inl 5)) (hs : 0 ≤ s ∧ s < 3) (hn : nm.length ≤ 200) (hB : BY W 138 300 (mFr (mCre f nm perm mode))) : CL fb (d + 8) 136 [vR (some 2175), vR (some c), vR (some 138)] σ (XF σ0 K (T + 4) U W R (tE P s (mCre f nm perm mode)) (tP P s (mCre f nm perm mode)) (tA P s (mCre f nm perm mode))) := by
  have hl := mCre_len (fd := f) (nm := nm) (perm := perm) (mode := mode)
  exact x_send hP hX hT hc hs0 hs hB ⟨by omega, by omega⟩ (by rw [mCre_0]; decide) (fun q => by rw [mCre_0] at q; exact absurd q (by decide)) (fun q => by rw [mCre_0] at q; exact absurd q (by decide))
/-- the message -/
theorem mk_134 (hP : PX σ0 V V3 σ) (hX : XW K T2 U V V3 Q) (hT : T2 + 120 ≤ 2147483000) (hk : tX k = some (Sum.inl 16)) (hch : CHX V V3 2178 ch) (hcr : chR ch) (hB : BY V 145 161 raw) (hn : V 129 2038 = n) (hn1 : 1 ≤ n ∧ n ≤ 100) (hN : NMX V raw (n - 1) nm) (hl : nm.length ≤ 200) (hpm : -9223372036854775808 ≤ perm ∧ perm ≤ 9223372036854775807) (hmd : 0 ≤ mode ∧ mode ≤ 255) (hF : FCM W V R V3) : WP fb (d + 10) 143 134 [some (vR (some 2175)), some (vR (some pr)), some (vR (some k)), some (vI w), some (vL perm), none, some (vI mode), some (vI 0), x8] [] σ (XMK σ0 K (T2 + 8) U W R (kMk (0, Q, [ch]) nm perm mode)) := by
  obtain ⟨s, f, pa, kd, cp⟩ := ch
  have hf0 : V 2178 2161 = f := hch.2.1
  have hf : 0 ≤ f ∧ f ≤ 47 := hcr.2.1
  have hcm := x_creating (fb := fb) (d := d + 6) (f := f) (x := perm) (md := mode) hP ⟨by omega, by omega⟩ hpm hmd hB hn hn1 hN hl
  have hsd := fun (σ : hM) (V4 : qR) (hP : PX σ0 V4 V3 σ) (hF : FR1 V V4) (hB : BY V4 138 300 (mFr (mCre f nm perm mode))) => mCre_s (fb := fb) (d := d + 1) (c := 2178) hP (hX.fr1 hF) (by omega) (hch.sf hF (by decide)).1 one_o hcr.1 hl hB
  have her := tE_rng (P := Q) (s := s) (l := mCre f nm perm mode)
  show WP fb (d + 10) 143 134 _ [] σ (XMK σ0 K (T2 + 8) U W R (tE Q s (mCre f nm perm mode), tP Q s (mCre f nm perm mode), [(s, f, pa, kd, cp)]))
  have hck := fun (σ : hM) (V5 : qR) (V6 : rR) (hP : PX σ0 V5 V6 σ) (hX : XW K (T2 + 4) U V5 V6 (tP Q s (mCre f nm perm mode))) (hch : CHX V5 V6 2178 (s, f, pa, kd, cp)) => x_clunk1 (fb := fb) (d := d + 1) hP hX (by omega) hch hcr
  obtain ⟨e3, he3⟩ : ∃ q, tE (tP Q s (mCre f nm perm mode)) (s, f, pa, kd, cp).1 (mOne 120 (s, f, pa, kd, cp).2.1) = q := ⟨_, rfl⟩
  simp only [he3] at hck
  obtain ⟨e, he⟩ : ∃ q, tE Q s (mCre f nm perm mode) = q := ⟨_, rfl⟩
  rw [he] at her ⊢
  simp only [he] at hsd
  by_cases q : e = 0
  · subst q
    refine x_lr (z := some 2175) T_143_134 rfl ?_
    refine x_lr (z := some 2175) T_143_135 rfl ?_
    refine x_gR (z := some 2178) T_143_136 F_14_2 (hP.o xo_2175) (hP.rc xo_2175 rfl rfl) ?_
    refine x_lr (z := some 2175) T_143_139 rfl ?_
    refine x_gR (z := some 129) T_143_140 F_14_0 (hP.o xo_2175) (hP.rc xo_2175 rfl rfl) ?_
    refine x_lr (z := some 2175) T_143_143 rfl ?_
    refine x_gR (z := some 2178) T_143_144 F_14_2 (hP.o xo_2175) (hP.rc xo_2175 rfl rfl) ?_
    refine x_gI (z := f) T_143_147 (Or.inl F_5_1) (hP.o xo_2178) (Eq.trans (hP.gi xo_2178 (key := 2161) rfl) hf0) ?_
    refine x_ll (z := perm) T_143_150 rfl ?_
    refine x_li (z := mode) T_143_152 rfl ?_
    refine x_cv4 T_143_154 mN_145 mL_145 (Nat.le_of_ble_eq_true rfl) mO_145 (hP.o xo_129) (Nat.le_of_ble_eq_true rfl) (hcm) ?_
    clear hP hcm
    rintro _ σ ⟨rfl, V4, hP, hB4, hF4⟩
    refine cR ?_
    refine x_cv3 T_143_157 mN_136 mL_136 (Nat.le_of_ble_eq_true rfl) mO_136 (hP.o xo_2175) (Nat.le_of_ble_eq_true rfl) (hsd σ V4 hP hF4 hB4) ?_
    clear hP hsd
    rintro _ σ ⟨rfl, V5, V6, hP, hX5, hB5, hF5⟩
    refine cI ?_
    refine x_si (ls1 := [some (vR (some 2175)), some (vR (some pr)), some (vR (some k)), some (vI w), some (vL perm), none, some (vI mode), some (vI 0), x8]) T_143_160 rfl ?_
    refine x_li (z := 0) T_143_162 rfl ?_
    refine x_if T_143_164 (fun _ => ?_) (fun h => absurd (show (0 : Int) = 0 by rfl) h)
    refine x_li (z := 0) T_143_179 rfl ?_
    refine x_ri T_143_181 ?_
    exact ⟨rfl, V5, V6, hP, by rw [if_pos rfl]; exact XW.mono hX5 (by omega), fun _ => ⟨_, rfl, (hch.fa (FA_fr hF4) (by decide) (by decide) hcr.2.2).fa (FA_fs hF5) (by decide) (by decide) hcr.2.2, hcr⟩, FCM_tr hF (FCM_tr (FCM_fr hF4) (FCM_fs hF5))⟩
  · skip
    refine x_lr (z := some 2175) T_143_134 rfl ?_
    refine x_lr (z := some 2175) T_143_135 rfl ?_
    refine x_gR (z := some 2178) T_143_136 F_14_2 (hP.o xo_2175) (hP.rc xo_2175 rfl rfl) ?_
    refine x_lr (z := some 2175) T_143_139 rfl ?_
    refine x_gR (z := some 129) T_143_140 F_14_0 (hP.o xo_2175) (hP.rc xo_2175 rfl rfl) ?_
    refine x_lr (z := some 2175) T_143_143 rfl ?_
    refine x_gR (z := some 2178) T_143_144 F_14_2 (hP.o xo_2175) (hP.rc xo_2175 rfl rfl) ?_
    refine x_gI (z := f) T_143_147 (Or.inl F_5_1) (hP.o xo_2178) (Eq.trans (hP.gi xo_2178 (key := 2161) rfl) hf0) ?_
    refine x_ll (z := perm) T_143_150 rfl ?_
    refine x_li (z := mode) T_143_152 rfl ?_
    refine x_cv4 T_143_154 mN_145 mL_145 (Nat.le_of_ble_eq_true rfl) mO_145 (hP.o xo_129) (Nat.le_of_ble_eq_true rfl) (hcm) ?_
    clear hP hcm
    rintro _ σ ⟨rfl, V4, hP, hB4, hF4⟩
    refine cR ?_
    refine x_cv3 T_143_157 mN_136 mL_136 (Nat.le_of_ble_eq_true rfl) mO_136 (hP.o xo_2175) (Nat.le_of_ble_eq_true rfl) (hsd σ V4 hP hF4 hB4) ?_
    clear hP hsd
    rintro _ σ ⟨rfl, V5, V6, hP, hX5, hB5, hF5⟩
    refine cI ?_
    refine x_si (ls1 := [some (vR (some 2175)), some (vR (some pr)), some (vR (some k)), some (vI w), some (vL perm), none, some (vI mode), some (vI e), x8]) T_143_160 rfl ?_
    refine x_li (z := e) T_143_162 rfl ?_
    refine x_if T_143_164 (fun h => absurd (show e = 0 from h) (by omega)) (fun _ => ?_)
    refine x_lr (z := some 2175) T_143_167 rfl ?_
    refine x_gR (z := some 129) T_143_168 F_14_0 (hP.o xo_2175) (hP.rc xo_2175 rfl rfl) ?_
    refine x_lr (z := some 2175) T_143_171 rfl ?_
    refine x_gR (z := some 2178) T_143_172 F_14_2 (hP.o xo_2175) (hP.rc xo_2175 rfl rfl) ?_
    refine x_cv2 T_143_175 mN_132 mL_132 (Nat.le_of_ble_eq_true rfl) mO_132 (hP.o xo_129) (Nat.le_of_ble_eq_true rfl) (hck σ V5 V6 hP hX5 ((hch.fa (FA_fr hF4) (by decide) (by decide) hcr.2.2).fa (FA_fs hF5) (by decide) (by decide) hcr.2.2)) ?_
    clear hP hck
    rintro _ σ ⟨rfl, V7, V8, hP, hX7, hF7⟩
    refine cI ?_
    refine x_popI T_143_178 ?_
    refine x_li (z := e) T_143_179 rfl ?_
    refine x_ri T_143_181 ?_
    exact ⟨rfl, V7, V8, hP, by rw [if_neg q]; exact XW.mono hX7 (by omega), fun c => absurd c q, FCM_tr hF (FCM_tr (FCM_fr hF4) (FCM_tr (FCM_fs hF5) (FCM_fa hF7)))⟩
/-- the last name stays -/
theorem NMX.fc (h : NMX V raw i nm) (hF : FC c V W2 V3 R2) (hc : 2175 ≤ c) (hi : i < 2000) : NMX W2 raw i nm := by
  obtain ⟨k1, k2⟩ := (hF.kn hc).2.2 i hi
  unfold NMX at h ⊢
  rw [k1, k2]
  exact h
/-- where it is walked to -/
theorem mk_67 (hP : PX σ0 V V3 σ) (hX : XW K T2 U V V3 Q) (hT : T2 + 200 ≤ 2147483000) (hk : tX k = some (Sum.inl 16)) (hch : CHX V V3 2178 ch) (hcr : chR ch) (hB : BY V 145 161 raw) (hn : V 129 2038 = n) (hn1 : 1 ≤ n ∧ n ≤ 100) (hN : NMX V raw (n - 1) nm) (hl : nm.length ≤ 200) (hpm : -9223372036854775808 ≤ perm ∧ perm ≤ 9223372036854775807) (hmd : 0 ≤ mode ∧ mode ≤ 255) (hF : FCM W V R V3) (hpv : 0 ≤ ch.2.2.2.2 → ch.2.2.2.2 % 8 < Q 2334 (ch.2.2.2.2 / 8)) : WP fb (d + 10) 143 67 [some (vR (some 2175)), some (vR (some pr)), some (vR (some k)), some (vI w), some (vL perm), none, some (vI mode), some (vI 0), x8] [] σ (XMK σ0 K (T2 + 16) U W R (kMk (kPlc Q ch) nm perm mode)) := by
  obtain ⟨s, f, pa, kd, cp⟩ := ch
  have eK : kPlc Q (s, f, pa, kd, cp) = if cp < 0 then (0, Q, [(s, f, pa, kd, cp)]) else if qMk (kDrop Q (s, f, pa, kd, cp)) cp < 0 then (17, kDrop Q (s, f, pa, kd, cp), []) else (kCpE (kDrop Q (s, f, pa, kd, cp)) (Q 2338 (qMk (kDrop Q (s, f, pa, kd, cp)) cp)) (Q 2339 (qMk (kDrop Q (s, f, pa, kd, cp)) cp)), kCpP (kDrop Q (s, f, pa, kd, cp)) (Q 2338 (qMk (kDrop Q (s, f, pa, kd, cp)) cp)) (Q 2339 (qMk (kDrop Q (s, f, pa, kd, cp)) cp)), kHold (kCpE (kDrop Q (s, f, pa, kd, cp)) (Q 2338 (qMk (kDrop Q (s, f, pa, kd, cp)) cp)) (Q 2339 (qMk (kDrop Q (s, f, pa, kd, cp)) cp))) [] (Q 2338 (qMk (kDrop Q (s, f, pa, kd, cp)) cp), qNewF (kDrop Q (s, f, pa, kd, cp)) (Q 2338 (qMk (kDrop Q (s, f, pa, kd, cp)) cp)), Q 2340 (qMk (kDrop Q (s, f, pa, kd, cp)) cp), Q 2341 (qMk (kDrop Q (s, f, pa, kd, cp)) cp), -1)) := rfl
  have hpt0 : V3 2178 2164 = if cp < 0 then none else V3 (grO (cp / 8) + 1) (cp % 8) := hch.2.2.2.2
  by_cases q0 : cp < 0
  · rw [if_pos q0] at hpt0 eK
    rw [eK]
    have hgo := mk_134 (fb := fb) (d := d) (pr := pr) (w := w) (x8 := x8) hP hX (by omega) hk hch hcr hB hn hn1 hN hl hpm hmd hF
    have hgo := hgo.mono (Q := XMK σ0 K (T2 + 16) U W R (kMk (0, Q, [(s, f, pa, kd, cp)]) nm perm mode)) (fun r σ' h => by
      obtain ⟨rfl, V5, V6, g1, g2, g3, g4⟩ := h
      exact ⟨rfl, V5, V6, g1, XW.mono g2 (by omega), g3, g4⟩)
    refine x_lr (z := some 2175) T_143_67 rfl ?_
    refine x_gR (z := some 2178) T_143_68 F_14_2 (hP.o xo_2175) (hP.rc xo_2175 rfl rfl) ?_
    refine x_gR (z := none) T_143_71 F_5_4 (hP.o xo_2178) (Eq.trans (hP.rm xo_2178 rfl (key := 2164) rfl) hpt0) ?_
    refine x_nul T_143_74 (fun _ => ?_) (fun a0 h0 => absurd h0 (by simp))
    exact hgo
  rw [if_neg q0] at hpt0 eK
  have hc64 : cp < 64 := hcr.2.2
  have hI := hX.1.2.2.2.1.iv
  have hpv : cp % 8 < Q 2334 (cp / 8) := hpv (by show 0 ≤ cp; omega)
  obtain ⟨y0, hy0, hM⟩ := PTM_of (hX.1.2.2.1.2.1 (cp / 8) (by omega) (by omega)) ⟨by omega, by omega⟩ hI (k := cp % 8) ⟨by omega, hpv⟩
  rw [show 8 * (cp / 8) + cp % 8 = cp by omega] at hM
  rw [hy0] at hpt0
  have hmb : 0 ≤ Q 2337 cp ∧ Q 2337 cp ≤ 6 := IV.a hI 2337 0 64 rfl rfl rfl (by omega) (by omega)
  have hkf : KF (kDrop Q (s, f, pa, kd, cp)) Q := KF_tP
  have hmk := x_memberToCreate (fb := fb) (d := d + 9) hP hM (by omega) hmb
  rw [← qMk_kf hkf] at hmk
  have hrk := mkM_rng (P := kDrop Q (s, f, pa, kd, cp)) (pt := cp) (kDrop Q (s, f, pa, kd, cp) 2337 cp).toNat 0
  rw [nsR_kf hkf 2337 _ rfl] at hrk
  have eqm : qMk (kDrop Q (s, f, pa, kd, cp)) cp = mkM (kDrop Q (s, f, pa, kd, cp)) cp (Q 2337 cp).toNat 0 := by unfold qMk; rw [nsR_kf hkf 2337 _ rfl]
  rw [← eqm] at hrk
  have hck := x_clunk1 (fb := fb) (d := d + 1) hP hX (by omega) hch hcr
  obtain ⟨e3, he3⟩ : ∃ q, tE Q (s, f, pa, kd, cp).1 (mOne 120 (s, f, pa, kd, cp).2.1) = q := ⟨_, rfl⟩
  rw [he3] at hck
  obtain ⟨D, hD⟩ : ∃ q, kDrop Q (s, f, pa, kd, cp) = q := ⟨_, rfl⟩
  rw [hD] at hck eK hmk hkf hrk
  obtain ⟨mx, hmx⟩ : ∃ q, qMk D cp = q := ⟨_, rfl⟩
  rw [hmx] at hmk eK hrk
  rw [eK]
  obtain ⟨hyo, hya, hyr, hyc, hym⟩ := hM
  by_cases q1 : mx < 0
  · rw [if_pos q1] at hmk ⊢
    show WP fb (d + 10) 143 67 _ [] σ (XMK σ0 K (T2 + 16) U W R (17, D, []))
    refine x_lr (z := some 2175) T_143_67 rfl ?_
    refine x_gR (z := some 2178) T_143_68 F_14_2 (hP.o xo_2175) (hP.rc xo_2175 rfl rfl) ?_
    refine x_gR (z := some y0) T_143_71 F_5_4 (hP.o xo_2178) (Eq.trans (hP.rm xo_2178 rfl (key := 2164) rfl) hpt0) ?_
    refine x_nul T_143_74 (fun h0 => absurd h0 (by simp)) (fun _ _ => ?_)
    refine x_lr (z := some 2175) T_143_77 rfl ?_
    refine x_gR (z := some 2178) T_143_78 F_14_2 (hP.o xo_2175) (hP.rc xo_2175 rfl rfl) ?_
    refine x_gR (z := some y0) T_143_81 F_5_4 (hP.o xo_2178) (Eq.trans (hP.rm xo_2178 rfl (key := 2164) rfl) hpt0) ?_
    refine x_cv1 T_143_84 mN_144 mL_144 (Nat.le_of_ble_eq_true rfl) mO_144 (hP.o hyo) (Nat.le_of_ble_eq_true rfl) (hmk) ?_
    rintro _ σ ⟨rfl, rfl⟩
    refine cR ?_
    refine x_sr (ls1 := [some (vR (some 2175)), some (vR (some pr)), some (vR (some k)), some (vI w), some (vL perm), none, some (vI mode), some (vI 0), some (vR none)]) T_143_87 rfl ?_
    refine x_lr (z := some 2175) T_143_89 rfl ?_
    refine x_gR (z := some 129) T_143_90 F_14_0 (hP.o xo_2175) (hP.rc xo_2175 rfl rfl) ?_
    refine x_lr (z := some 2175) T_143_93 rfl ?_
    refine x_gR (z := some 2178) T_143_94 F_14_2 (hP.o xo_2175) (hP.rc xo_2175 rfl rfl) ?_
    refine x_cv2 T_143_97 mN_132 mL_132 (Nat.le_of_ble_eq_true rfl) mO_132 (hP.o xo_129) (Nat.le_of_ble_eq_true rfl) (hck) ?_
    clear hP hck
    rintro _ σ ⟨rfl, V7, V8, hP, hX7, hF7⟩
    refine cI ?_
    refine x_popI T_143_100 ?_
    refine x_lr (z := none) T_143_101 rfl ?_
    refine x_nnul T_143_103 (fun a0 h0 => absurd h0 (by simp)) (fun _ => ?_)
    refine x_ic T_143_106 ?_
    refine x_goto T_143_108 ?_
    refine x_si (ls1 := [some (vR (some 2175)), some (vR (some pr)), some (vR (some k)), some (vI w), some (vL perm), none, some (vI mode), some (vI 17), some (vR none)]) T_143_124 rfl ?_
    refine x_li (z := 17) T_143_126 rfl ?_
    refine x_if T_143_128 (fun h => absurd (show (17 : Int) = 0 from h) (by decide)) (fun _ => ?_)
    refine x_li (z := 17) T_143_131 rfl ?_
    refine x_ri T_143_133 ?_
    exact ⟨rfl, V7, V8, hP, by rw [if_neg (show ¬ (17 : Int) = 0 by decide)]; exact XW.mono hX7 (by omega), fun c => absurd (show (17 : Int) = 0 from c) (by decide), FCM_tr hF (FCM_fa hF7)⟩
  rw [if_neg q1] at hmk ⊢
  obtain ⟨f0, c0, c1, c2, c3⟩ := hym (mx - 6 * cp) (by omega) (by omega)
  rw [show 6 * cp + (mx - 6 * cp) = mx by omega] at c3
  obtain ⟨b1, b2, b3, b4, -⟩ := c3
  rw [c0] at hmk
  have r1 : 0 ≤ Q 2338 mx ∧ Q 2338 mx ≤ 2 := IV.a hI 2338 0 384 rfl rfl rfl (by omega) (by omega)
  have r2 : 0 ≤ Q 2339 mx ∧ Q 2339 mx ≤ 47 := IV.a hI 2339 0 384 rfl rfl rfl (by omega) (by omega)
  obtain ⟨ms, hms⟩ : ∃ q, Q 2338 mx = q := ⟨_, rfl⟩
  obtain ⟨mf, hmf⟩ : ∃ q, Q 2339 mx = q := ⟨_, rfl⟩
  obtain ⟨mp, hmp⟩ : ∃ q, Q 2340 mx = q := ⟨_, rfl⟩
  obtain ⟨mq, hmq⟩ : ∃ q, Q 2341 mx = q := ⟨_, rfl⟩
  rw [hms] at b1 r1
  rw [hmf] at b2 r2
  rw [hmp] at b3
  rw [hmq] at b4
  rw [hms, hmf, hmp, hmq]
  have hcp := fun (σ : hM) (V7 : qR) (V8 : rR) (hP : PX σ0 V7 V8 σ) (hX : XW K (T2 + 4) U V7 V8 D) (hF : FA V V7 V3 V8) => x_copyK (fb := fb) (d := d + 1) (c := 2178) (kd := mq) hP hX (by omega) c1 c2 ((hF.ns.1 _ _ c2.1 c2.2 (by decide)).trans b1) ((hF.ns.1 _ _ c2.1 c2.2 (by decide)).trans b2) ((hF.ns.1 _ _ c2.1 c2.2 (by decide)).trans b3) ((hF.ns.1 _ _ c2.1 c2.2 (by decide)).trans b4) rfl ⟨r1.1, by omega⟩ r2 one_o (by decide)
  have her := kCpE_rng (P := D) (s := ms) (f := mf)
  obtain ⟨e, he⟩ : ∃ q, kCpE D ms mf = q := ⟨_, rfl⟩
  obtain ⟨E, hE⟩ : ∃ q, kCpP D ms mf = q := ⟨_, rfl⟩
  simp only [he, hE] at hcp
  rw [he] at her
  rw [he, hE]
  by_cases q2 : e = 0
  · subst q2
    rw [kHold0]
    have hgo := fun (x8 : Option AV) (σ : hM) (V9 : qR) (R9 : rR) (hP : PX σ0 V9 R9 σ) (hX : XW K (T2 + 4 + 4) U V9 R9 E) (hch : CHX V9 R9 2178 (ms, qNewF D ms, mp, mq, -1)) (hcr : chR (ms, qNewF D ms, mp, mq, -1)) (hFC : FC 2178 V V9 V3 R9) => (mk_134 (fb := fb) (d := d) (W := W) (R := R) (pr := pr) (w := w) (x8 := x8) hP hX (by omega) hk hch hcr (hFC.by2 hB (by decide) (Or.inr rfl)) ((hFC.kn (by decide)).1.trans hn) hn1 (hN.fc hFC (by decide) (by omega)) hl hpm hmd (FCM_tr hF (FCM_fk (FK_fc hFC) (by decide)))).mono (Q := XMK σ0 K (T2 + 16) U W R (kMk (0, E, [] ++ [(ms, qNewF D ms, mp, mq, -1)]) nm perm mode)) (fun r σ' h => by
      obtain ⟨rfl, V5, V6, g1, g2, g3, g4⟩ := h
      exact ⟨rfl, V5, V6, g1, XW.mono g2 (by omega), g3, g4⟩)
    refine x_lr (z := some 2175) T_143_67 rfl ?_
    refine x_gR (z := some 2178) T_143_68 F_14_2 (hP.o xo_2175) (hP.rc xo_2175 rfl rfl) ?_
    refine x_gR (z := some y0) T_143_71 F_5_4 (hP.o xo_2178) (Eq.trans (hP.rm xo_2178 rfl (key := 2164) rfl) hpt0) ?_
    refine x_nul T_143_74 (fun h0 => absurd h0 (by simp)) (fun _ _ => ?_)
    refine x_lr (z := some 2175) T_143_77 rfl ?_
    refine x_gR (z := some 2178) T_143_78 F_14_2 (hP.o xo_2175) (hP.rc xo_2175 rfl rfl) ?_
    refine x_gR (z := some y0) T_143_81 F_5_4 (hP.o xo_2178) (Eq.trans (hP.rm xo_2178 rfl (key := 2164) rfl) hpt0) ?_
    refine x_cv1 T_143_84 mN_144 mL_144 (Nat.le_of_ble_eq_true rfl) mO_144 (hP.o hyo) (Nat.le_of_ble_eq_true rfl) (hmk) ?_
    rintro _ σ ⟨rfl, rfl⟩
    refine cR ?_
    refine x_sr (ls1 := [some (vR (some 2175)), some (vR (some pr)), some (vR (some k)), some (vI w), some (vL perm), none, some (vI mode), some (vI 0), some (vR (some f0))]) T_143_87 rfl ?_
    refine x_lr (z := some 2175) T_143_89 rfl ?_
    refine x_gR (z := some 129) T_143_90 F_14_0 (hP.o xo_2175) (hP.rc xo_2175 rfl rfl) ?_
    refine x_lr (z := some 2175) T_143_93 rfl ?_
    refine x_gR (z := some 2178) T_143_94 F_14_2 (hP.o xo_2175) (hP.rc xo_2175 rfl rfl) ?_
    refine x_cv2 T_143_97 mN_132 mL_132 (Nat.le_of_ble_eq_true rfl) mO_132 (hP.o xo_129) (Nat.le_of_ble_eq_true rfl) (hck) ?_
    clear hP hck
    rintro _ σ ⟨rfl, V7, V8, hP, hX7, hF7⟩
    refine cI ?_
    refine x_popI T_143_100 ?_
    refine x_lr (z := some f0) T_143_101 rfl ?_
    refine x_nnul T_143_103 (fun _ _ => ?_) (fun h0 => absurd h0 (by simp))
    refine x_lr (z := some 2175) T_143_111 rfl ?_
    refine x_gR (z := some 129) T_143_112 F_14_0 (hP.o xo_2175) (hP.rc xo_2175 rfl rfl) ?_
    refine x_lr (z := some f0) T_143_115 rfl ?_
    refine x_lr (z := some 2175) T_143_117 rfl ?_
    refine x_gR (z := some 2178) T_143_118 F_14_2 (hP.o xo_2175) (hP.rc xo_2175 rfl rfl) ?_
    refine x_cv3 T_143_121 mN_141 mL_141 (Nat.le_of_ble_eq_true rfl) mO_141 (hP.o xo_129) (Nat.le_of_ble_eq_true rfl) (hcp σ V7 V8 hP hX7 hF7) ?_
    clear hP hcp
    rintro _ σ ⟨rfl, V9, R9, hP, hX9, hC9, hF9⟩
    obtain ⟨hc1, hc2⟩ := hC9 rfl
    refine cI ?_
    refine x_si (ls1 := [some (vR (some 2175)), some (vR (some pr)), some (vR (some k)), some (vI w), some (vL perm), none, some (vI mode), some (vI 0), some (vR (some f0))]) T_143_124 rfl ?_
    refine x_li (z := 0) T_143_126 rfl ?_
    refine x_if T_143_128 (fun _ => ?_) (fun h => absurd (show (0 : Int) = 0 by rfl) h)
    exact hgo _ σ V9 R9 hP hX9 hc1 hc2 (FC_tr (FC_fa hF7) hF9)
  · rw [kHoldn q2]
    show WP fb (d + 10) 143 67 _ [] σ (XMK σ0 K (T2 + 16) U W R (e, E, []))
    refine x_lr (z := some 2175) T_143_67 rfl ?_
    refine x_gR (z := some 2178) T_143_68 F_14_2 (hP.o xo_2175) (hP.rc xo_2175 rfl rfl) ?_
    refine x_gR (z := some y0) T_143_71 F_5_4 (hP.o xo_2178) (Eq.trans (hP.rm xo_2178 rfl (key := 2164) rfl) hpt0) ?_
    refine x_nul T_143_74 (fun h0 => absurd h0 (by simp)) (fun _ _ => ?_)
    refine x_lr (z := some 2175) T_143_77 rfl ?_
    refine x_gR (z := some 2178) T_143_78 F_14_2 (hP.o xo_2175) (hP.rc xo_2175 rfl rfl) ?_
    refine x_gR (z := some y0) T_143_81 F_5_4 (hP.o xo_2178) (Eq.trans (hP.rm xo_2178 rfl (key := 2164) rfl) hpt0) ?_
    refine x_cv1 T_143_84 mN_144 mL_144 (Nat.le_of_ble_eq_true rfl) mO_144 (hP.o hyo) (Nat.le_of_ble_eq_true rfl) (hmk) ?_
    rintro _ σ ⟨rfl, rfl⟩
    refine cR ?_
    refine x_sr (ls1 := [some (vR (some 2175)), some (vR (some pr)), some (vR (some k)), some (vI w), some (vL perm), none, some (vI mode), some (vI 0), some (vR (some f0))]) T_143_87 rfl ?_
    refine x_lr (z := some 2175) T_143_89 rfl ?_
    refine x_gR (z := some 129) T_143_90 F_14_0 (hP.o xo_2175) (hP.rc xo_2175 rfl rfl) ?_
    refine x_lr (z := some 2175) T_143_93 rfl ?_
    refine x_gR (z := some 2178) T_143_94 F_14_2 (hP.o xo_2175) (hP.rc xo_2175 rfl rfl) ?_
    refine x_cv2 T_143_97 mN_132 mL_132 (Nat.le_of_ble_eq_true rfl) mO_132 (hP.o xo_129) (Nat.le_of_ble_eq_true rfl) (hck) ?_
    clear hP hck
    rintro _ σ ⟨rfl, V7, V8, hP, hX7, hF7⟩
    refine cI ?_
    refine x_popI T_143_100 ?_
    refine x_lr (z := some f0) T_143_101 rfl ?_
    refine x_nnul T_143_103 (fun _ _ => ?_) (fun h0 => absurd h0 (by simp))
    refine x_lr (z := some 2175) T_143_111 rfl ?_
    refine x_gR (z := some 129) T_143_112 F_14_0 (hP.o xo_2175) (hP.rc xo_2175 rfl rfl) ?_
    refine x_lr (z := some f0) T_143_115 rfl ?_
    refine x_lr (z := some 2175) T_143_117 rfl ?_
    refine x_gR (z := some 2178) T_143_118 F_14_2 (hP.o xo_2175) (hP.rc xo_2175 rfl rfl) ?_
    refine x_cv3 T_143_121 mN_141 mL_141 (Nat.le_of_ble_eq_true rfl) mO_141 (hP.o xo_129) (Nat.le_of_ble_eq_true rfl) (hcp σ V7 V8 hP hX7 hF7) ?_
    clear hP hcp
    rintro _ σ ⟨rfl, V9, R9, hP, hX9, hC9, hF9⟩
    refine cI ?_
    refine x_si (ls1 := [some (vR (some 2175)), some (vR (some pr)), some (vR (some k)), some (vI w), some (vL perm), none, some (vI mode), some (vI e), some (vR (some f0))]) T_143_124 rfl ?_
    refine x_li (z := e) T_143_126 rfl ?_
    refine x_if T_143_128 (fun h => absurd (show e = 0 from h) (by omega)) (fun _ => ?_)
    refine x_li (z := e) T_143_131 rfl ?_
    refine x_ri T_143_133 ?_
    exact ⟨rfl, V9, R9, hP, by rw [if_neg q2]; exact XW.mono hX9 (by omega), fun c => absurd c q2, FCM_tr hF (FCM_tr (FCM_fa hF7) (FCM_fk (FK_fc hF9) (by decide)))⟩
end XMKS
