/-! The class's commands: a file is made, and what stays but for channel one. -/
abbrev XMT (σ0 : hM) (K T U : Int) (W : qR) (R : rR) (a : Int × qR × List Ch) : Option AV → hM → Prop := fun r σ' => r = some (vI a.1) ∧ ∃ W2 R2, PX σ0 W2 R2 σ' ∧ XW K T U W2 R2 (if a.1 = 0 then a.2.1 else kDrops a.2.1 a.2.2) ∧ (a.1 = 0 → ∃ c, a.2.2 = [c] ∧ CHX W2 R2 2178 c ∧ chR c) ∧ FK 2178 W W2 R R2
section XMKX
variable {fb : Bool} {d b q m k c a0 y0 pr : Nat} {σ0 σ : hM} {W W0 W1 W2 W3 P Q V : qR} {R R1 R2 V3 : rR} {i j x z v s e w p o n g K T U T2 thr pa kd dr pt perm mode : Int} {l l0 lo nm M raw : List Int} {f : Int} {ch : Ch} {x7 x8 : Option AV} {nms : List (List Int)}
theorem FT_tr (h1 : FK 2178 W W1 R R1) (h2 : FK 2178 W1 W2 R1 R2) : FK 2178 W W2 R R2 := FK_tr h1 h2
theorem FT_fr (h : FR1 W W2) : FK 2178 W W2 R R := FK_fa (FA_fr h)
theorem FT_fs (h : FVS 134 W W2 R R2) : FK 2178 W W2 R R2 := FK_fa (FA_fs h)
theorem FT_fa (h : FA W W2 R R2) : FK 2178 W W2 R R2 := FK_fa h
theorem FT_fk (h : FK 2178 W W2 R R2) (_ : (2178 : Nat) < 2187) : FK 2178 W W2 R R2 := h
theorem mt_134 (hP : PX σ0 V V3 σ) (hX : XW K T2 U V V3 Q) (hT : T2 + 120 ≤ 2147483000) (hk : tX k = some (Sum.inl 16)) (hch : CHX V V3 2178 ch) (hcr : chR ch) (hB : BY V 145 161 raw) (hn : V 129 2038 = n) (hn1 : 1 ≤ n ∧ n ≤ 100) (hN : NMX V raw (n - 1) nm) (hl : nm.length ≤ 200) (hpm : -9223372036854775808 ≤ perm ∧ perm ≤ 9223372036854775807) (hmd : 0 ≤ mode ∧ mode ≤ 255) (hF : FK 2178 W V R V3) : WP fb (d + 10) 143 134 [some (vR (some 2175)), some (vR (some pr)), some (vR (some k)), some (vI w), some (vL perm), none, some (vI mode), some (vI 0), x8] [] σ (XMT σ0 K (T2 + 8) U W R (kMk (0, Q, [ch]) nm perm mode)) := by
  obtain ⟨s, f, pa, kd, cp⟩ := ch
  have hf0 : V 2178 2161 = f := hch.2.1
  have hf : 0 ≤ f ∧ f ≤ 47 := hcr.2.1
  have hcm := x_creating (fb := fb) (d := d + 6) (f := f) (x := perm) (md := mode) hP ⟨by omega, by omega⟩ hpm hmd hB hn hn1 hN hl
  have hsd := fun (σ : hM) (V4 : qR) (hP : PX σ0 V4 V3 σ) (hF : FR1 V V4) (hB : BY V4 138 300 (mFr (mCre f nm perm mode))) => mCre_s (fb := fb) (d := d + 1) (c := 2178) hP (hX.fr1 hF) (by omega) (hch.sf hF (by decide)).1 one_o hcr.1 hl hB
  have her := tE_rng (P := Q) (s := s) (l := mCre f nm perm mode)
  show WP fb (d + 10) 143 134 _ [] σ (XMT σ0 K (T2 + 8) U W R (tE Q s (mCre f nm perm mode), tP Q s (mCre f nm perm mode), [(s, f, pa, kd, cp)]))
  have hck := fun (σ : hM) (V5 : qR) (V6 : rR) (hP : PX σ0 V5 V6 σ) (hX : XW K (T2 + 4) U V5 V6 (tP Q s (mCre f nm perm mode))) (hch : CHX V5 V6 2178 (s, f, pa, kd, cp)) => x_clunk1 (fb := fb) (d := d + 1) hP hX (by omega) hch hcr
  obtain ⟨e3, he3⟩ : ∃ q, tE (tP Q s (mCre f nm perm mode)) (s, f, pa, kd, cp).1 (mOne 120 (s, f, pa, kd, cp).2.1) = q := ⟨_, rfl⟩
  simp only [he3] at hck
  obtain ⟨e, he⟩ : ∃ q, tE Q s (mCre f nm perm mode) = q := ⟨_, rfl⟩
  rw [he] at her ⊢
  simp only [he] at hsd
  by_cases q : e = 0
  · subst q
    refine x_lr (z := some 2175) T_143_134 rfl ?_
    refine x_lr (z := some 2175) T_143_135 rfl ?_
    refine x_gR (z := some 2178) T_143_136 F_14_2 (hP.o xo_2175) (hP.rc xo_2175 rfl rfl) ?_
    refine x_lr (z := some 2175) T_143_139 rfl ?_
    refine x_gR (z := some 129) T_143_140 F_14_0 (hP.o xo_2175) (hP.rc xo_2175 rfl rfl) ?_
    refine x_lr (z := some 2175) T_143_143 rfl ?_
    refine x_gR (z := some 2178) T_143_144 F_14_2 (hP.o xo_2175) (hP.rc xo_2175 rfl rfl) ?_
    refine x_gI (z := f) T_143_147 (Or.inl F_5_1) (hP.o xo_2178) (Eq.trans (hP.gi xo_2178 (key := 2161) rfl) hf0) ?_
    refine x_ll (z := perm) T_143_150 rfl ?_
    refine x_li (z := mode) T_143_152 rfl ?_
    refine x_cv4 T_143_154 mN_145 mL_145 (Nat.le_of_ble_eq_true rfl) mO_145 (hP.o xo_129) (Nat.le_of_ble_eq_true rfl) (hcm) ?_
    clear hP hcm
    rintro _ σ ⟨rfl, V4, hP, hB4, hF4⟩
    refine cR ?_
    refine x_cv3 T_143_157 mN_136 mL_136 (Nat.le_of_ble_eq_true rfl) mO_136 (hP.o xo_2175) (Nat.le_of_ble_eq_true rfl) (hsd σ V4 hP hF4 hB4) ?_
    clear hP hsd
    rintro _ σ ⟨rfl, V5, V6, hP, hX5, hB5, hF5⟩
    refine cI ?_
    refine x_si (ls1 := [some (vR (some 2175)), some (vR (some pr)), some (vR (some k)), some (vI w), some (vL perm), none, some (vI mode), some (vI 0), x8]) T_143_160 rfl ?_
    refine x_li (z := 0) T_143_162 rfl ?_
    refine x_if T_143_164 (fun _ => ?_) (fun h => absurd (show (0 : Int) = 0 by rfl) h)
    refine x_li (z := 0) T_143_179 rfl ?_
    refine x_ri T_143_181 ?_
    exact ⟨rfl, V5, V6, hP, by rw [if_pos rfl]; exact XW.mono hX5 (by omega), fun _ => ⟨_, rfl, (hch.fa (FA_fr hF4) (by decide) (by decide) hcr.2.2).fa (FA_fs hF5) (by decide) (by decide) hcr.2.2, hcr⟩, FT_tr hF (FT_tr (FT_fr hF4) (FT_fs hF5))⟩
  · skip
    refine x_lr (z := some 2175) T_143_134 rfl ?_
    refine x_lr (z := some 2175) T_143_135 rfl ?_
    refine x_gR (z := some 2178) T_143_136 F_14_2 (hP.o xo_2175) (hP.rc xo_2175 rfl rfl) ?_
    refine x_lr (z := some 2175) T_143_139 rfl ?_
    refine x_gR (z := some 129) T_143_140 F_14_0 (hP.o xo_2175) (hP.rc xo_2175 rfl rfl) ?_
    refine x_lr (z := some 2175) T_143_143 rfl ?_
    refine x_gR (z := some 2178) T_143_144 F_14_2 (hP.o xo_2175) (hP.rc xo_2175 rfl rfl) ?_
    refine x_gI (z := f) T_143_147 (Or.inl F_5_1) (hP.o xo_2178) (Eq.trans (hP.gi xo_2178 (key := 2161) rfl) hf0) ?_
    refine x_ll (z := perm) T_143_150 rfl ?_
    refine x_li (z := mode) T_143_152 rfl ?_
    refine x_cv4 T_143_154 mN_145 mL_145 (Nat.le_of_ble_eq_true rfl) mO_145 (hP.o xo_129) (Nat.le_of_ble_eq_true rfl) (hcm) ?_
    clear hP hcm
    rintro _ σ ⟨rfl, V4, hP, hB4, hF4⟩
    refine cR ?_
    refine x_cv3 T_143_157 mN_136 mL_136 (Nat.le_of_ble_eq_true rfl) mO_136 (hP.o xo_2175) (Nat.le_of_ble_eq_true rfl) (hsd σ V4 hP hF4 hB4) ?_
    clear hP hsd
    rintro _ σ ⟨rfl, V5, V6, hP, hX5, hB5, hF5⟩
    refine cI ?_
    refine x_si (ls1 := [some (vR (some 2175)), some (vR (some pr)), some (vR (some k)), some (vI w), some (vL perm), none, some (vI mode), some (vI e), x8]) T_143_160 rfl ?_
    refine x_li (z := e) T_143_162 rfl ?_
    refine x_if T_143_164 (fun h => absurd (show e = 0 from h) (by omega)) (fun _ => ?_)
    refine x_lr (z := some 2175) T_143_167 rfl ?_
    refine x_gR (z := some 129) T_143_168 F_14_0 (hP.o xo_2175) (hP.rc xo_2175 rfl rfl) ?_
    refine x_lr (z := some 2175) T_143_171 rfl ?_
    refine x_gR (z := some 2178) T_143_172 F_14_2 (hP.o xo_2175) (hP.rc xo_2175 rfl rfl) ?_
    refine x_cv2 T_143_175 mN_132 mL_132 (Nat.le_of_ble_eq_true rfl) mO_132 (hP.o xo_129) (Nat.le_of_ble_eq_true rfl) (hck σ V5 V6 hP hX5 ((hch.fa (FA_fr hF4) (by decide) (by decide) hcr.2.2).fa (FA_fs hF5) (by decide) (by decide) hcr.2.2)) ?_
    clear hP hck
    rintro _ σ ⟨rfl, V7, V8, hP, hX7, hF7⟩
    refine cI ?_
    refine x_popI T_143_178 ?_
    refine x_li (z := e) T_143_179 rfl ?_
    refine x_ri T_143_181 ?_
    exact ⟨rfl, V7, V8, hP, by rw [if_neg q]; exact XW.mono hX7 (by omega), fun c => absurd c q, FT_tr hF (FT_tr (FT_fr hF4) (FT_tr (FT_fs hF5) (FT_fa hF7)))⟩
theorem mt_67 (hP : PX σ0 V V3 σ) (hX : XW K T2 U V V3 Q) (hT : T2 + 200 ≤ 2147483000) (hk : tX k = some (Sum.inl 16)) (hch : CHX V V3 2178 ch) (hcr : chR ch) (hB : BY V 145 161 raw) (hn : V 129 2038 = n) (hn1 : 1 ≤ n ∧ n ≤ 100) (hN : NMX V raw (n - 1) nm) (hl : nm.length ≤ 200) (hpm : -9223372036854775808 ≤ perm ∧ perm ≤ 9223372036854775807) (hmd : 0 ≤ mode ∧ mode ≤ 255) (hF : FK 2178 W V R V3) (hpv : 0 ≤ ch.2.2.2.2 → ch.2.2.2.2 % 8 < Q 2334 (ch.2.2.2.2 / 8)) : WP fb (d + 10) 143 67 [some (vR (some 2175)), some (vR (some pr)), some (vR (some k)), some (vI w), some (vL perm), none, some (vI mode), some (vI 0), x8] [] σ (XMT σ0 K (T2 + 16) U W R (kMk (kPlc Q ch) nm perm mode)) := by
  obtain ⟨s, f, pa, kd, cp⟩ := ch
  have eK : kPlc Q (s, f, pa, kd, cp) = if cp < 0 then (0, Q, [(s, f, pa, kd, cp)]) else if qMk (kDrop Q (s, f, pa, kd, cp)) cp < 0 then (17, kDrop Q (s, f, pa, kd, cp), []) else (kCpE (kDrop Q (s, f, pa, kd, cp)) (Q 2338 (qMk (kDrop Q (s, f, pa, kd, cp)) cp)) (Q 2339 (qMk (kDrop Q (s, f, pa, kd, cp)) cp)), kCpP (kDrop Q (s, f, pa, kd, cp)) (Q 2338 (qMk (kDrop Q (s, f, pa, kd, cp)) cp)) (Q 2339 (qMk (kDrop Q (s, f, pa, kd, cp)) cp)), kHold (kCpE (kDrop Q (s, f, pa, kd, cp)) (Q 2338 (qMk (kDrop Q (s, f, pa, kd, cp)) cp)) (Q 2339 (qMk (kDrop Q (s, f, pa, kd, cp)) cp))) [] (Q 2338 (qMk (kDrop Q (s, f, pa, kd, cp)) cp), qNewF (kDrop Q (s, f, pa, kd, cp)) (Q 2338 (qMk (kDrop Q (s, f, pa, kd, cp)) cp)), Q 2340 (qMk (kDrop Q (s, f, pa, kd, cp)) cp), Q 2341 (qMk (kDrop Q (s, f, pa, kd, cp)) cp), -1)) := rfl
  have hpt0 : V3 2178 2164 = if cp < 0 then none else V3 (grO (cp / 8) + 1) (cp % 8) := hch.2.2.2.2
  by_cases q0 : cp < 0
  · rw [if_pos q0] at hpt0 eK
    rw [eK]
    have hgo := mt_134 (fb := fb) (d := d) (pr := pr) (w := w) (x8 := x8) hP hX (by omega) hk hch hcr hB hn hn1 hN hl hpm hmd hF
    have hgo := hgo.mono (Q := XMT σ0 K (T2 + 16) U W R (kMk (0, Q, [(s, f, pa, kd, cp)]) nm perm mode)) (fun r σ' h => by
      obtain ⟨rfl, V5, V6, g1, g2, g3, g4⟩ := h
      exact ⟨rfl, V5, V6, g1, XW.mono g2 (by omega), g3, g4⟩)
    refine x_lr (z := some 2175) T_143_67 rfl ?_
    refine x_gR (z := some 2178) T_143_68 F_14_2 (hP.o xo_2175) (hP.rc xo_2175 rfl rfl) ?_
    refine x_gR (z := none) T_143_71 F_5_4 (hP.o xo_2178) (Eq.trans (hP.rm xo_2178 rfl (key := 2164) rfl) hpt0) ?_
    refine x_nul T_143_74 (fun _ => ?_) (fun a0 h0 => absurd h0 (by simp))
    exact hgo
  rw [if_neg q0] at hpt0 eK
  have hc64 : cp < 64 := hcr.2.2
  have hI := hX.1.2.2.2.1.iv
  have hpv : cp % 8 < Q 2334 (cp / 8) := hpv (by show 0 ≤ cp; omega)
  obtain ⟨y0, hy0, hM⟩ := PTM_of (hX.1.2.2.1.2.1 (cp / 8) (by omega) (by omega)) ⟨by omega, by omega⟩ hI (k := cp % 8) ⟨by omega, hpv⟩
  rw [show 8 * (cp / 8) + cp % 8 = cp by omega] at hM
  rw [hy0] at hpt0
  have hmb : 0 ≤ Q 2337 cp ∧ Q 2337 cp ≤ 6 := IV.a hI 2337 0 64 rfl rfl rfl (by omega) (by omega)
  have hkf : KF (kDrop Q (s, f, pa, kd, cp)) Q := KF_tP
  have hmk := x_memberToCreate (fb := fb) (d := d + 9) hP hM (by omega) hmb
  rw [← qMk_kf hkf] at hmk
  have hrk := mkM_rng (P := kDrop Q (s, f, pa, kd, cp)) (pt := cp) (kDrop Q (s, f, pa, kd, cp) 2337 cp).toNat 0
  rw [nsR_kf hkf 2337 _ rfl] at hrk
  have eqm : qMk (kDrop Q (s, f, pa, kd, cp)) cp = mkM (kDrop Q (s, f, pa, kd, cp)) cp (Q 2337 cp).toNat 0 := by unfold qMk; rw [nsR_kf hkf 2337 _ rfl]
  rw [← eqm] at hrk
  have hck := x_clunk1 (fb := fb) (d := d + 1) hP hX (by omega) hch hcr
  obtain ⟨e3, he3⟩ : ∃ q, tE Q (s, f, pa, kd, cp).1 (mOne 120 (s, f, pa, kd, cp).2.1) = q := ⟨_, rfl⟩
  rw [he3] at hck
  obtain ⟨D, hD⟩ : ∃ q, kDrop Q (s, f, pa, kd, cp) = q := ⟨_, rfl⟩
  rw [hD] at hck eK hmk hkf hrk
  obtain ⟨mx, hmx⟩ : ∃ q, qMk D cp = q := ⟨_, rfl⟩
  rw [hmx] at hmk eK hrk
  rw [eK]
  obtain ⟨hyo, hya, hyr, hyc, hym⟩ := hM
  by_cases q1 : mx < 0
  · rw [if_pos q1] at hmk ⊢
    show WP fb (d + 10) 143 67 _ [] σ (XMT σ0 K (T2 + 16) U W R (17, D, []))
    refine x_lr (z := some 2175) T_143_67 rfl ?_
    refine x_gR (z := some 2178) T_143_68 F_14_2 (hP.o xo_2175) (hP.rc xo_2175 rfl rfl) ?_
    refine x_gR (z := some y0) T_143_71 F_5_4 (hP.o xo_2178) (Eq.trans (hP.rm xo_2178 rfl (key := 2164) rfl) hpt0) ?_
    refine x_nul T_143_74 (fun h0 => absurd h0 (by simp)) (fun _ _ => ?_)
    refine x_lr (z := some 2175) T_143_77 rfl ?_
    refine x_gR (z := some 2178) T_143_78 F_14_2 (hP.o xo_2175) (hP.rc xo_2175 rfl rfl) ?_
    refine x_gR (z := some y0) T_143_81 F_5_4 (hP.o xo_2178) (Eq.trans (hP.rm xo_2178 rfl (key := 2164) rfl) hpt0) ?_
    refine x_cv1 T_143_84 mN_144 mL_144 (Nat.le_of_ble_eq_true rfl) mO_144 (hP.o hyo) (Nat.le_of_ble_eq_true rfl) (hmk) ?_
    rintro _ σ ⟨rfl, rfl⟩
    refine cR ?_
    refine x_sr (ls1 := [some (vR (some 2175)), some (vR (some pr)), some (vR (some k)), some (vI w), some (vL perm), none, some (vI mode), some (vI 0), some (vR none)]) T_143_87 rfl ?_
    refine x_lr (z := some 2175) T_143_89 rfl ?_
    refine x_gR (z := some 129) T_143_90 F_14_0 (hP.o xo_2175) (hP.rc xo_2175 rfl rfl) ?_
    refine x_lr (z := some 2175) T_143_93 rfl ?_
    refine x_gR (z := some 2178) T_143_94 F_14_2 (hP.o xo_2175) (hP.rc xo_2175 rfl rfl) ?_
    refine x_cv2 T_143_97 mN_132 mL_132 (Nat.le_of_ble_eq_true rfl) mO_132 (hP.o xo_129) (Nat.le_of_ble_eq_true rfl) (hck) ?_
    clear hP hck
    rintro _ σ ⟨rfl, V7, V8, hP, hX7, hF7⟩
    refine cI ?_
    refine x_popI T_143_100 ?_
    refine x_lr (z := none) T_143_101 rfl ?_
    refine x_nnul T_143_103 (fun a0 h0 => absurd h0 (by simp)) (fun _ => ?_)
    refine x_ic T_143_106 ?_
    refine x_goto T_143_108 ?_
    refine x_si (ls1 := [some (vR (some 2175)), some (vR (some pr)), some (vR (some k)), some (vI w), some (vL perm), none, some (vI mode), some (vI 17), some (vR none)]) T_143_124 rfl ?_
    refine x_li (z := 17) T_143_126 rfl ?_
    refine x_if T_143_128 (fun h => absurd (show (17 : Int) = 0 from h) (by decide)) (fun _ => ?_)
    refine x_li (z := 17) T_143_131 rfl ?_
    refine x_ri T_143_133 ?_
    exact ⟨rfl, V7, V8, hP, by rw [if_neg (show ¬ (17 : Int) = 0 by decide)]; exact XW.mono hX7 (by omega), fun c => absurd (show (17 : Int) = 0 from c) (by decide), FT_tr hF (FT_fa hF7)⟩
  rw [if_neg q1] at hmk ⊢
  obtain ⟨f0, c0, c1, c2, c3⟩ := hym (mx - 6 * cp) (by omega) (by omega)
  rw [show 6 * cp + (mx - 6 * cp) = mx by omega] at c3
  obtain ⟨b1, b2, b3, b4, -⟩ := c3
  rw [c0] at hmk
  have r1 : 0 ≤ Q 2338 mx ∧ Q 2338 mx ≤ 2 := IV.a hI 2338 0 384 rfl rfl rfl (by omega) (by omega)
  have r2 : 0 ≤ Q 2339 mx ∧ Q 2339 mx ≤ 47 := IV.a hI 2339 0 384 rfl rfl rfl (by omega) (by omega)
  obtain ⟨ms, hms⟩ : ∃ q, Q 2338 mx = q := ⟨_, rfl⟩
  obtain ⟨mf, hmf⟩ : ∃ q, Q 2339 mx = q := ⟨_, rfl⟩
  obtain ⟨mp, hmp⟩ : ∃ q, Q 2340 mx = q := ⟨_, rfl⟩
  obtain ⟨mq, hmq⟩ : ∃ q, Q 2341 mx = q := ⟨_, rfl⟩
  rw [hms] at b1 r1
  rw [hmf] at b2 r2
  rw [hmp] at b3
  rw [hmq] at b4
  rw [hms, hmf, hmp, hmq]
  have hcp := fun (σ : hM) (V7 : qR) (V8 : rR) (hP : PX σ0 V7 V8 σ) (hX : XW K (T2 + 4) U V7 V8 D) (hF : FA V V7 V3 V8) => x_copyK (fb := fb) (d := d + 1) (c := 2178) (kd := mq) hP hX (by omega) c1 c2 ((hF.ns.1 _ _ c2.1 c2.2 (by decide)).trans b1) ((hF.ns.1 _ _ c2.1 c2.2 (by decide)).trans b2) ((hF.ns.1 _ _ c2.1 c2.2 (by decide)).trans b3) ((hF.ns.1 _ _ c2.1 c2.2 (by decide)).trans b4) rfl ⟨r1.1, by omega⟩ r2 one_o (by decide)
  have her := kCpE_rng (P := D) (s := ms) (f := mf)
  obtain ⟨e, he⟩ : ∃ q, kCpE D ms mf = q := ⟨_, rfl⟩
  obtain ⟨E, hE⟩ : ∃ q, kCpP D ms mf = q := ⟨_, rfl⟩
  simp only [he, hE] at hcp
  rw [he] at her
  rw [he, hE]
  by_cases q2 : e = 0
  · subst q2
    rw [kHold0]
    have hgo := fun (x8 : Option AV) (σ : hM) (V9 : qR) (R9 : rR) (hP : PX σ0 V9 R9 σ) (hX : XW K (T2 + 4 + 4) U V9 R9 E) (hch : CHX V9 R9 2178 (ms, qNewF D ms, mp, mq, -1)) (hcr : chR (ms, qNewF D ms, mp, mq, -1)) (hFC : FC 2178 V V9 V3 R9) => (mt_134 (fb := fb) (d := d) (W := W) (R := R) (pr := pr) (w := w) (x8 := x8) hP hX (by omega) hk hch hcr (hFC.by2 hB (by decide) (Or.inr rfl)) ((hFC.kn (by decide)).1.trans hn) hn1 (hN.fc hFC (by decide) (by omega)) hl hpm hmd (FT_tr hF (FT_fk (FK_fc hFC) (by decide)))).mono (Q := XMT σ0 K (T2 + 16) U W R (kMk (0, E, [] ++ [(ms, qNewF D ms, mp, mq, -1)]) nm perm mode)) (fun r σ' h => by
      obtain ⟨rfl, V5, V6, g1, g2, g3, g4⟩ := h
      exact ⟨rfl, V5, V6, g1, XW.mono g2 (by omega), g3, g4⟩)
    refine x_lr (z := some 2175) T_143_67 rfl ?_
    refine x_gR (z := some 2178) T_143_68 F_14_2 (hP.o xo_2175) (hP.rc xo_2175 rfl rfl) ?_
    refine x_gR (z := some y0) T_143_71 F_5_4 (hP.o xo_2178) (Eq.trans (hP.rm xo_2178 rfl (key := 2164) rfl) hpt0) ?_
    refine x_nul T_143_74 (fun h0 => absurd h0 (by simp)) (fun _ _ => ?_)
    refine x_lr (z := some 2175) T_143_77 rfl ?_
    refine x_gR (z := some 2178) T_143_78 F_14_2 (hP.o xo_2175) (hP.rc xo_2175 rfl rfl) ?_
    refine x_gR (z := some y0) T_143_81 F_5_4 (hP.o xo_2178) (Eq.trans (hP.rm xo_2178 rfl (key := 2164) rfl) hpt0) ?_
    refine x_cv1 T_143_84 mN_144 mL_144 (Nat.le_of_ble_eq_true rfl) mO_144 (hP.o hyo) (Nat.le_of_ble_eq_true rfl) (hmk) ?_
    rintro _ σ ⟨rfl, rfl⟩
    refine cR ?_
    refine x_sr (ls1 := [some (vR (some 2175)), some (vR (some pr)), some (vR (some k)), some (vI w), some (vL perm), none, some (vI mode), some (vI 0), some (vR (some f0))]) T_143_87 rfl ?_
    refine x_lr (z := some 2175) T_143_89 rfl ?_
    refine x_gR (z := some 129) T_143_90 F_14_0 (hP.o xo_2175) (hP.rc xo_2175 rfl rfl) ?_
    refine x_lr (z := some 2175) T_143_93 rfl ?_
    refine x_gR (z := some 2178) T_143_94 F_14_2 (hP.o xo_2175) (hP.rc xo_2175 rfl rfl) ?_
    refine x_cv2 T_143_97 mN_132 mL_132 (Nat.le_of_ble_eq_true rfl) mO_132 (hP.o xo_129) (Nat.le_of_ble_eq_true rfl) (hck) ?_
    clear hP hck
    rintro _ σ ⟨rfl, V7, V8, hP, hX7, hF7⟩
    refine cI ?_
    refine x_popI T_143_100 ?_
    refine x_lr (z := some f0) T_143_101 rfl ?_
    refine x_nnul T_143_103 (fun _ _ => ?_) (fun h0 => absurd h0 (by simp))
    refine x_lr (z := some 2175) T_143_111 rfl ?_
    refine x_gR (z := some 129) T_143_112 F_14_0 (hP.o xo_2175) (hP.rc xo_2175 rfl rfl) ?_
    refine x_lr (z := some f0) T_143_115 rfl ?_
    refine x_lr (z := some 2175) T_143_117 rfl ?_
    refine x_gR (z := some 2178) T_143_118 F_14_2 (hP.o xo_2175) (hP.rc xo_2175 rfl rfl) ?_
    refine x_cv3 T_143_121 mN_141 mL_141 (Nat.le_of_ble_eq_true rfl) mO_141 (hP.o xo_129) (Nat.le_of_ble_eq_true rfl) (hcp σ V7 V8 hP hX7 hF7) ?_
    clear hP hcp
    rintro _ σ ⟨rfl, V9, R9, hP, hX9, hC9, hF9⟩
    obtain ⟨hc1, hc2⟩ := hC9 rfl
    refine cI ?_
    refine x_si (ls1 := [some (vR (some 2175)), some (vR (some pr)), some (vR (some k)), some (vI w), some (vL perm), none, some (vI mode), some (vI 0), some (vR (some f0))]) T_143_124 rfl ?_
    refine x_li (z := 0) T_143_126 rfl ?_
    refine x_if T_143_128 (fun _ => ?_) (fun h => absurd (show (0 : Int) = 0 by rfl) h)
    exact hgo _ σ V9 R9 hP hX9 hc1 hc2 (FC_tr (FC_fa hF7) hF9)
  · rw [kHoldn q2]
    show WP fb (d + 10) 143 67 _ [] σ (XMT σ0 K (T2 + 16) U W R (e, E, []))
    refine x_lr (z := some 2175) T_143_67 rfl ?_
    refine x_gR (z := some 2178) T_143_68 F_14_2 (hP.o xo_2175) (hP.rc xo_2175 rfl rfl) ?_
    refine x_gR (z := some y0) T_143_71 F_5_4 (hP.o xo_2178) (Eq.trans (hP.rm xo_2178 rfl (key := 2164) rfl) hpt0) ?_
    refine x_nul T_143_74 (fun h0 => absurd h0 (by simp)) (fun _ _ => ?_)
    refine x_lr (z := some 2175) T_143_77 rfl ?_
    refine x_gR (z := some 2178) T_143_78 F_14_2 (hP.o xo_2175) (hP.rc xo_2175 rfl rfl) ?_
    refine x_gR (z := some y0) T_143_81 F_5_4 (hP.o xo_2178) (Eq.trans (hP.rm xo_2178 rfl (key := 2164) rfl) hpt0) ?_
    refine x_cv1 T_143_84 mN_144 mL_144 (Nat.le_of_ble_eq_true rfl) mO_144 (hP.o hyo) (Nat.le_of_ble_eq_true rfl) (hmk) ?_
    rintro _ σ ⟨rfl, rfl⟩
    refine cR ?_
    refine x_sr (ls1 := [some (vR (some 2175)), some (vR (some pr)), some (vR (some k)), some (vI w), some (vL perm), none, some (vI mode), some (vI 0), some (vR (some f0))]) T_143_87 rfl ?_
    refine x_lr (z := some 2175) T_143_89 rfl ?_
    refine x_gR (z := some 129) T_143_90 F_14_0 (hP.o xo_2175) (hP.rc xo_2175 rfl rfl) ?_
    refine x_lr (z := some 2175) T_143_93 rfl ?_
    refine x_gR (z := some 2178) T_143_94 F_14_2 (hP.o xo_2175) (hP.rc xo_2175 rfl rfl) ?_
    refine x_cv2 T_143_97 mN_132 mL_132 (Nat.le_of_ble_eq_true rfl) mO_132 (hP.o xo_129) (Nat.le_of_ble_eq_true rfl) (hck) ?_
    clear hP hck
    rintro _ σ ⟨rfl, V7, V8, hP, hX7, hF7⟩
    refine cI ?_
    refine x_popI T_143_100 ?_
    refine x_lr (z := some f0) T_143_101 rfl ?_
    refine x_nnul T_143_103 (fun _ _ => ?_) (fun h0 => absurd h0 (by simp))
    refine x_lr (z := some 2175) T_143_111 rfl ?_
    refine x_gR (z := some 129) T_143_112 F_14_0 (hP.o xo_2175) (hP.rc xo_2175 rfl rfl) ?_
    refine x_lr (z := some f0) T_143_115 rfl ?_
    refine x_lr (z := some 2175) T_143_117 rfl ?_
    refine x_gR (z := some 2178) T_143_118 F_14_2 (hP.o xo_2175) (hP.rc xo_2175 rfl rfl) ?_
    refine x_cv3 T_143_121 mN_141 mL_141 (Nat.le_of_ble_eq_true rfl) mO_141 (hP.o xo_129) (Nat.le_of_ble_eq_true rfl) (hcp σ V7 V8 hP hX7 hF7) ?_
    clear hP hcp
    rintro _ σ ⟨rfl, V9, R9, hP, hX9, hC9, hF9⟩
    refine cI ?_
    refine x_si (ls1 := [some (vR (some 2175)), some (vR (some pr)), some (vR (some k)), some (vI w), some (vL perm), none, some (vI mode), some (vI e), some (vR (some f0))]) T_143_124 rfl ?_
    refine x_li (z := e) T_143_126 rfl ?_
    refine x_if T_143_128 (fun h => absurd (show e = 0 from h) (by omega)) (fun _ => ?_)
    refine x_li (z := e) T_143_131 rfl ?_
    refine x_ri T_143_133 ?_
    exact ⟨rfl, V9, R9, hP, by rw [if_neg q2]; exact XW.mono hX9 (by omega), fun c => absurd c q2, FT_tr hF (FT_tr (FT_fa hF7) (FT_fk (FK_fc hF9) (by decide)))⟩
theorem x_makeT (hP : PX σ0 W R σ) (hX : XW K T U W R P) (hT : T + 1200 ≤ 2147483000) (hp : 0 ≤ p ∧ p < 8) (hlv : ¬ P 2320 p = 0) (hC : CMD W k l) (hw : 0 ≤ w ∧ w < ((lnW l).length : Int)) (hpm : -9223372036854775808 ≤ perm ∧ perm ≤ 9223372036854775807) (hmd : 0 ≤ mode ∧ mode ≤ 255) : CL fb (d + 10) 143 [vR (some 2175), vR (some (prO p)), vR (some k), vI w, vL perm, vI mode] σ (XMT σ0 K (T + 320) U W R (kCreate P p (lnB l w) perm mode)) := by
  obtain ⟨hrd, hr1⟩ := x_rd (fb := fb) (d := d + 7) hP hX hp hlv hC hw
  have hk := hC.1
  have hIV := hX.1.2.2.2.1.iv
  have hPT := hX.1.2.2.2.2.2.2
  have eK : kCreate P p (lnB l w) perm mode = if 0 < paE (paRaw P p (lnB l w)) then (paE (paRaw P p (lnB l w)), P, []) else if (paM (paRaw P p (lnB l w))).length = 0 then (5, P, []) else if 0 < (kWalk P p (paO (paRaw P p (lnB l w))) 1 (paM (paRaw P p (lnB l w))).dropLast).1 then ((kWalk P p (paO (paRaw P p (lnB l w))) 1 (paM (paRaw P p (lnB l w))).dropLast).1, (kWalk P p (paO (paRaw P p (lnB l w))) 1 (paM (paRaw P p (lnB l w))).dropLast).2.1, []) else kMk (kPlc (kWalk P p (paO (paRaw P p (lnB l w))) 1 (paM (paRaw P p (lnB l w))).dropLast).2.1 (kWalk P p (paO (paRaw P p (lnB l w))) 1 (paM (paRaw P p (lnB l w))).dropLast).2.2) ((paM (paRaw P p (lnB l w))).getD ((paM (paRaw P p (lnB l w))).length - 1) []) perm mode := rfl
  obtain ⟨raw, hraw⟩ : ∃ q, paRaw P p (lnB l w) = q := ⟨_, rfl⟩
  rw [hraw] at hrd hr1 eK
  rw [eK]
  have hpo := prO_o hp
  have hml : (paM raw).length = (paN raw).length := List.length_map ..
  have hdl : (paM raw).dropLast.length = (paM raw).length - 1 := List.length_dropLast ..
  have hor : paE raw = 0 → (paN raw).length ≤ 10 ∧ (paO raw = -1 ∨ (0 ≤ paO raw ∧ paO raw < 3)) := fun h0 => by
    unfold paE at h0
    by_cases q : lg raw 0 = 35 ∧ (¬ (2 ≤ raw.length ∧ 48 ≤ lg raw 1 ∧ lg raw 1 ≤ 50) ∨ (3 ≤ raw.length ∧ ¬ lg raw 2 = 47))
    · rw [if_pos q] at h0; omega
    · rw [if_neg q] at h0
      by_cases q2 : 10 < (paN raw).length
      · rw [if_pos q2] at h0; omega
      · refine ⟨by omega, ?_⟩
        unfold paO
        by_cases q3 : lg raw 0 = 35
        · rw [if_pos q3]
          have := Classical.not_not.mp (fun c => q ⟨q3, Or.inl c⟩)
          omega
        · rw [if_neg q3]
          exact Or.inl rfl
  have hee : 0 ≤ paE raw := by unfold paE; (repeat' split) <;> decide
  have hwk := fun (σ : hM) (V : qR) (hP : PX σ0 V R σ) (hF : RPF W V) (h : V 129 2049 = paO raw ∧ BY V 145 161 raw ∧ NQ V (paN raw) ∧ BY V 136 60 (paL raw)) (h10 : (paN raw).length ≤ 10) (h1 : 1 ≤ (paM raw).length) (hor : paO raw = -1 ∨ (0 ≤ paO raw ∧ paO raw < 3)) => x_walk (fb := fb) (d := d + 1) (nms := (paM raw).dropLast) (most := ((paM raw).length : Int) - 1) (thr := 1) hP (hX.rpf hF) (by omega) hp hlv one_o (by decide) (Or.inr rfl) (by omega) (n := ((paM raw).length : Int)) (by rw [h.2.2.1.1]; unfold paM; rw [List.length_map]) (by omega) h.2.1 (paN_nms h.2.1 hr1 h.2.2.1).dl h.1 hor
  have hpt := kWalk_pt (o := paO raw) (thr := 1) (nms := (paM raw).dropLast) hIV hp
  obtain ⟨hwe, hwf⟩ := kWalk_ok (o := paO raw) (thr := 1) (nms := (paM raw).dropLast) hIV hPT hp
  obtain ⟨nn, hnn⟩ : ∃ q : Int, ((paM raw).length : Int) = q := ⟨_, rfl⟩
  simp only [hnn] at hwk
  obtain ⟨A, hA⟩ : ∃ A, kWalk P p (paO raw) 1 (paM raw).dropLast = A := ⟨_, rfl⟩
  simp only [hA] at hwk hpt hwe hwf ⊢
  obtain ⟨e1, Q, ch⟩ := A
  obtain ⟨pr, hpr⟩ : ∃ q, prO p = q := ⟨_, rfl⟩
  rw [hpr] at hrd hpo ⊢
  simp only [hpr] at hwk
  obtain ⟨e, he⟩ : ∃ q, paE raw = q := ⟨_, rfl⟩
  unfold XRP at hrd
  rw [he] at hor hee hrd
  rw [he]
  by_cases q : e = 0
  rotate_left
  · rw [if_pos (show 0 < e by omega)]
    refine CL_in mL_143 rfl ?_
    show WP fb _ 143 0 [some (vR (some 2175)), some (vR (some pr)), some (vR (some k)), some (vI w), some (vL perm), none, some (vI mode), none, none] [] σ _
    refine x_lr (z := some 2175) T_143_0 rfl ?_
    refine x_gR (z := some 129) T_143_1 F_14_0 (hP.o xo_2175) (hP.rc xo_2175 rfl rfl) ?_
    refine x_lr (z := some pr) T_143_4 rfl ?_
    refine x_lr (z := some k) T_143_5 rfl ?_
    refine x_li (z := w) T_143_6 rfl ?_
    refine x_cv4 T_143_7 mN_118 mL_118 (Nat.le_of_ble_eq_true rfl) mO_118 (hP.o xo_129) (Nat.le_of_ble_eq_true rfl) (hrd) ?_
    clear hP hrd
    rintro _ σ ⟨rfl, V, hP, hF, hq⟩
    refine cI ?_
    refine x_si (ls1 := [some (vR (some 2175)), some (vR (some pr)), some (vR (some k)), some (vI w), some (vL perm), none, some (vI mode), some (vI e), none]) T_143_10 rfl ?_
    refine x_li (z := e) T_143_12 rfl ?_
    refine x_if T_143_14 (fun _ => ?_) (fun h => absurd (show ¬ e = 0 by omega) h)
    refine x_li (z := e) T_143_30 rfl ?_
    refine x_if T_143_32 (fun _ => ?_) (fun h => absurd (show ¬ e = 0 by omega) h)
    refine x_li (z := e) T_143_59 rfl ?_
    refine x_if T_143_61 (fun h => absurd (show e = 0 from h) (by omega)) (fun _ => ?_)
    refine x_li (z := e) T_143_64 rfl ?_
    refine x_ri T_143_66 ?_
    exact ⟨rfl, V, R, hP, by rw [if_neg q]; exact XW.mono (hX.rpf hF) (by omega), fun c => absurd c q, FT_fk (FK_rpf hF) (show 2178 < 2187 by decide)⟩
  subst q
  rw [if_neg (show ¬ (0 : Int) < 0 by decide)]
  obtain ⟨h10, hor⟩ := hor rfl
  by_cases q0 : (paM raw).length = 0
  · rw [if_pos q0]
    refine CL_in mL_143 rfl ?_
    show WP fb _ 143 0 [some (vR (some 2175)), some (vR (some pr)), some (vR (some k)), some (vI w), some (vL perm), none, some (vI mode), none, none] [] σ _
    refine x_lr (z := some 2175) T_143_0 rfl ?_
    refine x_gR (z := some 129) T_143_1 F_14_0 (hP.o xo_2175) (hP.rc xo_2175 rfl rfl) ?_
    refine x_lr (z := some pr) T_143_4 rfl ?_
    refine x_lr (z := some k) T_143_5 rfl ?_
    refine x_li (z := w) T_143_6 rfl ?_
    refine x_cv4 T_143_7 mN_118 mL_118 (Nat.le_of_ble_eq_true rfl) mO_118 (hP.o xo_129) (Nat.le_of_ble_eq_true rfl) (hrd) ?_
    clear hP hrd
    rintro _ σ ⟨rfl, V, hP, hF, hq⟩
    have hn0 : V 129 2038 = 0 := by rw [(hq rfl).2.2.1.1]; omega
    refine cI ?_
    refine x_si (ls1 := [some (vR (some 2175)), some (vR (some pr)), some (vR (some k)), some (vI w), some (vL perm), none, some (vI mode), some (vI 0), none]) T_143_10 rfl ?_
    refine x_li (z := 0) T_143_12 rfl ?_
    refine x_if T_143_14 (fun h => absurd (show ¬ (0 : Int) = 0 from h) (by decide)) (fun _ => ?_)
    refine x_lr (z := some 2175) T_143_17 rfl ?_
    refine x_gR (z := some 129) T_143_18 F_14_0 (hP.o xo_2175) (hP.rc xo_2175 rfl rfl) ?_
    refine x_gI (z := 0) T_143_21 (Or.inl F_1_6) (hP.o xo_129) (Eq.trans (hP.gi xo_129 (key := 2038) rfl) hn0) ?_
    refine x_if T_143_24 (fun h => absurd (show ¬ (0 : Int) = 0 from h) (by decide)) (fun _ => ?_)
    refine x_ic T_143_27 ?_
    refine x_si (ls1 := [some (vR (some 2175)), some (vR (some pr)), some (vR (some k)), some (vI w), some (vL perm), none, some (vI mode), some (vI 5), none]) T_143_28 rfl ?_
    refine x_li (z := 5) T_143_30 rfl ?_
    refine x_if T_143_32 (fun _ => ?_) (fun h => absurd (show ¬ (5 : Int) = 0 by decide) h)
    refine x_li (z := 5) T_143_59 rfl ?_
    refine x_if T_143_61 (fun h => absurd (show (5 : Int) = 0 from h) (by decide)) (fun _ => ?_)
    refine x_li (z := 5) T_143_64 rfl ?_
    refine x_ri T_143_66 ?_
    exact ⟨rfl, V, R, hP, by rw [if_neg (show ¬ (5 : Int) = 0 by decide)]; exact XW.mono (hX.rpf hF) (by omega), fun c => absurd (show (5 : Int) = 0 from c) (by decide), FT_fk (FK_rpf hF) (show 2178 < 2187 by decide)⟩
  rw [if_neg q0]
  have hwe : 0 ≤ e1 := hwe
  have hwf : KF Q P := hwf
  by_cases q1 : e1 = 0
  rotate_left
  · rw [if_pos (show 0 < e1 by omega)]
    refine CL_in mL_143 rfl ?_
    show WP fb _ 143 0 [some (vR (some 2175)), some (vR (some pr)), some (vR (some k)), some (vI w), some (vL perm), none, some (vI mode), none, none] [] σ _
    refine x_lr (z := some 2175) T_143_0 rfl ?_
    refine x_gR (z := some 129) T_143_1 F_14_0 (hP.o xo_2175) (hP.rc xo_2175 rfl rfl) ?_
    refine x_lr (z := some pr) T_143_4 rfl ?_
    refine x_lr (z := some k) T_143_5 rfl ?_
    refine x_li (z := w) T_143_6 rfl ?_
    refine x_cv4 T_143_7 mN_118 mL_118 (Nat.le_of_ble_eq_true rfl) mO_118 (hP.o xo_129) (Nat.le_of_ble_eq_true rfl) (hrd) ?_
    clear hP hrd
    rintro _ σ ⟨rfl, V, hP, hF, hq⟩
    have hq := hq rfl
    have hn0 : V 129 2038 = nn := by rw [hq.2.2.1.1]; omega
    refine cI ?_
    refine x_si (ls1 := [some (vR (some 2175)), some (vR (some pr)), some (vR (some k)), some (vI w), some (vL perm), none, some (vI mode), some (vI 0), none]) T_143_10 rfl ?_
    refine x_li (z := 0) T_143_12 rfl ?_
    refine x_if T_143_14 (fun h => absurd (show ¬ (0 : Int) = 0 from h) (by decide)) (fun _ => ?_)
    refine x_lr (z := some 2175) T_143_17 rfl ?_
    refine x_gR (z := some 129) T_143_18 F_14_0 (hP.o xo_2175) (hP.rc xo_2175 rfl rfl) ?_
    refine x_gI (z := nn) T_143_21 (Or.inl F_1_6) (hP.o xo_129) (Eq.trans (hP.gi xo_129 (key := 2038) rfl) hn0) ?_
    refine x_if T_143_24 (fun _ => ?_) (fun h => absurd (show ¬ nn = 0 by omega) h)
    refine x_li (z := 0) T_143_30 rfl ?_
    refine x_if T_143_32 (fun h => absurd (show ¬ (0 : Int) = 0 from h) (by decide)) (fun _ => ?_)
    refine x_lr (z := some 2175) T_143_35 rfl ?_
    refine x_gR (z := some 129) T_143_36 F_14_0 (hP.o xo_2175) (hP.rc xo_2175 rfl rfl) ?_
    refine x_lr (z := some pr) T_143_39 rfl ?_
    refine x_lr (z := some 2175) T_143_40 rfl ?_
    refine x_gR (z := some 2178) T_143_41 F_14_2 (hP.o xo_2175) (hP.rc xo_2175 rfl rfl) ?_
    refine x_lr (z := some 2175) T_143_44 rfl ?_
    refine x_gR (z := some 129) T_143_45 F_14_0 (hP.o xo_2175) (hP.rc xo_2175 rfl rfl) ?_
    refine x_gI (z := nn) T_143_48 (Or.inl F_1_6) (hP.o xo_129) (Eq.trans (hP.gi xo_129 (key := 2038) rfl) hn0) ?_
    refine x_ic T_143_51 ?_
    refine x_ib (w := (nn - 1)) T_143_52 (fun h => absurd h.1 (by decide)) (w32_id (by omega) (by omega)) ?_
    refine x_ic T_143_53 ?_
    refine x_cv5 T_143_54 mN_121 mL_121 (Nat.le_of_ble_eq_true rfl) mO_121 (hP.o xo_129) (Nat.le_of_ble_eq_true rfl) (hwk σ V hP hF hq h10 (by omega) hor) ?_
    clear hP hwk
    rintro _ σ ⟨rfl, V5, V6, hP, hX5, hC5, hF5⟩
    refine cI ?_
    refine x_si (ls1 := [some (vR (some 2175)), some (vR (some pr)), some (vR (some k)), some (vI w), some (vL perm), none, some (vI mode), some (vI e1), none]) T_143_57 rfl ?_
    refine x_li (z := e1) T_143_59 rfl ?_
    refine x_if T_143_61 (fun h => absurd (show e1 = 0 from h) (by omega)) (fun _ => ?_)
    refine x_li (z := e1) T_143_64 rfl ?_
    refine x_ri T_143_66 ?_
    exact ⟨rfl, V5, V6, hP, by rw [if_neg q1]; exact XW.mono hX5 (by omega), fun c => absurd c q1, FT_tr (FT_fk (FK_rpf hF) (show 2178 < 2187 by decide)) (FT_fk (FK_fc hF5) (by decide))⟩
  subst q1
  rw [if_neg (show ¬ (0 : Int) < 0 by decide)]
  have hpv : 0 ≤ ch.2.2.2.2 → ch.2.2.2.2 % 8 < Q 2334 (ch.2.2.2.2 / 8) := fun h0 => by
    have hpt : ptV P p ch.2.2.2.2 := hpt
    have hgR : 0 ≤ P 2323 p ∧ P 2323 p ≤ 7 := IV.a hIV 2323 0 8 rfl rfl rfl (by omega) (by omega)
    have hpb : 0 ≤ P 2334 (P 2323 p) ∧ P 2334 (P 2323 p) ≤ 8 := IV.a hIV 2334 0 8 rfl rfl rfl (by omega) (by omega)
    rw [show Q 2334 (ch.2.2.2.2 / 8) = P 2334 (ch.2.2.2.2 / 8) from nsR_kf hwf 2334 _ rfl]
    rcases hpt with h | ⟨h1, h2, h3, h4⟩
    · omega
    · rw [show ch.2.2.2.2 / 8 = P 2323 p by omega]
      omega
  have hgo : ∀ (σ : hM) (V V5 : qR) (V6 : rR) (x8 : Option AV), RPF W V → (V 129 2049 = paO raw ∧ BY V 145 161 raw ∧ NQ V (paN raw) ∧ BY V 136 60 (paL raw)) → PX σ0 V5 V6 σ → XW K (T + 28 * (((paM raw).dropLast.length : Nat) : Int) + 12) U V5 V6 Q → CHX V5 V6 2178 ch → chR ch → FC 2178 V V5 R V6 → WP fb (d + 10) 143 67 [some (vR (some 2175)), some (vR (some pr)), some (vR (some k)), some (vI w), some (vL perm), none, some (vI mode), some (vI 0), x8] [] σ (XMT σ0 K (T + 320) U W R (kMk (kPlc Q ch) ((paM raw).getD ((paM raw).length - 1) []) perm mode)) := fun σ V V5 V6 x8 hF hq hP hX5 hc1 hc2 hF5 => by
    have hnm := (paN_nms hq.2.1 hr1 hq.2.2.1) ((paM raw).length - 1) (by omega)
    have hnx := hnm.1
    rw [show (0 : Int) + (((paM raw).length - 1 : Nat) : Int) = nn - 1 by omega] at hnx
    have := mt_67 (fb := fb) (d := d) (W := W) (R := R) (pr := pr) (w := w) (x8 := x8) (perm := perm) (mode := mode) (n := nn) hP hX5 (by omega) hk hc1 hc2 (hF5.by2 hq.2.1 (by decide) (Or.inr rfl)) ((hF5.kn (by decide)).1.trans (by rw [hq.2.2.1.1]; omega)) (by omega) (hnx.fc hF5 (by decide) (by omega)) hnm.2.1 hpm hmd (FT_tr (FT_fk (FK_rpf hF) (by decide)) (FT_fk (FK_fc hF5) (by decide))) hpv
    refine this.mono (fun r σ' h => ?_)
    obtain ⟨rfl, V7, V8, g1, g2, g3, g4⟩ := h
    exact ⟨rfl, V7, V8, g1, XW.mono g2 (by omega), g3, g4⟩
  refine CL_in mL_143 rfl ?_
  show WP fb _ 143 0 [some (vR (some 2175)), some (vR (some pr)), some (vR (some k)), some (vI w), some (vL perm), none, some (vI mode), none, none] [] σ _
  refine x_lr (z := some 2175) T_143_0 rfl ?_
  refine x_gR (z := some 129) T_143_1 F_14_0 (hP.o xo_2175) (hP.rc xo_2175 rfl rfl) ?_
  refine x_lr (z := some pr) T_143_4 rfl ?_
  refine x_lr (z := some k) T_143_5 rfl ?_
  refine x_li (z := w) T_143_6 rfl ?_
  refine x_cv4 T_143_7 mN_118 mL_118 (Nat.le_of_ble_eq_true rfl) mO_118 (hP.o xo_129) (Nat.le_of_ble_eq_true rfl) (hrd) ?_
  clear hP hrd
  rintro _ σ ⟨rfl, V, hP, hF, hq⟩
  have hq := hq rfl
  have hn0 : V 129 2038 = nn := by rw [hq.2.2.1.1]; omega
  refine cI ?_
  refine x_si (ls1 := [some (vR (some 2175)), some (vR (some pr)), some (vR (some k)), some (vI w), some (vL perm), none, some (vI mode), some (vI 0), none]) T_143_10 rfl ?_
  refine x_li (z := 0) T_143_12 rfl ?_
  refine x_if T_143_14 (fun h => absurd (show ¬ (0 : Int) = 0 from h) (by decide)) (fun _ => ?_)
  refine x_lr (z := some 2175) T_143_17 rfl ?_
  refine x_gR (z := some 129) T_143_18 F_14_0 (hP.o xo_2175) (hP.rc xo_2175 rfl rfl) ?_
  refine x_gI (z := nn) T_143_21 (Or.inl F_1_6) (hP.o xo_129) (Eq.trans (hP.gi xo_129 (key := 2038) rfl) hn0) ?_
  refine x_if T_143_24 (fun _ => ?_) (fun h => absurd (show ¬ nn = 0 by omega) h)
  refine x_li (z := 0) T_143_30 rfl ?_
  refine x_if T_143_32 (fun h => absurd (show ¬ (0 : Int) = 0 from h) (by decide)) (fun _ => ?_)
  refine x_lr (z := some 2175) T_143_35 rfl ?_
  refine x_gR (z := some 129) T_143_36 F_14_0 (hP.o xo_2175) (hP.rc xo_2175 rfl rfl) ?_
  refine x_lr (z := some pr) T_143_39 rfl ?_
  refine x_lr (z := some 2175) T_143_40 rfl ?_
  refine x_gR (z := some 2178) T_143_41 F_14_2 (hP.o xo_2175) (hP.rc xo_2175 rfl rfl) ?_
  refine x_lr (z := some 2175) T_143_44 rfl ?_
  refine x_gR (z := some 129) T_143_45 F_14_0 (hP.o xo_2175) (hP.rc xo_2175 rfl rfl) ?_
  refine x_gI (z := nn) T_143_48 (Or.inl F_1_6) (hP.o xo_129) (Eq.trans (hP.gi xo_129 (key := 2038) rfl) hn0) ?_
  refine x_ic T_143_51 ?_
  refine x_ib (w := (nn - 1)) T_143_52 (fun h => absurd h.1 (by decide)) (w32_id (by omega) (by omega)) ?_
  refine x_ic T_143_53 ?_
  refine x_cv5 T_143_54 mN_121 mL_121 (Nat.le_of_ble_eq_true rfl) mO_121 (hP.o xo_129) (Nat.le_of_ble_eq_true rfl) (hwk σ V hP hF hq h10 (by omega) hor) ?_
  clear hP hwk
  rintro _ σ ⟨rfl, V5, V6, hP, hX5, hC5, hF5⟩
  obtain ⟨hc1, hc2⟩ := hC5 rfl
  refine cI ?_
  refine x_si (ls1 := [some (vR (some 2175)), some (vR (some pr)), some (vR (some k)), some (vI w), some (vL perm), none, some (vI mode), some (vI 0), none]) T_143_57 rfl ?_
  refine x_li (z := 0) T_143_59 rfl ?_
  refine x_if T_143_61 (fun _ => ?_) (fun h => absurd (show (0 : Int) = 0 by rfl) h)
  exact hgo σ V V5 V6 _ hF hq hP hX5 hc1 hc2 hF5
end XMKX
