/-! The class's place: may it be, what is gathered. -/
theorem T_174_72 : hTab 174 72 = some ((3, 0, 2, []), 73) := rfl
theorem T_174_73 : hTab 174 73 = some ((3, 4, 2, []), 75) := rfl
theorem T_174_75 : hTab 174 75 = some ((3, 2, 0, []), 76) := rfl
theorem T_174_76 : hTab 174 76 = some ((0, 0, 4, []), 77) := rfl
theorem T_174_77 : hTab 174 77 = some ((10, 5, 0, []), 78) := rfl
theorem T_174_78 : hTab 174 78 = some ((18, 0, Int.ofNat 85, []), 81) := rfl
theorem T_174_81 : hTab 174 81 = some ((0, 0, 1, []), 82) := rfl
theorem T_174_82 : hTab 174 82 = some ((22, 0, Int.ofNat 86, []), 85) := rfl
theorem T_174_85 : hTab 174 85 = some ((0, 0, 0, []), 86) := rfl
theorem T_174_86 : hTab 174 86 = some ((31, 176, 0, []), 89) := rfl
theorem T_174_89 : hTab 174 89 = some ((4, 6, 0, []), 91) := rfl
theorem T_174_91 : hTab 174 91 = some ((3, 6, 0, []), 93) := rfl
theorem T_174_93 : hTab 174 93 = some ((18, 0, Int.ofNat 123, []), 96) := rfl
theorem T_174_123 : hTab 174 123 = some ((3, 4, 2, []), 125) := rfl
theorem T_174_125 : hTab 174 125 = some ((20, 0, Int.ofNat 140, []), 128) := rfl
theorem T_174_128 : hTab 174 128 = some ((3, 0, 2, []), 129) := rfl
theorem T_174_129 : hTab 174 129 = some ((24, 14, Int.ofNat 0, []), 132) := rfl
theorem T_174_132 : hTab 174 132 = some ((3, 0, 2, []), 133) := rfl
theorem T_174_133 : hTab 174 133 = some ((24, 14, Int.ofNat 2, []), 136) := rfl
theorem T_174_136 : hTab 174 136 = some ((31, 132, 0, []), 139) := rfl
theorem T_174_139 : hTab 174 139 = some ((7, 0, 0, []), 140) := rfl
section XBNK
variable {fb : Bool} {d n a0 y ga : Nat} {σ0 σ : hM} {W W0 W1 W2 W3 W5 V P P0 Q Q0 Q3 : qR} {R R0 R1 R2 R3 R5 : rR} {i j k z v s e w f g u p pt pa dr sv K T U t N C F v1 st b0 fs T0 old fr mk d1 d2 : Int} {x : Nw} {ns A B L nws : List Nw} {y1 y2 : Option Nat} {c1 c2 ch : Ch} {h h2 : List Ch} {b a c : Bool}
/-- behind the refusals: channel one itself -/
theorem pl_72s (hP : PX σ0 W R σ) (hX : XW K T U W R P) (hg : 0 ≤ g ∧ g < 8) (hT : T + 300 ≤ 2147483000) (h1 : CHX W R 2178 c1) (r1 : chR c1) (h2 : CHX W R 2179 c2) (r2 : chR c2) (hx1 : okC T c1) (hx2 : okC T c2) (hsum : bnSum P c1.2.2.2.2 old (bfV b) (bhV b a) ≤ 6) (hmany : bnMany P c1.2.2.2.2 old = 1) (hold : old < 64) (hy : PT2 R P g old y2) (hnew : old < 0 → P 2334 g < 8) : WP fb (d + 10) 174 72 [some (vR (some 2175)), some (vR (some (grO g))), some (vI (fV b a c)), some (vR y2), some (vR none), some (vI (beV b a)), some (vI 0), none, none, none] [] σ (XCM σ0 K (T + 28) U W R (0, plcF P g old (-1) (bfV c) [c1, c2] c2 b a, [])) := by
  have hgo3 := grO_o hg
  have hrg := grO_rng hg
  have hga := x_gather0 (fb := fb) (d := d) hP hX h1 (bfV_01 (b := c))
  obtain ⟨f3, f1, f4⟩ := fV_and (b := b) (a := a) (c := c)
  rw [bfV_fV] at f1
  have hmo : old < 0 ∨ 0 ≤ P 2337 old := by
    by_cases q : old < 0
    · exact Or.inl q
    · exact Or.inr (IV.a hX.1.2.2.2.1.iv 2337 0 64 rfl rfl rfl (by omega) (by omega)).1
  obtain ⟨hb1, hb2, hb3, hb4, hb5⟩ := bhV_01 (b := b) (a := a) (c := c)
  have hjl := jnL_len (P := P) (h := [c1, c2]) (c := c2) (old := old) (fr := -1) (bf := bfV b) (bh := bhV b a) (mk := bfV c) (m := 1) bfV_01 hb1 hb2 rfl hmo
  unfold bnSum at hsum
  rw [hmany] at hsum
  have hgo := fun (σ : hM) (V : qR) (V4 : rR) (hP : PX σ0 V V4 σ) (hX2 : XW K T U V V4 P) (hC : CPS V [chN c1 (bfV c)]) (hF : FGA W V R V4) => by
    have h2V := h2.fga hF (by decide) (by decide) r2.2.2
    exact WP.mono (pl_140 (fb := fb) (d := d) (nws := [chN c1 (bfV c)]) (h := [c1, c2]) (fr := -1) (mk := bfV c) (old := old) (y1 := none) (y2 := y2) (F := fV b a c) (b := b) (a := a) hP hX2 hg (by omega) ⟨h2V.1, h2V.2.1, h2V.2.2.1, h2V.2.2.2.1⟩ r2 hx2 hC rfl (fun x hx => by rw [List.mem_singleton.mp hx]; exact hx1.nw bfV_01) (Nat.le_refl 1) (by
      rw [show (1 : Int) + (if old < 0 then 1 else P 2337 old) = 1 + (if old < 0 then 1 else P 2337 old) from rfl] at hjl
      split at hsum
      · rename_i q
        rw [if_pos q] at hjl
        omega
      · rename_i q
        rw [if_neg q] at hjl
        omega) (hy.eqv (fun k => hF.2 _ _ (Or.inl ⟨by omega, by omega⟩) (by omega)) rfl) hnew f1) (fun r σ1 hr => XCM.base (T0 := T + 28) (FGA_fcm hF) (by omega) hr)
  obtain ⟨F, hF⟩ : ∃ F, fV b a c = F := ⟨_, rfl⟩
  obtain ⟨B, hB⟩ : ∃ B, beV b a = B := ⟨_, rfl⟩
  simp only [hF, hB] at hgo f4 ⊢
  obtain ⟨ga, hga2⟩ : ∃ q, grO g = q := ⟨_, rfl⟩
  simp only [hga2] at hgo hgo3 ⊢
  by_cases q : bfV c = 0
  · have q4 := hb5.mpr q
    rw [q] at hga
    simp only [q] at hgo ⊢
    refine x_lr (z := some 2175) T_174_72 rfl ?_
    refine x_lr (z := none) T_174_73 rfl ?_
    refine x_li (z := F) T_174_75 rfl ?_
    refine x_ic T_174_76 ?_
    refine x_ib (w := (fV false false c)) T_174_77 (fun h => absurd h.1 (by decide)) f4 ?_
    refine x_if T_174_78 (fun _ => ?_) (fun h => absurd (show (fV false false c) = 0 by exact q4) h)
    refine x_ic T_174_85 ?_
    refine x_cv3 T_174_86 mN_176 mL_176 (Nat.le_of_ble_eq_true rfl) mO_176 (hP.o xo_2175) (Nat.le_of_ble_eq_true rfl) (hga) ?_
    clear hP hga
    rintro _ σ ⟨rfl, V, V4, hP, hX2, hC2, hF2⟩
    refine cI ?_
    refine x_si (ls1 := [some (vR (some 2175)), some (vR (some ga)), some (vI F), some (vR y2), some (vR none), some (vI B), some (vI 0), none, none, none]) T_174_89 rfl ?_
    refine x_li (z := 0) T_174_91 rfl ?_
    refine x_if T_174_93 (fun _ => ?_) (fun h => absurd (show (0 : Int) = 0 by decide) h)
    refine x_lr (z := none) T_174_123 rfl ?_
    refine x_nul T_174_125 (fun _ => ?_) (fun a0 h0 => absurd h0 (by simp))
    exact hgo σ V V4 hP hX2 hC2 hF2
  · have q1 : bfV c = 1 := by have := bfV_01 (b := c); omega
    have q4 : ¬ fV false false c = 0 := fun e => q (hb5.mp e)
    rw [q1] at hga
    simp only [q1] at hgo ⊢
    refine x_lr (z := some 2175) T_174_72 rfl ?_
    refine x_lr (z := none) T_174_73 rfl ?_
    refine x_li (z := F) T_174_75 rfl ?_
    refine x_ic T_174_76 ?_
    refine x_ib (w := (fV false false c)) T_174_77 (fun h => absurd h.1 (by decide)) f4 ?_
    refine x_if T_174_78 (fun h => absurd (show (fV false false c) = 0 from h) (by exact q4)) (fun _ => ?_)
    refine x_ic T_174_81 ?_
    refine x_goto T_174_82 ?_
    refine x_cv3 T_174_86 mN_176 mL_176 (Nat.le_of_ble_eq_true rfl) mO_176 (hP.o xo_2175) (Nat.le_of_ble_eq_true rfl) (hga) ?_
    clear hP hga
    rintro _ σ ⟨rfl, V, V4, hP, hX2, hC2, hF2⟩
    refine cI ?_
    refine x_si (ls1 := [some (vR (some 2175)), some (vR (some ga)), some (vI F), some (vR y2), some (vR none), some (vI B), some (vI 0), none, none, none]) T_174_89 rfl ?_
    refine x_li (z := 0) T_174_91 rfl ?_
    refine x_if T_174_93 (fun _ => ?_) (fun h => absurd (show (0 : Int) = 0 by decide) h)
    refine x_lr (z := none) T_174_123 rfl ?_
    refine x_nul T_174_125 (fun _ => ?_) (fun a0 h0 => absurd h0 (by simp))
    exact hgo σ V V4 hP hX2 hC2 hF2
/-- .. the members of channel one's point -/
theorem pl_72p (hP : PX σ0 W R σ) (hX : XW K T U W R P) (hg : 0 ≤ g ∧ g < 8) (hT : T + 500 ≤ 2147483000) (h1 : CHX W R 2178 c1) (r1 : chR c1) (h2 : CHX W R 2179 c2) (r2 : chR c2) (hx1 : okC T c1) (hx2 : okC T c2) (hsum : bnSum P c1.2.2.2.2 old (bfV b) (bhV b a) ≤ 6) (hfr : 0 ≤ c1.2.2.2.2 ∧ ¬ c1.2.2.2.2 = old) (hPM : PTM W R y P c1.2.2.2.2) (hmn : 1 ≤ P 2337 c1.2.2.2.2) (hold : old < 64) (hy : PT2 R P g old y2) (hnew : old < 0 → P 2334 g < 8) : WP fb (d + 10) 174 72 [some (vR (some 2175)), some (vR (some (grO g))), some (vI (fV b a c)), some (vR y2), some (vR (some y)), some (vI (beV b a)), some (vI 0), none, none, none] [] σ (XCM σ0 K (T + 56) U W R (if 0 < (bnK P c1 c2).1 then bnK P c1 c2 else (0, plcF (kDrop (bnK P c1 c2).2.1 c1) g old c1.2.2.2.2 (bfV c) (bnK P c1 c2).2.2 c2 b a, []))) := by
  have hgo3 := grO_o hg
  have hrg := grO_rng hg
  have hyo := hPM.1
  have hI := hX.1.2.2.2.1.iv
  have hfr64 := r1.2.2
  have hmn6 : 0 ≤ P 2337 c1.2.2.2.2 ∧ P 2337 c1.2.2.2.2 ≤ 6 := IV.a hI 2337 0 64 rfl rfl rfl (by omega) (by omega)
  obtain ⟨fr, hfre⟩ : ∃ fr, c1.2.2.2.2 = fr := ⟨_, rfl⟩
  rw [hfre] at hfr hPM hmn hsum hmn6 hfr64 ⊢
  obtain ⟨n6, hn6⟩ : ∃ n6, P 2337 fr = n6 := ⟨_, rfl⟩
  have eb : bnK P c1 c2 = kCps fr n6.toNat 0 P [c1, c2] := by
    unfold bnK
    rw [hfre, hn6]
  have hga := x_gather (fb := fb) (d := d) (h0 := [c1, c2]) hP hX (by omega) hPM ⟨hfr.1, hfr64⟩ hn6 (bfV_01 (b := c))
  obtain ⟨t, ht1, ht2, ht3⟩ := kCps_app (fr := fr) n6.toNat 0 P [c1, c2]
  have hok := kCps_ok (P0 := P) hI ⟨hfr.1, hfr64⟩ n6.toNat 0 P [c1, c2] KF_rfl (by decide) (by omega) (fun x hx => by
    rcases List.mem_cons.mp hx with q | q
    · rw [q]; exact hx1
    · rw [List.mem_singleton.mp q]; exact hx2)
  have hkf := kCps_kf (fr := fr) n6.toNat 0 P [c1, c2]
  rw [← eb] at hga ht1 ht2 ht3 hok hkf
  obtain ⟨f3, f1, f4⟩ := fV_and (b := b) (a := a) (c := c)
  rw [bfV_fV] at f1
  obtain ⟨hb1, hb2, hb3, hb4, hb5⟩ := bhV_01 (b := b) (a := a) (c := c)
  obtain ⟨A, hA⟩ : ∃ A, bnK P c1 c2 = A := ⟨_, rfl⟩
  rw [hA] at hga ht1 ht2 ht3 hok hkf ⊢
  obtain ⟨e, Q, hh⟩ := A
  dsimp only at hga ht1 ht2 ht3 hok hkf ⊢
  unfold bnSum bnMany at hsum
  rw [if_pos hfr, hn6] at hsum
  rw [hn6] at hmn hmn6
  have hgk := grO_rng hg
  by_cases q : e = 0
  · rw [if_neg (by omega)]
    subst q
    have hlt := ht2 rfl
    have hgo := fun (σ : hM) (V V5 : qR) (V4 V6 : rR) (h2l : List Ch) (hE : hh = [c1, c2] ++ h2l) (hP : PX σ0 V5 V6 σ) (hX2 : XW K (T + 28) U V5 V6 (kDrop Q c1)) (hC : CPS V (nwL P fr (bfV c) h2l 0)) (hF : FGA W V R V4) (hA : FA V V5 V4 V6) => by
      have htl : h2l = t := List.append_cancel_left (hE.symm.trans ht1)
      have hll : h2l.length = n6.toNat := by rw [htl]; exact hlt
      have h2V := (h2.fga hF (by decide) (by decide) r2.2.2).fa hA (by decide) (by decide) r2.2.2
      have hk2 : KF (kDrop Q c1) P := KF_tr KF_tP hkf
      have hnws : nwL P fr (bfV c) h2l 0 = news (kDrop Q c1) fr (bfV c) hh := by
        unfold news
        rw [if_neg (by omega), hE, nwL_kf hk2]
        rfl
      have hmo : old < 0 ∨ 0 ≤ kDrop Q c1 2337 old := by
        by_cases q : old < 0
        · exact Or.inl q
        · rw [nsR_kf hk2 2337 _ rfl]
          exact Or.inr (IV.a hI 2337 0 64 rfl rfl rfl (by omega) (by omega)).1
      have hjl := jnL_len (P := kDrop Q c1) (h := hh) (c := c2) (old := old) (fr := fr) (bf := bfV b) (bh := bhV b a) (mk := bfV c) (m := n6) bfV_01 hb1 hb2 (by rw [← hnws, nwL_len, hll]; omega) hmo
      rw [nsR_kf hk2 2337 _ rfl] at hjl
      exact WP.mono (pl_140 (fb := fb) (d := d) (nws := nwL P fr (bfV c) h2l 0) (h := hh) (fr := fr) (mk := bfV c) (old := old) (y1 := some y) (y2 := y2) (F := fV b a c) (b := b) (a := a) hP hX2 hg (by omega) ⟨h2V.1, h2V.2.1, h2V.2.2.1, h2V.2.2.2.1⟩ r2 (hx2.mono (by omega)) (hC.fa (by rw [nwL_len, hll]; omega) hA) hnws (nwL_ok h2l 0 (fun x hx => (hok x (by rw [hE]; exact List.mem_append_right _ hx)).mono (by omega))) (by rw [nwL_len, hll]; omega) (by
        split at hsum
        · rename_i q
          rw [if_pos q] at hjl
          omega
        · rename_i q
          rw [if_neg q] at hjl
          omega) (hy.eqv (fun k => (hA.ns.2 _ _ (by omega) (by omega)).trans (hF.2 _ _ (Or.inl ⟨by omega, by omega⟩) (by omega))) (nsR_kf hk2 2334 _ rfl)) (fun ho => by rw [nsR_kf hk2 2334 _ rfl]; exact hnew ho) f1) (fun r σ1 hr => XCM.base (T0 := T + 56) (FCM_tr (FGA_fcm hF) (FCM_fa hA)) (by omega) hr)
    have hck := fun (σ : hM) (V : qR) (V4 : rR) (hP : PX σ0 V V4 σ) (hX2 : XW K (T + 24) U V V4 Q) (hF : FGA W V R V4) => x_clunkC (fb := fb) (d := d + 1) hP hX2 (by omega) one_o (h1.fga hF (by decide) (by decide) r1.2.2) r1
    obtain ⟨e1, he1⟩ : ∃ q, tE Q c1.1 (mOne 120 c1.2.1) = q := ⟨_, rfl⟩
    simp only [he1] at hck
    obtain ⟨F, hF⟩ : ∃ F, fV b a c = F := ⟨_, rfl⟩
    obtain ⟨B, hB⟩ : ∃ B, beV b a = B := ⟨_, rfl⟩
    obtain ⟨QD, hQD⟩ : ∃ q, kDrop Q c1 = q := ⟨_, rfl⟩
    simp only [hF, hB, hQD] at hgo f4 hck ⊢
    obtain ⟨ga, hga2⟩ : ∃ q, grO g = q := ⟨_, rfl⟩
    simp only [hga2] at hgo hgo3 ⊢
    by_cases q : bfV c = 0
    · have q4 := hb5.mpr q
      rw [q] at hga
      simp only [q] at hgo ⊢
      refine x_lr (z := some 2175) T_174_72 rfl ?_
      refine x_lr (z := some y) T_174_73 rfl ?_
      refine x_li (z := F) T_174_75 rfl ?_
      refine x_ic T_174_76 ?_
      refine x_ib (w := (fV false false c)) T_174_77 (fun h => absurd h.1 (by decide)) f4 ?_
      refine x_if T_174_78 (fun _ => ?_) (fun h => absurd (show (fV false false c) = 0 by exact q4) h)
      refine x_ic T_174_85 ?_
      refine x_cv3 T_174_86 mN_176 mL_176 (Nat.le_of_ble_eq_true rfl) mO_176 (hP.o xo_2175) (Nat.le_of_ble_eq_true rfl) (hga) ?_
      clear hP hga
      rintro _ σ ⟨rfl, V, V4, h2l, hP, hE, hX2, -, -, hF2⟩
      obtain ⟨hX2, hC2⟩ := hX2 rfl
      have hck := hck σ V V4 hP hX2 hF2
      refine cI ?_
      refine x_si (ls1 := [some (vR (some 2175)), some (vR (some ga)), some (vI F), some (vR y2), some (vR (some y)), some (vI B), some (vI 0), none, none, none]) T_174_89 rfl ?_
      refine x_li (z := 0) T_174_91 rfl ?_
      refine x_if T_174_93 (fun _ => ?_) (fun h => absurd (show (0 : Int) = 0 by decide) h)
      refine x_lr (z := some y) T_174_123 rfl ?_
      refine x_nul T_174_125 (fun h0 => absurd h0 (by simp)) (fun _ _ => ?_)
      refine x_lr (z := some 2175) T_174_128 rfl ?_
      refine x_gR (z := some 129) T_174_129 F_14_0 (hP.o xo_2175) (hP.rc xo_2175 rfl rfl) ?_
      refine x_lr (z := some 2175) T_174_132 rfl ?_
      refine x_gR (z := some 2178) T_174_133 F_14_2 (hP.o xo_2175) (hP.rc xo_2175 rfl rfl) ?_
      refine x_cv2 T_174_136 mN_132 mL_132 (Nat.le_of_ble_eq_true rfl) mO_132 (hP.o xo_129) (Nat.le_of_ble_eq_true rfl) (hck) ?_
      clear hP hck
      rintro _ σ ⟨rfl, V5, V6, hP, hX3, hA3⟩
      refine cI ?_
      refine x_popI T_174_139 ?_
      exact hgo σ V V5 V4 V6 h2l hE hP (XW.mono hX3 (by omega)) hC2 hF2 hA3
    · have q1 : bfV c = 1 := by have := bfV_01 (b := c); omega
      have q4 : ¬ fV false false c = 0 := fun e => q (hb5.mp e)
      rw [q1] at hga
      simp only [q1] at hgo ⊢
      refine x_lr (z := some 2175) T_174_72 rfl ?_
      refine x_lr (z := some y) T_174_73 rfl ?_
      refine x_li (z := F) T_174_75 rfl ?_
      refine x_ic T_174_76 ?_
      refine x_ib (w := (fV false false c)) T_174_77 (fun h => absurd h.1 (by decide)) f4 ?_
      refine x_if T_174_78 (fun h => absurd (show (fV false false c) = 0 from h) (by exact q4)) (fun _ => ?_)
      refine x_ic T_174_81 ?_
      refine x_goto T_174_82 ?_
      refine x_cv3 T_174_86 mN_176 mL_176 (Nat.le_of_ble_eq_true rfl) mO_176 (hP.o xo_2175) (Nat.le_of_ble_eq_true rfl) (hga) ?_
      clear hP hga
      rintro _ σ ⟨rfl, V, V4, h2l, hP, hE, hX2, -, -, hF2⟩
      obtain ⟨hX2, hC2⟩ := hX2 rfl
      have hck := hck σ V V4 hP hX2 hF2
      refine cI ?_
      refine x_si (ls1 := [some (vR (some 2175)), some (vR (some ga)), some (vI F), some (vR y2), some (vR (some y)), some (vI B), some (vI 0), none, none, none]) T_174_89 rfl ?_
      refine x_li (z := 0) T_174_91 rfl ?_
      refine x_if T_174_93 (fun _ => ?_) (fun h => absurd (show (0 : Int) = 0 by decide) h)
      refine x_lr (z := some y) T_174_123 rfl ?_
      refine x_nul T_174_125 (fun h0 => absurd h0 (by simp)) (fun _ _ => ?_)
      refine x_lr (z := some 2175) T_174_128 rfl ?_
      refine x_gR (z := some 129) T_174_129 F_14_0 (hP.o xo_2175) (hP.rc xo_2175 rfl rfl) ?_
      refine x_lr (z := some 2175) T_174_132 rfl ?_
      refine x_gR (z := some 2178) T_174_133 F_14_2 (hP.o xo_2175) (hP.rc xo_2175 rfl rfl) ?_
      refine x_cv2 T_174_136 mN_132 mL_132 (Nat.le_of_ble_eq_true rfl) mO_132 (hP.o xo_129) (Nat.le_of_ble_eq_true rfl) (hck) ?_
      clear hP hck
      rintro _ σ ⟨rfl, V5, V6, hP, hX3, hA3⟩
      refine cI ?_
      refine x_popI T_174_139 ?_
      exact hgo σ V V5 V4 V6 h2l hE hP (XW.mono hX3 (by omega)) hC2 hF2 hA3
  · rw [if_pos (by omega)]
    have hgo := fun (σ : hM) (V : qR) (V4 : rR) (h2l : List Ch) (hE : hh = [c1, c2] ++ h2l) (hP : PX σ0 V V4 σ) (hX2 : XW K (T + 48) U V V4 (kDrops Q h2l)) (hF : FGA W V R V4) => (show WP fb (d + 10) 174 96 [some (vR (some 2175)), some (vR (some (grO g))), some (vI (fV b a c)), some (vR y2), some (vR (some y)), some (vI (beV b a)), some (vI e), none, none, none] [] σ (XCM σ0 K (T + 56) U W R (e, Q, hh)) from by
      have e9 : kDrops Q hh = kDrop (kDrop (kDrops Q h2l) c2) c1 := by
        rw [hE]
        rfl
      refine WP.mono (pl_96 (fb := fb) (d := d) (c1 := c1) (c2 := c2) (e := e) hP hX2 hg (by omega) (h1.fga hF (by decide) (by decide) r1.2.2) r1 (h2.fga hF (by decide) (by decide) r2.2.2) r2) (fun r σ1 hr => ?_)
      have hr := XCM.base (T0 := T + 56) (FGA_fcm hF) (by omega) hr
      obtain ⟨rfl, W9, R9, g1, g2, g3⟩ := hr
      refine ⟨rfl, W9, R9, g1, ?_, g3⟩
      show XW K (T + 56) U W9 R9 (kDrops Q hh)
      rw [e9]
      exact g2)
    obtain ⟨F, hF⟩ : ∃ F, fV b a c = F := ⟨_, rfl⟩
    obtain ⟨B, hB⟩ : ∃ B, beV b a = B := ⟨_, rfl⟩
    simp only [hF, hB] at hgo f4 ⊢
    obtain ⟨ga, hga2⟩ : ∃ q, grO g = q := ⟨_, rfl⟩
    simp only [hga2] at hgo hgo3 ⊢
    by_cases q2 : bfV c = 0
    · have q4 := hb5.mpr q2
      rw [q2] at hga
      refine x_lr (z := some 2175) T_174_72 rfl ?_
      refine x_lr (z := some y) T_174_73 rfl ?_
      refine x_li (z := F) T_174_75 rfl ?_
      refine x_ic T_174_76 ?_
      refine x_ib (w := (fV false false c)) T_174_77 (fun h => absurd h.1 (by decide)) f4 ?_
      refine x_if T_174_78 (fun _ => ?_) (fun h => absurd (show (fV false false c) = 0 by exact q4) h)
      refine x_ic T_174_85 ?_
      refine x_cv3 T_174_86 mN_176 mL_176 (Nat.le_of_ble_eq_true rfl) mO_176 (hP.o xo_2175) (Nat.le_of_ble_eq_true rfl) (hga) ?_
      clear hP hga
      rintro _ σ ⟨rfl, V, V4, h2l, hP, hE, -, hX2, -, hF2⟩
      have hX2 := hX2 q
      refine cI ?_
      refine x_si (ls1 := [some (vR (some 2175)), some (vR (some ga)), some (vI F), some (vR y2), some (vR (some y)), some (vI B), some (vI e), none, none, none]) T_174_89 rfl ?_
      refine x_li (z := e) T_174_91 rfl ?_
      refine x_if T_174_93 (fun h => absurd (show e = 0 from h) (by omega)) (fun _ => ?_)
      exact hgo σ V V4 h2l hE hP hX2 hF2
    · have q1 : bfV c = 1 := by have := bfV_01 (b := c); omega
      have q4 : ¬ fV false false c = 0 := fun e => q2 (hb5.mp e)
      rw [q1] at hga
      refine x_lr (z := some 2175) T_174_72 rfl ?_
      refine x_lr (z := some y) T_174_73 rfl ?_
      refine x_li (z := F) T_174_75 rfl ?_
      refine x_ic T_174_76 ?_
      refine x_ib (w := (fV false false c)) T_174_77 (fun h => absurd h.1 (by decide)) f4 ?_
      refine x_if T_174_78 (fun h => absurd (show (fV false false c) = 0 from h) (by exact q4)) (fun _ => ?_)
      refine x_ic T_174_81 ?_
      refine x_goto T_174_82 ?_
      refine x_cv3 T_174_86 mN_176 mL_176 (Nat.le_of_ble_eq_true rfl) mO_176 (hP.o xo_2175) (Nat.le_of_ble_eq_true rfl) (hga) ?_
      clear hP hga
      rintro _ σ ⟨rfl, V, V4, h2l, hP, hE, -, hX2, -, hF2⟩
      have hX2 := hX2 q
      refine cI ?_
      refine x_si (ls1 := [some (vR (some 2175)), some (vR (some ga)), some (vI F), some (vR y2), some (vR (some y)), some (vI B), some (vI e), none, none, none]) T_174_89 rfl ?_
      refine x_li (z := e) T_174_91 rfl ?_
      refine x_if T_174_93 (fun h => absurd (show e = 0 from h) (by omega)) (fun _ => ?_)
      exact hgo σ V V4 h2l hE hP hX2 hF2
end XBNK
