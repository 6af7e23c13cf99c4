/-! The class's servers: a file is written. -/
theorem T_79_91 : hTab 79 91 = some ((3, 0, 2, []), 92) := rfl
theorem T_79_92 : hTab 79 92 = some ((3, 1, 2, []), 93) := rfl
theorem T_79_93 : hTab 79 93 = some ((3, 6, 0, []), 95) := rfl
theorem T_79_95 : hTab 79 95 = some ((3, 1, 2, []), 96) := rfl
theorem T_79_96 : hTab 79 96 = some ((24, 8, Int.ofNat 10, []), 99) := rfl
theorem T_79_99 : hTab 79 99 = some ((31, 80, 0, []), 102) := rfl
theorem T_79_102 : hTab 79 102 = some ((31, 62, 0, []), 105) := rfl
theorem T_79_105 : hTab 79 105 = some ((3, 1, 2, []), 106) := rfl
theorem T_79_106 : hTab 79 106 = some ((3, 2, 0, []), 107) := rfl
theorem T_79_107 : hTab 79 107 = some ((31, 45, 0, []), 110) := rfl
theorem T_79_110 : hTab 79 110 = some ((3, 3, 1, []), 111) := rfl
theorem T_79_111 : hTab 79 111 = some ((15, 0, 0, []), 112) := rfl
theorem T_79_112 : hTab 79 112 = some ((4, 7, 0, []), 114) := rfl
section XWBB
variable {fb : Bool} {d S a c c0 rp mb m0 N M fa pr : Nat} {σ0 σ σ' : hM} {W W1 W2 W3 P Q : qR} {R R1 R2 : rR} {b i k x z v s e w f u p g ln K T U C y off cnt n md : Int} {ord l l2 nm lo D L li : List Int} {t : Nat → Nat} {r : Option AV} {F : Int → Int}
theorem FV_fill {m : Int} (ha : S ≤ a ∧ a < S + 294) (h0 : 0 < S ∧ S + 294 ≤ 2372) (hc : R a 2267 = some c) (h2 : 2372 ≤ c) : FV S rp W (cW W c b F m) R R := ⟨fun x k _ _ _ _ _ => cW_x (by omega), fun _ _ _ => rfl, ⟨rfl, rfl, cW_x (by omega)⟩, fun c' k _ _ q => cW_x (fun e => q a ha.1 ha.2 (by rw [e]; exact hc)), by rw [cW_x (by omega)]; exact Int.le_refl _, fun _ => Or.inl rfl⟩
/-- the bytes are written, then the file has grown -/
theorem gWr_to (h0 : 0 < cnt) (hl : (l2.length : Int) = cnt) (he : e = b + cnt) (hln : P 2297 (64 * s + n) = ln) : gWr P s n u b l2 = rW (gGrow (gSize P s n (if ln ≤ e then e else ln)) s n u) 2300 (600 * (64 * s + n) + b) l2 := by
  have e1 : gSize P s n (if ln ≤ e then e else ln) = if P 2297 (64 * s + n) < b + l2.length then gSize P s n (b + l2.length) else P := by
    rw [hl, hln, ← he]
    by_cases q : ln < e
    · rw [if_pos q, if_pos (by omega)]
    · rw [if_neg q]
      by_cases q2 : ln ≤ e
      · rw [if_pos q2, show e = P 2297 (64 * s + n) by omega, gSize_same]
      · rw [if_neg q2, ← hln, gSize_same]
  unfold gWr
  rw [if_pos (by omega), e1]
  unfold gGrow
  rw [rW_f (by decide), rW_rU (by decide), rW_rU (by decide)]
/-- there is room, there are bytes -/
theorem wb_91 (hP : PX σ0 W R σ) (hS : VS S s) (hX : XV W R P S s ord t) (hK : CT K W R) (hG : GI T U P) (hD : TI P) (hT : T + 49 ≤ 2147483000) (qs : s < 2) (hi : 0 ≤ i ∧ i < ord.length) (ha : S + 6 + 3 * t i.toNat = a) (hn : lg ord i = n) (hd : 0 ≤ qMode P s n) (hu3 : 0 ≤ u ∧ u ≤ 3) (hr : R S 2233 = some mb) (hB : BY W mb M l) (hz : (l.length : Int) = z) (hcn : 0 < cnt ∧ cnt + 23 = z) (hb : 0 ≤ b ∧ b + cnt ≤ 600) (he : e = b + cnt) (hmo : mb + 1 < S ∨ S + 294 ≤ mb) : WP fb (d + 1) 79 91 [some (vR (some S)), some (vR (some a)), some (vI u), some (vL b), none, some (vI cnt), some (vI e), none] [] σ (fun r σ' => r = some (vI 0) ∧ ∃ W2 R2, PX σ0 W2 R2 σ' ∧ XV W2 R2 (gWr P s n u b (seg (lg l) 23 cnt.toNat)) S s ord t ∧ CT K W2 R2 ∧ FV S 0 W W2 R R2) := by
  have hO := hS.o
  have hsr := hS.1
  have hrg := hS.rng
  have hl := hX.1.1.2.1
  have hti := hX.1.2.1.1 i.toNat (by omega)
  have hlv := (hX.1.1.1 _).mp (lg_mem hi.1 hi.2)
  rw [hn] at hlv
  have hlt := isN_lt qs hlv
  have hND := hX.1.2.2.2.1 i hi.1 hi.2
  rw [ha, hn] at hND
  have hno : tX a = some (Sum.inl 8) := hND.1
  obtain ⟨ln, hln⟩ : ∃ q, P 2297 (64 * s + n) = q := ⟨_, rfl⟩
  have hl6 : 0 ≤ P 2297 (64 * s + n) ∧ P 2297 (64 * s + n) ≤ 600 := IV.a hG.iv 2297 0 128 rfl rfl rfl (by omega) (by omega)
  rw [hln] at hl6
  have hlen := hND.2.2.2.2.2.2.2.1.1
  rw [show qLen P s n = P 2297 (64 * s + n) from if_pos ⟨qs, hd⟩, hln] at hlen
  obtain ⟨mx, hmx⟩ : ∃ q, (if ln ≤ e then e else ln) = q := ⟨_, rfl⟩
  have hmr : 0 < mx ∧ mx ≤ 600 ∧ e ≤ mx := by rw [← hmx]; split <;> omega
  have hver2 : qVer P s n ≤ T := by
    have ba : 0 ≤ P 2292 (64 * s + n) ∧ P 2292 (64 * s + n) ≤ T := IV.a hG.iv 2292 0 128 rfl rfl rfl (by omega) (by omega)
    unfold qVer
    rw [if_pos qs]
    exact ba.2
  have egw := gWr_to (P := P) (s := s) (n := n) (u := u) (b := b) (ln := ln) (l2 := seg (lg l) 23 cnt.toNat) hcn.1 (by rw [seg_len]; omega) he hln
  rw [hmx] at egw
  rw [egw]
  have hmax := fun (σ : hM) => x_max (fb := fb) (d := d) (σ := σ) (u := e) (v := ln)
  rw [hmx] at hmax
  have hrs := x_resize (fb := fb) (d := d) (rp := 0) (z := mx) hP hS hX hK hG.iv qs hi ha hn hd ⟨by omega, hmr.2.1⟩
  have hrest : ∀ (σ : hM) (W2 : qR) (R2 : rR), PX σ0 W2 R2 σ → XV W2 R2 (gSize P s n mx) S s ord t → CT K W2 R2 → FV S 0 W W2 R R2 → WP fb (d + 1) 79 105 [some (vR (some S)), some (vR (some a)), some (vI u), some (vL b), none, some (vI cnt), some (vI e), none] [] σ (fun r σ' => r = some (vI 0) ∧ ∃ W2 R2, PX σ0 W2 R2 σ' ∧ XV W2 R2 (rW (gGrow (gSize P s n mx) s n u) 2300 (600 * (64 * s + n) + b) (seg (lg l) 23 cnt.toNat)) S s ord t ∧ CT K W2 R2 ∧ FV S 0 W W2 R R2) := fun σ W2 R2 hP hX2 hK2 hF2 => by
    have rl : ∀ f k, [2300, 2301, 2297].elem f = false → gSize P s n mx f k = P f k := RF_gSize
    have hND2 := hX2.1.2.2.2.1 i hi.1 hi.2
    rw [ha, hn] at hND2
    have hv2 := hND2.2.2.2.1
    have eV : qVer (gSize P s n mx) s n = qVer P s n := by
      unfold qVer
      rw [if_pos qs, if_pos qs, rl _ _ rfl]
    obtain ⟨vr, hvr⟩ : ∃ q, qVer (gSize P s n mx) s n = q := ⟨_, rfl⟩
    rw [hvr] at hv2 eV
    have hvr2 : vr < 2147483647 := by omega
    have elen : gSize P s n mx 2297 (64 * s + n) = mx := rU_s
    have h6S : ∀ n', s < 2 → isN (gSize P s n mx) s n' → gSize P s n mx 2297 (64 * s + n') ≤ 600 := fun n' _ hn' => by
      by_cases q : n' = n
      · rw [q, elen]
        exact hmr.2.1
      · have e9 : gSize P s n mx 2297 (64 * s + n') = P 2297 (64 * s + n') := by
          unfold gSize
          rw [rU_k (by omega), rU_f (by decide)]
          exact if_neg (fun q2 => absurd q2.1 (by decide))
        rw [e9]
        exact XV.len6 hG.iv hsr.1 n' qs ((isN_tree qs (fun k => rl _ _ rfl)).mp hn')
    have hgrw := x_grew (fb := fb) (d := d) (u := u) hP hno hv2.1 ⟨hv2.2.1, hvr2⟩
    have hX3 := hX2.grow (a := a) (u := u) hS h6S qs hi ha hn hvr hvr2 hu3
    have hlG : ∀ n', isN (gGrow (gSize P s n mx) s n u) s n' ↔ isN (gSize P s n mx) s n' := fun n' => isN_tree qs (fun k => gGrow_f (by decide) (by decide))
    have h6G : ∀ n', s < 2 → isN (gGrow (gSize P s n mx) s n u) s n' → gGrow (gSize P s n mx) s n u 2297 (64 * s + n') ≤ 600 := fun n' q hn' => by
      rw [gGrow_f (by decide) (by decide)]
      exact h6S n' q ((hlG n').mp hn')
    obtain ⟨_, hct⟩ := (hX2.2.2.2 i hi.1 hi.2).1 qs
    rw [ha, hn, elen] at hct
    obtain ⟨c, hc, hc2, _⟩ := hct.resolve_left (by omega)
    have hcl := (hK2.1 a c hc).2.2
    have hF3 : FV S 0 W2 (rU (rU W2 a 2261 (vr + 1)) a 2265 u) R2 R2 := FV_tr (FV_own (by omega) (by omega) (by omega)) (FV_own (by omega) (by omega) (by omega))
    have hK3 : CT K (rU (rU W2 a 2261 (vr + 1)) a 2265 u) R2 := (hK2.drop (by omega) (by decide)).drop (by omega) (by decide)
    have hB3 : BY (rU (rU W2 a 2261 (vr + 1)) a 2265 u) mb M l := ((FV_by hF2 hB hmo (by have := (tX_o hB.1).1; omega)).key (by decide) (by decide)).key (by decide) (by decide)
    have hr3 : R2 S 2233 = some mb := hF2.2.2.1.1.trans hr
    have hcl3 : (c : Int) < rU (rU W2 a 2261 (vr + 1)) a 2265 u 0 0 := by
      rw [rU_j (by decide), rU_j (by decide)]
      exact hcl
    obtain ⟨W3, hW3⟩ : ∃ q, rU (rU W2 a 2261 (vr + 1)) a 2265 u = q := ⟨_, rfl⟩
    rw [hW3] at hgrw hX3 hF3 hK3 hB3 hcl3
    have hXF := hX3.fill (m := cnt.toNat) (F := fun j => lg l (23 + j)) (b := b) hS qs hK3 h6G hi ha hn hc (by omega)
    have hseg : seg (fun j => lg l (23 + j)) 0 cnt.toNat = seg (lg l) 23 cnt.toNat := seg_seg.mpr (fun j _ _ => by
      show lg l (23 + (0 + j)) = lg l (23 + j)
      rw [Int.zero_add])
    rw [hseg, show ((cnt.toNat : Nat) : Int) = cnt by omega] at hXF
    have hloop := fun (σ : hM) (hP : PX σ0 W3 R2 σ) => WP.mono (wr_loop (fb := fb) (d := d) (u := u) hO hno hc hc2 hcl3 hr3 hB3 hz ⟨by omega, hcn.2⟩ hb he cnt.toNat 0 b σ (by omega) (by decide) (by omega) (by rw [cW_z]; exact hP)) (Q := fun r σ' => r = some (vI 0) ∧ ∃ W2 R2, PX σ0 W2 R2 σ' ∧ XV W2 R2 (rW (gGrow (gSize P s n mx) s n u) 2300 (600 * (64 * s + n) + b) (seg (lg l) 23 cnt.toNat)) S s ord t ∧ CT K W2 R2 ∧ FV S 0 W W2 R R2) (fun r1 σ1 h => ⟨h.1, _, R2, h.2, hXF, hK3.fv (cW_x (by omega)) (cW_x (by omega)) (fun _ => rfl), FV_tr (FV_tr hF2 hF3) (FV_fill (by omega) (by omega) hc hc2)⟩)
    clear hX2 hK2 hX3 hXF hK3 hF3 hF2
    refine x_lr (z := some a) T_79_105 rfl ?_
    refine x_li (z := u) T_79_106 rfl ?_
    refine x_cv2 T_79_107 mN_45 mL_45 (Nat.le_of_ble_eq_true rfl) mO_45 (hP.o hno) (Nat.le_of_ble_eq_true rfl) (hgrw) ?_
    clear hP hgrw
    rintro _ σ ⟨rfl, hP⟩
    refine cV ?_
    refine x_ll (z := b) T_79_110 rfl ?_
    refine x_l2i (w := b) T_79_111 (w32_id (by omega) (by omega)) ?_
    refine x_si (ls1 := [some (vR (some S)), some (vR (some a)), some (vI u), some (vL b), none, some (vI cnt), some (vI e), some (vI b)]) T_79_112 rfl ?_
    exact hloop σ hP
  clear hX hK egw
  refine x_lr (z := some S) T_79_91 rfl ?_
  refine x_lr (z := some a) T_79_92 rfl ?_
  refine x_li (z := e) T_79_93 rfl ?_
  refine x_lr (z := some a) T_79_95 rfl ?_
  refine x_gI (z := ln) T_79_96 (Or.inl F_8_10) (hP.o hno) (Eq.trans (hP.gi hno (key := 2266) rfl) hlen) ?_
  refine x_cs2 T_79_99 mN_80 mL_80 (Nat.le_of_ble_eq_true rfl) mK_80 (Nat.le_of_ble_eq_true rfl) (hmax σ) ?_
  rintro _ σ ⟨rfl, rfl⟩
  refine cI ?_
  refine x_cv3 T_79_102 mN_62 mL_62 (Nat.le_of_ble_eq_true rfl) mO_62 (hP.o hO) (Nat.le_of_ble_eq_true rfl) (hrs) ?_
  clear hP hrs hmax
  rintro _ σ ⟨rfl, W2, R2, hP, hX2, hK2, hF2⟩
  refine cV ?_
  exact hrest σ W2 R2 hP hX2 hK2 hF2
end XWBB
