/-! The class's servers: a file is written, or refused. -/
theorem T_79_0 : hTab 79 0 = some ((3, 1, 2, []), 1) := rfl
theorem T_79_1 : hTab 79 1 = some ((31, 61, 0, []), 4) := rfl
theorem T_79_4 : hTab 79 4 = some ((18, 0, Int.ofNat 15, []), 7) := rfl
theorem T_79_7 : hTab 79 7 = some ((3, 1, 2, []), 8) := rfl
theorem T_79_8 : hTab 79 8 = some ((24, 8, Int.ofNat 10, []), 11) := rfl
theorem T_79_11 : hTab 79 11 = some ((14, 0, 0, []), 12) := rfl
theorem T_79_12 : hTab 79 12 = some ((22, 0, Int.ofNat 26, []), 15) := rfl
theorem T_79_15 : hTab 79 15 = some ((3, 0, 2, []), 16) := rfl
theorem T_79_16 : hTab 79 16 = some ((24, 7, Int.ofNat 9, []), 19) := rfl
theorem T_79_19 : hTab 79 19 = some ((0, 0, 11, []), 21) := rfl
theorem T_79_21 : hTab 79 21 = some ((0, 0, 8, []), 23) := rfl
theorem T_79_23 : hTab 79 23 = some ((31, 29, 0, []), 26) := rfl
theorem T_79_26 : hTab 79 26 = some ((4, 3, 1, []), 27) := rfl
theorem T_79_27 : hTab 79 27 = some ((3, 3, 1, []), 28) := rfl
theorem T_79_28 : hTab 79 28 = some ((1, 0, 0, []), 29) := rfl
theorem T_79_29 : hTab 79 29 = some ((17, 0, 0, []), 30) := rfl
theorem T_79_30 : hTab 79 30 = some ((18, 2, Int.ofNat 43, []), 33) := rfl
theorem T_79_33 : hTab 79 33 = some ((3, 3, 1, []), 34) := rfl
theorem T_79_34 : hTab 79 34 = some ((3, 1, 2, []), 35) := rfl
theorem T_79_35 : hTab 79 35 = some ((24, 8, Int.ofNat 10, []), 38) := rfl
theorem T_79_38 : hTab 79 38 = some ((14, 0, 0, []), 39) := rfl
theorem T_79_39 : hTab 79 39 = some ((17, 0, 0, []), 40) := rfl
theorem T_79_40 : hTab 79 40 = some ((18, 5, Int.ofNat 46, []), 43) := rfl
theorem T_79_43 : hTab 79 43 = some ((0, 0, 13, []), 45) := rfl
theorem T_79_45 : hTab 79 45 = some ((33, 1, 0, []), 46) := rfl
theorem T_79_46 : hTab 79 46 = some ((3, 0, 2, []), 47) := rfl
theorem T_79_47 : hTab 79 47 = some ((24, 7, Int.ofNat 9, []), 50) := rfl
theorem T_79_50 : hTab 79 50 = some ((31, 28, 0, []), 53) := rfl
theorem T_79_53 : hTab 79 53 = some ((0, 0, 23, []), 55) := rfl
theorem T_79_55 : hTab 79 55 = some ((10, 1, 0, []), 56) := rfl
theorem T_79_56 : hTab 79 56 = some ((4, 5, 0, []), 58) := rfl
theorem T_79_58 : hTab 79 58 = some ((3, 3, 1, []), 59) := rfl
theorem T_79_59 : hTab 79 59 = some ((15, 0, 0, []), 60) := rfl
theorem T_79_60 : hTab 79 60 = some ((3, 5, 0, []), 62) := rfl
theorem T_79_62 : hTab 79 62 = some ((10, 0, 0, []), 63) := rfl
theorem T_79_63 : hTab 79 63 = some ((4, 6, 0, []), 65) := rfl
theorem T_79_65 : hTab 79 65 = some ((3, 0, 2, []), 66) := rfl
theorem T_79_66 : hTab 79 66 = some ((3, 1, 2, []), 67) := rfl
theorem T_79_67 : hTab 79 67 = some ((3, 6, 0, []), 69) := rfl
theorem T_79_69 : hTab 79 69 = some ((3, 1, 2, []), 70) := rfl
theorem T_79_70 : hTab 79 70 = some ((24, 8, Int.ofNat 10, []), 73) := rfl
theorem T_79_73 : hTab 79 73 = some ((31, 80, 0, []), 76) := rfl
theorem T_79_76 : hTab 79 76 = some ((14, 0, 0, []), 77) := rfl
theorem T_79_77 : hTab 79 77 = some ((31, 81, 0, []), 80) := rfl
theorem T_79_80 : hTab 79 80 = some ((18, 0, Int.ofNat 86, []), 83) := rfl
theorem T_79_83 : hTab 79 83 = some ((0, 0, 12, []), 85) := rfl
theorem T_79_85 : hTab 79 85 = some ((33, 1, 0, []), 86) := rfl
theorem T_79_86 : hTab 79 86 = some ((3, 5, 0, []), 88) := rfl
theorem T_79_88 : hTab 79 88 = some ((18, 5, Int.ofNat 110, []), 91) := rfl
/-- what a file's writing answers and leaves -/
abbrev XWR (σ0 : hM) (K : Int) (W : qR) (R : rR) (S : Nat) (s : Int) (ord : List Int) (t : Nat → Nat) (P : qR) (n u b cnt : Int) (l : List Int) (e : Int) : Option AV → hM → Prop := fun r σ' => r = some (vI e) ∧ ∃ W2 R2, PX σ0 W2 R2 σ' ∧ XV W2 R2 (if e = 0 then gWr P s n u b (seg (lg l) 23 cnt.toNat) else P) S s ord t ∧ CT K W2 R2 ∧ FV S 0 W W2 R R2
section XWBC
variable {fb : Bool} {d S a c c0 rp mb m0 N M fa pr : Nat} {σ0 σ σ' : hM} {W W1 W2 W3 P Q : qR} {R R1 R2 : rR} {b i k x z v s e w f u p g ln K T U C y off cnt n md tb : Int} {ord l l2 nm lo D L li : List Int} {t : Nat → Nat} {r : Option AV} {F : Int → Int}
theorem wb_46 (hP : PX σ0 W R σ) (hS : VS S s) (hX : XV W R P S s ord t) (hK : CT K W R) (hG : GI T U P) (hD : TI P) (hT : T + 49 ≤ 2147483000) (qs : s < 2) (hi : 0 ≤ i ∧ i < ord.length) (ha : S + 6 + 3 * t i.toNat = a) (hn : lg ord i = n) (hd : 0 ≤ qMode P s n) (hu3 : 0 ≤ u ∧ u ≤ 3) (hr : R S 2233 = some mb) (hB : BY W mb M l) (hz : (l.length : Int) = z) (hcn : 0 ≤ cnt ∧ cnt + 23 = z) (hln : P 2297 (64 * s + n) = ln) (hb : 0 ≤ b ∧ b ≤ ln) (hmo : mb + 1 < S ∨ S + 294 ≤ mb) : WP fb (d + 1) 79 46 [some (vR (some S)), some (vR (some a)), some (vI u), some (vL b), none, none, none, none] [] σ (XWR σ0 K W R S s ord t P n u b cnt l (if 600 < b + cnt then 12 else if 8192 < P 2301 s + (if ln < b + cnt then b + cnt - ln else 0) then 12 else 0)) := by
  have hO := hS.o
  have hsr := hS.1
  have hm := hB.1
  have hn1 := hB.2.2.1
  have hlz := hB.2.2.2.2.1
  have hl := hX.1.1.2.1
  have hlv := (hX.1.1.1 _).mp (lg_mem hi.1 hi.2)
  rw [hn] at hlv
  have hlt := isN_lt qs hlv
  have hND := hX.1.2.2.2.1 i hi.1 hi.2
  rw [ha, hn] at hND
  have hno : tX a = some (Sum.inl 8) := hND.1
  have hl6 : 0 ≤ P 2297 (64 * s + n) ∧ P 2297 (64 * s + n) ≤ 600 := IV.a hG.iv 2297 0 128 rfl rfl rfl (by omega) (by omega)
  rw [hln] at hl6
  have hlen := hND.2.2.2.2.2.2.2.1.1
  rw [show qLen P s n = P 2297 (64 * s + n) from if_pos ⟨qs, hd⟩, hln] at hlen
  have htr : 0 ≤ P 2301 s ∧ P 2301 s ≤ 8192 := IV.a hG.iv 2301 0 2 rfl rfl rfl (by omega) (by omega)
  have hv := (hX.2.2.1.2.2.2.1 qs).1
  obtain ⟨tb, htb⟩ : ∃ q, P 2301 s = q := ⟨_, rfl⟩
  rw [htb] at htr hv
  obtain ⟨e, he⟩ : ∃ q, b + cnt = q := ⟨_, rfl⟩
  obtain ⟨mx, hmx⟩ : ∃ q, (if ln ≤ e then e else ln) = q := ⟨_, rfl⟩
  have hmr : 0 ≤ mx ∧ e ≤ mx ∧ ln ≤ mx ∧ (mx = e ∨ mx = ln) := by rw [← hmx]; split <;> omega
  have hmax := fun (σ : hM) => x_max (fb := fb) (d := d) (σ := σ) (u := e) (v := ln)
  rw [hmx] at hmax
  have hex := x_exceeds (fb := fb) (d := d) (x := mx) hP hO hno hv hlen ⟨htr, hl6⟩ ⟨hmr.1, by omega⟩
  have hsz := x_size (fb := fb) (d := d) hP hB hz
  have hsub : w32 (z - 23) = cnt := by rw [show z - 23 = cnt by omega]; exact w32_id (by omega) (by omega)
  have hadd : w32 (b + cnt) = e := by rw [he]; exact w32_id (by omega) (by omega)
  rw [htb, he]
  by_cases qe : 600 < mx ∨ 8192 < tb - ln + mx
  · rw [if_pos qe] at hex
    have eE : (if 600 < e then (12 : Int) else if 8192 < tb + (if ln < e then e - ln else 0) then 12 else 0) = 12 := by
      by_cases q : 600 < e
      · rw [if_pos q]
      · rw [if_neg q]
        by_cases q2 : ln < e
        · rw [if_pos q2, if_pos (by omega)]
        · omega
    rw [eE]
    have hno2 : ∀ σ, PX σ0 W R σ → XWR σ0 K W R S s ord t P n u b cnt l 12 (some (vI 12)) σ := fun σ hP => ⟨rfl, W, R, hP, hX, hK, FV_rfl⟩
    refine x_lr (z := some S) T_79_46 rfl ?_
    refine x_gR (z := some mb) T_79_47 F_7_9 (hP.o hO) (Eq.trans (hP.rm hO rfl (key := 2233) rfl) hr) ?_
    refine x_cv1 T_79_50 mN_28 mL_28 (Nat.le_of_ble_eq_true rfl) mO_28 (hP.o hm) (Nat.le_of_ble_eq_true rfl) (hsz) ?_
    rintro _ σ ⟨rfl, rfl⟩
    refine cI ?_
    refine x_ic T_79_53 ?_
    refine x_ib (w := cnt) T_79_55 (fun h => absurd h.1 (by decide)) hsub ?_
    refine x_si (ls1 := [some (vR (some S)), some (vR (some a)), some (vI u), some (vL b), none, some (vI cnt), none, none]) T_79_56 rfl ?_
    refine x_ll (z := b) T_79_58 rfl ?_
    refine x_l2i (w := b) T_79_59 (w32_id (by omega) (by omega)) ?_
    refine x_li (z := cnt) T_79_60 rfl ?_
    refine x_ib (w := e) T_79_62 (fun h => absurd h.1 (by decide)) hadd ?_
    refine x_si (ls1 := [some (vR (some S)), some (vR (some a)), some (vI u), some (vL b), none, some (vI cnt), some (vI e), none]) T_79_63 rfl ?_
    refine x_lr (z := some S) T_79_65 rfl ?_
    refine x_lr (z := some a) T_79_66 rfl ?_
    refine x_li (z := e) T_79_67 rfl ?_
    refine x_lr (z := some a) T_79_69 rfl ?_
    refine x_gI (z := ln) T_79_70 (Or.inl F_8_10) (hP.o hno) (Eq.trans (hP.gi hno (key := 2266) rfl) hlen) ?_
    refine x_cs2 T_79_73 mN_80 mL_80 (Nat.le_of_ble_eq_true rfl) mK_80 (Nat.le_of_ble_eq_true rfl) (hmax σ) ?_
    rintro _ σ ⟨rfl, rfl⟩
    refine cI ?_
    refine x_i2l T_79_76 ?_
    refine x_cv3 T_79_77 mN_81 mL_81 (Nat.le_of_ble_eq_true rfl) mO_81 (hP.o hO) (Nat.le_of_ble_eq_true rfl) (hex) ?_
    rintro _ σ ⟨rfl, rfl⟩
    refine cI ?_
    refine x_if T_79_80 (fun h => absurd (show (1 : Int) = 0 from h) (by decide)) (fun _ => ?_)
    refine x_ic T_79_83 ?_
    refine x_ri T_79_85 ?_
    exact hno2 σ hP
  · rw [if_neg qe] at hex
    have eE : (if 600 < e then (12 : Int) else if 8192 < tb + (if ln < e then e - ln else 0) then 12 else 0) = 0 := by
      rw [if_neg (by omega), if_neg (by split <;> omega)]
    rw [eE]
    by_cases q0 : cnt = 0
    · have e1 : gWr P s n u b (seg (lg l) 23 cnt.toNat) = P := by
        unfold gWr
        rw [if_neg (by rw [seg_len]; omega)]
      have hyes : ∀ σ, PX σ0 W R σ → XWR σ0 K W R S s ord t P n u b cnt l 0 (some (vI 0)) σ := fun σ hP => ⟨rfl, W, R, hP, by rw [if_pos rfl, e1]; exact hX, hK, FV_rfl⟩
      refine x_lr (z := some S) T_79_46 rfl ?_
      refine x_gR (z := some mb) T_79_47 F_7_9 (hP.o hO) (Eq.trans (hP.rm hO rfl (key := 2233) rfl) hr) ?_
      refine x_cv1 T_79_50 mN_28 mL_28 (Nat.le_of_ble_eq_true rfl) mO_28 (hP.o hm) (Nat.le_of_ble_eq_true rfl) (hsz) ?_
      rintro _ σ ⟨rfl, rfl⟩
      refine cI ?_
      refine x_ic T_79_53 ?_
      refine x_ib (w := cnt) T_79_55 (fun h => absurd h.1 (by decide)) hsub ?_
      refine x_si (ls1 := [some (vR (some S)), some (vR (some a)), some (vI u), some (vL b), none, some (vI cnt), none, none]) T_79_56 rfl ?_
      refine x_ll (z := b) T_79_58 rfl ?_
      refine x_l2i (w := b) T_79_59 (w32_id (by omega) (by omega)) ?_
      refine x_li (z := cnt) T_79_60 rfl ?_
      refine x_ib (w := e) T_79_62 (fun h => absurd h.1 (by decide)) hadd ?_
      refine x_si (ls1 := [some (vR (some S)), some (vR (some a)), some (vI u), some (vL b), none, some (vI cnt), some (vI e), none]) T_79_63 rfl ?_
      refine x_lr (z := some S) T_79_65 rfl ?_
      refine x_lr (z := some a) T_79_66 rfl ?_
      refine x_li (z := e) T_79_67 rfl ?_
      refine x_lr (z := some a) T_79_69 rfl ?_
      refine x_gI (z := ln) T_79_70 (Or.inl F_8_10) (hP.o hno) (Eq.trans (hP.gi hno (key := 2266) rfl) hlen) ?_
      refine x_cs2 T_79_73 mN_80 mL_80 (Nat.le_of_ble_eq_true rfl) mK_80 (Nat.le_of_ble_eq_true rfl) (hmax σ) ?_
      rintro _ σ ⟨rfl, rfl⟩
      refine cI ?_
      refine x_i2l T_79_76 ?_
      refine x_cv3 T_79_77 mN_81 mL_81 (Nat.le_of_ble_eq_true rfl) mO_81 (hP.o hO) (Nat.le_of_ble_eq_true rfl) (hex) ?_
      rintro _ σ ⟨rfl, rfl⟩
      refine cI ?_
      refine x_if T_79_80 (fun _ => ?_) (fun h => absurd (show (0 : Int) = 0 by decide) h)
      refine x_li (z := cnt) T_79_86 rfl ?_
      refine x_if T_79_88 (fun _ => ?_) (fun h => absurd (show cnt ≤ 0 by omega) h)
      refine x_ll (z := b) T_79_110 rfl ?_
      refine x_l2i (w := b) T_79_111 (w32_id (by omega) (by omega)) ?_
      refine x_si (ls1 := [some (vR (some S)), some (vR (some a)), some (vI u), some (vL b), none, some (vI cnt), some (vI e), some (vI b)]) T_79_112 rfl ?_
      refine x_li (z := b) T_79_114 rfl ?_
      refine x_li (z := e) T_79_116 rfl ?_
      refine x_ic2 T_79_118 (fun _ => ?_) (fun h => absurd (show e ≤ b by omega) h)
      refine x_ic T_79_167 ?_
      refine x_ri T_79_168 ?_
      exact hyes σ hP
    · have hgo := fun (σ : hM) (hP : PX σ0 W R σ) => WP.mono (wb_91 (fb := fb) (d := d) (b := b) (cnt := cnt) (e := e) hP hS hX hK hG hD hT qs hi ha hn hd hu3 hr hB hz ⟨by omega, hcn.2⟩ ⟨hb.1, by omega⟩ he.symm hmo) (Q := XWR σ0 K W R S s ord t P n u b cnt l 0) (fun r1 σ1 h => by
        obtain ⟨h1, W2, R2, h2, h3, h4, h5⟩ := h
        exact ⟨h1, W2, R2, h2, by rw [if_pos rfl]; exact h3, h4, h5⟩)
      refine x_lr (z := some S) T_79_46 rfl ?_
      refine x_gR (z := some mb) T_79_47 F_7_9 (hP.o hO) (Eq.trans (hP.rm hO rfl (key := 2233) rfl) hr) ?_
      refine x_cv1 T_79_50 mN_28 mL_28 (Nat.le_of_ble_eq_true rfl) mO_28 (hP.o hm) (Nat.le_of_ble_eq_true rfl) (hsz) ?_
      rintro _ σ ⟨rfl, rfl⟩
      refine cI ?_
      refine x_ic T_79_53 ?_
      refine x_ib (w := cnt) T_79_55 (fun h => absurd h.1 (by decide)) hsub ?_
      refine x_si (ls1 := [some (vR (some S)), some (vR (some a)), some (vI u), some (vL b), none, some (vI cnt), none, none]) T_79_56 rfl ?_
      refine x_ll (z := b) T_79_58 rfl ?_
      refine x_l2i (w := b) T_79_59 (w32_id (by omega) (by omega)) ?_
      refine x_li (z := cnt) T_79_60 rfl ?_
      refine x_ib (w := e) T_79_62 (fun h => absurd h.1 (by decide)) hadd ?_
      refine x_si (ls1 := [some (vR (some S)), some (vR (some a)), some (vI u), some (vL b), none, some (vI cnt), some (vI e), none]) T_79_63 rfl ?_
      refine x_lr (z := some S) T_79_65 rfl ?_
      refine x_lr (z := some a) T_79_66 rfl ?_
      refine x_li (z := e) T_79_67 rfl ?_
      refine x_lr (z := some a) T_79_69 rfl ?_
      refine x_gI (z := ln) T_79_70 (Or.inl F_8_10) (hP.o hno) (Eq.trans (hP.gi hno (key := 2266) rfl) hlen) ?_
      refine x_cs2 T_79_73 mN_80 mL_80 (Nat.le_of_ble_eq_true rfl) mK_80 (Nat.le_of_ble_eq_true rfl) (hmax σ) ?_
      rintro _ σ ⟨rfl, rfl⟩
      refine cI ?_
      refine x_i2l T_79_76 ?_
      refine x_cv3 T_79_77 mN_81 mL_81 (Nat.le_of_ble_eq_true rfl) mO_81 (hP.o hO) (Nat.le_of_ble_eq_true rfl) (hex) ?_
      rintro _ σ ⟨rfl, rfl⟩
      refine cI ?_
      refine x_if T_79_80 (fun _ => ?_) (fun h => absurd (show (0 : Int) = 0 by decide) h)
      refine x_li (z := cnt) T_79_86 rfl ?_
      refine x_if T_79_88 (fun h => absurd (show cnt ≤ 0 from h) (by omega)) (fun _ => ?_)
      exact hgo σ hP
theorem x_writeBytes (hP : PX σ0 W R σ) (hS : VS S s) (hX : XV W R P S s ord t) (hK : CT K W R) (hG : GI T U P) (hD : TI P) (hT : T + 49 ≤ 2147483000) (qs : s < 2) (hi : 0 ≤ i ∧ i < ord.length) (ha : S + 6 + 3 * t i.toNat = a) (hn : lg ord i = n) (hd : 0 ≤ qMode P s n) (hu3 : 0 ≤ u ∧ u ≤ 3) (hr : R S 2233 = some mb) (hB : BY W mb M l) (hz : (l.length : Int) = z) (hcn : 0 ≤ cnt ∧ cnt + 23 = z) (hmo : mb + 1 < S ∨ S + 294 ≤ mb) (ho : w64 (nu (lg l) 11 8) = off) : CL fb (d + 1) 79 [vR (some S), vR (some a), vI u] σ (XWR σ0 K W R S s ord t P n u (if and32 (P 2293 (64 * s + n)) 1073741824 = 0 then off else P 2297 (64 * s + n)) cnt l (qWr P s n off cnt)) := by
  have hO := hS.o
  have hsr := hS.1
  have hm := hB.1
  have hl := hX.1.1.2.1
  have hlv := (hX.1.1.1 _).mp (lg_mem hi.1 hi.2)
  rw [hn] at hlv
  have hlt := isN_lt qs hlv
  have hND := hX.1.2.2.2.1 i hi.1 hi.2
  rw [ha, hn] at hND
  have hno : tX a = some (Sum.inl 8) := hND.1
  obtain ⟨ln, hln⟩ : ∃ q, P 2297 (64 * s + n) = q := ⟨_, rfl⟩
  have hl6 : 0 ≤ P 2297 (64 * s + n) ∧ P 2297 (64 * s + n) ≤ 600 := IV.a hG.iv 2297 0 128 rfl rfl rfl (by omega) (by omega)
  rw [hln] at hl6
  have hlen := hND.2.2.2.2.2.2.2.1.1
  rw [show qLen P s n = P 2297 (64 * s + n) from if_pos ⟨qs, hd⟩, hln] at hlen
  have hog := x_onlyGrows (fb := fb) (d := d) hP hno hND.2.1.1
  rw [show qMode P s n = P 2293 (64 * s + n) from if_pos qs] at hog
  have h2 := x_number (fb := fb) (d := d) (s := 11) (k := 8) hP hB hz (by decide) (by decide)
  rw [if_pos (by omega), show ((8 : Int)).toNat = 8 from rfl, ho] at h2
  have h46 := fun (b : Int) (hb : 0 ≤ b ∧ b ≤ ln) (σ : hM) (hP : PX σ0 W R σ) => wb_46 (fb := fb) (d := d) (u := u) hP hS hX hK hG hD hT qs hi ha hn hd hu3 hr hB hz hcn hln hb hmo
  have eQ : qWr P s n off cnt = if and32 (P 2293 (64 * s + n)) 1073741824 = 0 ∧ ¬ (0 ≤ off ∧ off ≤ ln) then 13 else if 600 < (if and32 (P 2293 (64 * s + n)) 1073741824 = 0 then off else ln) + cnt then 12 else if 8192 < P 2301 s + (if ln < (if and32 (P 2293 (64 * s + n)) 1073741824 = 0 then off else ln) + cnt then (if and32 (P 2293 (64 * s + n)) 1073741824 = 0 then off else ln) + cnt - ln else 0) then 12 else 0 := by
    rw [← hln]
    rfl
  rw [hln]
  by_cases qa : and32 (P 2293 (64 * s + n)) 1073741824 = 0
  · rw [if_pos qa] at hog ⊢
    simp only [if_pos qa] at eQ
    by_cases qo : 0 ≤ off ∧ off ≤ ln
    · rw [if_neg (fun q => q.2 qo)] at eQ
      have hgo := h46 off qo
      rw [eQ]
      refine CL_in mL_79 rfl ?_
      show WP fb _ 79 0 [some (vR (some S)), some (vR (some a)), some (vI u), none, none, none, none, none] [] σ _
      refine x_lr (z := some a) T_79_0 rfl ?_
      refine x_cv1 T_79_1 mN_61 mL_61 (Nat.le_of_ble_eq_true rfl) mO_61 (hP.o hno) (Nat.le_of_ble_eq_true rfl) (hog) ?_
      rintro _ σ ⟨rfl, rfl⟩
      refine cI ?_
      refine x_if T_79_4 (fun _ => ?_) (fun h => absurd (show (0 : Int) = 0 by decide) h)
      refine x_lr (z := some S) T_79_15 rfl ?_
      refine x_gR (z := some mb) T_79_16 F_7_9 (hP.o hO) (Eq.trans (hP.rm hO rfl (key := 2233) rfl) hr) ?_
      refine x_ic T_79_19 ?_
      refine x_ic T_79_21 ?_
      refine x_cv3 T_79_23 mN_29 mL_29 (Nat.le_of_ble_eq_true rfl) mO_29 (hP.o hm) (Nat.le_of_ble_eq_true rfl) (h2) ?_
      rintro _ σ ⟨rfl, rfl⟩
      refine cL ?_
      refine x_sl (ls1 := [some (vR (some S)), some (vR (some a)), some (vI u), some (vL off), none, none, none, none]) T_79_26 rfl ?_
      refine x_ll (z := off) T_79_27 rfl ?_
      refine x_lc T_79_28 ?_
      refine x_lif T_79_29 T_79_30 (fun h => absurd (show off < 0 from h) (by omega)) (fun _ => ?_)
      refine x_ll (z := off) T_79_33 rfl ?_
      refine x_lr (z := some a) T_79_34 rfl ?_
      refine x_gI (z := ln) T_79_35 (Or.inl F_8_10) (hP.o hno) (Eq.trans (hP.gi hno (key := 2266) rfl) hlen) ?_
      refine x_i2l T_79_38 ?_
      refine x_lif T_79_39 T_79_40 (fun _ => ?_) (fun h => absurd (show off ≤ ln by omega) h)
      exact hgo σ hP
    · rw [if_pos ⟨qa, qo⟩] at eQ
      rw [eQ]
      have hno2 : XWR σ0 K W R S s ord t P n u off cnt l 13 (some (vI 13)) σ := ⟨rfl, W, R, hP, hX, hK, FV_rfl⟩
      by_cases q0 : off < 0
      · skip
        refine CL_in mL_79 rfl ?_
        show WP fb _ 79 0 [some (vR (some S)), some (vR (some a)), some (vI u), none, none, none, none, none] [] σ _
        refine x_lr (z := some a) T_79_0 rfl ?_
        refine x_cv1 T_79_1 mN_61 mL_61 (Nat.le_of_ble_eq_true rfl) mO_61 (hP.o hno) (Nat.le_of_ble_eq_true rfl) (hog) ?_
        rintro _ σ ⟨rfl, rfl⟩
        refine cI ?_
        refine x_if T_79_4 (fun _ => ?_) (fun h => absurd (show (0 : Int) = 0 by decide) h)
        refine x_lr (z := some S) T_79_15 rfl ?_
        refine x_gR (z := some mb) T_79_16 F_7_9 (hP.o hO) (Eq.trans (hP.rm hO rfl (key := 2233) rfl) hr) ?_
        refine x_ic T_79_19 ?_
        refine x_ic T_79_21 ?_
        refine x_cv3 T_79_23 mN_29 mL_29 (Nat.le_of_ble_eq_true rfl) mO_29 (hP.o hm) (Nat.le_of_ble_eq_true rfl) (h2) ?_
        rintro _ σ ⟨rfl, rfl⟩
        refine cL ?_
        refine x_sl (ls1 := [some (vR (some S)), some (vR (some a)), some (vI u), some (vL off), none, none, none, none]) T_79_26 rfl ?_
        refine x_ll (z := off) T_79_27 rfl ?_
        refine x_lc T_79_28 ?_
        refine x_lif T_79_29 T_79_30 (fun _ => ?_) (fun h => absurd (show off < 0 by omega) h)
        refine x_ic T_79_43 ?_
        refine x_ri T_79_45 ?_
        exact hno2
      · skip
        refine CL_in mL_79 rfl ?_
        show WP fb _ 79 0 [some (vR (some S)), some (vR (some a)), some (vI u), none, none, none, none, none] [] σ _
        refine x_lr (z := some a) T_79_0 rfl ?_
        refine x_cv1 T_79_1 mN_61 mL_61 (Nat.le_of_ble_eq_true rfl) mO_61 (hP.o hno) (Nat.le_of_ble_eq_true rfl) (hog) ?_
        rintro _ σ ⟨rfl, rfl⟩
        refine cI ?_
        refine x_if T_79_4 (fun _ => ?_) (fun h => absurd (show (0 : Int) = 0 by decide) h)
        refine x_lr (z := some S) T_79_15 rfl ?_
        refine x_gR (z := some mb) T_79_16 F_7_9 (hP.o hO) (Eq.trans (hP.rm hO rfl (key := 2233) rfl) hr) ?_
        refine x_ic T_79_19 ?_
        refine x_ic T_79_21 ?_
        refine x_cv3 T_79_23 mN_29 mL_29 (Nat.le_of_ble_eq_true rfl) mO_29 (hP.o hm) (Nat.le_of_ble_eq_true rfl) (h2) ?_
        rintro _ σ ⟨rfl, rfl⟩
        refine cL ?_
        refine x_sl (ls1 := [some (vR (some S)), some (vR (some a)), some (vI u), some (vL off), none, none, none, none]) T_79_26 rfl ?_
        refine x_ll (z := off) T_79_27 rfl ?_
        refine x_lc T_79_28 ?_
        refine x_lif T_79_29 T_79_30 (fun h => absurd (show off < 0 from h) (by omega)) (fun _ => ?_)
        refine x_ll (z := off) T_79_33 rfl ?_
        refine x_lr (z := some a) T_79_34 rfl ?_
        refine x_gI (z := ln) T_79_35 (Or.inl F_8_10) (hP.o hno) (Eq.trans (hP.gi hno (key := 2266) rfl) hlen) ?_
        refine x_i2l T_79_38 ?_
        refine x_lif T_79_39 T_79_40 (fun h => absurd (show off ≤ ln from h) (by omega)) (fun _ => ?_)
        refine x_ic T_79_43 ?_
        refine x_ri T_79_45 ?_
        exact hno2
  · rw [if_neg qa] at hog ⊢
    simp only [if_neg qa] at eQ
    rw [if_neg (fun q => qa q.1)] at eQ
    have hgo := h46 ln ⟨hl6.1, Int.le_refl _⟩
    rw [eQ]
    refine CL_in mL_79 rfl ?_
    show WP fb _ 79 0 [some (vR (some S)), some (vR (some a)), some (vI u), none, none, none, none, none] [] σ _
    refine x_lr (z := some a) T_79_0 rfl ?_
    refine x_cv1 T_79_1 mN_61 mL_61 (Nat.le_of_ble_eq_true rfl) mO_61 (hP.o hno) (Nat.le_of_ble_eq_true rfl) (hog) ?_
    rintro _ σ ⟨rfl, rfl⟩
    refine cI ?_
    refine x_if T_79_4 (fun h => absurd (show (1 : Int) = 0 from h) (by decide)) (fun _ => ?_)
    refine x_lr (z := some a) T_79_7 rfl ?_
    refine x_gI (z := ln) T_79_8 (Or.inl F_8_10) (hP.o hno) (Eq.trans (hP.gi hno (key := 2266) rfl) hlen) ?_
    refine x_i2l T_79_11 ?_
    refine x_goto T_79_12 ?_
    refine x_sl (ls1 := [some (vR (some S)), some (vR (some a)), some (vI u), some (vL ln), none, none, none, none]) T_79_26 rfl ?_
    refine x_ll (z := ln) T_79_27 rfl ?_
    refine x_lc T_79_28 ?_
    refine x_lif T_79_29 T_79_30 (fun h => absurd (show ln < 0 from h) (by omega)) (fun _ => ?_)
    refine x_ll (z := ln) T_79_33 rfl ?_
    refine x_lr (z := some a) T_79_34 rfl ?_
    refine x_gI (z := ln) T_79_35 (Or.inl F_8_10) (hP.o hno) (Eq.trans (hP.gi hno (key := 2266) rfl) hlen) ?_
    refine x_i2l T_79_38 ?_
    refine x_lif T_79_39 T_79_40 (fun _ => ?_) (fun h => absurd (show ln ≤ ln by omega) h)
    exact hgo σ hP
end XWBC
