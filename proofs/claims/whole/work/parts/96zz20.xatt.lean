/-! The class's servers: an attach. -/
theorem T_48_0 : hTab 48 0 = some ((3, 0, 2, []), 1) := rfl
theorem T_48_1 : hTab 48 1 = some ((24, 7, Int.ofNat 9, []), 4) := rfl
theorem T_48_4 : hTab 48 4 = some ((0, 0, 7, []), 6) := rfl
theorem T_48_6 : hTab 48 6 = some ((0, 0, 4, []), 7) := rfl
theorem T_48_7 : hTab 48 7 = some ((31, 29, 0, []), 10) := rfl
theorem T_48_10 : hTab 48 10 = some ((4, 1, 1, []), 11) := rfl
theorem T_48_11 : hTab 48 11 = some ((3, 0, 2, []), 12) := rfl
theorem T_48_12 : hTab 48 12 = some ((3, 0, 2, []), 13) := rfl
theorem T_48_13 : hTab 48 13 = some ((24, 7, Int.ofNat 11, []), 16) := rfl
theorem T_48_16 : hTab 48 16 = some ((3, 1, 1, []), 17) := rfl
theorem T_48_17 : hTab 48 17 = some ((31, 39, 0, []), 20) := rfl
theorem T_48_20 : hTab 48 20 = some ((20, 0, Int.ofNat 26, []), 23) := rfl
theorem T_48_23 : hTab 48 23 = some ((0, 0, 7, []), 25) := rfl
theorem T_48_25 : hTab 48 25 = some ((33, 1, 0, []), 26) := rfl
theorem T_48_26 : hTab 48 26 = some ((3, 0, 2, []), 27) := rfl
theorem T_48_27 : hTab 48 27 = some ((24, 7, Int.ofNat 9, []), 30) := rfl
theorem T_48_30 : hTab 48 30 = some ((0, 0, 11, []), 32) := rfl
theorem T_48_32 : hTab 48 32 = some ((0, 0, 4, []), 33) := rfl
theorem T_48_33 : hTab 48 33 = some ((31, 29, 0, []), 36) := rfl
theorem T_48_36 : hTab 48 36 = some ((1, 0, 4294967295, []), 39) := rfl
theorem T_48_39 : hTab 48 39 = some ((17, 0, 0, []), 40) := rfl
theorem T_48_40 : hTab 48 40 = some ((18, 0, Int.ofNat 46, []), 43) := rfl
theorem T_48_43 : hTab 48 43 = some ((0, 0, 14, []), 45) := rfl
theorem T_48_45 : hTab 48 45 = some ((33, 1, 0, []), 46) := rfl
theorem T_48_46 : hTab 48 46 = some ((3, 0, 2, []), 47) := rfl
theorem T_48_47 : hTab 48 47 = some ((31, 49, 0, []), 50) := rfl
theorem T_48_50 : hTab 48 50 = some ((4, 3, 0, []), 51) := rfl
theorem T_48_51 : hTab 48 51 = some ((3, 3, 0, []), 52) := rfl
theorem T_48_52 : hTab 48 52 = some ((0, 0, (-1), []), 53) := rfl
theorem T_48_53 : hTab 48 53 = some ((19, 1, Int.ofNat 59, []), 56) := rfl
theorem T_48_56 : hTab 48 56 = some ((0, 0, 15, []), 58) := rfl
theorem T_48_58 : hTab 48 58 = some ((33, 1, 0, []), 59) := rfl
theorem T_48_59 : hTab 48 59 = some ((3, 0, 2, []), 60) := rfl
theorem T_48_60 : hTab 48 60 = some ((24, 7, Int.ofNat 9, []), 63) := rfl
theorem T_48_63 : hTab 48 63 = some ((0, 0, 15, []), 65) := rfl
theorem T_48_65 : hTab 48 65 = some ((31, 36, 0, []), 68) := rfl
theorem T_48_68 : hTab 48 68 = some ((0, 0, 2, []), 69) := rfl
theorem T_48_69 : hTab 48 69 = some ((10, 0, 0, []), 70) := rfl
theorem T_48_70 : hTab 48 70 = some ((3, 0, 2, []), 71) := rfl
theorem T_48_71 : hTab 48 71 = some ((24, 7, Int.ofNat 9, []), 74) := rfl
theorem T_48_74 : hTab 48 74 = some ((31, 28, 0, []), 77) := rfl
theorem T_48_77 : hTab 48 77 = some ((19, 0, Int.ofNat 82, []), 80) := rfl
theorem T_48_80 : hTab 48 80 = some ((0, 0, 1, []), 81) := rfl
theorem T_48_81 : hTab 48 81 = some ((33, 1, 0, []), 82) := rfl
theorem T_48_82 : hTab 48 82 = some ((3, 0, 2, []), 83) := rfl
theorem T_48_83 : hTab 48 83 = some ((31, 50, 0, []), 86) := rfl
theorem T_48_86 : hTab 48 86 = some ((4, 4, 2, []), 88) := rfl
theorem T_48_88 : hTab 48 88 = some ((3, 4, 2, []), 90) := rfl
theorem T_48_90 : hTab 48 90 = some ((20, 1, Int.ofNat 96, []), 93) := rfl
theorem T_48_93 : hTab 48 93 = some ((0, 0, 12, []), 95) := rfl
theorem T_48_95 : hTab 48 95 = some ((33, 1, 0, []), 96) := rfl
theorem T_48_96 : hTab 48 96 = some ((3, 4, 2, []), 98) := rfl
theorem T_48_98 : hTab 48 98 = some ((3, 1, 1, []), 99) := rfl
theorem T_48_99 : hTab 48 99 = some ((3, 3, 0, []), 100) := rfl
theorem T_48_100 : hTab 48 100 = some ((3, 0, 2, []), 101) := rfl
theorem T_48_101 : hTab 48 101 = some ((24, 7, Int.ofNat 2, []), 104) := rfl
theorem T_48_104 : hTab 48 104 = some ((0, 0, 0, []), 105) := rfl
theorem T_48_105 : hTab 48 105 = some ((26, 10, 0, []), 106) := rfl
theorem T_48_106 : hTab 48 106 = some ((31, 51, 0, []), 109) := rfl
theorem T_48_109 : hTab 48 109 = some ((3, 0, 2, []), 110) := rfl
theorem T_48_110 : hTab 48 110 = some ((3, 0, 2, []), 111) := rfl
theorem T_48_111 : hTab 48 111 = some ((24, 7, Int.ofNat 2, []), 114) := rfl
theorem T_48_114 : hTab 48 114 = some ((0, 0, 0, []), 115) := rfl
theorem T_48_115 : hTab 48 115 = some ((26, 10, 0, []), 116) := rfl
theorem T_48_116 : hTab 48 116 = some ((31, 52, 0, []), 119) := rfl
theorem T_48_119 : hTab 48 119 = some ((0, 0, 0, []), 120) := rfl
theorem T_48_120 : hTab 48 120 = some ((33, 1, 0, []), 121) := rfl
theorem mN_48 : hmN 48 = 1 := by decide +kernel
theorem mL_48 : hmL 48 = 5 := by decide +kernel
theorem mK_48 : hmK 48 = 1 := by decide +kernel
theorem mO_48 : hmO 48 = 7 := by decide +kernel
/-- only fids and the reply have changed -/
def FS (rp S : Nat) (W W2 : qR) (R R2 : rR) : Prop := (∀ (x : Nat) (k : Int), ¬ (S + 198 ≤ x ∧ x < S + 294 ∧ 2288 ≤ k ∧ k ≤ 2296) → ¬ (x = rp ∧ k = 2065) → ¬ (x = rp + 1 ∧ k < 2000) → W2 x k = W x k) ∧ ∀ (x : Nat) (k : Int), ¬ (S + 198 ≤ x ∧ x < S + 294 ∧ k = 2291) → R2 x k = R x k
/-- what an answer of the class's servers leaves -/
abbrev XA (σ0 : hM) (W : qR) (R : rR) (S rp N : Nat) (s : Int) (ord : List Int) (t : Nat → Nat) (e : Int) (Q : qR) (l2 : List Int) : Option AV → hM → Prop := fun r σ' => r = some (vI e) ∧ ∃ W2 R2, PX σ0 W2 R2 σ' ∧ BY W2 rp N l2 ∧ NT W2 R2 Q S s ord t ∧ FD W2 R2 Q S s ord t ∧ FS rp S W W2 R R2
section XATT
variable {fb : Bool} {d S mb rp N M : Nat} {σ0 σ : hM} {W W0 W1 W2 P : qR} {R R2 : rR} {i k x z v s e w c f u y n p : Int} {l l2 ord : List Int} {t : Nat → Nat} {r : Option Nat}
theorem FS_rfl : FS rp S W W R R := ⟨fun _ _ _ _ _ => rfl, fun _ _ _ => rfl⟩
theorem FS_fid {a : Nat} (ha : S + 198 ≤ a ∧ a < S + 294) : FS rp S W (fdW W a v u p) R (oU R a 2291 r) := ⟨fun x k h1 _ _ => by
  unfold fdW
  have e : ∀ (V : qR) (f : Int) (w : Int), 2288 ≤ f → f ≤ 2296 → rU V a f w x k = V x k := fun V f w h2 h3 => if_neg (fun q => h1 (by omega))
  rw [e _ _ _ (by decide) (by decide), e _ _ _ (by decide) (by decide), e _ _ _ (by decide) (by decide), e _ _ _ (by decide) (by decide), e _ _ _ (by decide) (by decide), e _ _ _ (by decide) (by decide), e _ _ _ (by decide) (by decide), e _ _ _ (by decide) (by decide)], fun x k h => if_neg (fun q => h (by omega))⟩
theorem FS_fb (h : FS rp S W W1 R R2) (hF : FB rp W1 W2) : FS rp S W W2 R R2 := ⟨fun x k h1 h2 h3 => (hF x k h2 h3).trans (h.1 x k h1 h2 h3), h.2⟩
theorem gMake_fe : FE (gMake P k v n u) P := fun f j hf => by
  have ne : ∀ g : Nat, fileR.elem g = false → f ≠ g := fun g hg q => by rw [q, hg] at hf; cases hf
  unfold gMake
  rw [rU_f (ne _ rfl), rU_f (ne _ rfl), rU_f (ne _ rfl), rU_f (ne _ rfl), rU_f (ne _ rfl), rU_f (ne _ rfl), rU_f (ne _ rfl), rU_f (ne _ rfl), rU_f (ne _ rfl)]
theorem NT.fid {a : Nat} (h : NT W R P S s ord t) : NT (fdW W a v u p) (oU R a 2291 r) P S s ord t := by
  have nk : ∀ k : Int, 2288 ≤ k → notN k := fun k hk => ⟨by omega, by omega, by omega, by omega⟩
  exact NT.ref ((((((((h.key (nk _ (by decide))).key (nk _ (by decide))).key (nk _ (by decide))).key (nk _ (by decide))).key (nk _ (by decide))).key (nk _ (by decide))).key (nk _ (by decide))).key (nk _ (by decide))) (by decide) (by decide)
theorem BY.fid {a : Nat} (h : BY W mb M l) : BY (fdW W a v u p) mb M l := by
  unfold fdW
  exact (((((((h.key (by decide) (by decide)).key (by decide) (by decide)).key (by decide) (by decide)).key (by decide) (by decide)).key (by decide) (by decide)).key (by decide) (by decide)).key (by decide) (by decide)).key (by decide) (by decide)
theorem x_doAttach (hP : PX σ0 W R σ) (hS : VS S s) (hr : R S 2233 = some mb) (hrp : R S 2234 = some rp) (hB : BY W mb M l) (hz : (l.length : Int) = z) (hBr : BY W rp N l2) (hroom : l2.length + 13 ≤ N) (hne : ∀ j, j < 64 → S + 7 + 3 * j ≠ rp) (hT : NT W R P S s ord t) (hroot : 0 < ord.length ∧ lg ord 0 = 0) (hD : FD W R P S s ord t) (hc : c = 0 ∨ c = 1) (hcn : W S 2235 = c) (hw : sE (lg l) z (sE (lg l) z 15) = z) : CL fb (d + 2) 48 [vR (some S)] σ (XA σ0 W R S rp N s ord t (atE P s c (lg l) z) (if atE P s c (lg l) z = 0 then atP P s c (lg l) else P) (if atE P s c (lg l) z = 0 then l2 ++ qidL (atP P s c (lg l)) s 0 else l2)) := by
  have hO := hS.o
  have hA := hS.an
  have hbo := hB.1
  have hb := hB.2.2.2.2.2.1
  have hlz := hB.2.2.2.2.1
  have hn1 := hB.2.2.1
  have hsr := hS.1
  have hsz := x_size (fb := fb) (d := d + 1) hP hB hz
  -- the message's parts
  obtain ⟨p1, hp1⟩ : ∃ p1, sE (lg l) z 15 = p1 := ⟨_, rfl⟩
  rw [hp1] at hw
  have hp1' : 17 ≤ p1 ∧ p1 + 2 ≤ z ∧ p1 + 2 + nu (lg l) p1 2 = z ∧ p1 = 17 + nu (lg l) 15 2 := by
    have g1 := sE_ge (a := lg l) (z := z) (p := p1) (by rw [hw]; omega)
    have g2 := sE_ge (a := lg l) (z := z) (p := 15) (by rw [hp1]; exact g1.1)
    have g3 := (nu_rng (f := lg l) (i := 15) 2 (fun j _ => hb _ (by omega))).1
    rw [hw] at g1
    rw [hp1] at g2
    omega
  obtain ⟨w1, w2, w3, w4⟩ := hp1'
  have hn0 := (nu_rng (f := lg l) (i := p1) 2 (fun j _ => hb _ (by omega))).1
  have eE : atE P s c (lg l) z = if 0 ≤ qFid P s c (nu (lg l) 7 4) then 7 else if ¬ nu (lg l) 11 4 = 4294967295 then 14 else if qUser (lg l) 17 (nu (lg l) 15 2) < 0 then 15 else if 0 < nu (lg l) p1 2 then 1 else if qFree P s c < 0 then 12 else 0 := by
    unfold atE
    rw [hp1, if_neg (fun q => q hw)]
  obtain ⟨num, hnum⟩ : ∃ y, nu (lg l) 7 4 = y := ⟨_, rfl⟩
  obtain ⟨af, haf⟩ : ∃ y, nu (lg l) 11 4 = y := ⟨_, rfl⟩
  obtain ⟨us, hus⟩ : ∃ y, qUser (lg l) 17 (nu (lg l) 15 2) = y := ⟨_, rfl⟩
  have h1 := x_num (fb := fb) (d := d + 1) (s := 7) (k := 4) 4 hP hB hz rfl (by decide) (by decide) (by omega) hnum
  have h2 := x_num (fb := fb) (d := d + 1) (s := 11) (k := 4) 4 hP hB hz rfl (by decide) (by decide) (by omega) haf
  have h3 := x_userTold (fb := fb) (d := d) hP hS hr hB hz (by omega) (fun q => by omega)
  rw [hus] at h3
  have h4 := x_stringEnd (fb := fb) (d := d + 1) (s := 15) hP hB hz ⟨by decide, by decide⟩
  rw [hp1] at h4
  have h5 := x_find (fb := fb) (d := d + 1) (c := c) (v := num) hP hS hD.fu hc
  have h6 := x_spareFid (fb := fb) (d := d + 1) hP hS hD.fu hc hcn
  have hur : us < 0 ∨ (0 ≤ us ∧ us ≤ 3) := by
    have := qUser_rng (lg l) 17 (nu (lg l) 15 2)
    rw [hus] at this
    omega
  have hur2 : -1 ≤ us := by
    have := qUser_rng (lg l) 17 (nu (lg l) 15 2)
    rw [hus] at this
    omega
  unfold atP
  rw [hnum, haf, hus] at eE
  rw [hnum, hus]
  have hno : ∀ e0 : Int, ¬ e0 = 0 → atE P s c (lg l) z = e0 → XA σ0 W R S rp N s ord t (atE P s c (lg l) z) (if atE P s c (lg l) z = 0 then gMake P (qFree P s c) num 0 us else P) (if atE P s c (lg l) z = 0 then l2 ++ qidL (gMake P (qFree P s c) num 0 us) s 0 else l2) (some (vI e0)) σ := fun e0 q1 q2 => by
    rw [q2, if_neg q1, if_neg q1]
    exact ⟨rfl, W, R, hP, hBr, hT, hD, FS_rfl⟩
  obtain ⟨fk, hfk⟩ : ∃ y, qFid P s c num = y := ⟨_, rfl⟩
  rw [hfk] at eE h5
  by_cases q1 : 0 ≤ fk
  · rw [if_pos q1] at eE
    obtain ⟨fo, hfo⟩ : ∃ fo, fdA S s fk = some fo := by
      unfold fdA
      rw [if_neg (by omega)]
      exact ⟨_, rfl⟩
    rw [hfo] at h5
    refine CL_in mL_48 rfl ?_
    show WP fb _ 48 0 [some (vR (some S)), none, none, none, none] [] σ _
    refine x_lr (z := some S) T_48_0 rfl ?_
    refine x_gR (z := some mb) T_48_1 F_7_9 (hP.o hO) (Eq.trans (hP.rm hO rfl (key := 2233) rfl) hr) ?_
    refine x_ic T_48_4 ?_
    refine x_ic T_48_6 ?_
    refine x_cv3 T_48_7 mN_29 mL_29 (Nat.le_of_ble_eq_true rfl) mO_29 (hP.o hbo) (Nat.le_of_ble_eq_true rfl) (h1) ?_
    rintro _ σ ⟨rfl, rfl⟩
    refine cL ?_
    refine x_sl (ls1 := [some (vR (some S)), some (vL num), none, none, none]) T_48_10 rfl ?_
    refine x_lr (z := some S) T_48_11 rfl ?_
    refine x_lr (z := some S) T_48_12 rfl ?_
    refine x_gI (z := c) T_48_13 (Or.inl F_7_11) (hP.o hO) (Eq.trans (hP.gi hO (key := 2235) rfl) hcn) ?_
    refine x_ll (z := num) T_48_16 rfl ?_
    refine x_cv3 T_48_17 mN_39 mL_39 (Nat.le_of_ble_eq_true rfl) mO_39 (hP.o hO) (Nat.le_of_ble_eq_true rfl) (h5) ?_
    rintro _ σ ⟨rfl, rfl⟩
    refine cR ?_
    refine x_nul T_48_20 (fun h0 => absurd h0 (by simp)) (fun _ _ => ?_)
    refine x_ic T_48_23 ?_
    refine x_ri T_48_25 ?_
    exact hno 7 (by decide) eE
  rw [if_neg q1] at eE
  rw [show fdA S s fk = none by unfold fdA; exact if_pos (by omega)] at h5
  by_cases q2 : af = 4294967295
  · rw [if_neg (fun q => q q2)] at eE
    by_cases q3 : us < 0
    · rw [if_pos q3] at eE
      refine CL_in mL_48 rfl ?_
      show WP fb _ 48 0 [some (vR (some S)), none, none, none, none] [] σ _
      refine x_lr (z := some S) T_48_0 rfl ?_
      refine x_gR (z := some mb) T_48_1 F_7_9 (hP.o hO) (Eq.trans (hP.rm hO rfl (key := 2233) rfl) hr) ?_
      refine x_ic T_48_4 ?_
      refine x_ic T_48_6 ?_
      refine x_cv3 T_48_7 mN_29 mL_29 (Nat.le_of_ble_eq_true rfl) mO_29 (hP.o hbo) (Nat.le_of_ble_eq_true rfl) (h1) ?_
      rintro _ σ ⟨rfl, rfl⟩
      refine cL ?_
      refine x_sl (ls1 := [some (vR (some S)), some (vL num), none, none, none]) T_48_10 rfl ?_
      refine x_lr (z := some S) T_48_11 rfl ?_
      refine x_lr (z := some S) T_48_12 rfl ?_
      refine x_gI (z := c) T_48_13 (Or.inl F_7_11) (hP.o hO) (Eq.trans (hP.gi hO (key := 2235) rfl) hcn) ?_
      refine x_ll (z := num) T_48_16 rfl ?_
      refine x_cv3 T_48_17 mN_39 mL_39 (Nat.le_of_ble_eq_true rfl) mO_39 (hP.o hO) (Nat.le_of_ble_eq_true rfl) (h5) ?_
      rintro _ σ ⟨rfl, rfl⟩
      refine cR ?_
      refine x_nul T_48_20 (fun _ => ?_) (fun a0 h0 => absurd h0 (by simp))
      refine x_lr (z := some S) T_48_26 rfl ?_
      refine x_gR (z := some mb) T_48_27 F_7_9 (hP.o hO) (Eq.trans (hP.rm hO rfl (key := 2233) rfl) hr) ?_
      refine x_ic T_48_30 ?_
      refine x_ic T_48_32 ?_
      refine x_cv3 T_48_33 mN_29 mL_29 (Nat.le_of_ble_eq_true rfl) mO_29 (hP.o hbo) (Nat.le_of_ble_eq_true rfl) (h2) ?_
      rintro _ σ ⟨rfl, rfl⟩
      refine cL ?_
      refine x_lc T_48_36 ?_
      refine x_lif T_48_39 T_48_40 (fun _ => ?_) (fun h => absurd (show af = 4294967295 by omega) h)
      refine x_lr (z := some S) T_48_46 rfl ?_
      refine x_cv1 T_48_47 mN_49 mL_49 (Nat.le_of_ble_eq_true rfl) mO_49 (hP.o hO) (Nat.le_of_ble_eq_true rfl) (h3) ?_
      rintro _ σ ⟨rfl, rfl⟩
      refine cI ?_
      refine x_si (ls1 := [some (vR (some S)), some (vL num), none, some (vI us), none]) T_48_50 rfl ?_
      refine x_li (z := us) T_48_51 rfl ?_
      refine x_ic T_48_52 ?_
      refine x_ic2 T_48_53 (fun h => absurd (show ¬ us = (-1) from h) (by omega)) (fun _ => ?_)
      refine x_ic T_48_56 ?_
      refine x_ri T_48_58 ?_
      exact hno 15 (by decide) eE
    rw [if_neg q3] at eE
    by_cases q4 : 0 < nu (lg l) p1 2
    · rw [if_pos q4] at eE
      refine CL_in mL_48 rfl ?_
      show WP fb _ 48 0 [some (vR (some S)), none, none, none, none] [] σ _
      refine x_lr (z := some S) T_48_0 rfl ?_
      refine x_gR (z := some mb) T_48_1 F_7_9 (hP.o hO) (Eq.trans (hP.rm hO rfl (key := 2233) rfl) hr) ?_
      refine x_ic T_48_4 ?_
      refine x_ic T_48_6 ?_
      refine x_cv3 T_48_7 mN_29 mL_29 (Nat.le_of_ble_eq_true rfl) mO_29 (hP.o hbo) (Nat.le_of_ble_eq_true rfl) (h1) ?_
      rintro _ σ ⟨rfl, rfl⟩
      refine cL ?_
      refine x_sl (ls1 := [some (vR (some S)), some (vL num), none, none, none]) T_48_10 rfl ?_
      refine x_lr (z := some S) T_48_11 rfl ?_
      refine x_lr (z := some S) T_48_12 rfl ?_
      refine x_gI (z := c) T_48_13 (Or.inl F_7_11) (hP.o hO) (Eq.trans (hP.gi hO (key := 2235) rfl) hcn) ?_
      refine x_ll (z := num) T_48_16 rfl ?_
      refine x_cv3 T_48_17 mN_39 mL_39 (Nat.le_of_ble_eq_true rfl) mO_39 (hP.o hO) (Nat.le_of_ble_eq_true rfl) (h5) ?_
      rintro _ σ ⟨rfl, rfl⟩
      refine cR ?_
      refine x_nul T_48_20 (fun _ => ?_) (fun a0 h0 => absurd h0 (by simp))
      refine x_lr (z := some S) T_48_26 rfl ?_
      refine x_gR (z := some mb) T_48_27 F_7_9 (hP.o hO) (Eq.trans (hP.rm hO rfl (key := 2233) rfl) hr) ?_
      refine x_ic T_48_30 ?_
      refine x_ic T_48_32 ?_
      refine x_cv3 T_48_33 mN_29 mL_29 (Nat.le_of_ble_eq_true rfl) mO_29 (hP.o hbo) (Nat.le_of_ble_eq_true rfl) (h2) ?_
      rintro _ σ ⟨rfl, rfl⟩
      refine cL ?_
      refine x_lc T_48_36 ?_
      refine x_lif T_48_39 T_48_40 (fun _ => ?_) (fun h => absurd (show af = 4294967295 by omega) h)
      refine x_lr (z := some S) T_48_46 rfl ?_
      refine x_cv1 T_48_47 mN_49 mL_49 (Nat.le_of_ble_eq_true rfl) mO_49 (hP.o hO) (Nat.le_of_ble_eq_true rfl) (h3) ?_
      rintro _ σ ⟨rfl, rfl⟩
      refine cI ?_
      refine x_si (ls1 := [some (vR (some S)), some (vL num), none, some (vI us), none]) T_48_50 rfl ?_
      refine x_li (z := us) T_48_51 rfl ?_
      refine x_ic T_48_52 ?_
      refine x_ic2 T_48_53 (fun _ => ?_) (fun h => absurd (show ¬ us = (-1) by omega) h)
      refine x_lr (z := some S) T_48_59 rfl ?_
      refine x_gR (z := some mb) T_48_60 F_7_9 (hP.o hO) (Eq.trans (hP.rm hO rfl (key := 2233) rfl) hr) ?_
      refine x_ic T_48_63 ?_
      refine x_cv2 T_48_65 mN_36 mL_36 (Nat.le_of_ble_eq_true rfl) mO_36 (hP.o hbo) (Nat.le_of_ble_eq_true rfl) (h4) ?_
      rintro _ σ ⟨rfl, rfl⟩
      refine cI ?_
      refine x_ic T_48_68 ?_
      refine x_ib (w := (p1 + 2)) T_48_69 (fun h => absurd h.1 (by decide)) (w32_id (by omega) (by omega)) ?_
      refine x_lr (z := some S) T_48_70 rfl ?_
      refine x_gR (z := some mb) T_48_71 F_7_9 (hP.o hO) (Eq.trans (hP.rm hO rfl (key := 2233) rfl) hr) ?_
      refine x_cv1 T_48_74 mN_28 mL_28 (Nat.le_of_ble_eq_true rfl) mO_28 (hP.o hbo) (Nat.le_of_ble_eq_true rfl) (hsz) ?_
      rintro _ σ ⟨rfl, rfl⟩
      refine cI ?_
      refine x_ic2 T_48_77 (fun h => absurd (show (p1 + 2) = z from h) (by omega)) (fun _ => ?_)
      refine x_ic T_48_80 ?_
      refine x_ri T_48_81 ?_
      exact hno 1 (by decide) eE
    rw [if_neg q4] at eE
    have hfr := frFid_rng (P := P) 48 (48 * (2 * s + c)) (by omega)
    rw [show frFid P 48 (48 * (2 * s + c)) = qFree P s c from rfl] at hfr
    obtain ⟨ff, hff⟩ : ∃ y, qFree P s c = y := ⟨_, rfl⟩
    rw [hff] at eE h6 hfr hno ⊢
    by_cases q5 : ff < 0
    · rw [if_pos q5] at eE
      rw [show fdA S s ff = none by unfold fdA; exact if_pos q5] at h6
      refine CL_in mL_48 rfl ?_
      show WP fb _ 48 0 [some (vR (some S)), none, none, none, none] [] σ _
      refine x_lr (z := some S) T_48_0 rfl ?_
      refine x_gR (z := some mb) T_48_1 F_7_9 (hP.o hO) (Eq.trans (hP.rm hO rfl (key := 2233) rfl) hr) ?_
      refine x_ic T_48_4 ?_
      refine x_ic T_48_6 ?_
      refine x_cv3 T_48_7 mN_29 mL_29 (Nat.le_of_ble_eq_true rfl) mO_29 (hP.o hbo) (Nat.le_of_ble_eq_true rfl) (h1) ?_
      rintro _ σ ⟨rfl, rfl⟩
      refine cL ?_
      refine x_sl (ls1 := [some (vR (some S)), some (vL num), none, none, none]) T_48_10 rfl ?_
      refine x_lr (z := some S) T_48_11 rfl ?_
      refine x_lr (z := some S) T_48_12 rfl ?_
      refine x_gI (z := c) T_48_13 (Or.inl F_7_11) (hP.o hO) (Eq.trans (hP.gi hO (key := 2235) rfl) hcn) ?_
      refine x_ll (z := num) T_48_16 rfl ?_
      refine x_cv3 T_48_17 mN_39 mL_39 (Nat.le_of_ble_eq_true rfl) mO_39 (hP.o hO) (Nat.le_of_ble_eq_true rfl) (h5) ?_
      rintro _ σ ⟨rfl, rfl⟩
      refine cR ?_
      refine x_nul T_48_20 (fun _ => ?_) (fun a0 h0 => absurd h0 (by simp))
      refine x_lr (z := some S) T_48_26 rfl ?_
      refine x_gR (z := some mb) T_48_27 F_7_9 (hP.o hO) (Eq.trans (hP.rm hO rfl (key := 2233) rfl) hr) ?_
      refine x_ic T_48_30 ?_
      refine x_ic T_48_32 ?_
      refine x_cv3 T_48_33 mN_29 mL_29 (Nat.le_of_ble_eq_true rfl) mO_29 (hP.o hbo) (Nat.le_of_ble_eq_true rfl) (h2) ?_
      rintro _ σ ⟨rfl, rfl⟩
      refine cL ?_
      refine x_lc T_48_36 ?_
      refine x_lif T_48_39 T_48_40 (fun _ => ?_) (fun h => absurd (show af = 4294967295 by omega) h)
      refine x_lr (z := some S) T_48_46 rfl ?_
      refine x_cv1 T_48_47 mN_49 mL_49 (Nat.le_of_ble_eq_true rfl) mO_49 (hP.o hO) (Nat.le_of_ble_eq_true rfl) (h3) ?_
      rintro _ σ ⟨rfl, rfl⟩
      refine cI ?_
      refine x_si (ls1 := [some (vR (some S)), some (vL num), none, some (vI us), none]) T_48_50 rfl ?_
      refine x_li (z := us) T_48_51 rfl ?_
      refine x_ic T_48_52 ?_
      refine x_ic2 T_48_53 (fun _ => ?_) (fun h => absurd (show ¬ us = (-1) by omega) h)
      refine x_lr (z := some S) T_48_59 rfl ?_
      refine x_gR (z := some mb) T_48_60 F_7_9 (hP.o hO) (Eq.trans (hP.rm hO rfl (key := 2233) rfl) hr) ?_
      refine x_ic T_48_63 ?_
      refine x_cv2 T_48_65 mN_36 mL_36 (Nat.le_of_ble_eq_true rfl) mO_36 (hP.o hbo) (Nat.le_of_ble_eq_true rfl) (h4) ?_
      rintro _ σ ⟨rfl, rfl⟩
      refine cI ?_
      refine x_ic T_48_68 ?_
      refine x_ib (w := (p1 + 2)) T_48_69 (fun h => absurd h.1 (by decide)) (w32_id (by omega) (by omega)) ?_
      refine x_lr (z := some S) T_48_70 rfl ?_
      refine x_gR (z := some mb) T_48_71 F_7_9 (hP.o hO) (Eq.trans (hP.rm hO rfl (key := 2233) rfl) hr) ?_
      refine x_cv1 T_48_74 mN_28 mL_28 (Nat.le_of_ble_eq_true rfl) mO_28 (hP.o hbo) (Nat.le_of_ble_eq_true rfl) (hsz) ?_
      rintro _ σ ⟨rfl, rfl⟩
      refine cI ?_
      refine x_ic2 T_48_77 (fun _ => ?_) (fun h => absurd (show (p1 + 2) = z by omega) h)
      refine x_lr (z := some S) T_48_82 rfl ?_
      refine x_cv1 T_48_83 mN_50 mL_50 (Nat.le_of_ble_eq_true rfl) mO_50 (hP.o hO) (Nat.le_of_ble_eq_true rfl) (h6) ?_
      rintro _ σ ⟨rfl, rfl⟩
      refine cR ?_
      refine x_sr (ls1 := [some (vR (some S)), some (vL num), none, some (vI us), some (vR none)]) T_48_86 rfl ?_
      refine x_lr (z := none) T_48_88 rfl ?_
      refine x_nnul T_48_90 (fun a0 h0 => absurd h0 (by simp)) (fun _ => ?_)
      refine x_ic T_48_93 ?_
      refine x_ri T_48_95 ?_
      exact hno 12 (by decide) eE
    rw [if_neg q5] at eE
    rw [eE, if_pos rfl, if_pos rfl]
    obtain ⟨i, hi⟩ : ∃ i, ff - 96 * s = i := ⟨_, rfl⟩
    have hi0 : 0 ≤ i ∧ i < 96 := by omega
    have hfi : ff = 96 * s + i := by omega
    rw [hfi] at h6 ⊢
    rw [fdA_p hS hi0.1] at h6
    have hfo := hS.fd hi0
    -- the root
    have hn := hT.2.2.1 0 (by decide) (by decide)
    have hno2 := hS.nd (j := t 0) (hT.2.1.1 0 (by decide))
    have hNd := hT.2.2.2.1 0 (by decide) (by omega)
    have hna := noA_get (S := S) (t := t) hT.nodup (show (0 : Int) ≤ 0 by decide) (show (0 : Int) < ord.length by omega)
    rw [hroot.2] at hNd hna
    rw [show (0 : Int).toNat = 0 from rfl] at hn hNd hna
    obtain ⟨na, hnae⟩ : ∃ na, S + 6 + 3 * t 0 = na := ⟨_, rfl⟩
    rw [hnae] at hn hno2 hNd hna
    have hne0 : na + 1 ≠ rp := by have := hne (t 0) (hT.2.1.1 0 (by decide)); omega
    obtain ⟨pth, hpt⟩ : ∃ y, qPath P s 0 = y := ⟨_, rfl⟩
    have hpw : W na 2260 = pth := hNd.2.2.1.1.trans hpt
    obtain ⟨fo, hfoe⟩ : ∃ fo, S + 198 + i.toNat = fo := ⟨_, rfl⟩
    have hD2 := hD.make (v := num) (u := us) (p := pth) hS hi0 hna hpt.symm
    rw [hfoe] at h6 hfo hD2
    have hfr2 : S + 198 ≤ fo ∧ fo < S + 294 := by omega
    have hT2 : NT (fdW W fo num us pth) (oU R fo 2291 (some na)) (gMake P (96 * s + i) num 0 us) S s ord t := (hT.fid).fe gMake_fe
    have hN2 : ND (fdW W fo num us pth) P na s 0 := by
      have nk : ∀ k : Int, 2288 ≤ k → notN k := fun k hk => ⟨by omega, by omega, by omega, by omega⟩
      exact (((((((hNd.key (nk _ (by decide))).key (nk _ (by decide))).key (nk _ (by decide))).key (nk _ (by decide))).key (nk _ (by decide))).key (nk _ (by decide))).key (nk _ (by decide))).key (nk _ (by decide))
    have hbe := fun (σ : hM) (hP : PX σ0 W R σ) => x_fidBecome (fb := fb) (d := d + 1) (num := num) (u := us) hP hfo hno2 hpw
    have hrp2 : oU R fo 2291 (some na) S 2234 = some rp := (oU_j (by decide)).trans hrp
    have hn2 : oU R fo 2291 (some na) (S + 1) 0 = some na := (oU_j (by decide)).trans hn
    have hpq := fun (σ : hM) (hP : PX σ0 (fdW W fo num us pth) (oU R fo 2291 (some na)) σ) => x_putQid (fb := fb) (d := d) hP hS hrp2 (hBr.fid) hN2 hne0 hroom
    rw [gMake_fe.qid]
    refine CL_in mL_48 rfl ?_
    show WP fb _ 48 0 [some (vR (some S)), none, none, none, none] [] σ _
    refine x_lr (z := some S) T_48_0 rfl ?_
    refine x_gR (z := some mb) T_48_1 F_7_9 (hP.o hO) (Eq.trans (hP.rm hO rfl (key := 2233) rfl) hr) ?_
    refine x_ic T_48_4 ?_
    refine x_ic T_48_6 ?_
    refine x_cv3 T_48_7 mN_29 mL_29 (Nat.le_of_ble_eq_true rfl) mO_29 (hP.o hbo) (Nat.le_of_ble_eq_true rfl) (h1) ?_
    rintro _ σ ⟨rfl, rfl⟩
    refine cL ?_
    refine x_sl (ls1 := [some (vR (some S)), some (vL num), none, none, none]) T_48_10 rfl ?_
    refine x_lr (z := some S) T_48_11 rfl ?_
    refine x_lr (z := some S) T_48_12 rfl ?_
    refine x_gI (z := c) T_48_13 (Or.inl F_7_11) (hP.o hO) (Eq.trans (hP.gi hO (key := 2235) rfl) hcn) ?_
    refine x_ll (z := num) T_48_16 rfl ?_
    refine x_cv3 T_48_17 mN_39 mL_39 (Nat.le_of_ble_eq_true rfl) mO_39 (hP.o hO) (Nat.le_of_ble_eq_true rfl) (h5) ?_
    rintro _ σ ⟨rfl, rfl⟩
    refine cR ?_
    refine x_nul T_48_20 (fun _ => ?_) (fun a0 h0 => absurd h0 (by simp))
    refine x_lr (z := some S) T_48_26 rfl ?_
    refine x_gR (z := some mb) T_48_27 F_7_9 (hP.o hO) (Eq.trans (hP.rm hO rfl (key := 2233) rfl) hr) ?_
    refine x_ic T_48_30 ?_
    refine x_ic T_48_32 ?_
    refine x_cv3 T_48_33 mN_29 mL_29 (Nat.le_of_ble_eq_true rfl) mO_29 (hP.o hbo) (Nat.le_of_ble_eq_true rfl) (h2) ?_
    rintro _ σ ⟨rfl, rfl⟩
    refine cL ?_
    refine x_lc T_48_36 ?_
    refine x_lif T_48_39 T_48_40 (fun _ => ?_) (fun h => absurd (show af = 4294967295 by omega) h)
    refine x_lr (z := some S) T_48_46 rfl ?_
    refine x_cv1 T_48_47 mN_49 mL_49 (Nat.le_of_ble_eq_true rfl) mO_49 (hP.o hO) (Nat.le_of_ble_eq_true rfl) (h3) ?_
    rintro _ σ ⟨rfl, rfl⟩
    refine cI ?_
    refine x_si (ls1 := [some (vR (some S)), some (vL num), none, some (vI us), none]) T_48_50 rfl ?_
    refine x_li (z := us) T_48_51 rfl ?_
    refine x_ic T_48_52 ?_
    refine x_ic2 T_48_53 (fun _ => ?_) (fun h => absurd (show ¬ us = (-1) by omega) h)
    refine x_lr (z := some S) T_48_59 rfl ?_
    refine x_gR (z := some mb) T_48_60 F_7_9 (hP.o hO) (Eq.trans (hP.rm hO rfl (key := 2233) rfl) hr) ?_
    refine x_ic T_48_63 ?_
    refine x_cv2 T_48_65 mN_36 mL_36 (Nat.le_of_ble_eq_true rfl) mO_36 (hP.o hbo) (Nat.le_of_ble_eq_true rfl) (h4) ?_
    rintro _ σ ⟨rfl, rfl⟩
    refine cI ?_
    refine x_ic T_48_68 ?_
    refine x_ib (w := (p1 + 2)) T_48_69 (fun h => absurd h.1 (by decide)) (w32_id (by omega) (by omega)) ?_
    refine x_lr (z := some S) T_48_70 rfl ?_
    refine x_gR (z := some mb) T_48_71 F_7_9 (hP.o hO) (Eq.trans (hP.rm hO rfl (key := 2233) rfl) hr) ?_
    refine x_cv1 T_48_74 mN_28 mL_28 (Nat.le_of_ble_eq_true rfl) mO_28 (hP.o hbo) (Nat.le_of_ble_eq_true rfl) (hsz) ?_
    rintro _ σ ⟨rfl, rfl⟩
    refine cI ?_
    refine x_ic2 T_48_77 (fun _ => ?_) (fun h => absurd (show (p1 + 2) = z by omega) h)
    refine x_lr (z := some S) T_48_82 rfl ?_
    refine x_cv1 T_48_83 mN_50 mL_50 (Nat.le_of_ble_eq_true rfl) mO_50 (hP.o hO) (Nat.le_of_ble_eq_true rfl) (h6) ?_
    rintro _ σ ⟨rfl, rfl⟩
    refine cR ?_
    refine x_sr (ls1 := [some (vR (some S)), some (vL num), none, some (vI us), some (vR (some fo))]) T_48_86 rfl ?_
    refine x_lr (z := some fo) T_48_88 rfl ?_
    refine x_nnul T_48_90 (fun _ _ => ?_) (fun h0 => absurd h0 (by simp))
    refine x_lr (z := some fo) T_48_96 rfl ?_
    refine x_ll (z := num) T_48_98 rfl ?_
    refine x_li (z := us) T_48_99 rfl ?_
    refine x_lr (z := some S) T_48_100 rfl ?_
    refine x_gR (z := some (S + 1)) T_48_101 F_7_2 (hP.o hO) (hP.rc hO rfl rfl) ?_
    refine x_ic T_48_104 ?_
    refine x_alR (z := some na) T_48_105 (hP.ta hA) (by decide) (by omega) (by omega) (Eq.trans (hP.arm hA rfl (by omega)) hn) ?_
    refine x_cv4 T_48_106 mN_51 mL_51 (Nat.le_of_ble_eq_true rfl) mO_51 (hP.o hfo) (Nat.le_of_ble_eq_true rfl) (hbe σ hP) ?_
    clear hP hbe
    rintro _ σ ⟨rfl, hP⟩
    refine cV ?_
    refine x_lr (z := some S) T_48_109 rfl ?_
    refine x_lr (z := some S) T_48_110 rfl ?_
    refine x_gR (z := some (S + 1)) T_48_111 F_7_2 (hP.o hO) (hP.rc hO rfl rfl) ?_
    refine x_ic T_48_114 ?_
    refine x_alR (z := some na) T_48_115 (hP.ta hA) (by decide) (by omega) (by omega) (Eq.trans (hP.arm hA rfl (by omega)) hn2) ?_
    refine x_cv2 T_48_116 mN_52 mL_52 (Nat.le_of_ble_eq_true rfl) mO_52 (hP.o hO) (Nat.le_of_ble_eq_true rfl) (hpq σ hP) ?_
    clear hP hpq
    rintro _ σ ⟨rfl, W2, hP, hB2, hF2⟩
    refine cV ?_
    refine x_ic T_48_119 ?_
    refine x_ri T_48_120 ?_
    exact ⟨rfl, W2, _, hP, hB2, hT2.fb hF2 hne, hD2.fb hF2, FS_fb (FS_fid hfr2) hF2⟩
  · rw [if_pos q2] at eE
    refine CL_in mL_48 rfl ?_
    show WP fb _ 48 0 [some (vR (some S)), none, none, none, none] [] σ _
    refine x_lr (z := some S) T_48_0 rfl ?_
    refine x_gR (z := some mb) T_48_1 F_7_9 (hP.o hO) (Eq.trans (hP.rm hO rfl (key := 2233) rfl) hr) ?_
    refine x_ic T_48_4 ?_
    refine x_ic T_48_6 ?_
    refine x_cv3 T_48_7 mN_29 mL_29 (Nat.le_of_ble_eq_true rfl) mO_29 (hP.o hbo) (Nat.le_of_ble_eq_true rfl) (h1) ?_
    rintro _ σ ⟨rfl, rfl⟩
    refine cL ?_
    refine x_sl (ls1 := [some (vR (some S)), some (vL num), none, none, none]) T_48_10 rfl ?_
    refine x_lr (z := some S) T_48_11 rfl ?_
    refine x_lr (z := some S) T_48_12 rfl ?_
    refine x_gI (z := c) T_48_13 (Or.inl F_7_11) (hP.o hO) (Eq.trans (hP.gi hO (key := 2235) rfl) hcn) ?_
    refine x_ll (z := num) T_48_16 rfl ?_
    refine x_cv3 T_48_17 mN_39 mL_39 (Nat.le_of_ble_eq_true rfl) mO_39 (hP.o hO) (Nat.le_of_ble_eq_true rfl) (h5) ?_
    rintro _ σ ⟨rfl, rfl⟩
    refine cR ?_
    refine x_nul T_48_20 (fun _ => ?_) (fun a0 h0 => absurd h0 (by simp))
    refine x_lr (z := some S) T_48_26 rfl ?_
    refine x_gR (z := some mb) T_48_27 F_7_9 (hP.o hO) (Eq.trans (hP.rm hO rfl (key := 2233) rfl) hr) ?_
    refine x_ic T_48_30 ?_
    refine x_ic T_48_32 ?_
    refine x_cv3 T_48_33 mN_29 mL_29 (Nat.le_of_ble_eq_true rfl) mO_29 (hP.o hbo) (Nat.le_of_ble_eq_true rfl) (h2) ?_
    rintro _ σ ⟨rfl, rfl⟩
    refine cL ?_
    refine x_lc T_48_36 ?_
    refine x_lif T_48_39 T_48_40 (fun h => absurd (show af = 4294967295 from h) (by omega)) (fun _ => ?_)
    refine x_ic T_48_43 ?_
    refine x_ri T_48_45 ?_
    exact hno 14 (by decide) eE
end XATT
