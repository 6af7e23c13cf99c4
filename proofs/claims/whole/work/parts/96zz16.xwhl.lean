/-! Whether a message to the class's servers ends where its parts do; the user it names. -/
theorem T_37_0 : hTab 37 0 = some ((3, 0, 2, []), 1) := rfl
theorem T_37_1 : hTab 37 1 = some ((24, 7, Int.ofNat 9, []), 4) := rfl
theorem T_37_4 : hTab 37 4 = some ((31, 28, 0, []), 7) := rfl
theorem T_37_7 : hTab 37 7 = some ((0, 0, 17, []), 9) := rfl
theorem T_37_9 : hTab 37 9 = some ((19, 3, Int.ofNat 14, []), 12) := rfl
theorem T_37_12 : hTab 37 12 = some ((0, 0, 0, []), 13) := rfl
theorem T_37_13 : hTab 37 13 = some ((33, 2, 0, []), 14) := rfl
theorem T_37_14 : hTab 37 14 = some ((0, 0, 17, []), 16) := rfl
theorem T_37_16 : hTab 37 16 = some ((4, 1, 0, []), 17) := rfl
theorem T_37_17 : hTab 37 17 = some ((3, 0, 2, []), 18) := rfl
theorem T_37_18 : hTab 37 18 = some ((24, 7, Int.ofNat 9, []), 21) := rfl
theorem T_37_21 : hTab 37 21 = some ((0, 0, 15, []), 23) := rfl
theorem T_37_23 : hTab 37 23 = some ((0, 0, 2, []), 24) := rfl
theorem T_37_24 : hTab 37 24 = some ((31, 29, 0, []), 27) := rfl
theorem T_37_27 : hTab 37 27 = some ((15, 0, 0, []), 28) := rfl
theorem T_37_28 : hTab 37 28 = some ((4, 2, 0, []), 29) := rfl
theorem T_37_29 : hTab 37 29 = some ((0, 0, 0, []), 30) := rfl
theorem T_37_30 : hTab 37 30 = some ((4, 3, 0, []), 31) := rfl
theorem T_37_31 : hTab 37 31 = some ((3, 3, 0, []), 32) := rfl
theorem T_37_32 : hTab 37 32 = some ((3, 2, 0, []), 33) := rfl
theorem T_37_33 : hTab 37 33 = some ((19, 3, Int.ofNat 56, []), 36) := rfl
theorem T_37_36 : hTab 37 36 = some ((3, 1, 0, []), 37) := rfl
theorem T_37_37 : hTab 37 37 = some ((0, 0, (-1), []), 38) := rfl
theorem T_37_38 : hTab 37 38 = some ((19, 0, Int.ofNat 56, []), 41) := rfl
theorem T_37_41 : hTab 37 41 = some ((3, 0, 2, []), 42) := rfl
theorem T_37_42 : hTab 37 42 = some ((24, 7, Int.ofNat 9, []), 45) := rfl
theorem T_37_45 : hTab 37 45 = some ((3, 1, 0, []), 46) := rfl
theorem T_37_46 : hTab 37 46 = some ((31, 36, 0, []), 49) := rfl
theorem T_37_49 : hTab 37 49 = some ((4, 1, 0, []), 50) := rfl
theorem T_37_50 : hTab 37 50 = some ((5, 3, 1, []), 53) := rfl
theorem T_37_53 : hTab 37 53 = some ((22, 0, Int.ofNat 31, []), 56) := rfl
theorem T_37_56 : hTab 37 56 = some ((3, 1, 0, []), 57) := rfl
theorem T_37_57 : hTab 37 57 = some ((3, 0, 2, []), 58) := rfl
theorem T_37_58 : hTab 37 58 = some ((24, 7, Int.ofNat 9, []), 61) := rfl
theorem T_37_61 : hTab 37 61 = some ((31, 28, 0, []), 64) := rfl
theorem T_37_64 : hTab 37 64 = some ((19, 1, Int.ofNat 71, []), 67) := rfl
theorem T_37_67 : hTab 37 67 = some ((0, 0, 1, []), 68) := rfl
theorem T_37_68 : hTab 37 68 = some ((22, 0, Int.ofNat 72, []), 71) := rfl
theorem T_37_71 : hTab 37 71 = some ((0, 0, 0, []), 72) := rfl
theorem T_37_72 : hTab 37 72 = some ((33, 2, 0, []), 73) := rfl
theorem T_38_0 : hTab 38 0 = some ((3, 0, 2, []), 1) := rfl
theorem T_38_1 : hTab 38 1 = some ((24, 7, Int.ofNat 9, []), 4) := rfl
theorem T_38_4 : hTab 38 4 = some ((31, 28, 0, []), 7) := rfl
theorem T_38_7 : hTab 38 7 = some ((4, 1, 0, []), 8) := rfl
theorem T_38_8 : hTab 38 8 = some ((3, 1, 0, []), 9) := rfl
theorem T_38_9 : hTab 38 9 = some ((0, 0, 54, []), 11) := rfl
theorem T_38_11 : hTab 38 11 = some ((19, 2, Int.ofNat 54, []), 14) := rfl
theorem T_38_14 : hTab 38 14 = some ((3, 0, 2, []), 15) := rfl
theorem T_38_15 : hTab 38 15 = some ((24, 7, Int.ofNat 9, []), 18) := rfl
theorem T_38_18 : hTab 38 18 = some ((0, 0, 11, []), 20) := rfl
theorem T_38_20 : hTab 38 20 = some ((0, 0, 2, []), 21) := rfl
theorem T_38_21 : hTab 38 21 = some ((31, 29, 0, []), 24) := rfl
theorem T_38_24 : hTab 38 24 = some ((3, 1, 0, []), 25) := rfl
theorem T_38_25 : hTab 38 25 = some ((0, 0, 13, []), 27) := rfl
theorem T_38_27 : hTab 38 27 = some ((10, 1, 0, []), 28) := rfl
theorem T_38_28 : hTab 38 28 = some ((14, 0, 0, []), 29) := rfl
theorem T_38_29 : hTab 38 29 = some ((17, 0, 0, []), 30) := rfl
theorem T_38_30 : hTab 38 30 = some ((18, 1, Int.ofNat 54, []), 33) := rfl
theorem T_38_33 : hTab 38 33 = some ((3, 0, 2, []), 34) := rfl
theorem T_38_34 : hTab 38 34 = some ((24, 7, Int.ofNat 9, []), 37) := rfl
theorem T_38_37 : hTab 38 37 = some ((0, 0, 13, []), 39) := rfl
theorem T_38_39 : hTab 38 39 = some ((0, 0, 2, []), 40) := rfl
theorem T_38_40 : hTab 38 40 = some ((31, 29, 0, []), 43) := rfl
theorem T_38_43 : hTab 38 43 = some ((3, 1, 0, []), 44) := rfl
theorem T_38_44 : hTab 38 44 = some ((0, 0, 13, []), 46) := rfl
theorem T_38_46 : hTab 38 46 = some ((10, 1, 0, []), 47) := rfl
theorem T_38_47 : hTab 38 47 = some ((0, 0, 2, []), 48) := rfl
theorem T_38_48 : hTab 38 48 = some ((10, 1, 0, []), 49) := rfl
theorem T_38_49 : hTab 38 49 = some ((14, 0, 0, []), 50) := rfl
theorem T_38_50 : hTab 38 50 = some ((17, 0, 0, []), 51) := rfl
theorem T_38_51 : hTab 38 51 = some ((18, 0, Int.ofNat 56, []), 54) := rfl
theorem T_38_54 : hTab 38 54 = some ((0, 0, 0, []), 55) := rfl
theorem T_38_55 : hTab 38 55 = some ((33, 2, 0, []), 56) := rfl
theorem T_38_56 : hTab 38 56 = some ((0, 0, 54, []), 58) := rfl
theorem T_38_58 : hTab 38 58 = some ((4, 2, 0, []), 59) := rfl
theorem T_38_59 : hTab 38 59 = some ((0, 0, 0, []), 60) := rfl
theorem T_38_60 : hTab 38 60 = some ((4, 3, 0, []), 61) := rfl
theorem T_38_61 : hTab 38 61 = some ((3, 3, 0, []), 62) := rfl
theorem T_38_62 : hTab 38 62 = some ((0, 0, 4, []), 63) := rfl
theorem T_38_63 : hTab 38 63 = some ((19, 3, Int.ofNat 81, []), 66) := rfl
theorem T_38_66 : hTab 38 66 = some ((3, 0, 2, []), 67) := rfl
theorem T_38_67 : hTab 38 67 = some ((24, 7, Int.ofNat 9, []), 70) := rfl
theorem T_38_70 : hTab 38 70 = some ((3, 2, 0, []), 71) := rfl
theorem T_38_71 : hTab 38 71 = some ((31, 36, 0, []), 74) := rfl
theorem T_38_74 : hTab 38 74 = some ((4, 2, 0, []), 75) := rfl
theorem T_38_75 : hTab 38 75 = some ((5, 3, 1, []), 78) := rfl
theorem T_38_78 : hTab 38 78 = some ((22, 0, Int.ofNat 61, []), 81) := rfl
theorem T_38_81 : hTab 38 81 = some ((3, 2, 0, []), 82) := rfl
theorem T_38_82 : hTab 38 82 = some ((3, 1, 0, []), 83) := rfl
theorem T_38_83 : hTab 38 83 = some ((19, 1, Int.ofNat 90, []), 86) := rfl
theorem T_38_86 : hTab 38 86 = some ((0, 0, 1, []), 87) := rfl
theorem T_38_87 : hTab 38 87 = some ((22, 0, Int.ofNat 91, []), 90) := rfl
theorem T_38_90 : hTab 38 90 = some ((0, 0, 0, []), 91) := rfl
theorem T_38_91 : hTab 38 91 = some ((33, 2, 0, []), 92) := rfl
theorem mN_37 : hmN 37 = 1 := by decide +kernel
theorem mL_37 : hmL 37 = 4 := by decide +kernel
theorem mK_37 : hmK 37 = 1 := by decide +kernel
theorem mO_37 : hmO 37 = 7 := by decide +kernel
theorem mN_38 : hmN 38 = 1 := by decide +kernel
theorem mL_38 : hmL 38 = 4 := by decide +kernel
theorem mK_38 : hmK 38 = 1 := by decide +kernel
theorem mO_38 : hmO 38 = 7 := by decide +kernel
def whlV (a : Int → Int) (z k : Int) : Int := if k = 100 then (if sE a z 11 = z then 1 else 0) else if k = 104 then (if sE a z (sE a z 15) = z then 1 else 0) else if k = 108 then (if z = 9 then 1 else 0) else if k = 110 then (if 17 ≤ z ∧ wkE a z (nu a 15 2).toNat 17 = z then 1 else 0) else if k = 112 then (if z = 12 then 1 else 0) else if k = 114 then (if sE a z 11 = z - 5 then 1 else 0) else if k = 116 then (if z = 23 then 1 else 0) else if k = 118 then (if 23 ≤ z ∧ nu a 19 4 = z - 23 then 1 else 0) else if k = 120 ∨ k = 122 ∨ k = 124 then (if z = 11 then 1 else 0) else if k = 126 then (if 54 ≤ z ∧ nu a 11 2 = z - 13 ∧ nu a 13 2 = z - 15 ∧ wkE a z 4 54 = z then 1 else 0) else 0
section XWHL
variable {fb : Bool} {d S mb N : Nat} {σ0 σ : hM} {W W0 W1 W2 P : qR} {R : rR} {i k x z v s e w c f u y n p : Int} {l nm ord : List Int}
theorem sE_rng (hb : byt l) (hp : p ≤ z) (h0 : 0 ≤ z) : -1 ≤ sE (lg l) z p ∧ sE (lg l) z p ≤ z := by
  by_cases q : 0 ≤ sE (lg l) z p
  · have := sE_ge q
    omega
  · unfold sE at q ⊢
    split
    · omega
    · split
      · omega
      · rename_i q1 q2
        rw [if_neg q1, if_neg q2] at q
        have := (nu_rng (f := lg l) (i := p) 2 (fun j _ => hb _ (by omega))).1
        omega
/-- a number that is there -/
theorem x_num (m : Nat) (hP : PX σ0 W R σ) (hB : BY W mb N l) (hz : (l.length : Int) = z) (hk : (m : Int) = k) (hm : m ≤ 7) (hs : 0 ≤ s) (hl : s + k ≤ z) (hv : nu (lg l) s m = v) : CL fb d 29 [vR (some mb), vI s, vI k] σ (rPL v σ) := by
  have hlz := hB.2.2.2.2.1
  have hn1 := hB.2.2.1
  have h := x_number (fb := fb) (d := d) (s := s) (k := k) hP hB hz ⟨by omega, by omega⟩ ⟨by omega, by omega⟩
  have hr := nu_rng (f := lg l) (i := s) m (fun j _ => hB.2.2.2.2.2.1 _ (by omega))
  have hp := pow256_7 (c := m) hm
  rw [if_pos ⟨hs, hl⟩, show k.toNat = m by omega, hv] at h
  rw [hv] at hr
  rw [w64_id (by omega) (by omega)] at h
  exact h
theorem x_names_loop (hP : PX σ0 W R σ) (hS : VS S s) (hr : R S 2233 = some mb) (hB : BY W mb N l) (hz : (l.length : Int) = z) (hn : 0 ≤ n ∧ n ≤ 65535) : ∀ (m : Nat) (i p : Int), i + m = n → 0 ≤ i → -1 ≤ p ∧ p ≤ z → WP fb d 37 31 [some (vR (some S)), some (vI p), some (vI n), some (vI i)] [] σ (rP (if wkE (lg l) z m p = z then 1 else 0) σ) ∨ d = 0 := by
  intro m
  cases d with
  | zero => exact fun _ _ _ _ _ => Or.inr rfl
  | succ d =>
  have hO := hS.o
  have hbo := hB.1
  have hlz := hB.2.2.2.2.1
  have hn1 := hB.2.2.1
  have hb := hB.2.2.2.2.2.1
  have hsz := x_size (fb := fb) (d := d) hP hB hz
  induction m with
  | zero =>
    intro i p h1 h2 h3
    have h1 : i + ((0 : Nat) : Int) = n := h1
    refine Or.inl ?_
    rw [show wkE (lg l) z 0 p = p from rfl]
    by_cases q : p = z
    · rw [if_pos q]
      refine x_li (z := i) T_37_31 rfl ?_
      refine x_li (z := n) T_37_32 rfl ?_
      refine x_ic2 T_37_33 (fun _ => ?_) (fun h => absurd (show n ≤ i by omega) h)
      refine x_li (z := p) T_37_56 rfl ?_
      refine x_lr (z := some S) T_37_57 rfl ?_
      refine x_gR (z := some mb) T_37_58 F_7_9 (hP.o hO) (Eq.trans (hP.rm hO rfl (key := 2233) rfl) hr) ?_
      refine x_cv1 T_37_61 mN_28 mL_28 (Nat.le_of_ble_eq_true rfl) mO_28 (hP.o hbo) (Nat.le_of_ble_eq_true rfl) (hsz) ?_
      rintro _ σ ⟨rfl, rfl⟩
      refine cI ?_
      refine x_ic2 T_37_64 (fun h => absurd (show ¬ p = z from h) (by omega)) (fun _ => ?_)
      refine x_ic T_37_67 ?_
      refine x_goto T_37_68 ?_
      refine x_rz T_37_72 rfl ?_
      exact ⟨rfl, rfl⟩
    · rw [if_neg q]
      refine x_li (z := i) T_37_31 rfl ?_
      refine x_li (z := n) T_37_32 rfl ?_
      refine x_ic2 T_37_33 (fun _ => ?_) (fun h => absurd (show n ≤ i by omega) h)
      refine x_li (z := p) T_37_56 rfl ?_
      refine x_lr (z := some S) T_37_57 rfl ?_
      refine x_gR (z := some mb) T_37_58 F_7_9 (hP.o hO) (Eq.trans (hP.rm hO rfl (key := 2233) rfl) hr) ?_
      refine x_cv1 T_37_61 mN_28 mL_28 (Nat.le_of_ble_eq_true rfl) mO_28 (hP.o hbo) (Nat.le_of_ble_eq_true rfl) (hsz) ?_
      rintro _ σ ⟨rfl, rfl⟩
      refine cI ?_
      refine x_ic2 T_37_64 (fun _ => ?_) (fun h => absurd (show ¬ p = z by omega) h)
      refine x_ic T_37_71 ?_
      refine x_rz T_37_72 rfl ?_
      exact ⟨rfl, rfl⟩
  | succ m ih =>
    intro i p h1 h2 h3
    refine Or.inl ?_
    by_cases q : p = -1
    · rw [if_neg (fun c => by
        have := wkE_neg (a := lg l) (z := z) (p := p) (by omega) (m + 1)
        omega)]
      subst q
      refine x_li (z := i) T_37_31 rfl ?_
      refine x_li (z := n) T_37_32 rfl ?_
      refine x_ic2 T_37_33 (fun h => absurd (show n ≤ i from h) (by omega)) (fun _ => ?_)
      refine x_li (z := (-1)) T_37_36 rfl ?_
      refine x_ic T_37_37 ?_
      refine x_ic2 T_37_38 (fun _ => ?_) (fun h => absurd (show ((-1) : Int) = (-1) by decide) h)
      refine x_li (z := (-1)) T_37_56 rfl ?_
      refine x_lr (z := some S) T_37_57 rfl ?_
      refine x_gR (z := some mb) T_37_58 F_7_9 (hP.o hO) (Eq.trans (hP.rm hO rfl (key := 2233) rfl) hr) ?_
      refine x_cv1 T_37_61 mN_28 mL_28 (Nat.le_of_ble_eq_true rfl) mO_28 (hP.o hbo) (Nat.le_of_ble_eq_true rfl) (hsz) ?_
      rintro _ σ ⟨rfl, rfl⟩
      refine cI ?_
      refine x_ic2 T_37_64 (fun _ => ?_) (fun h => absurd (show ¬ (-1) = z by omega) h)
      refine x_ic T_37_71 ?_
      refine x_rz T_37_72 rfl ?_
      exact ⟨rfl, rfl⟩
    · have hse := x_stringEnd (fb := fb) (d := d) (s := p) hP hB hz ⟨by omega, by omega⟩
      have hrg := sE_rng (p := p) (z := z) hb h3.2 (by omega)
      have hgo := (ih (i + 1) (sE (lg l) z p) (by omega) (by omega) hrg).resolve_right (Nat.succ_ne_zero d)
      rw [show wkE (lg l) z (m + 1) p = wkE (lg l) z m (sE (lg l) z p) from rfl]
      obtain ⟨p2, hp2⟩ : ∃ p2, sE (lg l) z p = p2 := ⟨_, rfl⟩
      rw [hp2] at hse hgo ⊢
      refine x_li (z := i) T_37_31 rfl ?_
      refine x_li (z := n) T_37_32 rfl ?_
      refine x_ic2 T_37_33 (fun h => absurd (show n ≤ i from h) (by omega)) (fun _ => ?_)
      refine x_li (z := p) T_37_36 rfl ?_
      refine x_ic T_37_37 ?_
      refine x_ic2 T_37_38 (fun h => absurd (show p = (-1) from h) (by omega)) (fun _ => ?_)
      refine x_lr (z := some S) T_37_41 rfl ?_
      refine x_gR (z := some mb) T_37_42 F_7_9 (hP.o hO) (Eq.trans (hP.rm hO rfl (key := 2233) rfl) hr) ?_
      refine x_li (z := p) T_37_45 rfl ?_
      refine x_cv2 T_37_46 mN_36 mL_36 (Nat.le_of_ble_eq_true rfl) mO_36 (hP.o hbo) (Nat.le_of_ble_eq_true rfl) (hse) ?_
      rintro _ σ ⟨rfl, rfl⟩
      refine cI ?_
      refine x_si (ls1 := [some (vR (some S)), some (vI p2), some (vI n), some (vI i)]) T_37_49 rfl ?_
      refine x_inc (w := (i + 1)) (ls1 := [some (vR (some S)), some (vI p2), some (vI n), some (vI (i + 1))]) T_37_50 rfl (w32_id (by omega) (by omega)) rfl ?_
      refine x_goto T_37_53 ?_
      exact hgo
theorem x_areNames (hP : PX σ0 W R σ) (hS : VS S s) (hr : R S 2233 = some mb) (hB : BY W mb N l) (hz : (l.length : Int) = z) : CL fb (d + 1) 37 [vR (some S)] σ (rP (if 17 ≤ z ∧ wkE (lg l) z (nu (lg l) 15 2).toNat 17 = z then 1 else 0) σ) := by
  have hO := hS.o
  have hbo := hB.1
  have hb := hB.2.2.2.2.2.1
  have hsz := x_size (fb := fb) (d := d) hP hB hz
  by_cases q : 17 ≤ z
  · rw [ifc (show 17 ≤ z ∧ wkE (lg l) z (nu (lg l) 15 2).toNat 17 = z ↔ wkE (lg l) z (nu (lg l) 15 2).toNat 17 = z from ⟨fun c => c.2, fun c => ⟨q, c⟩⟩)]
    have hnr := nu_rng (f := lg l) (i := 15) 2 (fun j _ => hb _ (by omega))
    obtain ⟨n, hn⟩ : ∃ n, nu (lg l) 15 2 = n := ⟨_, rfl⟩
    have hnu := x_num (fb := fb) (d := d) (s := 15) (k := 2) 2 hP hB hz rfl (by decide) (by decide) (by omega) hn
    rw [hn] at hnr ⊢
    have hnr2 : n < 65536 := hnr.2
    have hgo := (x_names_loop (fb := fb) (d := d + 1) hP hS hr hB hz (n := n) ⟨hnr.1, by omega⟩ n.toNat 0 17 (by omega) (by decide) ⟨by decide, q⟩).resolve_right (Nat.succ_ne_zero d)
    refine CL_in mL_37 rfl ?_
    show WP fb _ 37 0 [some (vR (some S)), none, none, none] [] σ _
    refine x_lr (z := some S) T_37_0 rfl ?_
    refine x_gR (z := some mb) T_37_1 F_7_9 (hP.o hO) (Eq.trans (hP.rm hO rfl (key := 2233) rfl) hr) ?_
    refine x_cv1 T_37_4 mN_28 mL_28 (Nat.le_of_ble_eq_true rfl) mO_28 (hP.o hbo) (Nat.le_of_ble_eq_true rfl) (hsz) ?_
    rintro _ σ ⟨rfl, rfl⟩
    refine cI ?_
    refine x_ic T_37_7 ?_
    refine x_ic2 T_37_9 (fun _ => ?_) (fun h => absurd (show 17 ≤ z by omega) h)
    refine x_ic T_37_14 ?_
    refine x_si (ls1 := [some (vR (some S)), some (vI 17), none, none]) T_37_16 rfl ?_
    refine x_lr (z := some S) T_37_17 rfl ?_
    refine x_gR (z := some mb) T_37_18 F_7_9 (hP.o hO) (Eq.trans (hP.rm hO rfl (key := 2233) rfl) hr) ?_
    refine x_ic T_37_21 ?_
    refine x_ic T_37_23 ?_
    refine x_cv3 T_37_24 mN_29 mL_29 (Nat.le_of_ble_eq_true rfl) mO_29 (hP.o hbo) (Nat.le_of_ble_eq_true rfl) (hnu) ?_
    rintro _ σ ⟨rfl, rfl⟩
    refine cL ?_
    refine x_l2i (w := n) T_37_27 (w32_id (by omega) (by omega)) ?_
    refine x_si (ls1 := [some (vR (some S)), some (vI 17), some (vI n), none]) T_37_28 rfl ?_
    refine x_ic T_37_29 ?_
    refine x_si (ls1 := [some (vR (some S)), some (vI 17), some (vI n), some (vI 0)]) T_37_30 rfl ?_
    exact hgo
  · rw [if_neg (fun c => q c.1)]
    refine CL_in mL_37 rfl ?_
    show WP fb _ 37 0 [some (vR (some S)), none, none, none] [] σ _
    refine x_lr (z := some S) T_37_0 rfl ?_
    refine x_gR (z := some mb) T_37_1 F_7_9 (hP.o hO) (Eq.trans (hP.rm hO rfl (key := 2233) rfl) hr) ?_
    refine x_cv1 T_37_4 mN_28 mL_28 (Nat.le_of_ble_eq_true rfl) mO_28 (hP.o hbo) (Nat.le_of_ble_eq_true rfl) (hsz) ?_
    rintro _ σ ⟨rfl, rfl⟩
    refine cI ?_
    refine x_ic T_37_7 ?_
    refine x_ic2 T_37_9 (fun h => absurd (show 17 ≤ z from h) (by omega)) (fun _ => ?_)
    refine x_ic T_37_12 ?_
    refine x_rz T_37_13 rfl ?_
    exact ⟨rfl, rfl⟩
theorem x_stat_loop (hP : PX σ0 W R σ) (hS : VS S s) (hr : R S 2233 = some mb) (hB : BY W mb N l) (hz : (l.length : Int) = z) : ∀ (m : Nat) (i p : Int), i + m = 4 → 0 ≤ i → -1 ≤ p ∧ p ≤ z → WP fb (d + 1) 38 61 [some (vR (some S)), some (vI z), some (vI p), some (vI i)] [] σ (rP (if wkE (lg l) z m p = z then 1 else 0) σ) := by
  have hO := hS.o
  have hbo := hB.1
  have hlz := hB.2.2.2.2.1
  have hn1 := hB.2.2.1
  have hb := hB.2.2.2.2.2.1
  intro m
  induction m with
  | zero =>
    intro i p h1 h2 h3
    have h1 : i + ((0 : Nat) : Int) = 4 := h1
    rw [show wkE (lg l) z 0 p = p from rfl]
    by_cases q : p = z
    · rw [if_pos q]
      refine x_li (z := i) T_38_61 rfl ?_
      refine x_ic T_38_62 ?_
      refine x_ic2 T_38_63 (fun _ => ?_) (fun h => absurd (show 4 ≤ i by omega) h)
      refine x_li (z := p) T_38_81 rfl ?_
      refine x_li (z := z) T_38_82 rfl ?_
      refine x_ic2 T_38_83 (fun h => absurd (show ¬ p = z from h) (by omega)) (fun _ => ?_)
      refine x_ic T_38_86 ?_
      refine x_goto T_38_87 ?_
      refine x_rz T_38_91 rfl ?_
      exact ⟨rfl, rfl⟩
    · rw [if_neg q]
      refine x_li (z := i) T_38_61 rfl ?_
      refine x_ic T_38_62 ?_
      refine x_ic2 T_38_63 (fun _ => ?_) (fun h => absurd (show 4 ≤ i by omega) h)
      refine x_li (z := p) T_38_81 rfl ?_
      refine x_li (z := z) T_38_82 rfl ?_
      refine x_ic2 T_38_83 (fun _ => ?_) (fun h => absurd (show ¬ p = z by omega) h)
      refine x_ic T_38_90 ?_
      refine x_rz T_38_91 rfl ?_
      exact ⟨rfl, rfl⟩
  | succ m ih =>
    intro i p h1 h2 h3
    have hse := x_stringEnd (fb := fb) (d := d) (s := p) hP hB hz ⟨by omega, by omega⟩
    have hrg := sE_rng (p := p) (z := z) hb h3.2 (by omega)
    have hgo := ih (i + 1) (sE (lg l) z p) (by omega) (by omega) hrg
    rw [show wkE (lg l) z (m + 1) p = wkE (lg l) z m (sE (lg l) z p) from rfl]
    obtain ⟨p2, hp2⟩ : ∃ p2, sE (lg l) z p = p2 := ⟨_, rfl⟩
    rw [hp2] at hse hgo ⊢
    refine x_li (z := i) T_38_61 rfl ?_
    refine x_ic T_38_62 ?_
    refine x_ic2 T_38_63 (fun h => absurd (show 4 ≤ i from h) (by omega)) (fun _ => ?_)
    refine x_lr (z := some S) T_38_66 rfl ?_
    refine x_gR (z := some mb) T_38_67 F_7_9 (hP.o hO) (Eq.trans (hP.rm hO rfl (key := 2233) rfl) hr) ?_
    refine x_li (z := p) T_38_70 rfl ?_
    refine x_cv2 T_38_71 mN_36 mL_36 (Nat.le_of_ble_eq_true rfl) mO_36 (hP.o hbo) (Nat.le_of_ble_eq_true rfl) (hse) ?_
    rintro _ σ ⟨rfl, rfl⟩
    refine cI ?_
    refine x_si (ls1 := [some (vR (some S)), some (vI z), some (vI p2), some (vI i)]) T_38_74 rfl ?_
    refine x_inc (w := (i + 1)) (ls1 := [some (vR (some S)), some (vI z), some (vI p2), some (vI (i + 1))]) T_38_75 rfl (w32_id (by omega) (by omega)) rfl ?_
    refine x_goto T_38_78 ?_
    exact hgo
theorem x_isStat (hP : PX σ0 W R σ) (hS : VS S s) (hr : R S 2233 = some mb) (hB : BY W mb N l) (hz : (l.length : Int) = z) : CL fb (d + 1) 38 [vR (some S)] σ (rP (if 54 ≤ z ∧ nu (lg l) 11 2 = z - 13 ∧ nu (lg l) 13 2 = z - 15 ∧ wkE (lg l) z 4 54 = z then 1 else 0) σ) := by
  have hO := hS.o
  have hbo := hB.1
  have hlz := hB.2.2.2.2.1
  have hn1 := hB.2.2.1
  have hsz := x_size (fb := fb) (d := d) hP hB hz
  by_cases q : 54 ≤ z
  · obtain ⟨n1, hn1'⟩ : ∃ n, nu (lg l) 11 2 = n := ⟨_, rfl⟩
    obtain ⟨n2, hn2'⟩ : ∃ n, nu (lg l) 13 2 = n := ⟨_, rfl⟩
    have h1 := x_num (fb := fb) (d := d) (s := 11) (k := 2) 2 hP hB hz rfl (by decide) (by decide) (by omega) hn1'
    have h2 := x_num (fb := fb) (d := d) (s := 13) (k := 2) 2 hP hB hz rfl (by decide) (by decide) (by omega) hn2'
    rw [hn1', hn2']
    by_cases q1 : n1 = z - 13
    · by_cases q2 : n2 = z - 15
      · have hgo := x_stat_loop (fb := fb) (d := d) hP hS hr hB hz 4 0 54 (by decide) (by decide) ⟨by decide, q⟩
        rw [ifc (show 54 ≤ z ∧ n1 = z - 13 ∧ n2 = z - 15 ∧ wkE (lg l) z 4 54 = z ↔ wkE (lg l) z 4 54 = z from ⟨fun c => c.2.2.2, fun c => ⟨q, q1, q2, c⟩⟩)]
        refine CL_in mL_38 rfl ?_
        show WP fb _ 38 0 [some (vR (some S)), none, none, none] [] σ _
        refine x_lr (z := some S) T_38_0 rfl ?_
        refine x_gR (z := some mb) T_38_1 F_7_9 (hP.o hO) (Eq.trans (hP.rm hO rfl (key := 2233) rfl) hr) ?_
        refine x_cv1 T_38_4 mN_28 mL_28 (Nat.le_of_ble_eq_true rfl) mO_28 (hP.o hbo) (Nat.le_of_ble_eq_true rfl) (hsz) ?_
        rintro _ σ ⟨rfl, rfl⟩
        refine cI ?_
        refine x_si (ls1 := [some (vR (some S)), some (vI z), none, none]) T_38_7 rfl ?_
        refine x_li (z := z) T_38_8 rfl ?_
        refine x_ic T_38_9 ?_
        refine x_ic2 T_38_11 (fun h => absurd (show z < 54 from h) (by omega)) (fun _ => ?_)
        refine x_lr (z := some S) T_38_14 rfl ?_
        refine x_gR (z := some mb) T_38_15 F_7_9 (hP.o hO) (Eq.trans (hP.rm hO rfl (key := 2233) rfl) hr) ?_
        refine x_ic T_38_18 ?_
        refine x_ic T_38_20 ?_
        refine x_cv3 T_38_21 mN_29 mL_29 (Nat.le_of_ble_eq_true rfl) mO_29 (hP.o hbo) (Nat.le_of_ble_eq_true rfl) (h1) ?_
        rintro _ σ ⟨rfl, rfl⟩
        refine cL ?_
        refine x_li (z := z) T_38_24 rfl ?_
        refine x_ic T_38_25 ?_
        refine x_ib (w := (z - 13)) T_38_27 (fun h => absurd h.1 (by decide)) (w32_id (by omega) (by omega)) ?_
        refine x_i2l T_38_28 ?_
        refine x_lif T_38_29 T_38_30 (fun h => absurd (show ¬ n1 = (z - 13) from h) (by omega)) (fun _ => ?_)
        refine x_lr (z := some S) T_38_33 rfl ?_
        refine x_gR (z := some mb) T_38_34 F_7_9 (hP.o hO) (Eq.trans (hP.rm hO rfl (key := 2233) rfl) hr) ?_
        refine x_ic T_38_37 ?_
        refine x_ic T_38_39 ?_
        refine x_cv3 T_38_40 mN_29 mL_29 (Nat.le_of_ble_eq_true rfl) mO_29 (hP.o hbo) (Nat.le_of_ble_eq_true rfl) (h2) ?_
        rintro _ σ ⟨rfl, rfl⟩
        refine cL ?_
        refine x_li (z := z) T_38_43 rfl ?_
        refine x_ic T_38_44 ?_
        refine x_ib (w := (z - 13)) T_38_46 (fun h => absurd h.1 (by decide)) (w32_id (by omega) (by omega)) ?_
        refine x_ic T_38_47 ?_
        refine x_ib (w := ((z - 13) - 2)) T_38_48 (fun h => absurd h.1 (by decide)) (w32_id (by omega) (by omega)) ?_
        refine x_i2l T_38_49 ?_
        refine x_lif T_38_50 T_38_51 (fun _ => ?_) (fun h => absurd (show n2 = ((z - 13) - 2) by omega) h)
        refine x_ic T_38_56 ?_
        refine x_si (ls1 := [some (vR (some S)), some (vI z), some (vI 54), none]) T_38_58 rfl ?_
        refine x_ic T_38_59 ?_
        refine x_si (ls1 := [some (vR (some S)), some (vI z), some (vI 54), some (vI 0)]) T_38_60 rfl ?_
        exact hgo
      · rw [if_neg (fun c => q2 c.2.2.1)]
        refine CL_in mL_38 rfl ?_
        show WP fb _ 38 0 [some (vR (some S)), none, none, none] [] σ _
        refine x_lr (z := some S) T_38_0 rfl ?_
        refine x_gR (z := some mb) T_38_1 F_7_9 (hP.o hO) (Eq.trans (hP.rm hO rfl (key := 2233) rfl) hr) ?_
        refine x_cv1 T_38_4 mN_28 mL_28 (Nat.le_of_ble_eq_true rfl) mO_28 (hP.o hbo) (Nat.le_of_ble_eq_true rfl) (hsz) ?_
        rintro _ σ ⟨rfl, rfl⟩
        refine cI ?_
        refine x_si (ls1 := [some (vR (some S)), some (vI z), none, none]) T_38_7 rfl ?_
        refine x_li (z := z) T_38_8 rfl ?_
        refine x_ic T_38_9 ?_
        refine x_ic2 T_38_11 (fun h => absurd (show z < 54 from h) (by omega)) (fun _ => ?_)
        refine x_lr (z := some S) T_38_14 rfl ?_
        refine x_gR (z := some mb) T_38_15 F_7_9 (hP.o hO) (Eq.trans (hP.rm hO rfl (key := 2233) rfl) hr) ?_
        refine x_ic T_38_18 ?_
        refine x_ic T_38_20 ?_
        refine x_cv3 T_38_21 mN_29 mL_29 (Nat.le_of_ble_eq_true rfl) mO_29 (hP.o hbo) (Nat.le_of_ble_eq_true rfl) (h1) ?_
        rintro _ σ ⟨rfl, rfl⟩
        refine cL ?_
        refine x_li (z := z) T_38_24 rfl ?_
        refine x_ic T_38_25 ?_
        refine x_ib (w := (z - 13)) T_38_27 (fun h => absurd h.1 (by decide)) (w32_id (by omega) (by omega)) ?_
        refine x_i2l T_38_28 ?_
        refine x_lif T_38_29 T_38_30 (fun h => absurd (show ¬ n1 = (z - 13) from h) (by omega)) (fun _ => ?_)
        refine x_lr (z := some S) T_38_33 rfl ?_
        refine x_gR (z := some mb) T_38_34 F_7_9 (hP.o hO) (Eq.trans (hP.rm hO rfl (key := 2233) rfl) hr) ?_
        refine x_ic T_38_37 ?_
        refine x_ic T_38_39 ?_
        refine x_cv3 T_38_40 mN_29 mL_29 (Nat.le_of_ble_eq_true rfl) mO_29 (hP.o hbo) (Nat.le_of_ble_eq_true rfl) (h2) ?_
        rintro _ σ ⟨rfl, rfl⟩
        refine cL ?_
        refine x_li (z := z) T_38_43 rfl ?_
        refine x_ic T_38_44 ?_
        refine x_ib (w := (z - 13)) T_38_46 (fun h => absurd h.1 (by decide)) (w32_id (by omega) (by omega)) ?_
        refine x_ic T_38_47 ?_
        refine x_ib (w := ((z - 13) - 2)) T_38_48 (fun h => absurd h.1 (by decide)) (w32_id (by omega) (by omega)) ?_
        refine x_i2l T_38_49 ?_
        refine x_lif T_38_50 T_38_51 (fun h => absurd (show n2 = ((z - 13) - 2) from h) (by omega)) (fun _ => ?_)
        refine x_ic T_38_54 ?_
        refine x_rz T_38_55 rfl ?_
        exact ⟨rfl, rfl⟩
    · rw [if_neg (fun c => q1 c.2.1)]
      refine CL_in mL_38 rfl ?_
      show WP fb _ 38 0 [some (vR (some S)), none, none, none] [] σ _
      refine x_lr (z := some S) T_38_0 rfl ?_
      refine x_gR (z := some mb) T_38_1 F_7_9 (hP.o hO) (Eq.trans (hP.rm hO rfl (key := 2233) rfl) hr) ?_
      refine x_cv1 T_38_4 mN_28 mL_28 (Nat.le_of_ble_eq_true rfl) mO_28 (hP.o hbo) (Nat.le_of_ble_eq_true rfl) (hsz) ?_
      rintro _ σ ⟨rfl, rfl⟩
      refine cI ?_
      refine x_si (ls1 := [some (vR (some S)), some (vI z), none, none]) T_38_7 rfl ?_
      refine x_li (z := z) T_38_8 rfl ?_
      refine x_ic T_38_9 ?_
      refine x_ic2 T_38_11 (fun h => absurd (show z < 54 from h) (by omega)) (fun _ => ?_)
      refine x_lr (z := some S) T_38_14 rfl ?_
      refine x_gR (z := some mb) T_38_15 F_7_9 (hP.o hO) (Eq.trans (hP.rm hO rfl (key := 2233) rfl) hr) ?_
      refine x_ic T_38_18 ?_
      refine x_ic T_38_20 ?_
      refine x_cv3 T_38_21 mN_29 mL_29 (Nat.le_of_ble_eq_true rfl) mO_29 (hP.o hbo) (Nat.le_of_ble_eq_true rfl) (h1) ?_
      rintro _ σ ⟨rfl, rfl⟩
      refine cL ?_
      refine x_li (z := z) T_38_24 rfl ?_
      refine x_ic T_38_25 ?_
      refine x_ib (w := (z - 13)) T_38_27 (fun h => absurd h.1 (by decide)) (w32_id (by omega) (by omega)) ?_
      refine x_i2l T_38_28 ?_
      refine x_lif T_38_29 T_38_30 (fun _ => ?_) (fun h => absurd (show ¬ n1 = (z - 13) by omega) h)
      refine x_ic T_38_54 ?_
      refine x_rz T_38_55 rfl ?_
      exact ⟨rfl, rfl⟩
  · rw [if_neg (fun c => q c.1)]
    refine CL_in mL_38 rfl ?_
    show WP fb _ 38 0 [some (vR (some S)), none, none, none] [] σ _
    refine x_lr (z := some S) T_38_0 rfl ?_
    refine x_gR (z := some mb) T_38_1 F_7_9 (hP.o hO) (Eq.trans (hP.rm hO rfl (key := 2233) rfl) hr) ?_
    refine x_cv1 T_38_4 mN_28 mL_28 (Nat.le_of_ble_eq_true rfl) mO_28 (hP.o hbo) (Nat.le_of_ble_eq_true rfl) (hsz) ?_
    rintro _ σ ⟨rfl, rfl⟩
    refine cI ?_
    refine x_si (ls1 := [some (vR (some S)), some (vI z), none, none]) T_38_7 rfl ?_
    refine x_li (z := z) T_38_8 rfl ?_
    refine x_ic T_38_9 ?_
    refine x_ic2 T_38_11 (fun _ => ?_) (fun h => absurd (show z < 54 by omega) h)
    refine x_ic T_38_54 ?_
    refine x_rz T_38_55 rfl ?_
    exact ⟨rfl, rfl⟩
end XWHL
