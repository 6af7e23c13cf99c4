/-! The class's servers: a write. -/
theorem T_82_0 : hTab 82 0 = some ((3, 0, 2, []), 1) := rfl
theorem T_82_1 : hTab 82 1 = some ((24, 7, Int.ofNat 9, []), 4) := rfl
theorem T_82_4 : hTab 82 4 = some ((31, 28, 0, []), 7) := rfl
theorem T_82_7 : hTab 82 7 = some ((4, 2, 0, []), 8) := rfl
theorem T_82_8 : hTab 82 8 = some ((3, 1, 2, []), 9) := rfl
theorem T_82_9 : hTab 82 9 = some ((24, 8, Int.ofNat 3, []), 12) := rfl
theorem T_82_12 : hTab 82 12 = some ((0, 0, 1, []), 13) := rfl
theorem T_82_13 : hTab 82 13 = some ((19, 1, Int.ofNat 36, []), 16) := rfl
theorem T_82_16 : hTab 82 16 = some ((3, 0, 2, []), 17) := rfl
theorem T_82_17 : hTab 82 17 = some ((24, 7, Int.ofNat 0, []), 20) := rfl
theorem T_82_20 : hTab 82 20 = some ((24, 1, Int.ofNat 1, []), 23) := rfl
theorem T_82_23 : hTab 82 23 = some ((3, 0, 2, []), 24) := rfl
theorem T_82_24 : hTab 82 24 = some ((24, 7, Int.ofNat 9, []), 27) := rfl
theorem T_82_27 : hTab 82 27 = some ((0, 0, 23, []), 29) := rfl
theorem T_82_29 : hTab 82 29 = some ((3, 2, 0, []), 30) := rfl
theorem T_82_30 : hTab 82 30 = some ((31, 32, 0, []), 33) := rfl
theorem T_82_33 : hTab 82 33 = some ((7, 0, 0, []), 34) := rfl
theorem T_82_34 : hTab 82 34 = some ((0, 0, 0, []), 35) := rfl
theorem T_82_35 : hTab 82 35 = some ((33, 1, 0, []), 36) := rfl
theorem T_82_36 : hTab 82 36 = some ((3, 0, 2, []), 37) := rfl
theorem T_82_37 : hTab 82 37 = some ((24, 7, Int.ofNat 9, []), 40) := rfl
theorem T_82_40 : hTab 82 40 = some ((3, 2, 0, []), 41) := rfl
theorem T_82_41 : hTab 82 41 = some ((0, 0, 1, []), 42) := rfl
theorem T_82_42 : hTab 82 42 = some ((10, 1, 0, []), 43) := rfl
theorem T_82_43 : hTab 82 43 = some ((31, 33, 0, []), 46) := rfl
theorem T_82_46 : hTab 82 46 = some ((0, 0, 10, []), 48) := rfl
theorem T_82_48 : hTab 82 48 = some ((19, 1, Int.ofNat 57, []), 51) := rfl
theorem T_82_51 : hTab 82 51 = some ((3, 2, 0, []), 52) := rfl
theorem T_82_52 : hTab 82 52 = some ((0, 0, 1, []), 53) := rfl
theorem T_82_53 : hTab 82 53 = some ((10, 1, 0, []), 54) := rfl
theorem T_82_54 : hTab 82 54 = some ((22, 0, Int.ofNat 58, []), 57) := rfl
theorem T_82_57 : hTab 82 57 = some ((3, 2, 0, []), 58) := rfl
theorem T_82_58 : hTab 82 58 = some ((4, 3, 0, []), 59) := rfl
theorem T_82_59 : hTab 82 59 = some ((3, 1, 2, []), 60) := rfl
theorem T_82_60 : hTab 82 60 = some ((24, 8, Int.ofNat 2, []), 63) := rfl
theorem T_82_63 : hTab 82 63 = some ((20, 0, Int.ofNat 82, []), 66) := rfl
theorem T_82_66 : hTab 82 66 = some ((3, 0, 2, []), 67) := rfl
theorem T_82_67 : hTab 82 67 = some ((24, 7, Int.ofNat 9, []), 70) := rfl
theorem T_82_70 : hTab 82 70 = some ((0, 0, 23, []), 72) := rfl
theorem T_82_72 : hTab 82 72 = some ((3, 3, 0, []), 73) := rfl
theorem T_82_73 : hTab 82 73 = some ((34, 9, 0, []), 76) := rfl
theorem T_82_76 : hTab 82 76 = some ((31, 47, 0, []), 79) := rfl
theorem T_82_79 : hTab 82 79 = some ((18, 1, Int.ofNat 85, []), 82) := rfl
theorem T_82_82 : hTab 82 82 = some ((0, 0, 14, []), 84) := rfl
theorem T_82_84 : hTab 82 84 = some ((33, 1, 0, []), 85) := rfl
theorem T_82_85 : hTab 82 85 = some ((3, 1, 2, []), 86) := rfl
theorem T_82_86 : hTab 82 86 = some ((24, 8, Int.ofNat 2, []), 89) := rfl
theorem T_82_89 : hTab 82 89 = some ((0, 0, 1, []), 90) := rfl
theorem T_82_90 : hTab 82 90 = some ((25, 6, Int.ofNat 6, []), 93) := rfl
theorem T_82_93 : hTab 82 93 = some ((0, 0, 0, []), 94) := rfl
theorem T_82_94 : hTab 82 94 = some ((33, 1, 0, []), 95) := rfl
theorem F_6_6 : (hFd 6 6).2.2.1 = 2 := rfl
theorem mN_82 : hmN 82 = 2 := by decide +kernel
theorem mL_82 : hmL 82 = 4 := by decide +kernel
theorem mK_82 : hmK 82 = 1 := by decide +kernel
theorem mO_82 : hmO 82 = 7 := by decide +kernel
/-- fids open to write aren't at a server's directories -/
def WDW (P : qR) : Prop := ∀ k : Int, 192 ≤ k → k < 288 → ¬ P 2304 k = 0 → P 2310 k = 0 → 0 ≤ P 2309 k → 1 ≤ and32 (P 2309 k) 3 → and32 (P 2309 k) 3 ≤ 2 → ¬ P 2306 k = 0 ∧ ¬ P 2306 k % 16 = 0
section XWR
variable {fb : Bool} {d S a c c0 rp mb m0 N M fa pr : Nat} {σ0 σ σ' : hM} {W W1 W2 W3 P Q : qR} {R R1 R2 : rR} {b i k x z v s e w f u p g ln K T U C y off cnt n md tb : Int} {ord l l2 nm lo D L li : List Int} {t : Nat → Nat} {r : Option AV} {F : Int → Int}
theorem kill_eq : txt 5 = seg (pkB 1802071148 4) 0 4 := by decide
/-- the screen's row takes what it can -/
theorem gCon_seg (h0 : 0 ≤ P 2281 41 ∧ P 2281 41 ≤ 1000) : ∀ m : Nat, seg (gCon P F k m 2315) 0 (gCon P F k m 2281 41).toNat = (seg (P 2315) 0 (P 2281 41).toNat ++ seg F k m).take 1000 ∧ 0 ≤ gCon P F k m 2281 41 ∧ gCon P F k m 2281 41 ≤ 1000 := by
  intro m
  induction m with
  | zero =>
    refine ⟨?_, h0⟩
    rw [show seg F k 0 = [] from rfl, List.append_nil, List.take_of_length_le (by rw [seg_len]; omega)]
    rfl
  | succ m ih =>
    obtain ⟨h1, h2, h3⟩ := ih
    have hlen := congrArg List.length h1
    rw [seg_len] at hlen
    rw [seg_snoc]
    by_cases q : gCon P F k m 2281 41 < 1000
    · have e1 : gCon P F k (m + 1) = rU (rU (gCon P F k m) 2315 (gCon P F k m 2281 41) (F (k + m))) 2281 41 (gCon P F k m 2281 41 + 1) := if_pos q
      rw [e1]
      obtain ⟨c1, hc1⟩ : ∃ c1, gCon P F k m 2281 41 = c1 := ⟨_, rfl⟩
      rw [hc1] at h1 h2 h3 hlen q ⊢
      have hshort : (seg (P 2315) 0 (P 2281 41).toNat ++ seg F k m).length < 1000 := by
        rw [List.length_take] at hlen
        omega
      rw [List.take_of_length_le (by omega)] at h1
      rw [← List.append_assoc, ← h1, List.take_of_length_le (by rw [List.length_append, seg_len]; show c1.toNat + 1 ≤ 1000; omega), rU_s, show (c1 + 1).toNat = c1.toNat + 1 by omega, seg_snoc]
      refine ⟨?_, by omega, by omega⟩
      congr 1
      · refine seg_seg.mpr (fun j j0 j1 => ?_)
        rw [rU_f (by decide), rU_k (by omega)]
      · rw [show (0 : Int) + ((c1.toNat : Nat) : Int) = c1 by omega, rU_f (by decide), rU_s]
    · have e1 : gCon P F k (m + 1) = gCon P F k m := if_neg q
      rw [e1]
      refine ⟨?_, h2, h3⟩
      rw [List.length_take] at hlen
      rw [h1, ← List.append_assoc]
      exact (List.take_append_of_le_length (by omega)).symm
/-- the screen is written -/
theorem wd_cons (hP : PX σ0 W R σ) (hO : tX S = some (Sum.inl 7)) (hno : tX a = some (Sum.inl 8)) (hdev : W a 2259 = 1) (hC : BY W 132 1000 li) (hr : R S 2233 = some mb) (hB : BY W mb M l) (hz : (l.length : Int) = z) (hne : mb ≠ 132) (hz3 : 23 ≤ z) : CL fb (d + 5) 82 [vR (some S), vR (some a)] σ (fun r σ' => r = some (vI 0) ∧ ∃ W2, PX σ0 W2 R σ' ∧ FB 132 W W2 ∧ BY W2 132 1000 ((li ++ seg (lg l) 23 (z - 23).toNat).take 1000)) := by
  have hm := hB.1
  have hco := hC.1
  have hsz := x_size (fb := fb) (d := d + 4) hP hB hz
  have hadd := x_addAll (fb := fb) (d := d + 4) (s := 23) (e := z) hP hC hB hne (Or.inr (by decide)) (by omega)
  obtain ⟨rr, hrr⟩ : ∃ q : Int, (if li.length + (z - 23).toNat ≤ 1000 then (1 : Int) else 0) = q := ⟨_, rfl⟩
  rw [hrr] at hadd
  refine CL_in mL_82 rfl ?_
  show WP fb _ 82 0 [some (vR (some S)), some (vR (some a)), none, none] [] σ _
  refine x_lr (z := some S) T_82_0 rfl ?_
  refine x_gR (z := some mb) T_82_1 F_7_9 (hP.o hO) (Eq.trans (hP.rm hO rfl (key := 2233) rfl) hr) ?_
  refine x_cv1 T_82_4 mN_28 mL_28 (Nat.le_of_ble_eq_true rfl) mO_28 (hP.o hm) (Nat.le_of_ble_eq_true rfl) (hsz) ?_
  rintro _ σ ⟨rfl, rfl⟩
  refine cI ?_
  refine x_si (ls1 := [some (vR (some S)), some (vR (some a)), some (vI z), none]) T_82_7 rfl ?_
  refine x_lr (z := some a) T_82_8 rfl ?_
  refine x_gI (z := 1) T_82_9 (Or.inl F_8_3) (hP.o hno) (Eq.trans (hP.gi hno (key := 2259) rfl) hdev) ?_
  refine x_ic T_82_12 ?_
  refine x_ic2 T_82_13 (fun h => absurd (show ¬ (1 : Int) = 1 from h) (by decide)) (fun _ => ?_)
  refine x_lr (z := some S) T_82_16 rfl ?_
  refine x_gR (z := some 129) T_82_17 F_7_0 (hP.o hO) (hP.rc hO rfl rfl) ?_
  refine x_gR (z := some 132) T_82_20 F_1_1 (hP.o xo_129) (hP.rc xo_129 rfl rfl) ?_
  refine x_lr (z := some S) T_82_23 rfl ?_
  refine x_gR (z := some mb) T_82_24 F_7_9 (hP.o hO) (Eq.trans (hP.rm hO rfl (key := 2233) rfl) hr) ?_
  refine x_ic T_82_27 ?_
  refine x_li (z := z) T_82_29 rfl ?_
  refine x_cv4 T_82_30 mN_32 mL_32 (Nat.le_of_ble_eq_true rfl) mO_32 (hP.o xo_132) (Nat.le_of_ble_eq_true rfl) (hadd) ?_
  clear hP hadd hsz
  rintro _ σ ⟨rfl, W2, hP, hB2, hF2⟩
  refine cI ?_
  refine x_popI T_82_33 ?_
  refine x_ic T_82_34 ?_
  refine x_ri T_82_35 ?_
  exact ⟨rfl, W2, hP, hF2, hB2⟩
/-- a process's ctl is written -/
theorem wd_kill (hP : PX σ0 W R σ) (hO : tX S = some (Sum.inl 7)) (hno : tX a = some (Sum.inl 8)) (hdev : W a 2259 = v) (hv : ¬ v = 1) (hpr : R a 2258 = some pr) (hpo : tX pr = some (Sum.inl 6)) (hr : R S 2233 = some mb) (hB : BY W mb M l) (hz : (l.length : Int) = z) (hz3 : 23 ≤ z) : CL fb (d + 5) 82 [vR (some S), vR (some a)] σ (fun r σ' => r = some (vI (if (z - 23 = 4 ∨ (z - 23 = 5 ∧ lg l 27 = 10)) ∧ seg (lg l) 23 4 = seg (pkB 1802071148 4) 0 4 then 0 else 14)) ∧ PX σ0 (if (z - 23 = 4 ∨ (z - 23 = 5 ∧ lg l 27 = 10)) ∧ seg (lg l) 23 4 = seg (pkB 1802071148 4) 0 4 then rU W pr 2198 1 else W) R σ') := by
  have hm := hB.1
  have hn1 := hB.2.2.1
  have hlz := hB.2.2.2.2.1
  have hsz := x_size (fb := fb) (d := d + 4) hP hB hz
  have hat := x_at (fb := fb) (d := d + 4) (i := z - 1) hP hB
  obtain ⟨x, hx⟩ : ∃ x, lg l (z - 1) = x := ⟨_, rfl⟩
  rw [if_pos (by omega), hx] at hat
  obtain ⟨e, he⟩ : ∃ e, (if x = 10 then z - 1 else z) = e := ⟨_, rfl⟩
  have her : z - 1 ≤ e ∧ e ≤ z := by rw [← he]; split <;> omega
  have hsp := x_spells (fb := fb) (d := d) (j := 5) (s := 23) (e := e) (by decide) hP hB hz (by decide) (by omega)
  have hiff : ((0 ≤ (23 : Int) ∧ e ≤ z) ∧ 23 ≤ e ∧ seg (lg l) 23 (e - 23).toNat = txt 5) ↔ ((z - 23 = 4 ∨ (z - 23 = 5 ∧ lg l 27 = 10)) ∧ seg (lg l) 23 4 = seg (pkB 1802071148 4) 0 4) := by
    rw [kill_eq]
    constructor
    · rintro ⟨h1, h2, h3⟩
      have h4 := congrArg List.length h3
      rw [seg_len, seg_len] at h4
      have h5 : e = 27 := by omega
      rw [h5] at h3
      refine ⟨?_, h3⟩
      by_cases q : x = 10
      · rw [if_pos q] at he
        refine Or.inr ⟨by omega, ?_⟩
        rw [← q, ← hx]
        congr 1
        omega
      · rw [if_neg q] at he
        exact Or.inl (by omega)
    · rintro ⟨h1, h2⟩
      have h5 : e = 27 := by
        rcases h1 with q | ⟨q1, q2⟩
        · have h3 : lg l 26 = 108 := by
            have h4 := congrArg (fun l => lg l 3) h2
            have h4 : lg (seg (lg l) 23 4) 3 = lg (seg (pkB 1802071148 4) 0 4) 3 := h4
            rw [lg_seg _ _ _ _ (by decide) (by decide), show lg (seg (pkB 1802071148 4) 0 4) 3 = 108 by decide] at h4
            exact h4
          have h6 : x = 108 := by
            rw [← hx, ← h3]
            congr 1
            omega
          rw [if_neg (by omega)] at he
          omega
        · have h6 : x = 10 := by
            rw [← hx, ← q2]
            congr 1
            omega
          rw [if_pos h6] at he
          omega
      rw [h5]
      exact ⟨⟨by decide, by omega⟩, by decide, h2⟩
  rw [ifc hiff] at hsp
  have hs1 : w32 (z - 1) = z - 1 := w32_id (by omega) (by omega)
  by_cases qk : (z - 23 = 4 ∨ (z - 23 = 5 ∧ lg l 27 = 10)) ∧ seg (lg l) 23 4 = seg (pkB 1802071148 4) 0 4
  · rw [if_pos qk] at hsp
    rw [if_pos qk, if_pos qk]
    clear hiff qk
    by_cases q : x = 10
    · rw [if_pos q] at he
      subst he
      refine CL_in mL_82 rfl ?_
      show WP fb _ 82 0 [some (vR (some S)), some (vR (some a)), none, none] [] σ _
      refine x_lr (z := some S) T_82_0 rfl ?_
      refine x_gR (z := some mb) T_82_1 F_7_9 (hP.o hO) (Eq.trans (hP.rm hO rfl (key := 2233) rfl) hr) ?_
      refine x_cv1 T_82_4 mN_28 mL_28 (Nat.le_of_ble_eq_true rfl) mO_28 (hP.o hm) (Nat.le_of_ble_eq_true rfl) (hsz) ?_
      rintro _ σ ⟨rfl, rfl⟩
      refine cI ?_
      refine x_si (ls1 := [some (vR (some S)), some (vR (some a)), some (vI z), none]) T_82_7 rfl ?_
      refine x_lr (z := some a) T_82_8 rfl ?_
      refine x_gI (z := v) T_82_9 (Or.inl F_8_3) (hP.o hno) (Eq.trans (hP.gi hno (key := 2259) rfl) hdev) ?_
      refine x_ic T_82_12 ?_
      refine x_ic2 T_82_13 (fun _ => ?_) (fun h => absurd (show ¬ v = 1 by omega) h)
      refine x_lr (z := some S) T_82_36 rfl ?_
      refine x_gR (z := some mb) T_82_37 F_7_9 (hP.o hO) (Eq.trans (hP.rm hO rfl (key := 2233) rfl) hr) ?_
      refine x_li (z := z) T_82_40 rfl ?_
      refine x_ic T_82_41 ?_
      refine x_ib (w := (z - 1)) T_82_42 (fun h => absurd h.1 (by decide)) hs1 ?_
      refine x_cv2 T_82_43 mN_33 mL_33 (Nat.le_of_ble_eq_true rfl) mO_33 (hP.o hm) (Nat.le_of_ble_eq_true rfl) (hat) ?_
      rintro _ σ ⟨rfl, rfl⟩
      refine cI ?_
      refine x_ic T_82_46 ?_
      refine x_ic2 T_82_48 (fun h => absurd (show ¬ x = 10 from h) (by omega)) (fun _ => ?_)
      refine x_li (z := z) T_82_51 rfl ?_
      refine x_ic T_82_52 ?_
      refine x_ib (w := (z - 1)) T_82_53 (fun h => absurd h.1 (by decide)) hs1 ?_
      refine x_goto T_82_54 ?_
      refine x_si (ls1 := [some (vR (some S)), some (vR (some a)), some (vI z), some (vI (z - 1))]) T_82_58 rfl ?_
      refine x_lr (z := some a) T_82_59 rfl ?_
      refine x_gR (z := some pr) T_82_60 F_8_2 (hP.o hno) (Eq.trans (hP.rm hno rfl (key := 2258) rfl) hpr) ?_
      refine x_nul T_82_63 (fun h0 => absurd h0 (by simp)) (fun _ _ => ?_)
      refine x_lr (z := some S) T_82_66 rfl ?_
      refine x_gR (z := some mb) T_82_67 F_7_9 (hP.o hO) (Eq.trans (hP.rm hO rfl (key := 2233) rfl) hr) ?_
      refine x_ic T_82_70 ?_
      refine x_li (z := (z - 1)) T_82_72 rfl ?_
      refine x_sta T_82_73 rfl ?_
      refine x_cv4 T_82_76 mN_47 mL_47 (Nat.le_of_ble_eq_true rfl) mO_47 (hP.o hm) (Nat.le_of_ble_eq_true rfl) (hsp) ?_
      rintro _ σ ⟨rfl, rfl⟩
      refine cI ?_
      refine x_if T_82_79 (fun _ => ?_) (fun h => absurd (show ¬ (1 : Int) = 0 by decide) h)
      refine x_lr (z := some a) T_82_85 rfl ?_
      refine x_gR (z := some pr) T_82_86 F_8_2 (hP.o hno) (Eq.trans (hP.rm hno rfl (key := 2258) rfl) hpr) ?_
      refine x_ic T_82_89 ?_
      refine z_pZ hP T_82_90 F_6_6 rfl hpo (key := 2198) rfl (fun σ hP => ?_)
      refine x_ic T_82_93 ?_
      refine x_ri T_82_94 ?_
      exact ⟨rfl, hP⟩
    · rw [if_neg q] at he
      subst he
      refine CL_in mL_82 rfl ?_
      show WP fb _ 82 0 [some (vR (some S)), some (vR (some a)), none, none] [] σ _
      refine x_lr (z := some S) T_82_0 rfl ?_
      refine x_gR (z := some mb) T_82_1 F_7_9 (hP.o hO) (Eq.trans (hP.rm hO rfl (key := 2233) rfl) hr) ?_
      refine x_cv1 T_82_4 mN_28 mL_28 (Nat.le_of_ble_eq_true rfl) mO_28 (hP.o hm) (Nat.le_of_ble_eq_true rfl) (hsz) ?_
      rintro _ σ ⟨rfl, rfl⟩
      refine cI ?_
      refine x_si (ls1 := [some (vR (some S)), some (vR (some a)), some (vI z), none]) T_82_7 rfl ?_
      refine x_lr (z := some a) T_82_8 rfl ?_
      refine x_gI (z := v) T_82_9 (Or.inl F_8_3) (hP.o hno) (Eq.trans (hP.gi hno (key := 2259) rfl) hdev) ?_
      refine x_ic T_82_12 ?_
      refine x_ic2 T_82_13 (fun _ => ?_) (fun h => absurd (show ¬ v = 1 by omega) h)
      refine x_lr (z := some S) T_82_36 rfl ?_
      refine x_gR (z := some mb) T_82_37 F_7_9 (hP.o hO) (Eq.trans (hP.rm hO rfl (key := 2233) rfl) hr) ?_
      refine x_li (z := z) T_82_40 rfl ?_
      refine x_ic T_82_41 ?_
      refine x_ib (w := (z - 1)) T_82_42 (fun h => absurd h.1 (by decide)) hs1 ?_
      refine x_cv2 T_82_43 mN_33 mL_33 (Nat.le_of_ble_eq_true rfl) mO_33 (hP.o hm) (Nat.le_of_ble_eq_true rfl) (hat) ?_
      rintro _ σ ⟨rfl, rfl⟩
      refine cI ?_
      refine x_ic T_82_46 ?_
      refine x_ic2 T_82_48 (fun _ => ?_) (fun h => absurd (show ¬ x = 10 by omega) h)
      refine x_li (z := z) T_82_57 rfl ?_
      refine x_si (ls1 := [some (vR (some S)), some (vR (some a)), some (vI z), some (vI z)]) T_82_58 rfl ?_
      refine x_lr (z := some a) T_82_59 rfl ?_
      refine x_gR (z := some pr) T_82_60 F_8_2 (hP.o hno) (Eq.trans (hP.rm hno rfl (key := 2258) rfl) hpr) ?_
      refine x_nul T_82_63 (fun h0 => absurd h0 (by simp)) (fun _ _ => ?_)
      refine x_lr (z := some S) T_82_66 rfl ?_
      refine x_gR (z := some mb) T_82_67 F_7_9 (hP.o hO) (Eq.trans (hP.rm hO rfl (key := 2233) rfl) hr) ?_
      refine x_ic T_82_70 ?_
      refine x_li (z := z) T_82_72 rfl ?_
      refine x_sta T_82_73 rfl ?_
      refine x_cv4 T_82_76 mN_47 mL_47 (Nat.le_of_ble_eq_true rfl) mO_47 (hP.o hm) (Nat.le_of_ble_eq_true rfl) (hsp) ?_
      rintro _ σ ⟨rfl, rfl⟩
      refine cI ?_
      refine x_if T_82_79 (fun _ => ?_) (fun h => absurd (show ¬ (1 : Int) = 0 by decide) h)
      refine x_lr (z := some a) T_82_85 rfl ?_
      refine x_gR (z := some pr) T_82_86 F_8_2 (hP.o hno) (Eq.trans (hP.rm hno rfl (key := 2258) rfl) hpr) ?_
      refine x_ic T_82_89 ?_
      refine z_pZ hP T_82_90 F_6_6 rfl hpo (key := 2198) rfl (fun σ hP => ?_)
      refine x_ic T_82_93 ?_
      refine x_ri T_82_94 ?_
      exact ⟨rfl, hP⟩
  · rw [if_neg qk] at hsp
    rw [if_neg qk, if_neg qk]
    clear hiff qk
    by_cases q : x = 10
    · rw [if_pos q] at he
      subst he
      refine CL_in mL_82 rfl ?_
      show WP fb _ 82 0 [some (vR (some S)), some (vR (some a)), none, none] [] σ _
      refine x_lr (z := some S) T_82_0 rfl ?_
      refine x_gR (z := some mb) T_82_1 F_7_9 (hP.o hO) (Eq.trans (hP.rm hO rfl (key := 2233) rfl) hr) ?_
      refine x_cv1 T_82_4 mN_28 mL_28 (Nat.le_of_ble_eq_true rfl) mO_28 (hP.o hm) (Nat.le_of_ble_eq_true rfl) (hsz) ?_
      rintro _ σ ⟨rfl, rfl⟩
      refine cI ?_
      refine x_si (ls1 := [some (vR (some S)), some (vR (some a)), some (vI z), none]) T_82_7 rfl ?_
      refine x_lr (z := some a) T_82_8 rfl ?_
      refine x_gI (z := v) T_82_9 (Or.inl F_8_3) (hP.o hno) (Eq.trans (hP.gi hno (key := 2259) rfl) hdev) ?_
      refine x_ic T_82_12 ?_
      refine x_ic2 T_82_13 (fun _ => ?_) (fun h => absurd (show ¬ v = 1 by omega) h)
      refine x_lr (z := some S) T_82_36 rfl ?_
      refine x_gR (z := some mb) T_82_37 F_7_9 (hP.o hO) (Eq.trans (hP.rm hO rfl (key := 2233) rfl) hr) ?_
      refine x_li (z := z) T_82_40 rfl ?_
      refine x_ic T_82_41 ?_
      refine x_ib (w := (z - 1)) T_82_42 (fun h => absurd h.1 (by decide)) hs1 ?_
      refine x_cv2 T_82_43 mN_33 mL_33 (Nat.le_of_ble_eq_true rfl) mO_33 (hP.o hm) (Nat.le_of_ble_eq_true rfl) (hat) ?_
      rintro _ σ ⟨rfl, rfl⟩
      refine cI ?_
      refine x_ic T_82_46 ?_
      refine x_ic2 T_82_48 (fun h => absurd (show ¬ x = 10 from h) (by omega)) (fun _ => ?_)
      refine x_li (z := z) T_82_51 rfl ?_
      refine x_ic T_82_52 ?_
      refine x_ib (w := (z - 1)) T_82_53 (fun h => absurd h.1 (by decide)) hs1 ?_
      refine x_goto T_82_54 ?_
      refine x_si (ls1 := [some (vR (some S)), some (vR (some a)), some (vI z), some (vI (z - 1))]) T_82_58 rfl ?_
      refine x_lr (z := some a) T_82_59 rfl ?_
      refine x_gR (z := some pr) T_82_60 F_8_2 (hP.o hno) (Eq.trans (hP.rm hno rfl (key := 2258) rfl) hpr) ?_
      refine x_nul T_82_63 (fun h0 => absurd h0 (by simp)) (fun _ _ => ?_)
      refine x_lr (z := some S) T_82_66 rfl ?_
      refine x_gR (z := some mb) T_82_67 F_7_9 (hP.o hO) (Eq.trans (hP.rm hO rfl (key := 2233) rfl) hr) ?_
      refine x_ic T_82_70 ?_
      refine x_li (z := (z - 1)) T_82_72 rfl ?_
      refine x_sta T_82_73 rfl ?_
      refine x_cv4 T_82_76 mN_47 mL_47 (Nat.le_of_ble_eq_true rfl) mO_47 (hP.o hm) (Nat.le_of_ble_eq_true rfl) (hsp) ?_
      rintro _ σ ⟨rfl, rfl⟩
      refine cI ?_
      refine x_if T_82_79 (fun h => absurd (show ¬ (0 : Int) = 0 from h) (by decide)) (fun _ => ?_)
      refine x_ic T_82_82 ?_
      refine x_ri T_82_84 ?_
      exact ⟨rfl, hP⟩
    · rw [if_neg q] at he
      subst he
      refine CL_in mL_82 rfl ?_
      show WP fb _ 82 0 [some (vR (some S)), some (vR (some a)), none, none] [] σ _
      refine x_lr (z := some S) T_82_0 rfl ?_
      refine x_gR (z := some mb) T_82_1 F_7_9 (hP.o hO) (Eq.trans (hP.rm hO rfl (key := 2233) rfl) hr) ?_
      refine x_cv1 T_82_4 mN_28 mL_28 (Nat.le_of_ble_eq_true rfl) mO_28 (hP.o hm) (Nat.le_of_ble_eq_true rfl) (hsz) ?_
      rintro _ σ ⟨rfl, rfl⟩
      refine cI ?_
      refine x_si (ls1 := [some (vR (some S)), some (vR (some a)), some (vI z), none]) T_82_7 rfl ?_
      refine x_lr (z := some a) T_82_8 rfl ?_
      refine x_gI (z := v) T_82_9 (Or.inl F_8_3) (hP.o hno) (Eq.trans (hP.gi hno (key := 2259) rfl) hdev) ?_
      refine x_ic T_82_12 ?_
      refine x_ic2 T_82_13 (fun _ => ?_) (fun h => absurd (show ¬ v = 1 by omega) h)
      refine x_lr (z := some S) T_82_36 rfl ?_
      refine x_gR (z := some mb) T_82_37 F_7_9 (hP.o hO) (Eq.trans (hP.rm hO rfl (key := 2233) rfl) hr) ?_
      refine x_li (z := z) T_82_40 rfl ?_
      refine x_ic T_82_41 ?_
      refine x_ib (w := (z - 1)) T_82_42 (fun h => absurd h.1 (by decide)) hs1 ?_
      refine x_cv2 T_82_43 mN_33 mL_33 (Nat.le_of_ble_eq_true rfl) mO_33 (hP.o hm) (Nat.le_of_ble_eq_true rfl) (hat) ?_
      rintro _ σ ⟨rfl, rfl⟩
      refine cI ?_
      refine x_ic T_82_46 ?_
      refine x_ic2 T_82_48 (fun _ => ?_) (fun h => absurd (show ¬ x = 10 by omega) h)
      refine x_li (z := z) T_82_57 rfl ?_
      refine x_si (ls1 := [some (vR (some S)), some (vR (some a)), some (vI z), some (vI z)]) T_82_58 rfl ?_
      refine x_lr (z := some a) T_82_59 rfl ?_
      refine x_gR (z := some pr) T_82_60 F_8_2 (hP.o hno) (Eq.trans (hP.rm hno rfl (key := 2258) rfl) hpr) ?_
      refine x_nul T_82_63 (fun h0 => absurd h0 (by simp)) (fun _ _ => ?_)
      refine x_lr (z := some S) T_82_66 rfl ?_
      refine x_gR (z := some mb) T_82_67 F_7_9 (hP.o hO) (Eq.trans (hP.rm hO rfl (key := 2233) rfl) hr) ?_
      refine x_ic T_82_70 ?_
      refine x_li (z := z) T_82_72 rfl ?_
      refine x_sta T_82_73 rfl ?_
      refine x_cv4 T_82_76 mN_47 mL_47 (Nat.le_of_ble_eq_true rfl) mO_47 (hP.o hm) (Nat.le_of_ble_eq_true rfl) (hsp) ?_
      rintro _ σ ⟨rfl, rfl⟩
      refine cI ?_
      refine x_if T_82_79 (fun h => absurd (show ¬ (0 : Int) = 0 from h) (by decide)) (fun _ => ?_)
      refine x_ic T_82_82 ?_
      refine x_ri T_82_84 ?_
      exact ⟨rfl, hP⟩
end XWR
