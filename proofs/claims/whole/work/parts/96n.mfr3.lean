/-! A script's argument: the code. -/
theorem T_311_0 : hTab 311 0 = some ((3, 0, 2, []), 1) := rfl
theorem T_311_1 : hTab 311 1 = some ((24, 17, Int.ofNat 113, []), 4) := rfl
theorem T_311_4 : hTab 311 4 = some ((0, 0, 1, []), 5) := rfl
theorem T_311_5 : hTab 311 5 = some ((10, 1, 0, []), 6) := rfl
theorem T_311_6 : hTab 311 6 = some ((4, 2, 0, []), 7) := rfl
theorem T_311_7 : hTab 311 7 = some ((3, 2, 0, []), 8) := rfl
theorem T_311_8 : hTab 311 8 = some ((18, 5, Int.ofNat 27, []), 11) := rfl
theorem T_311_11 : hTab 311 11 = some ((3, 0, 2, []), 12) := rfl
theorem T_311_12 : hTab 311 12 = some ((24, 17, Int.ofNat 108, []), 15) := rfl
theorem T_311_15 : hTab 311 15 = some ((3, 2, 0, []), 16) := rfl
theorem T_311_16 : hTab 311 16 = some ((26, 0, 0, []), 17) := rfl
theorem T_311_17 : hTab 311 17 = some ((0, 0, 3, []), 18) := rfl
theorem T_311_18 : hTab 311 18 = some ((19, 0, Int.ofNat 27, []), 21) := rfl
theorem T_311_21 : hTab 311 21 = some ((5, 2, (-1), []), 24) := rfl
theorem T_311_24 : hTab 311 24 = some ((22, 0, Int.ofNat 7, []), 27) := rfl
theorem T_311_27 : hTab 311 27 = some ((0, 0, 1, []), 28) := rfl
theorem T_311_28 : hTab 311 28 = some ((4, 3, 0, []), 29) := rfl
theorem T_311_29 : hTab 311 29 = some ((0, 0, (-1), []), 30) := rfl
theorem T_311_30 : hTab 311 30 = some ((4, 4, 0, []), 32) := rfl
theorem T_311_32 : hTab 311 32 = some ((0, 0, 0, []), 33) := rfl
theorem T_311_33 : hTab 311 33 = some ((4, 5, 0, []), 35) := rfl
theorem T_311_35 : hTab 311 35 = some ((0, 0, 0, []), 36) := rfl
theorem T_311_36 : hTab 311 36 = some ((4, 6, 0, []), 38) := rfl
theorem T_311_38 : hTab 311 38 = some ((3, 2, 0, []), 39) := rfl
theorem T_311_39 : hTab 311 39 = some ((18, 5, Int.ofNat 142, []), 42) := rfl
theorem T_311_42 : hTab 311 42 = some ((3, 6, 0, []), 44) := rfl
theorem T_311_44 : hTab 311 44 = some ((3, 0, 2, []), 45) := rfl
theorem T_311_45 : hTab 311 45 = some ((24, 17, Int.ofNat 107, []), 48) := rfl
theorem T_311_48 : hTab 311 48 = some ((3, 2, 0, []), 49) := rfl
theorem T_311_49 : hTab 311 49 = some ((26, 0, 0, []), 50) := rfl
theorem T_311_50 : hTab 311 50 = some ((19, 3, Int.ofNat 142, []), 53) := rfl
theorem T_311_53 : hTab 311 53 = some ((3, 0, 2, []), 54) := rfl
theorem T_311_54 : hTab 311 54 = some ((24, 17, Int.ofNat 106, []), 57) := rfl
theorem T_311_57 : hTab 311 57 = some ((0, 0, 100, []), 59) := rfl
theorem T_311_59 : hTab 311 59 = some ((3, 2, 0, []), 60) := rfl
theorem T_311_60 : hTab 311 60 = some ((10, 2, 0, []), 61) := rfl
theorem T_311_61 : hTab 311 61 = some ((3, 6, 0, []), 63) := rfl
theorem T_311_63 : hTab 311 63 = some ((10, 0, 0, []), 64) := rfl
theorem T_311_64 : hTab 311 64 = some ((26, 0, 0, []), 65) := rfl
theorem T_311_65 : hTab 311 65 = some ((4, 7, 0, []), 67) := rfl
theorem T_311_67 : hTab 311 67 = some ((3, 7, 0, []), 69) := rfl
theorem T_311_69 : hTab 311 69 = some ((0, 0, 32, []), 71) := rfl
theorem T_311_71 : hTab 311 71 = some ((19, 0, Int.ofNat 86, []), 74) := rfl
theorem T_311_74 : hTab 311 74 = some ((3, 5, 0, []), 76) := rfl
theorem T_311_76 : hTab 311 76 = some ((18, 1, Int.ofNat 86, []), 79) := rfl
theorem T_311_79 : hTab 311 79 = some ((3, 4, 0, []), 81) := rfl
theorem T_311_81 : hTab 311 81 = some ((0, 0, 1, []), 82) := rfl
theorem T_311_82 : hTab 311 82 = some ((10, 0, 0, []), 83) := rfl
theorem T_311_83 : hTab 311 83 = some ((22, 0, Int.ofNat 88, []), 86) := rfl
theorem T_311_86 : hTab 311 86 = some ((3, 4, 0, []), 88) := rfl
theorem T_311_88 : hTab 311 88 = some ((4, 4, 0, []), 90) := rfl
theorem T_311_90 : hTab 311 90 = some ((3, 7, 0, []), 92) := rfl
theorem T_311_92 : hTab 311 92 = some ((0, 0, 32, []), 94) := rfl
theorem T_311_94 : hTab 311 94 = some ((19, 0, Int.ofNat 101, []), 97) := rfl
theorem T_311_97 : hTab 311 97 = some ((0, 0, 1, []), 98) := rfl
theorem T_311_98 : hTab 311 98 = some ((22, 0, Int.ofNat 102, []), 101) := rfl
theorem T_311_101 : hTab 311 101 = some ((0, 0, 0, []), 102) := rfl
theorem T_311_102 : hTab 311 102 = some ((4, 5, 0, []), 104) := rfl
theorem T_311_104 : hTab 311 104 = some ((3, 5, 0, []), 106) := rfl
theorem T_311_106 : hTab 311 106 = some ((18, 0, Int.ofNat 136, []), 109) := rfl
theorem T_311_109 : hTab 311 109 = some ((3, 4, 0, []), 111) := rfl
theorem T_311_111 : hTab 311 111 = some ((3, 1, 0, []), 112) := rfl
theorem T_311_112 : hTab 311 112 = some ((0, 0, 1, []), 113) := rfl
theorem T_311_113 : hTab 311 113 = some ((10, 0, 0, []), 114) := rfl
theorem T_311_114 : hTab 311 114 = some ((19, 1, Int.ofNat 136, []), 117) := rfl
theorem T_311_117 : hTab 311 117 = some ((3, 0, 2, []), 118) := rfl
theorem T_311_118 : hTab 311 118 = some ((3, 7, 0, []), 120) := rfl
theorem T_311_120 : hTab 311 120 = some ((31, 312, 0, []), 123) := rfl
theorem T_311_123 : hTab 311 123 = some ((18, 0, Int.ofNat 134, []), 126) := rfl
theorem T_311_126 : hTab 311 126 = some ((3, 3, 0, []), 127) := rfl
theorem T_311_127 : hTab 311 127 = some ((18, 0, Int.ofNat 134, []), 130) := rfl
theorem T_311_130 : hTab 311 130 = some ((0, 0, 1, []), 131) := rfl
theorem T_311_131 : hTab 311 131 = some ((22, 0, Int.ofNat 135, []), 134) := rfl
theorem T_311_134 : hTab 311 134 = some ((0, 0, 0, []), 135) := rfl
theorem T_311_135 : hTab 311 135 = some ((4, 3, 0, []), 136) := rfl
theorem T_311_136 : hTab 311 136 = some ((5, 6, 1, []), 139) := rfl
theorem T_311_139 : hTab 311 139 = some ((22, 0, Int.ofNat 38, []), 142) := rfl
theorem T_311_142 : hTab 311 142 = some ((3, 3, 0, []), 143) := rfl
theorem T_311_143 : hTab 311 143 = some ((33, 2, 0, []), 144) := rfl
theorem F_17_108 : (hFd 17 108).2.2.1 = 4 := rfl
theorem mN_311 : hmN 311 = 2 := by decide +kernel
theorem mL_311 : hmL 311 = 8 := by decide +kernel
theorem mK_311 : hmK 311 = 1 := by decide +kernel
theorem mO_311 : hmO 311 = 17 := by decide +kernel
section MFR3
variable {fb : Bool} {d : Nat} {σ0 σ : hM} {P Q R S S1 S2 : qR} {T U s w g u p k e t z o n N v dp b w0 : Int} {l L vs vs0 tx : List Int} {h : List Ch} {fs : List Fr} {fr : Fr} {l7 : Option AV}
theorem m_arg_find (hP : PM σ0 P S σ) {Q : Option AV → hM → Prop} : ∀ (fs : List Fr), fs.length ≤ 12 → FST S fs → (arOf fs = none → WP fb d 311 27 [some (vR (some 2281)), some (vI k), some (vI 0), none, none, none, none, none] [] σ Q) → (∀ (f : Fr) (i : Int), arOf fs = some f.2.1 → FX S i f → f.1 = 3 → 1 ≤ i → i ≤ fs.length → WP fb d 311 27 [some (vR (some 2281)), some (vI k), some (vI i), none, none, none, none, none] [] σ Q) → WP fb d 311 7 [some (vR (some 2281)), some (vI k), some (vI (fs.length : Int)), none, none, none, none, none] [] σ Q
  | [], h12, hF, hn, hs => by
    have hgo := hn rfl
    refine x_li (z := 0) T_311_7 rfl ?_
    refine x_if T_311_8 (fun _ => ?_) (fun h => absurd (show (0 : Int) ≤ 0 by decide) h)
    exact hgo
  | g :: r, h12, hF, hn, hs => by
    obtain ⟨hg, hr⟩ := hF
    have h12 : r.length + 1 ≤ 12 := h12
    have hk := hg.1
    obtain ⟨kd, hkd⟩ : ∃ kd, g.1 = kd := ⟨_, rfl⟩
    rw [hkd] at hk
    show WP fb d 311 7 [some (vR (some 2281)), some (vI k), some (vI ((r.length + 1 : Nat) : Int)), none, none, none, none, none] [] σ Q
    by_cases q : kd = 3
    · have ea : arOf (g :: r) = some g.2.1 := if_pos (hkd.trans q)
      have hgo := hs g ((r.length : Int) + 1) ea hg (hkd.trans q) (by omega) (by show (r.length : Int) + 1 ≤ ((r.length + 1 : Nat) : Int); omega)
      rw [show ((r.length + 1 : Nat) : Int) = (r.length : Int) + 1 by omega]
      obtain ⟨n, hn2⟩ : ∃ n : Int, (r.length : Int) + 1 = n := ⟨_, rfl⟩
      rw [hn2] at hgo hk ⊢
      refine x_li (z := n) T_311_7 rfl ?_
      refine x_if T_311_8 (fun h => absurd (show n ≤ 0 from h) (by omega)) (fun _ => ?_)
      refine x_lr (z := some 2281) T_311_11 rfl ?_
      refine x_gR (z := some 2367) T_311_12 F_17_108 (PM.t hP) (PM.r hP 108 2367 rfl) ?_
      refine x_li (z := n) T_311_15 rfl ?_
      refine x_alI (z := kd) T_311_16 (by decide) (PM.ta hP 2367 0 13 rfl rfl) (by omega) (by omega) (Eq.trans (PM.aS hP 2367 rfl rfl (by omega)) hk) ?_
      refine x_ic T_311_17 ?_
      refine x_ic2 T_311_18 (fun _ => ?_) (fun h => absurd (show kd = 3 by omega) h)
      exact hgo
    · have ea : arOf (g :: r) = arOf r := if_neg (fun c => q (hkd.symm.trans c))
      have hgo := m_arg_find hP r (by omega) hr (fun c => hn (ea.trans c)) (fun f i a1 a2 a3 a4 a5 => hs f i (ea.trans a1) a2 a3 a4 (by show i ≤ ((r.length + 1 : Nat) : Int); omega))
      rw [show ((r.length + 1 : Nat) : Int) = (r.length : Int) + 1 by omega]
      obtain ⟨n, hn2⟩ : ∃ n : Int, (r.length : Int) + 1 = n := ⟨_, rfl⟩
      rw [show (r.length : Int) = n + (-1) by omega] at hgo
      rw [hn2] at hk ⊢
      refine x_li (z := n) T_311_7 rfl ?_
      refine x_if T_311_8 (fun h => absurd (show n ≤ 0 from h) (by omega)) (fun _ => ?_)
      refine x_lr (z := some 2281) T_311_11 rfl ?_
      refine x_gR (z := some 2367) T_311_12 F_17_108 (PM.t hP) (PM.r hP 108 2367 rfl) ?_
      refine x_li (z := n) T_311_15 rfl ?_
      refine x_alI (z := kd) T_311_16 (by decide) (PM.ta hP 2367 0 13 rfl rfl) (by omega) (by omega) (Eq.trans (PM.aS hP 2367 rfl rfl (by omega)) hk) ?_
      refine x_ic T_311_17 ?_
      refine x_ic2 T_311_18 (fun h => absurd (show kd = 3 from h) (by omega)) (fun _ => ?_)
      refine x_inc (w := (n + (-1))) (ls1 := [some (vR (some 2281)), some (vI k), some (vI (n + (-1))), none, none, none, none, none]) T_311_21 rfl (w32_id (by omega) (by omega)) rfl ?_
      refine x_goto T_311_24 ?_
      exact hgo
theorem scA_32 {r : List Int} {word ins : Int} (h : b = 32) : scA w0 (b :: r) word ins = scA w0 r word 0 := if_pos h
theorem scA_n {r : List Int} {word ins : Int} (h : ¬ b = 32) : scA w0 (b :: r) word ins = (if (if ins = 0 then word + 1 else word) = w0 then [b] else []) ++ scA w0 r (if ins = 0 then word + 1 else word) 1 := if_neg h
theorem m_arg_scan {i : Int} (hk : 0 ≤ k ∧ k ≤ 9) (hd : 0 ≤ dp ∧ dp ≤ 12) (hi : 0 < i ∧ i ≤ 12) (hid : i ≠ dp) (hn : (tx.length : Int) = n) (hn1 : n ≤ 100) (hz : S 2366 i = n) (htx : ∀ j : Int, 0 ≤ j → j < n → S 2365 (100 * i + j) = lg tx j) (hbt : byt tx) : ∀ (r : List Int) (j word ins : Int) (vs0 : List Int) (S1 : qR) (σ : hM) (l7 : Option AV), j + (r.length : Int) = n → 0 ≤ j → (∀ m : Nat, m < r.length → lg tx (j + m) = r.getD m 0) → (ins = 0 ∨ ins = 1) → -1 ≤ word → word < j → PM σ0 P S1 σ → IV true T U S1 → S1 2281 113 = dp → TX S1 dp (L ++ vs0) → FRM dp S S1 → WP fb (d + 1) 311 38 [some (vR (some 2281)), some (vI k), some (vI i), some (vI (adR L vs0)), some (vI word), some (vI ins), some (vI j), l7] [] σ (AD T U σ0 P S dp L (vs0 ++ scA (k + 1) r word ins)) := by
  intro r
  induction r with
  | nil =>
    intro j word ins vs0 S1 σ l7 h1 h2 h3 h4 h5 h6 hP hJ hdp hX hF
    have h1 : j + ((0 : Nat) : Int) = n := h1
    have hz1 : S1 2366 i = n := (hF.2.1 i hid).trans hz
    have h01 := adR_01 (L := L) (vs := vs0)
    rw [show vs0 ++ scA (k + 1) [] word ins = vs0 from List.append_nil vs0]
    obtain ⟨y, hy⟩ : ∃ y, adR L vs0 = y := ⟨_, rfl⟩
    rw [hy] at h01 ⊢
    refine x_li (z := i) T_311_38 rfl ?_
    refine x_if T_311_39 (fun h => absurd (show i ≤ 0 from h) (by omega)) (fun _ => ?_)
    refine x_li (z := j) T_311_42 rfl ?_
    refine x_lr (z := some 2281) T_311_44 rfl ?_
    refine x_gR (z := some 2366) T_311_45 F_17_107 (PM.t hP) (PM.r hP 107 2366 rfl) ?_
    refine x_li (z := i) T_311_48 rfl ?_
    refine x_alI (z := n) T_311_49 (by decide) (PM.ta hP 2366 0 13 rfl rfl) (by omega) (by omega) (Eq.trans (PM.aS hP 2366 rfl rfl (by omega)) hz1) ?_
    refine x_ic2 T_311_50 (fun _ => ?_) (fun h => absurd (show n ≤ j by omega) h)
    refine x_li (z := y) T_311_142 rfl ?_
    refine x_rz T_311_143 (h01_of h01) ?_
    exact ⟨S1, by rw [hy], hP, hJ, hX, hF⟩
  | cons b r ih =>
    intro j word ins vs0 S1 σ l7 h1 h2 h3 h4 h5 h6 hP hJ hdp hX hF
    have h1 : j + ((r.length + 1 : Nat) : Int) = n := h1
    have hz1 : S1 2366 i = n := (hF.2.1 i hid).trans hz
    have hb : lg tx j = b := by
      have := h3 0 (Nat.succ_pos _)
      rw [show j + ((0 : Nat) : Int) = j by omega] at this
      exact this
    have hr1 : S1 2365 (100 * i + j) = b := (hF.2.2 i j hid h2 (by omega)).trans ((htx j h2 (by omega)).trans hb)
    have bb : 0 ≤ b ∧ b ≤ 255 := by rw [← hb]; exact hbt j h2
    have h3' : ∀ m : Nat, m < r.length → lg tx (j + 1 + m) = r.getD m 0 := fun m hm => by
      have := h3 (m + 1) (Nat.succ_lt_succ hm)
      rw [show j + ((m + 1 : Nat) : Int) = j + 1 + (m : Int) by omega] at this
      exact this
    by_cases q : b = 32
    · rw [scA_32 q]
      have hgo := fun l7 => ih (j + 1) word 0 vs0 S1 σ l7 (by omega) (by omega) h3' (Or.inl rfl) h5 (by omega) hP hJ hdp hX hF
      obtain ⟨y, hy⟩ : ∃ y, adR L vs0 = y := ⟨_, rfl⟩
      rw [hy] at hgo ⊢
      refine x_li (z := i) T_311_38 rfl ?_
      refine x_if T_311_39 (fun h => absurd (show i ≤ 0 from h) (by omega)) (fun _ => ?_)
      refine x_li (z := j) T_311_42 rfl ?_
      refine x_lr (z := some 2281) T_311_44 rfl ?_
      refine x_gR (z := some 2366) T_311_45 F_17_107 (PM.t hP) (PM.r hP 107 2366 rfl) ?_
      refine x_li (z := i) T_311_48 rfl ?_
      refine x_alI (z := n) T_311_49 (by decide) (PM.ta hP 2366 0 13 rfl rfl) (by omega) (by omega) (Eq.trans (PM.aS hP 2366 rfl rfl (by omega)) hz1) ?_
      refine x_ic2 T_311_50 (fun h => absurd (show n ≤ j from h) (by omega)) (fun _ => ?_)
      refine x_lr (z := some 2281) T_311_53 rfl ?_
      refine x_gR (z := some 2365) T_311_54 F_17_106 (PM.t hP) (PM.r hP 106 2365 rfl) ?_
      refine x_ic T_311_57 ?_
      refine x_li (z := i) T_311_59 rfl ?_
      refine x_ib (w := (100 * i)) T_311_60 (fun h => absurd h.1 (by decide)) (w32_id (by omega) (by omega)) ?_
      refine x_li (z := j) T_311_61 rfl ?_
      refine x_ib (w := ((100 * i) + j)) T_311_63 (fun h => absurd h.1 (by decide)) (w32_id (by omega) (by omega)) ?_
      refine x_alI (z := b) T_311_64 (by decide) (PM.ta hP 2365 0 1300 rfl rfl) (by omega) (by omega) (Eq.trans (PM.aS hP 2365 rfl rfl (by omega)) hr1) ?_
      refine x_si (ls1 := [some (vR (some 2281)), some (vI k), some (vI i), some (vI y), some (vI word), some (vI ins), some (vI j), some (vI b)]) T_311_65 rfl ?_
      refine x_li (z := b) T_311_67 rfl ?_
      refine x_ic T_311_69 ?_
      refine x_ic2 T_311_71 (fun _ => ?_) (fun h => absurd (show b = 32 by omega) h)
      refine x_li (z := word) T_311_86 rfl ?_
      refine x_si (ls1 := [some (vR (some 2281)), some (vI k), some (vI i), some (vI y), some (vI word), some (vI ins), some (vI j), some (vI b)]) T_311_88 rfl ?_
      refine x_li (z := b) T_311_90 rfl ?_
      refine x_ic T_311_92 ?_
      refine x_ic2 T_311_94 (fun _ => ?_) (fun h => absurd (show b = 32 by omega) h)
      refine x_ic T_311_101 ?_
      refine x_si (ls1 := [some (vR (some 2281)), some (vI k), some (vI i), some (vI y), some (vI word), some (vI 0), some (vI j), some (vI b)]) T_311_102 rfl ?_
      refine x_li (z := 0) T_311_104 rfl ?_
      refine x_if T_311_106 (fun _ => ?_) (fun h => absurd (show (0 : Int) = 0 by decide) h)
      refine x_inc (w := (j + 1)) (ls1 := [some (vR (some 2281)), some (vI k), some (vI i), some (vI y), some (vI word), some (vI 0), some (vI (j + 1)), some (vI b)]) T_311_136 rfl (w32_id (by omega) (by omega)) rfl ?_
      refine x_goto T_311_139 ?_
      exact hgo _
    · rw [scA_n q]
      have key : ∀ w2 : Int, (if ins = 0 then word + 1 else word) = w2 → -1 ≤ w2 → w2 < j + 1 → ∀ l7 : Option AV, WP fb (d + 1) 311 88 [some (vR (some 2281)), some (vI k), some (vI i), some (vI (adR L vs0)), some (vI word), some (vI ins), some (vI j), some (vI b)] [vI w2] σ (AD T U σ0 P S dp L (vs0 ++ ((if w2 = k + 1 then [b] else []) ++ scA (k + 1) r w2 1))) := fun w2 hw2 hw3 hw4 l7 => by
        by_cases q2 : w2 = k + 1
        · rw [if_pos q2]
          have ha := m_add (fb := fb) (d := d) hP hJ hdp hd hX bb
          have h01 := adR_01 (L := L) (vs := vs0)
          have h02 := adR_01 (L := L ++ vs0) (vs := [b])
          have h03 := adR_snoc (L := L) (vs := vs0) (b := b)
          have hgo := fun (S2 : qR) (σ : hM) (hP : PM σ0 P S2 σ) (hJ : IV true T U S2) (hX : TX S2 dp (L ++ vs0 ++ [b])) (hF2 : FRM dp S1 S2) => ih (j + 1) w2 1 (vs0 ++ [b]) S2 σ (some (vI b)) (by omega) (by omega) h3' (Or.inr rfl) hw3 hw4 hP hJ (hF2.deep.trans hdp) (by rw [← List.append_assoc]; exact hX) (FRM_tr hF hF2)
          rw [show vs0 ++ [b] ++ scA (k + 1) r w2 1 = vs0 ++ ([b] ++ scA (k + 1) r w2 1) from List.append_assoc _ _ _] at hgo
          rw [h03] at hgo
          unfold AD at ha
          obtain ⟨y, hy⟩ : ∃ y, adR L vs0 = y := ⟨_, rfl⟩
          obtain ⟨y2, hy2⟩ : ∃ y, adR (L ++ vs0) [b] = y := ⟨_, rfl⟩
          rw [hy2] at ha h02 hgo
          rw [hy] at h01 hgo ⊢
          rcases h02 with c2 | c2
          · subst c2
            rw [if_neg (fun c => absurd c.1 (by decide))] at hgo
            refine x_si (ls1 := [some (vR (some 2281)), some (vI k), some (vI i), some (vI y), some (vI w2), some (vI ins), some (vI j), some (vI b)]) T_311_88 rfl ?_
            refine x_li (z := b) T_311_90 rfl ?_
            refine x_ic T_311_92 ?_
            refine x_ic2 T_311_94 (fun h => absurd (show b = 32 from h) (by omega)) (fun _ => ?_)
            refine x_ic T_311_97 ?_
            refine x_goto T_311_98 ?_
            refine x_si (ls1 := [some (vR (some 2281)), some (vI k), some (vI i), some (vI y), some (vI w2), some (vI 1), some (vI j), some (vI b)]) T_311_102 rfl ?_
            refine x_li (z := 1) T_311_104 rfl ?_
            refine x_if T_311_106 (fun h => absurd (show (1 : Int) = 0 from h) (by decide)) (fun _ => ?_)
            refine x_li (z := w2) T_311_109 rfl ?_
            refine x_li (z := k) T_311_111 rfl ?_
            refine x_ic T_311_112 ?_
            refine x_ib (w := (k + 1)) T_311_113 (fun h => absurd h.1 (by decide)) (w32_id (by omega) (by omega)) ?_
            refine x_ic2 T_311_114 (fun h => absurd (show ¬ w2 = (k + 1) from h) (by omega)) (fun _ => ?_)
            refine x_lr (z := some 2281) T_311_117 rfl ?_
            refine x_li (z := b) T_311_118 rfl ?_
            refine x_cv2 T_311_120 mN_312 mL_312 (Nat.le_of_ble_eq_true rfl) mO_312 (PM.t hP) (Nat.le_of_ble_eq_true rfl) (ha) ?_
            clear hP ha
            rintro _ σ ⟨S2, rfl, hP, hJ2, hX2, hF2⟩
            refine cI ?_
            refine x_if T_311_123 (fun _ => ?_) (fun h => absurd (show (0 : Int) = 0 by decide) h)
            refine x_ic T_311_134 ?_
            refine x_si (ls1 := [some (vR (some 2281)), some (vI k), some (vI i), some (vI 0), some (vI w2), some (vI 1), some (vI j), some (vI b)]) T_311_135 rfl ?_
            refine x_inc (w := (j + 1)) (ls1 := [some (vR (some 2281)), some (vI k), some (vI i), some (vI 0), some (vI w2), some (vI 1), some (vI (j + 1)), some (vI b)]) T_311_136 rfl (w32_id (by omega) (by omega)) rfl ?_
            refine x_goto T_311_139 ?_
            exact hgo S2 σ hP hJ2 hX2 hF2
          · subst c2
            rcases h01 with c1 | c1
            · subst c1
              rw [if_neg (fun c => absurd c.2 (by decide))] at hgo
              refine x_si (ls1 := [some (vR (some 2281)), some (vI k), some (vI i), some (vI 0), some (vI w2), some (vI ins), some (vI j), some (vI b)]) T_311_88 rfl ?_
              refine x_li (z := b) T_311_90 rfl ?_
              refine x_ic T_311_92 ?_
              refine x_ic2 T_311_94 (fun h => absurd (show b = 32 from h) (by omega)) (fun _ => ?_)
              refine x_ic T_311_97 ?_
              refine x_goto T_311_98 ?_
              refine x_si (ls1 := [some (vR (some 2281)), some (vI k), some (vI i), some (vI 0), some (vI w2), some (vI 1), some (vI j), some (vI b)]) T_311_102 rfl ?_
              refine x_li (z := 1) T_311_104 rfl ?_
              refine x_if T_311_106 (fun h => absurd (show (1 : Int) = 0 from h) (by decide)) (fun _ => ?_)
              refine x_li (z := w2) T_311_109 rfl ?_
              refine x_li (z := k) T_311_111 rfl ?_
              refine x_ic T_311_112 ?_
              refine x_ib (w := (k + 1)) T_311_113 (fun h => absurd h.1 (by decide)) (w32_id (by omega) (by omega)) ?_
              refine x_ic2 T_311_114 (fun h => absurd (show ¬ w2 = (k + 1) from h) (by omega)) (fun _ => ?_)
              refine x_lr (z := some 2281) T_311_117 rfl ?_
              refine x_li (z := b) T_311_118 rfl ?_
              refine x_cv2 T_311_120 mN_312 mL_312 (Nat.le_of_ble_eq_true rfl) mO_312 (PM.t hP) (Nat.le_of_ble_eq_true rfl) (ha) ?_
              clear hP ha
              rintro _ σ ⟨S2, rfl, hP, hJ2, hX2, hF2⟩
              refine cI ?_
              refine x_if T_311_123 (fun h => absurd (show (1 : Int) = 0 from h) (by decide)) (fun _ => ?_)
              refine x_li (z := 0) T_311_126 rfl ?_
              refine x_if T_311_127 (fun _ => ?_) (fun h => absurd (show (0 : Int) = 0 by decide) h)
              refine x_ic T_311_134 ?_
              refine x_si (ls1 := [some (vR (some 2281)), some (vI k), some (vI i), some (vI 0), some (vI w2), some (vI 1), some (vI j), some (vI b)]) T_311_135 rfl ?_
              refine x_inc (w := (j + 1)) (ls1 := [some (vR (some 2281)), some (vI k), some (vI i), some (vI 0), some (vI w2), some (vI 1), some (vI (j + 1)), some (vI b)]) T_311_136 rfl (w32_id (by omega) (by omega)) rfl ?_
              refine x_goto T_311_139 ?_
              exact hgo S2 σ hP hJ2 hX2 hF2
            · subst c1
              rw [if_pos ⟨rfl, rfl⟩] at hgo
              refine x_si (ls1 := [some (vR (some 2281)), some (vI k), some (vI i), some (vI 1), some (vI w2), some (vI ins), some (vI j), some (vI b)]) T_311_88 rfl ?_
              refine x_li (z := b) T_311_90 rfl ?_
              refine x_ic T_311_92 ?_
              refine x_ic2 T_311_94 (fun h => absurd (show b = 32 from h) (by omega)) (fun _ => ?_)
              refine x_ic T_311_97 ?_
              refine x_goto T_311_98 ?_
              refine x_si (ls1 := [some (vR (some 2281)), some (vI k), some (vI i), some (vI 1), some (vI w2), some (vI 1), some (vI j), some (vI b)]) T_311_102 rfl ?_
              refine x_li (z := 1) T_311_104 rfl ?_
              refine x_if T_311_106 (fun h => absurd (show (1 : Int) = 0 from h) (by decide)) (fun _ => ?_)
              refine x_li (z := w2) T_311_109 rfl ?_
              refine x_li (z := k) T_311_111 rfl ?_
              refine x_ic T_311_112 ?_
              refine x_ib (w := (k + 1)) T_311_113 (fun h => absurd h.1 (by decide)) (w32_id (by omega) (by omega)) ?_
              refine x_ic2 T_311_114 (fun h => absurd (show ¬ w2 = (k + 1) from h) (by omega)) (fun _ => ?_)
              refine x_lr (z := some 2281) T_311_117 rfl ?_
              refine x_li (z := b) T_311_118 rfl ?_
              refine x_cv2 T_311_120 mN_312 mL_312 (Nat.le_of_ble_eq_true rfl) mO_312 (PM.t hP) (Nat.le_of_ble_eq_true rfl) (ha) ?_
              clear hP ha
              rintro _ σ ⟨S2, rfl, hP, hJ2, hX2, hF2⟩
              refine cI ?_
              refine x_if T_311_123 (fun h => absurd (show (1 : Int) = 0 from h) (by decide)) (fun _ => ?_)
              refine x_li (z := 1) T_311_126 rfl ?_
              refine x_if T_311_127 (fun h => absurd (show (1 : Int) = 0 from h) (by decide)) (fun _ => ?_)
              refine x_ic T_311_130 ?_
              refine x_goto T_311_131 ?_
              refine x_si (ls1 := [some (vR (some 2281)), some (vI k), some (vI i), some (vI 1), some (vI w2), some (vI 1), some (vI j), some (vI b)]) T_311_135 rfl ?_
              refine x_inc (w := (j + 1)) (ls1 := [some (vR (some 2281)), some (vI k), some (vI i), some (vI 1), some (vI w2), some (vI 1), some (vI (j + 1)), some (vI b)]) T_311_136 rfl (w32_id (by omega) (by omega)) rfl ?_
              refine x_goto T_311_139 ?_
              exact hgo S2 σ hP hJ2 hX2 hF2
        · rw [if_neg q2, List.nil_append]
          have hgo := fun l7 => ih (j + 1) w2 1 vs0 S1 σ l7 (by omega) (by omega) h3' (Or.inr rfl) hw3 hw4 hP hJ hdp hX hF
          obtain ⟨y, hy⟩ : ∃ y, adR L vs0 = y := ⟨_, rfl⟩
          rw [hy] at hgo ⊢
          refine x_si (ls1 := [some (vR (some 2281)), some (vI k), some (vI i), some (vI y), some (vI w2), some (vI ins), some (vI j), some (vI b)]) T_311_88 rfl ?_
          refine x_li (z := b) T_311_90 rfl ?_
          refine x_ic T_311_92 ?_
          refine x_ic2 T_311_94 (fun h => absurd (show b = 32 from h) (by omega)) (fun _ => ?_)
          refine x_ic T_311_97 ?_
          refine x_goto T_311_98 ?_
          refine x_si (ls1 := [some (vR (some 2281)), some (vI k), some (vI i), some (vI y), some (vI w2), some (vI 1), some (vI j), some (vI b)]) T_311_102 rfl ?_
          refine x_li (z := 1) T_311_104 rfl ?_
          refine x_if T_311_106 (fun h => absurd (show (1 : Int) = 0 from h) (by decide)) (fun _ => ?_)
          refine x_li (z := w2) T_311_109 rfl ?_
          refine x_li (z := k) T_311_111 rfl ?_
          refine x_ic T_311_112 ?_
          refine x_ib (w := (k + 1)) T_311_113 (fun h => absurd h.1 (by decide)) (w32_id (by omega) (by omega)) ?_
          refine x_ic2 T_311_114 (fun _ => ?_) (fun h => absurd (show ¬ w2 = (k + 1) by omega) h)
          refine x_inc (w := (j + 1)) (ls1 := [some (vR (some 2281)), some (vI k), some (vI i), some (vI y), some (vI w2), some (vI 1), some (vI (j + 1)), some (vI b)]) T_311_136 rfl (w32_id (by omega) (by omega)) rfl ?_
          refine x_goto T_311_139 ?_
          exact hgo _
      rcases h4 with c | c
      · subst c
        rw [if_pos rfl]
        have hgo := key (word + 1) (if_pos rfl) (by omega) (by omega) l7
        obtain ⟨y, hy⟩ : ∃ y, adR L vs0 = y := ⟨_, rfl⟩
        rw [hy] at hgo ⊢
        refine x_li (z := i) T_311_38 rfl ?_
        refine x_if T_311_39 (fun h => absurd (show i ≤ 0 from h) (by omega)) (fun _ => ?_)
        refine x_li (z := j) T_311_42 rfl ?_
        refine x_lr (z := some 2281) T_311_44 rfl ?_
        refine x_gR (z := some 2366) T_311_45 F_17_107 (PM.t hP) (PM.r hP 107 2366 rfl) ?_
        refine x_li (z := i) T_311_48 rfl ?_
        refine x_alI (z := n) T_311_49 (by decide) (PM.ta hP 2366 0 13 rfl rfl) (by omega) (by omega) (Eq.trans (PM.aS hP 2366 rfl rfl (by omega)) hz1) ?_
        refine x_ic2 T_311_50 (fun h => absurd (show n ≤ j from h) (by omega)) (fun _ => ?_)
        refine x_lr (z := some 2281) T_311_53 rfl ?_
        refine x_gR (z := some 2365) T_311_54 F_17_106 (PM.t hP) (PM.r hP 106 2365 rfl) ?_
        refine x_ic T_311_57 ?_
        refine x_li (z := i) T_311_59 rfl ?_
        refine x_ib (w := (100 * i)) T_311_60 (fun h => absurd h.1 (by decide)) (w32_id (by omega) (by omega)) ?_
        refine x_li (z := j) T_311_61 rfl ?_
        refine x_ib (w := ((100 * i) + j)) T_311_63 (fun h => absurd h.1 (by decide)) (w32_id (by omega) (by omega)) ?_
        refine x_alI (z := b) T_311_64 (by decide) (PM.ta hP 2365 0 1300 rfl rfl) (by omega) (by omega) (Eq.trans (PM.aS hP 2365 rfl rfl (by omega)) hr1) ?_
        refine x_si (ls1 := [some (vR (some 2281)), some (vI k), some (vI i), some (vI y), some (vI word), some (vI 0), some (vI j), some (vI b)]) T_311_65 rfl ?_
        refine x_li (z := b) T_311_67 rfl ?_
        refine x_ic T_311_69 ?_
        refine x_ic2 T_311_71 (fun h => absurd (show b = 32 from h) (by omega)) (fun _ => ?_)
        refine x_li (z := 0) T_311_74 rfl ?_
        refine x_if T_311_76 (fun h => absurd (show ¬ (0 : Int) = 0 from h) (by decide)) (fun _ => ?_)
        refine x_li (z := word) T_311_79 rfl ?_
        refine x_ic T_311_81 ?_
        refine x_ib (w := (word + 1)) T_311_82 (fun h => absurd h.1 (by decide)) (w32_id (by omega) (by omega)) ?_
        refine x_goto T_311_83 ?_
        exact hgo
      · subst c
        rw [if_neg (show ¬ (1 : Int) = 0 by decide)]
        have hgo := key word (if_neg (by decide)) (by omega) (by omega) l7
        obtain ⟨y, hy⟩ : ∃ y, adR L vs0 = y := ⟨_, rfl⟩
        rw [hy] at hgo ⊢
        refine x_li (z := i) T_311_38 rfl ?_
        refine x_if T_311_39 (fun h => absurd (show i ≤ 0 from h) (by omega)) (fun _ => ?_)
        refine x_li (z := j) T_311_42 rfl ?_
        refine x_lr (z := some 2281) T_311_44 rfl ?_
        refine x_gR (z := some 2366) T_311_45 F_17_107 (PM.t hP) (PM.r hP 107 2366 rfl) ?_
        refine x_li (z := i) T_311_48 rfl ?_
        refine x_alI (z := n) T_311_49 (by decide) (PM.ta hP 2366 0 13 rfl rfl) (by omega) (by omega) (Eq.trans (PM.aS hP 2366 rfl rfl (by omega)) hz1) ?_
        refine x_ic2 T_311_50 (fun h => absurd (show n ≤ j from h) (by omega)) (fun _ => ?_)
        refine x_lr (z := some 2281) T_311_53 rfl ?_
        refine x_gR (z := some 2365) T_311_54 F_17_106 (PM.t hP) (PM.r hP 106 2365 rfl) ?_
        refine x_ic T_311_57 ?_
        refine x_li (z := i) T_311_59 rfl ?_
        refine x_ib (w := (100 * i)) T_311_60 (fun h => absurd h.1 (by decide)) (w32_id (by omega) (by omega)) ?_
        refine x_li (z := j) T_311_61 rfl ?_
        refine x_ib (w := ((100 * i) + j)) T_311_63 (fun h => absurd h.1 (by decide)) (w32_id (by omega) (by omega)) ?_
        refine x_alI (z := b) T_311_64 (by decide) (PM.ta hP 2365 0 1300 rfl rfl) (by omega) (by omega) (Eq.trans (PM.aS hP 2365 rfl rfl (by omega)) hr1) ?_
        refine x_si (ls1 := [some (vR (some 2281)), some (vI k), some (vI i), some (vI y), some (vI word), some (vI 1), some (vI j), some (vI b)]) T_311_65 rfl ?_
        refine x_li (z := b) T_311_67 rfl ?_
        refine x_ic T_311_69 ?_
        refine x_ic2 T_311_71 (fun h => absurd (show b = 32 from h) (by omega)) (fun _ => ?_)
        refine x_li (z := 1) T_311_74 rfl ?_
        refine x_if T_311_76 (fun _ => ?_) (fun h => absurd (show ¬ (1 : Int) = 0 by decide) h)
        refine x_li (z := word) T_311_86 rfl ?_
        exact hgo
theorem m_addArgument (hP : PM σ0 P S σ) (hJ : IV true T U S) (hk : 0 ≤ k ∧ k ≤ 9) (hdp : S 2281 113 = dp) (hfs : dp = (fs.length : Int) + 1) (hd : dp ≤ 12) (hF : FST S fs) (hX : TX S dp L) : CL fb (d + 1) 311 [vR (some 2281), vI k] σ (AD T U σ0 P S dp L (argL (arOf fs) k)) := by
  have hfind := fun {Q : Option AV → hM → Prop} => m_arg_find (fb := fb) (d := d + 1) (k := k) (Q := Q) hP fs (by omega) hF
  have e1 : adR L [] = 1 := if_pos (Or.inl rfl)
  have hgo := hfind (Q := AD T U σ0 P S dp L (argL (arOf fs) k)) (fun hn => by
      rw [hn, show argL none k = [] from rfl, show AD T U σ0 P S dp L [] = fun r σ' => ∃ S2 : qR, r = some (vI 1) ∧ PM σ0 P S2 σ' ∧ IV true T U S2 ∧ TX S2 dp (L ++ []) ∧ FRM dp S S2 by rw [← e1]]
      refine x_ic T_311_27 ?_
      refine x_si (ls1 := [some (vR (some 2281)), some (vI k), some (vI 0), some (vI 1), none, none, none, none]) T_311_28 rfl ?_
      refine x_ic T_311_29 ?_
      refine x_si (ls1 := [some (vR (some 2281)), some (vI k), some (vI 0), some (vI 1), some (vI (-1)), none, none, none]) T_311_30 rfl ?_
      refine x_ic T_311_32 ?_
      refine x_si (ls1 := [some (vR (some 2281)), some (vI k), some (vI 0), some (vI 1), some (vI (-1)), some (vI 0), none, none]) T_311_33 rfl ?_
      refine x_ic T_311_35 ?_
      refine x_si (ls1 := [some (vR (some 2281)), some (vI k), some (vI 0), some (vI 1), some (vI (-1)), some (vI 0), some (vI 0), none]) T_311_36 rfl ?_
      refine x_li (z := 0) T_311_38 rfl ?_
      refine x_if T_311_39 (fun _ => ?_) (fun h => absurd (show (0 : Int) ≤ 0 by decide) h)
      refine x_li (z := 1) T_311_142 rfl ?_
      refine x_rz T_311_143 rfl ?_
      exact ⟨S, rfl, hP, hJ, by rw [List.append_nil]; exact hX, FRM_rfl⟩
      ) (fun f i a1 a2 a3 a4 a5 => by
      obtain ⟨z1, z2⟩ := FX_arg a2 a3
      rw [a1]
      show WP fb (d + 1) 311 27 [some (vR (some 2281)), some (vI k), some (vI i), none, none, none, none, none] [] σ (AD T U σ0 P S dp L (lnB f.2.1 (k + 1)))
      have hl := a2.2.1.1
      have hsc := m_arg_scan (fb := fb) (d := d) (S := S) (tx := f.2.1) (L := L) (l7 := none) hk ⟨by omega, hd⟩ ⟨by omega, by omega⟩ (by omega) rfl (by omega) z1 z2 a2.2.1.2.1 f.2.1 0 (-1) 0 [] S σ (by omega) (by decide) (fun m hm => by
        rw [Int.zero_add]
        rfl) (Or.inl rfl) (by decide) (by decide) hP hJ hdp (by rw [List.append_nil]; exact hX) FRM_rfl
      rw [List.nil_append, scA_word hk.1, e1] at hsc
      refine x_ic T_311_27 ?_
      refine x_si (ls1 := [some (vR (some 2281)), some (vI k), some (vI i), some (vI 1), none, none, none, none]) T_311_28 rfl ?_
      refine x_ic T_311_29 ?_
      refine x_si (ls1 := [some (vR (some 2281)), some (vI k), some (vI i), some (vI 1), some (vI (-1)), none, none, none]) T_311_30 rfl ?_
      refine x_ic T_311_32 ?_
      refine x_si (ls1 := [some (vR (some 2281)), some (vI k), some (vI i), some (vI 1), some (vI (-1)), some (vI 0), none, none]) T_311_33 rfl ?_
      refine x_ic T_311_35 ?_
      refine x_si (ls1 := [some (vR (some 2281)), some (vI k), some (vI i), some (vI 1), some (vI (-1)), some (vI 0), some (vI 0), none]) T_311_36 rfl ?_
      exact hsc
      )
  have hdm : dp - 1 = (fs.length : Int) := by omega
  obtain ⟨n, hn⟩ : ∃ n : Int, (fs.length : Int) = n := ⟨_, rfl⟩
  rw [hn] at hgo hdm
  refine CL_in mL_311 rfl ?_
  show WP fb _ 311 0 [some (vR (some 2281)), some (vI k), none, none, none, none, none, none] [] σ _
  refine x_lr (z := some 2281) T_311_0 rfl ?_
  refine x_gI (z := dp) T_311_1 (Or.inl F_17_113) (PM.t hP) (Eq.trans (PM.nS hP 2281 113 113 rfl rfl rfl) hdp) ?_
  refine x_ic T_311_4 ?_
  refine x_ib (w := n) T_311_5 (fun h => absurd h.1 (by decide)) (w32_e (by omega) (by omega) (by omega)) ?_
  refine x_si (ls1 := [some (vR (some 2281)), some (vI k), some (vI n), none, none, none, none, none]) T_311_6 rfl ?_
  exact hgo
end MFR3
