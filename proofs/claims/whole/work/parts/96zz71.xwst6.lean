/-! The class's servers: what a wstat names. -/
theorem T_86_0 : hTab 86 0 = some ((3, 1, 2, []), 1) := rfl
theorem T_86_1 : hTab 86 1 = some ((24, 9, Int.ofNat 3, []), 4) := rfl
theorem T_86_4 : hTab 86 4 = some ((4, 2, 2, []), 5) := rfl
theorem T_86_5 : hTab 86 5 = some ((3, 2, 2, []), 6) := rfl
theorem T_86_6 : hTab 86 6 = some ((20, 1, Int.ofNat 11, []), 9) := rfl
theorem T_86_9 : hTab 86 9 = some ((0, 0, 1, []), 10) := rfl
theorem T_86_10 : hTab 86 10 = some ((33, 1, 0, []), 11) := rfl
theorem T_86_11 : hTab 86 11 = some ((0, 0, 54, []), 13) := rfl
theorem T_86_13 : hTab 86 13 = some ((4, 3, 0, []), 14) := rfl
theorem T_86_14 : hTab 86 14 = some ((3, 0, 2, []), 15) := rfl
theorem T_86_15 : hTab 86 15 = some ((24, 7, Int.ofNat 9, []), 18) := rfl
theorem T_86_18 : hTab 86 18 = some ((3, 3, 0, []), 19) := rfl
theorem T_86_19 : hTab 86 19 = some ((31, 36, 0, []), 22) := rfl
theorem T_86_22 : hTab 86 22 = some ((4, 4, 0, []), 24) := rfl
theorem T_86_24 : hTab 86 24 = some ((0, 0, 38, []), 26) := rfl
theorem T_86_26 : hTab 86 26 = some ((4, 5, 0, []), 28) := rfl
theorem T_86_28 : hTab 86 28 = some ((3, 4, 0, []), 30) := rfl
theorem T_86_30 : hTab 86 30 = some ((3, 3, 0, []), 31) := rfl
theorem T_86_31 : hTab 86 31 = some ((0, 0, 2, []), 32) := rfl
theorem T_86_32 : hTab 86 32 = some ((10, 0, 0, []), 33) := rfl
theorem T_86_33 : hTab 86 33 = some ((19, 5, Int.ofNat 40, []), 36) := rfl
theorem T_86_36 : hTab 86 36 = some ((0, 0, 1, []), 37) := rfl
theorem T_86_37 : hTab 86 37 = some ((22, 0, Int.ofNat 41, []), 40) := rfl
theorem T_86_40 : hTab 86 40 = some ((0, 0, 0, []), 41) := rfl
theorem T_86_41 : hTab 86 41 = some ((4, 6, 0, []), 43) := rfl
theorem T_86_43 : hTab 86 43 = some ((3, 0, 2, []), 44) := rfl
theorem T_86_44 : hTab 86 44 = some ((24, 7, Int.ofNat 9, []), 47) := rfl
theorem T_86_47 : hTab 86 47 = some ((0, 0, 46, []), 49) := rfl
theorem T_86_49 : hTab 86 49 = some ((3, 3, 0, []), 50) := rfl
theorem T_86_50 : hTab 86 50 = some ((31, 87, 0, []), 53) := rfl
theorem T_86_53 : hTab 86 53 = some ((18, 1, Int.ofNat 60, []), 56) := rfl
theorem T_86_56 : hTab 86 56 = some ((0, 0, 1, []), 57) := rfl
theorem T_86_57 : hTab 86 57 = some ((22, 0, Int.ofNat 61, []), 60) := rfl
theorem T_86_60 : hTab 86 60 = some ((0, 0, 0, []), 61) := rfl
theorem T_86_61 : hTab 86 61 = some ((4, 7, 0, []), 63) := rfl
theorem T_86_63 : hTab 86 63 = some ((3, 0, 2, []), 64) := rfl
theorem T_86_64 : hTab 86 64 = some ((24, 7, Int.ofNat 9, []), 67) := rfl
theorem T_86_67 : hTab 86 67 = some ((0, 0, 34, []), 69) := rfl
theorem T_86_69 : hTab 86 69 = some ((3, 5, 0, []), 71) := rfl
theorem T_86_71 : hTab 86 71 = some ((31, 87, 0, []), 74) := rfl
theorem T_86_74 : hTab 86 74 = some ((18, 1, Int.ofNat 81, []), 77) := rfl
theorem T_86_77 : hTab 86 77 = some ((0, 0, 1, []), 78) := rfl
theorem T_86_78 : hTab 86 78 = some ((22, 0, Int.ofNat 82, []), 81) := rfl
theorem T_86_81 : hTab 86 81 = some ((0, 0, 0, []), 82) := rfl
theorem T_86_82 : hTab 86 82 = some ((4, 8, 0, []), 84) := rfl
theorem T_86_84 : hTab 86 84 = some ((3, 0, 2, []), 85) := rfl
theorem T_86_85 : hTab 86 85 = some ((24, 7, Int.ofNat 9, []), 88) := rfl
theorem T_86_88 : hTab 86 88 = some ((0, 0, 15, []), 90) := rfl
theorem T_86_90 : hTab 86 90 = some ((0, 0, 34, []), 92) := rfl
theorem T_86_92 : hTab 86 92 = some ((31, 87, 0, []), 95) := rfl
theorem T_86_95 : hTab 86 95 = some ((18, 0, Int.ofNat 130, []), 98) := rfl
theorem T_86_98 : hTab 86 98 = some ((3, 0, 2, []), 99) := rfl
theorem T_86_99 : hTab 86 99 = some ((24, 7, Int.ofNat 9, []), 102) := rfl
theorem T_86_102 : hTab 86 102 = some ((3, 5, 0, []), 104) := rfl
theorem T_86_104 : hTab 86 104 = some ((3, 5, 0, []), 106) := rfl
theorem T_86_106 : hTab 86 106 = some ((0, 0, 8, []), 108) := rfl
theorem T_86_108 : hTab 86 108 = some ((10, 0, 0, []), 109) := rfl
theorem T_86_109 : hTab 86 109 = some ((31, 87, 0, []), 112) := rfl
theorem T_86_112 : hTab 86 112 = some ((18, 0, Int.ofNat 130, []), 115) := rfl
theorem T_86_115 : hTab 86 115 = some ((3, 4, 0, []), 117) := rfl
theorem T_86_117 : hTab 86 117 = some ((0, 0, 6, []), 119) := rfl
theorem T_86_119 : hTab 86 119 = some ((10, 0, 0, []), 120) := rfl
theorem T_86_120 : hTab 86 120 = some ((3, 0, 2, []), 121) := rfl
theorem T_86_121 : hTab 86 121 = some ((24, 7, Int.ofNat 9, []), 124) := rfl
theorem T_86_124 : hTab 86 124 = some ((31, 28, 0, []), 127) := rfl
theorem T_86_127 : hTab 86 127 = some ((19, 0, Int.ofNat 132, []), 130) := rfl
theorem T_86_130 : hTab 86 130 = some ((0, 0, 3, []), 131) := rfl
theorem T_86_131 : hTab 86 131 = some ((33, 1, 0, []), 132) := rfl
theorem T_86_132 : hTab 86 132 = some ((3, 6, 0, []), 134) := rfl
theorem T_86_134 : hTab 86 134 = some ((18, 1, Int.ofNat 149, []), 137) := rfl
theorem T_86_137 : hTab 86 137 = some ((3, 7, 0, []), 139) := rfl
theorem T_86_139 : hTab 86 139 = some ((18, 1, Int.ofNat 149, []), 142) := rfl
theorem T_86_142 : hTab 86 142 = some ((3, 8, 0, []), 144) := rfl
theorem T_86_144 : hTab 86 144 = some ((18, 1, Int.ofNat 149, []), 147) := rfl
theorem T_86_147 : hTab 86 147 = some ((0, 0, 0, []), 148) := rfl
theorem T_86_148 : hTab 86 148 = some ((33, 1, 0, []), 149) := rfl
section XWSTF
variable {fb : Bool} {d S a c0 rp mb m0 N M fa pr bb pa : Nat} {σ0 σ σ' : hM} {W W1 W2 W3 P Q : qR} {R R1 R2 : rR} {b i k x z v s e w f u p g ln K T U C c y off cnt n md tb j m sv nv mr lr e0 ok : Int} {ord l l2 nm lo D L li : List Int} {t : Nat → Nat} {F : Int → Int} {oth : Option Nat}
/-- nothing is to be changed -/
theorem ws_132 {Post : Option AV → hM → Prop} (hP : PX σ0 W R σ) (hnf : nv = 0 ∨ nv = 1) (hsf : sv = 0 ∨ sv = 1) (hmf : v = 0 ∨ v = 1) (hsame : nv = 0 → sv = 0 → v = 0 → Post (some (vI 0)) σ) (hgo : ¬ (nv = 0 ∧ sv = 0 ∧ v = 0) → WP fb (d + 4) 86 149 [some (vR (some S)), some (vR (some fa)), some (vR (some a)), some (vI 54), some (vI e), some (vI 38), some (vI nv), some (vI sv), some (vI v), none, none, none, none, none] [] σ Post) : WP fb (d + 4) 86 132 [some (vR (some S)), some (vR (some fa)), some (vR (some a)), some (vI 54), some (vI e), some (vI 38), some (vI nv), some (vI sv), some (vI v), none, none, none, none, none] [] σ Post := by
  by_cases q1 : nv = 0
  rotate_left
  · have hgo := hgo (by omega)
    refine x_li (z := nv) T_86_132 rfl ?_
    refine x_if T_86_134 (fun _ => ?_) (fun h => absurd (show ¬ nv = 0 by omega) h)
    exact hgo
  by_cases q2 : sv = 0
  rotate_left
  · have hgo := hgo (by omega)
    refine x_li (z := nv) T_86_132 rfl ?_
    refine x_if T_86_134 (fun h => absurd (show ¬ nv = 0 from h) (by omega)) (fun _ => ?_)
    refine x_li (z := sv) T_86_137 rfl ?_
    refine x_if T_86_139 (fun _ => ?_) (fun h => absurd (show ¬ sv = 0 by omega) h)
    exact hgo
  by_cases q3 : v = 0
  rotate_left
  · have hgo := hgo (by omega)
    refine x_li (z := nv) T_86_132 rfl ?_
    refine x_if T_86_134 (fun h => absurd (show ¬ nv = 0 from h) (by omega)) (fun _ => ?_)
    refine x_li (z := sv) T_86_137 rfl ?_
    refine x_if T_86_139 (fun h => absurd (show ¬ sv = 0 from h) (by omega)) (fun _ => ?_)
    refine x_li (z := v) T_86_142 rfl ?_
    refine x_if T_86_144 (fun _ => ?_) (fun h => absurd (show ¬ v = 0 by omega) h)
    exact hgo
  · have hsame := hsame q1 q2 q3
    refine x_li (z := nv) T_86_132 rfl ?_
    refine x_if T_86_134 (fun h => absurd (show ¬ nv = 0 from h) (by omega)) (fun _ => ?_)
    refine x_li (z := sv) T_86_137 rfl ?_
    refine x_if T_86_139 (fun h => absurd (show ¬ sv = 0 from h) (by omega)) (fun _ => ?_)
    refine x_li (z := v) T_86_142 rfl ?_
    refine x_if T_86_144 (fun h => absurd (show ¬ v = 0 from h) (by omega)) (fun _ => ?_)
    refine x_ic T_86_147 ?_
    refine x_ri T_86_148 ?_
    exact hsame
/-- what may not be changed -/
theorem ws_84 {Post : Option AV → hM → Prop} (hP : PX σ0 W R σ) (hO : tX S = some (Sum.inl 7)) (hr : R S 2233 = some mb) (hB : BY W mb M l) (hz : (l.length : Int) = z) (h54 : 54 ≤ z) (her : 0 ≤ e ∧ e ≤ z) (hden : ¬ ((seg (lg l) 15 19 = List.replicate 19 255 ∧ seg (lg l) 38 8 = List.replicate 8 255) ∧ e + 6 = z) → Post (some (vI 3)) σ) (hgo : (seg (lg l) 15 19 = List.replicate 19 255 ∧ seg (lg l) 38 8 = List.replicate 8 255) → e + 6 = z → WP fb (d + 4) 86 132 [some (vR (some S)), some (vR (some fa)), some (vR (some a)), some (vI 54), some (vI e), some (vI 38), some (vI nv), some (vI sv), some (vI v), none, none, none, none, none] [] σ Post) : WP fb (d + 4) 86 84 [some (vR (some S)), some (vR (some fa)), some (vR (some a)), some (vI 54), some (vI e), some (vI 38), some (vI nv), some (vI sv), some (vI v), none, none, none, none, none] [] σ Post := by
  have hbm := hB.1
  have hn1 := hB.2.2.1
  have hlz := hB.2.2.2.2.1
  have h1 := x_allOnes (fb := fb) (d := d + 3) (s := 15) (e := 34) hP hB (by decide) (by omega)
  rw [show ((34 : Int) - 15).toNat = 19 from rfl] at h1
  have h2 := x_allOnes (fb := fb) (d := d + 3) (s := 38) (e := 46) hP hB (by decide) (by omega)
  rw [show ((46 : Int) - 38).toNat = 8 from rfl] at h2
  have hsz := x_size (fb := fb) (d := d + 3) hP hB hz
  have h46 : w32 (38 + 8) = 46 := w32_id (by decide) (by decide)
  have he6 : w32 (e + 6) = e + 6 := w32_id (by omega) (by omega)
  by_cases q1 : seg (lg l) 15 19 = List.replicate 19 255
  rotate_left
  · rw [if_neg q1] at h1
    have hden := hden (fun c => q1 c.1.1)
    refine x_lr (z := some S) T_86_84 rfl ?_
    refine x_gR (z := some mb) T_86_85 F_7_9 (hP.o hO) (Eq.trans (hP.rm hO rfl (key := 2233) rfl) hr) ?_
    refine x_ic T_86_88 ?_
    refine x_ic T_86_90 ?_
    refine x_cv3 T_86_92 mN_87 mL_87 (Nat.le_of_ble_eq_true rfl) mO_87 (hP.o hbm) (Nat.le_of_ble_eq_true rfl) (h1) ?_
    rintro _ σ ⟨rfl, rfl⟩
    refine cI ?_
    refine x_if T_86_95 (fun _ => ?_) (fun h => absurd (show (0 : Int) = 0 by decide) h)
    refine x_ic T_86_130 ?_
    refine x_ri T_86_131 ?_
    exact hden
  rw [if_pos q1] at h1
  by_cases q2 : seg (lg l) 38 8 = List.replicate 8 255
  rotate_left
  · rw [if_neg q2] at h2
    have hden := hden (fun c => q2 c.1.2)
    refine x_lr (z := some S) T_86_84 rfl ?_
    refine x_gR (z := some mb) T_86_85 F_7_9 (hP.o hO) (Eq.trans (hP.rm hO rfl (key := 2233) rfl) hr) ?_
    refine x_ic T_86_88 ?_
    refine x_ic T_86_90 ?_
    refine x_cv3 T_86_92 mN_87 mL_87 (Nat.le_of_ble_eq_true rfl) mO_87 (hP.o hbm) (Nat.le_of_ble_eq_true rfl) (h1) ?_
    rintro _ σ ⟨rfl, rfl⟩
    refine cI ?_
    refine x_if T_86_95 (fun h => absurd (show (1 : Int) = 0 from h) (by decide)) (fun _ => ?_)
    refine x_lr (z := some S) T_86_98 rfl ?_
    refine x_gR (z := some mb) T_86_99 F_7_9 (hP.o hO) (Eq.trans (hP.rm hO rfl (key := 2233) rfl) hr) ?_
    refine x_li (z := 38) T_86_102 rfl ?_
    refine x_li (z := 38) T_86_104 rfl ?_
    refine x_ic T_86_106 ?_
    refine x_ib (w := 46) T_86_108 (fun h => absurd h.1 (by decide)) h46 ?_
    refine x_cv3 T_86_109 mN_87 mL_87 (Nat.le_of_ble_eq_true rfl) mO_87 (hP.o hbm) (Nat.le_of_ble_eq_true rfl) (h2) ?_
    rintro _ σ ⟨rfl, rfl⟩
    refine cI ?_
    refine x_if T_86_112 (fun _ => ?_) (fun h => absurd (show (0 : Int) = 0 by decide) h)
    refine x_ic T_86_130 ?_
    refine x_ri T_86_131 ?_
    exact hden
  rw [if_pos q2] at h2
  by_cases q3 : e + 6 = z
  · have hgo := hgo ⟨q1, q2⟩ q3
    refine x_lr (z := some S) T_86_84 rfl ?_
    refine x_gR (z := some mb) T_86_85 F_7_9 (hP.o hO) (Eq.trans (hP.rm hO rfl (key := 2233) rfl) hr) ?_
    refine x_ic T_86_88 ?_
    refine x_ic T_86_90 ?_
    refine x_cv3 T_86_92 mN_87 mL_87 (Nat.le_of_ble_eq_true rfl) mO_87 (hP.o hbm) (Nat.le_of_ble_eq_true rfl) (h1) ?_
    rintro _ σ ⟨rfl, rfl⟩
    refine cI ?_
    refine x_if T_86_95 (fun h => absurd (show (1 : Int) = 0 from h) (by decide)) (fun _ => ?_)
    refine x_lr (z := some S) T_86_98 rfl ?_
    refine x_gR (z := some mb) T_86_99 F_7_9 (hP.o hO) (Eq.trans (hP.rm hO rfl (key := 2233) rfl) hr) ?_
    refine x_li (z := 38) T_86_102 rfl ?_
    refine x_li (z := 38) T_86_104 rfl ?_
    refine x_ic T_86_106 ?_
    refine x_ib (w := 46) T_86_108 (fun h => absurd h.1 (by decide)) h46 ?_
    refine x_cv3 T_86_109 mN_87 mL_87 (Nat.le_of_ble_eq_true rfl) mO_87 (hP.o hbm) (Nat.le_of_ble_eq_true rfl) (h2) ?_
    rintro _ σ ⟨rfl, rfl⟩
    refine cI ?_
    refine x_if T_86_112 (fun h => absurd (show (1 : Int) = 0 from h) (by decide)) (fun _ => ?_)
    refine x_li (z := e) T_86_115 rfl ?_
    refine x_ic T_86_117 ?_
    refine x_ib (w := (e + 6)) T_86_119 (fun h => absurd h.1 (by decide)) he6 ?_
    refine x_lr (z := some S) T_86_120 rfl ?_
    refine x_gR (z := some mb) T_86_121 F_7_9 (hP.o hO) (Eq.trans (hP.rm hO rfl (key := 2233) rfl) hr) ?_
    refine x_cv1 T_86_124 mN_28 mL_28 (Nat.le_of_ble_eq_true rfl) mO_28 (hP.o hbm) (Nat.le_of_ble_eq_true rfl) (hsz) ?_
    rintro _ σ ⟨rfl, rfl⟩
    refine cI ?_
    refine x_ic2 T_86_127 (fun _ => ?_) (fun h => absurd (show (e + 6) = z by omega) h)
    exact hgo
  · have hden := hden (fun c => q3 c.2)
    refine x_lr (z := some S) T_86_84 rfl ?_
    refine x_gR (z := some mb) T_86_85 F_7_9 (hP.o hO) (Eq.trans (hP.rm hO rfl (key := 2233) rfl) hr) ?_
    refine x_ic T_86_88 ?_
    refine x_ic T_86_90 ?_
    refine x_cv3 T_86_92 mN_87 mL_87 (Nat.le_of_ble_eq_true rfl) mO_87 (hP.o hbm) (Nat.le_of_ble_eq_true rfl) (h1) ?_
    rintro _ σ ⟨rfl, rfl⟩
    refine cI ?_
    refine x_if T_86_95 (fun h => absurd (show (1 : Int) = 0 from h) (by decide)) (fun _ => ?_)
    refine x_lr (z := some S) T_86_98 rfl ?_
    refine x_gR (z := some mb) T_86_99 F_7_9 (hP.o hO) (Eq.trans (hP.rm hO rfl (key := 2233) rfl) hr) ?_
    refine x_li (z := 38) T_86_102 rfl ?_
    refine x_li (z := 38) T_86_104 rfl ?_
    refine x_ic T_86_106 ?_
    refine x_ib (w := 46) T_86_108 (fun h => absurd h.1 (by decide)) h46 ?_
    refine x_cv3 T_86_109 mN_87 mL_87 (Nat.le_of_ble_eq_true rfl) mO_87 (hP.o hbm) (Nat.le_of_ble_eq_true rfl) (h2) ?_
    rintro _ σ ⟨rfl, rfl⟩
    refine cI ?_
    refine x_if T_86_112 (fun h => absurd (show (1 : Int) = 0 from h) (by decide)) (fun _ => ?_)
    refine x_li (z := e) T_86_115 rfl ?_
    refine x_ic T_86_117 ?_
    refine x_ib (w := (e + 6)) T_86_119 (fun h => absurd h.1 (by decide)) he6 ?_
    refine x_lr (z := some S) T_86_120 rfl ?_
    refine x_gR (z := some mb) T_86_121 F_7_9 (hP.o hO) (Eq.trans (hP.rm hO rfl (key := 2233) rfl) hr) ?_
    refine x_cv1 T_86_124 mN_28 mL_28 (Nat.le_of_ble_eq_true rfl) mO_28 (hP.o hbm) (Nat.le_of_ble_eq_true rfl) (hsz) ?_
    rintro _ σ ⟨rfl, rfl⟩
    refine cI ?_
    refine x_ic2 T_86_127 (fun h => absurd (show (e + 6) = z from h) (by omega)) (fun _ => ?_)
    refine x_ic T_86_130 ?_
    refine x_ri T_86_131 ?_
    exact hden
/-- the three flags -/
theorem ws_0 {Post : Option AV → hM → Prop} (hP : PX σ0 W R σ) (hO : tX S = some (Sum.inl 7)) (hfo : tX fa = some (Sum.inl 9)) (hn : R fa 2291 = some a) (hno : tX a = some (Sum.inl 8)) (hr : R S 2233 = some mb) (hB : BY W mb M l) (hz : (l.length : Int) = z) (h54 : 54 ≤ z) (he : sE (lg l) z 54 = e) (hnv : (if 56 < e then (1 : Int) else 0) = nv) (hsv : (if seg (lg l) 46 8 = List.replicate 8 255 then (0 : Int) else 1) = sv) (hv : (if seg (lg l) 34 4 = List.replicate 4 255 then (0 : Int) else 1) = v) (hgo : WP fb (d + 4) 86 84 [some (vR (some S)), some (vR (some fa)), some (vR (some a)), some (vI 54), some (vI e), some (vI 38), some (vI nv), some (vI sv), some (vI v), none, none, none, none, none] [] σ Post) : CL fb (d + 4) 86 [vR (some S), vR (some fa)] σ Post := by
  have hbm := hB.1
  have h0 := x_stringEnd (fb := fb) (d := d + 3) (s := 54) hP hB hz ⟨by decide, by decide⟩
  rw [he] at h0
  have h1 := x_allOnes (fb := fb) (d := d + 3) (s := 46) (e := 54) hP hB (by decide) (by omega)
  rw [show ((54 : Int) - 46).toNat = 8 from rfl] at h1
  have h2 := x_allOnes (fb := fb) (d := d + 3) (s := 34) (e := 38) hP hB (by decide) (by omega)
  rw [show ((38 : Int) - 34).toNat = 4 from rfl] at h2
  have h56 : w32 (54 + 2) = 56 := w32_id (by decide) (by decide)
  have g63 : WP fb (d + 4) 86 63 [some (vR (some S)), some (vR (some fa)), some (vR (some a)), some (vI 54), some (vI e), some (vI 38), some (vI nv), some (vI sv), none, none, none, none, none, none] [] σ Post := by
    by_cases q : seg (lg l) 34 4 = List.replicate 4 255
    · rw [if_pos q] at h2 hv
      subst hv
      refine x_lr (z := some S) T_86_63 rfl ?_
      refine x_gR (z := some mb) T_86_64 F_7_9 (hP.o hO) (Eq.trans (hP.rm hO rfl (key := 2233) rfl) hr) ?_
      refine x_ic T_86_67 ?_
      refine x_li (z := 38) T_86_69 rfl ?_
      refine x_cv3 T_86_71 mN_87 mL_87 (Nat.le_of_ble_eq_true rfl) mO_87 (hP.o hbm) (Nat.le_of_ble_eq_true rfl) (h2) ?_
      rintro _ σ ⟨rfl, rfl⟩
      refine cI ?_
      refine x_if T_86_74 (fun _ => ?_) (fun h => absurd (show ¬ (1 : Int) = 0 by decide) h)
      refine x_ic T_86_81 ?_
      refine x_si (ls1 := [some (vR (some S)), some (vR (some fa)), some (vR (some a)), some (vI 54), some (vI e), some (vI 38), some (vI nv), some (vI sv), some (vI 0), none, none, none, none, none]) T_86_82 rfl ?_
      exact hgo
    · rw [if_neg q] at h2 hv
      subst hv
      refine x_lr (z := some S) T_86_63 rfl ?_
      refine x_gR (z := some mb) T_86_64 F_7_9 (hP.o hO) (Eq.trans (hP.rm hO rfl (key := 2233) rfl) hr) ?_
      refine x_ic T_86_67 ?_
      refine x_li (z := 38) T_86_69 rfl ?_
      refine x_cv3 T_86_71 mN_87 mL_87 (Nat.le_of_ble_eq_true rfl) mO_87 (hP.o hbm) (Nat.le_of_ble_eq_true rfl) (h2) ?_
      rintro _ σ ⟨rfl, rfl⟩
      refine cI ?_
      refine x_if T_86_74 (fun h => absurd (show ¬ (0 : Int) = 0 from h) (by decide)) (fun _ => ?_)
      refine x_ic T_86_77 ?_
      refine x_goto T_86_78 ?_
      refine x_si (ls1 := [some (vR (some S)), some (vR (some fa)), some (vR (some a)), some (vI 54), some (vI e), some (vI 38), some (vI nv), some (vI sv), some (vI 1), none, none, none, none, none]) T_86_82 rfl ?_
      exact hgo
  have g43 : WP fb (d + 4) 86 43 [some (vR (some S)), some (vR (some fa)), some (vR (some a)), some (vI 54), some (vI e), some (vI 38), some (vI nv), none, none, none, none, none, none, none] [] σ Post := by
    clear hgo h2
    by_cases q : seg (lg l) 46 8 = List.replicate 8 255
    · rw [if_pos q] at h1 hsv
      subst hsv
      refine x_lr (z := some S) T_86_43 rfl ?_
      refine x_gR (z := some mb) T_86_44 F_7_9 (hP.o hO) (Eq.trans (hP.rm hO rfl (key := 2233) rfl) hr) ?_
      refine x_ic T_86_47 ?_
      refine x_li (z := 54) T_86_49 rfl ?_
      refine x_cv3 T_86_50 mN_87 mL_87 (Nat.le_of_ble_eq_true rfl) mO_87 (hP.o hbm) (Nat.le_of_ble_eq_true rfl) (h1) ?_
      rintro _ σ ⟨rfl, rfl⟩
      refine cI ?_
      refine x_if T_86_53 (fun _ => ?_) (fun h => absurd (show ¬ (1 : Int) = 0 by decide) h)
      refine x_ic T_86_60 ?_
      refine x_si (ls1 := [some (vR (some S)), some (vR (some fa)), some (vR (some a)), some (vI 54), some (vI e), some (vI 38), some (vI nv), some (vI 0), none, none, none, none, none, none]) T_86_61 rfl ?_
      exact g63
    · rw [if_neg q] at h1 hsv
      subst hsv
      refine x_lr (z := some S) T_86_43 rfl ?_
      refine x_gR (z := some mb) T_86_44 F_7_9 (hP.o hO) (Eq.trans (hP.rm hO rfl (key := 2233) rfl) hr) ?_
      refine x_ic T_86_47 ?_
      refine x_li (z := 54) T_86_49 rfl ?_
      refine x_cv3 T_86_50 mN_87 mL_87 (Nat.le_of_ble_eq_true rfl) mO_87 (hP.o hbm) (Nat.le_of_ble_eq_true rfl) (h1) ?_
      rintro _ σ ⟨rfl, rfl⟩
      refine cI ?_
      refine x_if T_86_53 (fun h => absurd (show ¬ (0 : Int) = 0 from h) (by decide)) (fun _ => ?_)
      refine x_ic T_86_56 ?_
      refine x_goto T_86_57 ?_
      refine x_si (ls1 := [some (vR (some S)), some (vR (some fa)), some (vR (some a)), some (vI 54), some (vI e), some (vI 38), some (vI nv), some (vI 1), none, none, none, none, none, none]) T_86_61 rfl ?_
      exact g63
  clear hgo g63 h1 h2
  by_cases q : 56 < e
  · rw [if_pos q] at hnv
    subst hnv
    refine CL_in mL_86 rfl ?_
    show WP fb _ 86 0 [some (vR (some S)), some (vR (some fa)), none, none, none, none, none, none, none, none, none, none, none, none] [] σ _
    refine x_lr (z := some fa) T_86_0 rfl ?_
    refine x_gR (z := some a) T_86_1 F_9_3 (hP.o hfo) (Eq.trans (hP.rm hfo rfl (key := 2291) rfl) hn) ?_
    refine x_sr (ls1 := [some (vR (some S)), some (vR (some fa)), some (vR (some a)), none, none, none, none, none, none, none, none, none, none, none]) T_86_4 rfl ?_
    refine x_lr (z := some a) T_86_5 rfl ?_
    refine x_nnul T_86_6 (fun _ _ => ?_) (fun h0 => absurd h0 (by simp))
    refine x_ic T_86_11 ?_
    refine x_si (ls1 := [some (vR (some S)), some (vR (some fa)), some (vR (some a)), some (vI 54), none, none, none, none, none, none, none, none, none, none]) T_86_13 rfl ?_
    refine x_lr (z := some S) T_86_14 rfl ?_
    refine x_gR (z := some mb) T_86_15 F_7_9 (hP.o hO) (Eq.trans (hP.rm hO rfl (key := 2233) rfl) hr) ?_
    refine x_li (z := 54) T_86_18 rfl ?_
    refine x_cv2 T_86_19 mN_36 mL_36 (Nat.le_of_ble_eq_true rfl) mO_36 (hP.o hbm) (Nat.le_of_ble_eq_true rfl) (h0) ?_
    rintro _ σ ⟨rfl, rfl⟩
    refine cI ?_
    refine x_si (ls1 := [some (vR (some S)), some (vR (some fa)), some (vR (some a)), some (vI 54), some (vI e), none, none, none, none, none, none, none, none, none]) T_86_22 rfl ?_
    refine x_ic T_86_24 ?_
    refine x_si (ls1 := [some (vR (some S)), some (vR (some fa)), some (vR (some a)), some (vI 54), some (vI e), some (vI 38), none, none, none, none, none, none, none, none]) T_86_26 rfl ?_
    refine x_li (z := e) T_86_28 rfl ?_
    refine x_li (z := 54) T_86_30 rfl ?_
    refine x_ic T_86_31 ?_
    refine x_ib (w := 56) T_86_32 (fun h => absurd h.1 (by decide)) h56 ?_
    refine x_ic2 T_86_33 (fun h => absurd (show e ≤ 56 from h) (by omega)) (fun _ => ?_)
    refine x_ic T_86_36 ?_
    refine x_goto T_86_37 ?_
    refine x_si (ls1 := [some (vR (some S)), some (vR (some fa)), some (vR (some a)), some (vI 54), some (vI e), some (vI 38), some (vI 1), none, none, none, none, none, none, none]) T_86_41 rfl ?_
    exact g43
  · rw [if_neg q] at hnv
    subst hnv
    refine CL_in mL_86 rfl ?_
    show WP fb _ 86 0 [some (vR (some S)), some (vR (some fa)), none, none, none, none, none, none, none, none, none, none, none, none] [] σ _
    refine x_lr (z := some fa) T_86_0 rfl ?_
    refine x_gR (z := some a) T_86_1 F_9_3 (hP.o hfo) (Eq.trans (hP.rm hfo rfl (key := 2291) rfl) hn) ?_
    refine x_sr (ls1 := [some (vR (some S)), some (vR (some fa)), some (vR (some a)), none, none, none, none, none, none, none, none, none, none, none]) T_86_4 rfl ?_
    refine x_lr (z := some a) T_86_5 rfl ?_
    refine x_nnul T_86_6 (fun _ _ => ?_) (fun h0 => absurd h0 (by simp))
    refine x_ic T_86_11 ?_
    refine x_si (ls1 := [some (vR (some S)), some (vR (some fa)), some (vR (some a)), some (vI 54), none, none, none, none, none, none, none, none, none, none]) T_86_13 rfl ?_
    refine x_lr (z := some S) T_86_14 rfl ?_
    refine x_gR (z := some mb) T_86_15 F_7_9 (hP.o hO) (Eq.trans (hP.rm hO rfl (key := 2233) rfl) hr) ?_
    refine x_li (z := 54) T_86_18 rfl ?_
    refine x_cv2 T_86_19 mN_36 mL_36 (Nat.le_of_ble_eq_true rfl) mO_36 (hP.o hbm) (Nat.le_of_ble_eq_true rfl) (h0) ?_
    rintro _ σ ⟨rfl, rfl⟩
    refine cI ?_
    refine x_si (ls1 := [some (vR (some S)), some (vR (some fa)), some (vR (some a)), some (vI 54), some (vI e), none, none, none, none, none, none, none, none, none]) T_86_22 rfl ?_
    refine x_ic T_86_24 ?_
    refine x_si (ls1 := [some (vR (some S)), some (vR (some fa)), some (vR (some a)), some (vI 54), some (vI e), some (vI 38), none, none, none, none, none, none, none, none]) T_86_26 rfl ?_
    refine x_li (z := e) T_86_28 rfl ?_
    refine x_li (z := 54) T_86_30 rfl ?_
    refine x_ic T_86_31 ?_
    refine x_ib (w := 56) T_86_32 (fun h => absurd h.1 (by decide)) h56 ?_
    refine x_ic2 T_86_33 (fun _ => ?_) (fun h => absurd (show e ≤ 56 by omega) h)
    refine x_ic T_86_40 ?_
    refine x_si (ls1 := [some (vR (some S)), some (vR (some fa)), some (vR (some a)), some (vI 54), some (vI e), some (vI 38), some (vI 0), none, none, none, none, none, none, none]) T_86_41 rfl ?_
    exact g43
/-- a file that went -/
theorem ws_no (hP : PX σ0 W R σ) (hfo : tX fa = some (Sum.inl 9)) (hn : R fa 2291 = none) : CL fb (d + 4) 86 [vR (some S), vR (some fa)] σ (rP 1 σ) := by
  refine CL_in mL_86 rfl ?_
  show WP fb _ 86 0 [some (vR (some S)), some (vR (some fa)), none, none, none, none, none, none, none, none, none, none, none, none] [] σ _
  refine x_lr (z := some fa) T_86_0 rfl ?_
  refine x_gR (z := none) T_86_1 F_9_3 (hP.o hfo) (Eq.trans (hP.rm hfo rfl (key := 2291) rfl) hn) ?_
  refine x_sr (ls1 := [some (vR (some S)), some (vR (some fa)), some (vR none), none, none, none, none, none, none, none, none, none, none, none]) T_86_4 rfl ?_
  refine x_lr (z := none) T_86_5 rfl ?_
  refine x_nnul T_86_6 (fun a0 h0 => absurd h0 (by simp)) (fun _ => ?_)
  refine x_ic T_86_9 ?_
  refine x_ri T_86_10 ?_
  exact ⟨rfl, rfl⟩
end XWSTF
