/-! The class's servers: a write's answer. -/
theorem T_78_0 : hTab 78 0 = some ((3, 1, 2, []), 1) := rfl
theorem T_78_1 : hTab 78 1 = some ((24, 9, Int.ofNat 5, []), 4) := rfl
theorem T_78_4 : hTab 78 4 = some ((0, 0, 1, []), 5) := rfl
theorem T_78_5 : hTab 78 5 = some ((19, 0, Int.ofNat 19, []), 8) := rfl
theorem T_78_8 : hTab 78 8 = some ((3, 1, 2, []), 9) := rfl
theorem T_78_9 : hTab 78 9 = some ((24, 9, Int.ofNat 5, []), 12) := rfl
theorem T_78_12 : hTab 78 12 = some ((0, 0, 2, []), 13) := rfl
theorem T_78_13 : hTab 78 13 = some ((19, 0, Int.ofNat 19, []), 16) := rfl
theorem T_78_19 : hTab 78 19 = some ((3, 1, 2, []), 20) := rfl
theorem T_78_20 : hTab 78 20 = some ((24, 9, Int.ofNat 3, []), 23) := rfl
theorem T_78_23 : hTab 78 23 = some ((4, 2, 2, []), 24) := rfl
theorem T_78_24 : hTab 78 24 = some ((3, 2, 2, []), 25) := rfl
theorem T_78_25 : hTab 78 25 = some ((20, 1, Int.ofNat 30, []), 28) := rfl
theorem T_78_30 : hTab 78 30 = some ((3, 2, 2, []), 31) := rfl
theorem T_78_31 : hTab 78 31 = some ((24, 8, Int.ofNat 3, []), 34) := rfl
theorem T_78_34 : hTab 78 34 = some ((18, 1, Int.ofNat 49, []), 37) := rfl
theorem T_78_37 : hTab 78 37 = some ((3, 0, 2, []), 38) := rfl
theorem T_78_38 : hTab 78 38 = some ((3, 2, 2, []), 39) := rfl
theorem T_78_39 : hTab 78 39 = some ((3, 1, 2, []), 40) := rfl
theorem T_78_40 : hTab 78 40 = some ((24, 9, Int.ofNat 2, []), 43) := rfl
theorem T_78_43 : hTab 78 43 = some ((31, 79, 0, []), 46) := rfl
theorem T_78_46 : hTab 78 46 = some ((22, 0, Int.ofNat 54, []), 49) := rfl
theorem T_78_49 : hTab 78 49 = some ((3, 0, 2, []), 50) := rfl
theorem T_78_50 : hTab 78 50 = some ((3, 2, 2, []), 51) := rfl
theorem T_78_51 : hTab 78 51 = some ((31, 82, 0, []), 54) := rfl
theorem T_78_54 : hTab 78 54 = some ((4, 3, 0, []), 55) := rfl
theorem T_78_55 : hTab 78 55 = some ((3, 3, 0, []), 56) := rfl
theorem T_78_56 : hTab 78 56 = some ((18, 1, Int.ofNat 78, []), 59) := rfl
theorem T_78_59 : hTab 78 59 = some ((3, 0, 2, []), 60) := rfl
theorem T_78_60 : hTab 78 60 = some ((24, 7, Int.ofNat 10, []), 63) := rfl
theorem T_78_63 : hTab 78 63 = some ((3, 0, 2, []), 64) := rfl
theorem T_78_64 : hTab 78 64 = some ((24, 7, Int.ofNat 9, []), 67) := rfl
theorem T_78_67 : hTab 78 67 = some ((31, 28, 0, []), 70) := rfl
theorem T_78_70 : hTab 78 70 = some ((0, 0, 23, []), 72) := rfl
theorem T_78_72 : hTab 78 72 = some ((10, 1, 0, []), 73) := rfl
theorem T_78_73 : hTab 78 73 = some ((14, 0, 0, []), 74) := rfl
theorem T_78_74 : hTab 78 74 = some ((0, 0, 4, []), 75) := rfl
theorem T_78_75 : hTab 78 75 = some ((31, 22, 0, []), 78) := rfl
theorem T_78_78 : hTab 78 78 = some ((3, 3, 0, []), 79) := rfl
theorem T_78_79 : hTab 78 79 = some ((33, 1, 0, []), 80) := rfl
theorem mN_78 : hmN 78 = 2 := by decide +kernel
theorem mL_78 : hmL 78 = 4 := by decide +kernel
theorem mK_78 : hmK 78 = 1 := by decide +kernel
theorem mO_78 : hmO 78 = 7 := by decide +kernel
section XWRB
variable {fb : Bool} {d S a c0 rp mb m0 N M fa pr bb : Nat} {σ0 σ σ' : hM} {W W1 W2 W3 P Q : qR} {R R1 R2 : rR} {b i k x z v s e w f u p g ln K T U C c y off cnt n md tb : Int} {ord l l2 nm lo D L li : List Int} {t : Nat → Nat} {r : Option AV} {F : Int → Int}
theorem dw_54 (hP : PX σ0 W R σ) (hO : tX S = some (Sum.inl 7)) (hr : R S 2233 = some mb) (hB : BY W mb M l) (hz : (l.length : Int) = z) (hz3 : 23 ≤ z) (hrp : R S 2234 = some rp) (hBr : BY W rp 300 l2) (hroom : l2.length = 7) : WP fb (d + 6) 78 54 [some (vR (some S)), some (vR (some fa)), some (vR (some bb)), none] [vI e] σ (fun r σ' => r = some (vI e) ∧ ∃ W2 l3, PX σ0 W2 R σ' ∧ FB rp W W2 ∧ BY W2 rp 300 l3 ∧ (e = 0 → l3 = l2 ++ leb 4 (z - 23))) := by
  have hm := hB.1
  have hbr := hBr.1
  have hn1 := hB.2.2.1
  have hlz := hB.2.2.2.2.1
  by_cases q : e = 0
  · subst q
    have hsz := x_size (fb := fb) (d := d + 5) hP hB hz
    have hsub : w32 (z - 23) = z - 23 := w32_id (by omega) (by omega)
    have hp := x_put (fb := fb) (d := d + 5) (k := 4) (v := z - 23) 4 hP hBr rfl (by decide) ⟨by omega, by omega⟩ (by omega)
    refine x_si (ls1 := [some (vR (some S)), some (vR (some fa)), some (vR (some bb)), some (vI 0)]) T_78_54 rfl ?_
    refine x_li (z := 0) T_78_55 rfl ?_
    refine x_if T_78_56 (fun h => absurd (show ¬ (0 : Int) = 0 from h) (by decide)) (fun _ => ?_)
    refine x_lr (z := some S) T_78_59 rfl ?_
    refine x_gR (z := some rp) T_78_60 F_7_10 (hP.o hO) (Eq.trans (hP.rm hO rfl (key := 2234) rfl) hrp) ?_
    refine x_lr (z := some S) T_78_63 rfl ?_
    refine x_gR (z := some mb) T_78_64 F_7_9 (hP.o hO) (Eq.trans (hP.rm hO rfl (key := 2233) rfl) hr) ?_
    refine x_cv1 T_78_67 mN_28 mL_28 (Nat.le_of_ble_eq_true rfl) mO_28 (hP.o hm) (Nat.le_of_ble_eq_true rfl) (hsz) ?_
    rintro _ σ ⟨rfl, rfl⟩
    refine cI ?_
    refine x_ic T_78_70 ?_
    refine x_ib (w := (z - 23)) T_78_72 (fun h => absurd h.1 (by decide)) hsub ?_
    refine x_i2l T_78_73 ?_
    refine x_ic T_78_74 ?_
    refine x_cv3 T_78_75 mN_22 mL_22 (Nat.le_of_ble_eq_true rfl) mO_22 (hP.o hbr) (Nat.le_of_ble_eq_true rfl) (hp) ?_
    clear hP hp hsz
    rintro _ σ ⟨rfl, W2, hP, hB2, hF2⟩
    refine cV ?_
    refine x_li (z := 0) T_78_78 rfl ?_
    refine x_ri T_78_79 ?_
    exact ⟨rfl, W2, _, hP, hF2, hB2, fun _ => rfl⟩
  · skip
    refine x_si (ls1 := [some (vR (some S)), some (vR (some fa)), some (vR (some bb)), some (vI e)]) T_78_54 rfl ?_
    refine x_li (z := e) T_78_55 rfl ?_
    refine x_if T_78_56 (fun _ => ?_) (fun h => absurd (show ¬ e = 0 by omega) h)
    refine x_li (z := e) T_78_78 rfl ?_
    refine x_ri T_78_79 ?_
    exact ⟨rfl, W, l2, hP, FB_rfl, hBr, fun c => absurd c q⟩
theorem dw_file {TB : hM → Prop} {Post : Option AV → hM → Prop} (hP : PX σ0 W R σ) (hO : tX S = some (Sum.inl 7)) (hfo : tX fa = some (Sum.inl 9)) (hmo : W fa 2293 = x) (hx : x = 1 ∨ x = 2) (hn : R fa 2291 = some bb) (hbo : tX bb = some (Sum.inl 8)) (hdv : W bb 2259 = 0) (hu : W fa 2290 = u) (hwb : CL fb (d + 5) 79 [vR (some S), vR (some bb), vI u] σ (fun r σ' => r = some (vI e) ∧ TB σ')) (hgo : ∀ σ, TB σ → WP fb (d + 6) 78 54 [some (vR (some S)), some (vR (some fa)), some (vR (some bb)), none] [vI e] σ Post) : CL fb (d + 6) 78 [vR (some S), vR (some fa)] σ Post := by
  by_cases q : x = 1
  · skip
    refine CL_in mL_78 rfl ?_
    show WP fb _ 78 0 [some (vR (some S)), some (vR (some fa)), none, none] [] σ _
    refine x_lr (z := some fa) T_78_0 rfl ?_
    refine x_gI (z := x) T_78_1 (Or.inl F_9_5) (hP.o hfo) (Eq.trans (hP.gi hfo (key := 2293) rfl) hmo) ?_
    refine x_ic T_78_4 ?_
    refine x_ic2 T_78_5 (fun _ => ?_) (fun h => absurd (show x = 1 by omega) h)
    refine x_lr (z := some fa) T_78_19 rfl ?_
    refine x_gR (z := some bb) T_78_20 F_9_3 (hP.o hfo) (Eq.trans (hP.rm hfo rfl (key := 2291) rfl) hn) ?_
    refine x_sr (ls1 := [some (vR (some S)), some (vR (some fa)), some (vR (some bb)), none]) T_78_23 rfl ?_
    refine x_lr (z := some bb) T_78_24 rfl ?_
    refine x_nnul T_78_25 (fun _ _ => ?_) (fun h0 => absurd h0 (by simp))
    refine x_lr (z := some bb) T_78_30 rfl ?_
    refine x_gI (z := 0) T_78_31 (Or.inl F_8_3) (hP.o hbo) (Eq.trans (hP.gi hbo (key := 2259) rfl) hdv) ?_
    refine x_if T_78_34 (fun h => absurd (show ¬ (0 : Int) = 0 from h) (by decide)) (fun _ => ?_)
    refine x_lr (z := some S) T_78_37 rfl ?_
    refine x_lr (z := some bb) T_78_38 rfl ?_
    refine x_lr (z := some fa) T_78_39 rfl ?_
    refine x_gI (z := u) T_78_40 (Or.inl F_9_2) (hP.o hfo) (Eq.trans (hP.gi hfo (key := 2290) rfl) hu) ?_
    refine x_cv3 T_78_43 mN_79 mL_79 (Nat.le_of_ble_eq_true rfl) mO_79 (hP.o hO) (Nat.le_of_ble_eq_true rfl) (hwb) ?_
    clear hP hwb
    rintro _ σ ⟨rfl, h1⟩
    refine cI ?_
    refine x_goto T_78_46 ?_
    exact hgo σ h1
  · skip
    refine CL_in mL_78 rfl ?_
    show WP fb _ 78 0 [some (vR (some S)), some (vR (some fa)), none, none] [] σ _
    refine x_lr (z := some fa) T_78_0 rfl ?_
    refine x_gI (z := x) T_78_1 (Or.inl F_9_5) (hP.o hfo) (Eq.trans (hP.gi hfo (key := 2293) rfl) hmo) ?_
    refine x_ic T_78_4 ?_
    refine x_ic2 T_78_5 (fun h => absurd (show x = 1 from h) (by omega)) (fun _ => ?_)
    refine x_lr (z := some fa) T_78_8 rfl ?_
    refine x_gI (z := x) T_78_9 (Or.inl F_9_5) (hP.o hfo) (Eq.trans (hP.gi hfo (key := 2293) rfl) hmo) ?_
    refine x_ic T_78_12 ?_
    refine x_ic2 T_78_13 (fun _ => ?_) (fun h => absurd (show x = 2 by omega) h)
    refine x_lr (z := some fa) T_78_19 rfl ?_
    refine x_gR (z := some bb) T_78_20 F_9_3 (hP.o hfo) (Eq.trans (hP.rm hfo rfl (key := 2291) rfl) hn) ?_
    refine x_sr (ls1 := [some (vR (some S)), some (vR (some fa)), some (vR (some bb)), none]) T_78_23 rfl ?_
    refine x_lr (z := some bb) T_78_24 rfl ?_
    refine x_nnul T_78_25 (fun _ _ => ?_) (fun h0 => absurd h0 (by simp))
    refine x_lr (z := some bb) T_78_30 rfl ?_
    refine x_gI (z := 0) T_78_31 (Or.inl F_8_3) (hP.o hbo) (Eq.trans (hP.gi hbo (key := 2259) rfl) hdv) ?_
    refine x_if T_78_34 (fun h => absurd (show ¬ (0 : Int) = 0 from h) (by decide)) (fun _ => ?_)
    refine x_lr (z := some S) T_78_37 rfl ?_
    refine x_lr (z := some bb) T_78_38 rfl ?_
    refine x_lr (z := some fa) T_78_39 rfl ?_
    refine x_gI (z := u) T_78_40 (Or.inl F_9_2) (hP.o hfo) (Eq.trans (hP.gi hfo (key := 2290) rfl) hu) ?_
    refine x_cv3 T_78_43 mN_79 mL_79 (Nat.le_of_ble_eq_true rfl) mO_79 (hP.o hO) (Nat.le_of_ble_eq_true rfl) (hwb) ?_
    clear hP hwb
    rintro _ σ ⟨rfl, h1⟩
    refine cI ?_
    refine x_goto T_78_46 ?_
    exact hgo σ h1
theorem dw_dev {TB : hM → Prop} {Post : Option AV → hM → Prop} (hP : PX σ0 W R σ) (hO : tX S = some (Sum.inl 7)) (hfo : tX fa = some (Sum.inl 9)) (hmo : W fa 2293 = x) (hx : x = 1 ∨ x = 2) (hn : R fa 2291 = some bb) (hbo : tX bb = some (Sum.inl 8)) (hdv : W bb 2259 = v) (hv : ¬ v = 0) (hwb : CL fb (d + 5) 82 [vR (some S), vR (some bb)] σ (fun r σ' => r = some (vI e) ∧ TB σ')) (hgo : ∀ σ, TB σ → WP fb (d + 6) 78 54 [some (vR (some S)), some (vR (some fa)), some (vR (some bb)), none] [vI e] σ Post) : CL fb (d + 6) 78 [vR (some S), vR (some fa)] σ Post := by
  by_cases q : x = 1
  · skip
    refine CL_in mL_78 rfl ?_
    show WP fb _ 78 0 [some (vR (some S)), some (vR (some fa)), none, none] [] σ _
    refine x_lr (z := some fa) T_78_0 rfl ?_
    refine x_gI (z := x) T_78_1 (Or.inl F_9_5) (hP.o hfo) (Eq.trans (hP.gi hfo (key := 2293) rfl) hmo) ?_
    refine x_ic T_78_4 ?_
    refine x_ic2 T_78_5 (fun _ => ?_) (fun h => absurd (show x = 1 by omega) h)
    refine x_lr (z := some fa) T_78_19 rfl ?_
    refine x_gR (z := some bb) T_78_20 F_9_3 (hP.o hfo) (Eq.trans (hP.rm hfo rfl (key := 2291) rfl) hn) ?_
    refine x_sr (ls1 := [some (vR (some S)), some (vR (some fa)), some (vR (some bb)), none]) T_78_23 rfl ?_
    refine x_lr (z := some bb) T_78_24 rfl ?_
    refine x_nnul T_78_25 (fun _ _ => ?_) (fun h0 => absurd h0 (by simp))
    refine x_lr (z := some bb) T_78_30 rfl ?_
    refine x_gI (z := v) T_78_31 (Or.inl F_8_3) (hP.o hbo) (Eq.trans (hP.gi hbo (key := 2259) rfl) hdv) ?_
    refine x_if T_78_34 (fun _ => ?_) (fun h => absurd (show ¬ v = 0 by omega) h)
    refine x_lr (z := some S) T_78_49 rfl ?_
    refine x_lr (z := some bb) T_78_50 rfl ?_
    refine x_cv2 T_78_51 mN_82 mL_82 (Nat.le_of_ble_eq_true rfl) mO_82 (hP.o hO) (Nat.le_of_ble_eq_true rfl) (hwb) ?_
    clear hP hwb
    rintro _ σ ⟨rfl, h1⟩
    refine cI ?_
    exact hgo σ h1
  · skip
    refine CL_in mL_78 rfl ?_
    show WP fb _ 78 0 [some (vR (some S)), some (vR (some fa)), none, none] [] σ _
    refine x_lr (z := some fa) T_78_0 rfl ?_
    refine x_gI (z := x) T_78_1 (Or.inl F_9_5) (hP.o hfo) (Eq.trans (hP.gi hfo (key := 2293) rfl) hmo) ?_
    refine x_ic T_78_4 ?_
    refine x_ic2 T_78_5 (fun h => absurd (show x = 1 from h) (by omega)) (fun _ => ?_)
    refine x_lr (z := some fa) T_78_8 rfl ?_
    refine x_gI (z := x) T_78_9 (Or.inl F_9_5) (hP.o hfo) (Eq.trans (hP.gi hfo (key := 2293) rfl) hmo) ?_
    refine x_ic T_78_12 ?_
    refine x_ic2 T_78_13 (fun _ => ?_) (fun h => absurd (show x = 2 by omega) h)
    refine x_lr (z := some fa) T_78_19 rfl ?_
    refine x_gR (z := some bb) T_78_20 F_9_3 (hP.o hfo) (Eq.trans (hP.rm hfo rfl (key := 2291) rfl) hn) ?_
    refine x_sr (ls1 := [some (vR (some S)), some (vR (some fa)), some (vR (some bb)), none]) T_78_23 rfl ?_
    refine x_lr (z := some bb) T_78_24 rfl ?_
    refine x_nnul T_78_25 (fun _ _ => ?_) (fun h0 => absurd h0 (by simp))
    refine x_lr (z := some bb) T_78_30 rfl ?_
    refine x_gI (z := v) T_78_31 (Or.inl F_8_3) (hP.o hbo) (Eq.trans (hP.gi hbo (key := 2259) rfl) hdv) ?_
    refine x_if T_78_34 (fun _ => ?_) (fun h => absurd (show ¬ v = 0 by omega) h)
    refine x_lr (z := some S) T_78_49 rfl ?_
    refine x_lr (z := some bb) T_78_50 rfl ?_
    refine x_cv2 T_78_51 mN_82 mL_82 (Nat.le_of_ble_eq_true rfl) mO_82 (hP.o hO) (Nat.le_of_ble_eq_true rfl) (hwb) ?_
    clear hP hwb
    rintro _ σ ⟨rfl, h1⟩
    refine cI ?_
    exact hgo σ h1
theorem gWr_f {g : Nat} (h : ([2300, 2301, 2297, 2292, 2296] : List Nat).elem g = false) : gWr P s n u b l g k = P g k := by
  have h1 : g ≠ 2300 := fun q => by rw [q] at h; exact absurd h (by decide)
  have h2 : g ≠ 2292 := fun q => by rw [q] at h; exact absurd h (by decide)
  have h3 : g ≠ 2296 := fun q => by rw [q] at h; exact absurd h (by decide)
  have h4 : g ≠ 2301 := fun q => by rw [q] at h; exact absurd h (by decide)
  have h5 : g ≠ 2297 := fun q => by rw [q] at h; exact absurd h (by decide)
  unfold gWr
  split
  · rw [gGrow_f h2 h3, rW_f h1]
    split
    · unfold gSize
      rw [rU_f h5, rU_f h4]
      exact if_neg (fun q => h1 q.1)
    · rfl
  · rfl
theorem gWr_len (h : b + l.length ≤ 600) (h6 : ∀ m, s < 2 → isN P s m → P 2297 (64 * s + m) ≤ 600) (hs : s < 2) : ∀ m, s < 2 → isN (gWr P s n u b l) s m → gWr P s n u b l 2297 (64 * s + m) ≤ 600 := fun m hs hm => by
  have hm := (isN_tree (n := m) (Q := gWr P s n u b l) (P := P) hs (fun k => gWr_f rfl)).mp hm
  have hm6 := h6 m hs hm
  unfold gWr
  split
  · rw [gGrow_f (by decide) (by decide), rW_f (by decide)]
    split
    · by_cases q : m = n
      · rw [q]
        unfold gSize
        rw [rU_s]
        exact h
      · unfold gSize
        rw [rU_k (by omega), rU_f (by decide)]
        rw [show gZer P 2300 (600 * (64 * s + n) + P 2297 (64 * s + n)) (600 * (64 * s + n) + (b + l.length)) 2297 (64 * s + m) = P 2297 (64 * s + m) from if_neg (fun q2 => absurd q2.1 (by decide))]
        exact hm6
    · exact hm6
  · exact hm6
end XWRB
