/-! The class's commands: a file is made, from the word on; mkdir. -/
theorem T_143_0 : hTab 143 0 = some ((3, 0, 2, []), 1) := rfl
theorem T_143_1 : hTab 143 1 = some ((24, 14, Int.ofNat 0, []), 4) := rfl
theorem T_143_4 : hTab 143 4 = some ((3, 1, 2, []), 5) := rfl
theorem T_143_5 : hTab 143 5 = some ((3, 2, 2, []), 6) := rfl
theorem T_143_6 : hTab 143 6 = some ((3, 3, 0, []), 7) := rfl
theorem T_143_7 : hTab 143 7 = some ((31, 118, 0, []), 10) := rfl
theorem T_143_10 : hTab 143 10 = some ((4, 7, 0, []), 12) := rfl
theorem T_143_12 : hTab 143 12 = some ((3, 7, 0, []), 14) := rfl
theorem T_143_14 : hTab 143 14 = some ((18, 1, Int.ofNat 30, []), 17) := rfl
theorem T_143_17 : hTab 143 17 = some ((3, 0, 2, []), 18) := rfl
theorem T_143_18 : hTab 143 18 = some ((24, 14, Int.ofNat 0, []), 21) := rfl
theorem T_143_21 : hTab 143 21 = some ((24, 1, Int.ofNat 6, []), 24) := rfl
theorem T_143_24 : hTab 143 24 = some ((18, 1, Int.ofNat 30, []), 27) := rfl
theorem T_143_27 : hTab 143 27 = some ((0, 0, 5, []), 28) := rfl
theorem T_143_28 : hTab 143 28 = some ((4, 7, 0, []), 30) := rfl
theorem T_143_30 : hTab 143 30 = some ((3, 7, 0, []), 32) := rfl
theorem T_143_32 : hTab 143 32 = some ((18, 1, Int.ofNat 59, []), 35) := rfl
theorem T_143_35 : hTab 143 35 = some ((3, 0, 2, []), 36) := rfl
theorem T_143_36 : hTab 143 36 = some ((24, 14, Int.ofNat 0, []), 39) := rfl
theorem T_143_39 : hTab 143 39 = some ((3, 1, 2, []), 40) := rfl
theorem T_143_40 : hTab 143 40 = some ((3, 0, 2, []), 41) := rfl
theorem T_143_41 : hTab 143 41 = some ((24, 14, Int.ofNat 2, []), 44) := rfl
theorem T_143_44 : hTab 143 44 = some ((3, 0, 2, []), 45) := rfl
theorem T_143_45 : hTab 143 45 = some ((24, 14, Int.ofNat 0, []), 48) := rfl
theorem T_143_48 : hTab 143 48 = some ((24, 1, Int.ofNat 6, []), 51) := rfl
theorem T_143_51 : hTab 143 51 = some ((0, 0, 1, []), 52) := rfl
theorem T_143_52 : hTab 143 52 = some ((10, 1, 0, []), 53) := rfl
theorem T_143_53 : hTab 143 53 = some ((0, 0, 1, []), 54) := rfl
theorem T_143_54 : hTab 143 54 = some ((31, 121, 0, []), 57) := rfl
theorem T_143_57 : hTab 143 57 = some ((4, 7, 0, []), 59) := rfl
theorem T_143_59 : hTab 143 59 = some ((3, 7, 0, []), 61) := rfl
theorem T_143_61 : hTab 143 61 = some ((18, 0, Int.ofNat 67, []), 64) := rfl
theorem T_143_64 : hTab 143 64 = some ((3, 7, 0, []), 66) := rfl
theorem T_143_66 : hTab 143 66 = some ((33, 1, 0, []), 67) := rfl
theorem T_147_0 : hTab 147 0 = some ((3, 2, 2, []), 1) := rfl
theorem T_147_1 : hTab 147 1 = some ((24, 16, Int.ofNat 4, []), 4) := rfl
theorem T_147_4 : hTab 147 4 = some ((0, 0, 2, []), 5) := rfl
theorem T_147_5 : hTab 147 5 = some ((19, 0, Int.ofNat 11, []), 8) := rfl
theorem T_147_11 : hTab 147 11 = some ((3, 0, 2, []), 12) := rfl
theorem T_147_12 : hTab 147 12 = some ((3, 1, 2, []), 13) := rfl
theorem T_147_13 : hTab 147 13 = some ((3, 2, 2, []), 14) := rfl
theorem T_147_14 : hTab 147 14 = some ((0, 0, 1, []), 15) := rfl
theorem T_147_15 : hTab 147 15 = some ((1, 0, (-2147483137), []), 18) := rfl
theorem T_147_18 : hTab 147 18 = some ((0, 0, 0, []), 19) := rfl
theorem T_147_19 : hTab 147 19 = some ((31, 143, 0, []), 22) := rfl
theorem T_147_22 : hTab 147 22 = some ((4, 3, 0, []), 23) := rfl
theorem T_147_23 : hTab 147 23 = some ((3, 3, 0, []), 24) := rfl
theorem T_147_24 : hTab 147 24 = some ((18, 1, Int.ofNat 39, []), 27) := rfl
theorem T_147_27 : hTab 147 27 = some ((3, 0, 2, []), 28) := rfl
theorem T_147_28 : hTab 147 28 = some ((24, 14, Int.ofNat 0, []), 31) := rfl
theorem T_147_31 : hTab 147 31 = some ((3, 0, 2, []), 32) := rfl
theorem T_147_32 : hTab 147 32 = some ((24, 14, Int.ofNat 2, []), 35) := rfl
theorem T_147_35 : hTab 147 35 = some ((31, 132, 0, []), 38) := rfl
theorem T_147_38 : hTab 147 38 = some ((7, 0, 0, []), 39) := rfl
theorem T_147_39 : hTab 147 39 = some ((3, 3, 0, []), 40) := rfl
theorem T_147_40 : hTab 147 40 = some ((33, 1, 0, []), 41) := rfl
theorem mN_147 : hmN 147 = 3 := by decide +kernel
theorem mL_147 : hmL 147 = 4 := by decide +kernel
theorem mK_147 : hmK 147 = 1 := by decide +kernel
theorem mO_147 : hmO 147 = 14 := by decide +kernel
section XMKT
variable {fb : Bool} {d b q m k c a0 y0 : Nat} {σ0 σ : hM} {W W0 W1 W2 W3 P Q V : qR} {R R1 R2 V3 : rR} {i j x z v s e w p o n g K T U T2 thr pa kd dr pt perm mode : Int} {l l0 lo nm M raw : List Int} {nms : List (List Int)} {f : Int} {ch : Ch}
theorem kWalk_pt (hI : IV false T U P) (hp : 0 ≤ p ∧ p < 8) : ptV P p (kWalk P p o thr nms).2.2.2.2.2.2 := by
  have key : ∀ (nms : List (List Int)) (Q : qR) (c : Ch), KF Q P → c.2.2.2.2 = -1 → ptV P p (kWalkT Q p thr nms c).2.2.2.2.2.2 := fun nms Q c hk hc => kWalkT_pt hI hp nms Q c hk (Or.inl hc) (fun nm Q c hk => KF_tr kNext_kf hk)
  unfold kWalk
  split
  · split
    · exact Or.inl rfl
    · exact key _ _ _ KF_cp rfl
  · split
    · exact Or.inl rfl
    · exact key _ _ _ KF_at rfl
theorem NMs.dl (h : NMs W lo i nms) : NMs W lo i nms.dropLast := fun j hj => by
  have h2 : j < nms.length - 1 := by rw [List.length_dropLast] at hj; exact hj
  have := h j (by omega)
  rw [show nms.dropLast.getD j [] = nms.getD j [] by rw [List.getD_eq_getElem?_getD, List.getD_eq_getElem?_getD, List.getElem?_eq_getElem hj, List.getElem?_eq_getElem (show j < nms.length by omega), List.getElem_dropLast]]
  exact this
theorem mCre_m1 : mCre f nm (-2147483137) mode = mCre f nm 2147484159 mode := by
  unfold mCre
  rw [show leb 4 (-2147483137) = leb 4 2147484159 by decide]
theorem x_make (hP : PX σ0 W R σ) (hX : XW K T U W R P) (hT : T + 1200 ≤ 2147483000) (hp : 0 ≤ p ∧ p < 8) (hlv : ¬ P 2320 p = 0) (hC : CMD W k l) (hw : 0 ≤ w ∧ w < ((lnW l).length : Int)) (hpm : -9223372036854775808 ≤ perm ∧ perm ≤ 9223372036854775807) (hmd : 0 ≤ mode ∧ mode ≤ 255) : CL fb (d + 10) 143 [vR (some 2175), vR (some (prO p)), vR (some k), vI w, vL perm, vI mode] σ (XMK σ0 K (T + 320) U W R (kCreate P p (lnB l w) perm mode)) := by
  obtain ⟨hrd, hr1⟩ := x_rd (fb := fb) (d := d + 7) hP hX hp hlv hC hw
  have hk := hC.1
  have hIV := hX.1.2.2.2.1.iv
  have hPT := hX.1.2.2.2.2.2.2
  have eK : kCreate P p (lnB l w) perm mode = if 0 < paE (paRaw P p (lnB l w)) then (paE (paRaw P p (lnB l w)), P, []) else if (paM (paRaw P p (lnB l w))).length = 0 then (5, P, []) else if 0 < (kWalk P p (paO (paRaw P p (lnB l w))) 1 (paM (paRaw P p (lnB l w))).dropLast).1 then ((kWalk P p (paO (paRaw P p (lnB l w))) 1 (paM (paRaw P p (lnB l w))).dropLast).1, (kWalk P p (paO (paRaw P p (lnB l w))) 1 (paM (paRaw P p (lnB l w))).dropLast).2.1, []) else kMk (kPlc (kWalk P p (paO (paRaw P p (lnB l w))) 1 (paM (paRaw P p (lnB l w))).dropLast).2.1 (kWalk P p (paO (paRaw P p (lnB l w))) 1 (paM (paRaw P p (lnB l w))).dropLast).2.2) ((paM (paRaw P p (lnB l w))).getD ((paM (paRaw P p (lnB l w))).length - 1) []) perm mode := rfl
  obtain ⟨raw, hraw⟩ : ∃ q, paRaw P p (lnB l w) = q := ⟨_, rfl⟩
  rw [hraw] at hrd hr1 eK
  rw [eK]
  have hpo := prO_o hp
  have hml : (paM raw).length = (paN raw).length := List.length_map ..
  have hdl : (paM raw).dropLast.length = (paM raw).length - 1 := List.length_dropLast ..
  have hor : paE raw = 0 → (paN raw).length ≤ 10 ∧ (paO raw = -1 ∨ (0 ≤ paO raw ∧ paO raw < 3)) := fun h0 => by
    unfold paE at h0
    by_cases q : lg raw 0 = 35 ∧ (¬ (2 ≤ raw.length ∧ 48 ≤ lg raw 1 ∧ lg raw 1 ≤ 50) ∨ (3 ≤ raw.length ∧ ¬ lg raw 2 = 47))
    · rw [if_pos q] at h0; omega
    · rw [if_neg q] at h0
      by_cases q2 : 10 < (paN raw).length
      · rw [if_pos q2] at h0; omega
      · refine ⟨by omega, ?_⟩
        unfold paO
        by_cases q3 : lg raw 0 = 35
        · rw [if_pos q3]
          have := Classical.not_not.mp (fun c => q ⟨q3, Or.inl c⟩)
          omega
        · rw [if_neg q3]
          exact Or.inl rfl
  have hee : 0 ≤ paE raw := by unfold paE; (repeat' split) <;> decide
  have hwk := fun (σ : hM) (V : qR) (hP : PX σ0 V R σ) (hF : RPF W V) (h : V 129 2049 = paO raw ∧ BY V 145 161 raw ∧ NQ V (paN raw) ∧ BY V 136 60 (paL raw)) (h10 : (paN raw).length ≤ 10) (h1 : 1 ≤ (paM raw).length) (hor : paO raw = -1 ∨ (0 ≤ paO raw ∧ paO raw < 3)) => x_walk (fb := fb) (d := d + 1) (nms := (paM raw).dropLast) (most := ((paM raw).length : Int) - 1) (thr := 1) hP (hX.rpf hF) (by omega) hp hlv one_o (by decide) (Or.inr rfl) (by omega) (n := ((paM raw).length : Int)) (by rw [h.2.2.1.1]; unfold paM; rw [List.length_map]) (by omega) h.2.1 (paN_nms h.2.1 hr1 h.2.2.1).dl h.1 hor
  have hpt := kWalk_pt (o := paO raw) (thr := 1) (nms := (paM raw).dropLast) hIV hp
  obtain ⟨hwe, hwf⟩ := kWalk_ok (o := paO raw) (thr := 1) (nms := (paM raw).dropLast) hIV hPT hp
  obtain ⟨nn, hnn⟩ : ∃ q : Int, ((paM raw).length : Int) = q := ⟨_, rfl⟩
  simp only [hnn] at hwk
  obtain ⟨A, hA⟩ : ∃ A, kWalk P p (paO raw) 1 (paM raw).dropLast = A := ⟨_, rfl⟩
  simp only [hA] at hwk hpt hwe hwf ⊢
  obtain ⟨e1, Q, ch⟩ := A
  obtain ⟨pr, hpr⟩ : ∃ q, prO p = q := ⟨_, rfl⟩
  rw [hpr] at hrd hpo ⊢
  simp only [hpr] at hwk
  obtain ⟨e, he⟩ : ∃ q, paE raw = q := ⟨_, rfl⟩
  unfold XRP at hrd
  rw [he] at hor hee hrd
  rw [he]
  by_cases q : e = 0
  rotate_left
  · rw [if_pos (show 0 < e by omega)]
    refine CL_in mL_143 rfl ?_
    show WP fb _ 143 0 [some (vR (some 2175)), some (vR (some pr)), some (vR (some k)), some (vI w), some (vL perm), none, some (vI mode), none, none] [] σ _
    refine x_lr (z := some 2175) T_143_0 rfl ?_
    refine x_gR (z := some 129) T_143_1 F_14_0 (hP.o xo_2175) (hP.rc xo_2175 rfl rfl) ?_
    refine x_lr (z := some pr) T_143_4 rfl ?_
    refine x_lr (z := some k) T_143_5 rfl ?_
    refine x_li (z := w) T_143_6 rfl ?_
    refine x_cv4 T_143_7 mN_118 mL_118 (Nat.le_of_ble_eq_true rfl) mO_118 (hP.o xo_129) (Nat.le_of_ble_eq_true rfl) (hrd) ?_
    clear hP hrd
    rintro _ σ ⟨rfl, V, hP, hF, hq⟩
    refine cI ?_
    refine x_si (ls1 := [some (vR (some 2175)), some (vR (some pr)), some (vR (some k)), some (vI w), some (vL perm), none, some (vI mode), some (vI e), none]) T_143_10 rfl ?_
    refine x_li (z := e) T_143_12 rfl ?_
    refine x_if T_143_14 (fun _ => ?_) (fun h => absurd (show ¬ e = 0 by omega) h)
    refine x_li (z := e) T_143_30 rfl ?_
    refine x_if T_143_32 (fun _ => ?_) (fun h => absurd (show ¬ e = 0 by omega) h)
    refine x_li (z := e) T_143_59 rfl ?_
    refine x_if T_143_61 (fun h => absurd (show e = 0 from h) (by omega)) (fun _ => ?_)
    refine x_li (z := e) T_143_64 rfl ?_
    refine x_ri T_143_66 ?_
    exact ⟨rfl, V, R, hP, by rw [if_neg q]; exact XW.mono (hX.rpf hF) (by omega), fun c => absurd c q, FCM_fk (FK_rpf hF) (show 2178 < 2187 by decide)⟩
  subst q
  rw [if_neg (show ¬ (0 : Int) < 0 by decide)]
  obtain ⟨h10, hor⟩ := hor rfl
  by_cases q0 : (paM raw).length = 0
  · rw [if_pos q0]
    refine CL_in mL_143 rfl ?_
    show WP fb _ 143 0 [some (vR (some 2175)), some (vR (some pr)), some (vR (some k)), some (vI w), some (vL perm), none, some (vI mode), none, none] [] σ _
    refine x_lr (z := some 2175) T_143_0 rfl ?_
    refine x_gR (z := some 129) T_143_1 F_14_0 (hP.o xo_2175) (hP.rc xo_2175 rfl rfl) ?_
    refine x_lr (z := some pr) T_143_4 rfl ?_
    refine x_lr (z := some k) T_143_5 rfl ?_
    refine x_li (z := w) T_143_6 rfl ?_
    refine x_cv4 T_143_7 mN_118 mL_118 (Nat.le_of_ble_eq_true rfl) mO_118 (hP.o xo_129) (Nat.le_of_ble_eq_true rfl) (hrd) ?_
    clear hP hrd
    rintro _ σ ⟨rfl, V, hP, hF, hq⟩
    have hn0 : V 129 2038 = 0 := by rw [(hq rfl).2.2.1.1]; omega
    refine cI ?_
    refine x_si (ls1 := [some (vR (some 2175)), some (vR (some pr)), some (vR (some k)), some (vI w), some (vL perm), none, some (vI mode), some (vI 0), none]) T_143_10 rfl ?_
    refine x_li (z := 0) T_143_12 rfl ?_
    refine x_if T_143_14 (fun h => absurd (show ¬ (0 : Int) = 0 from h) (by decide)) (fun _ => ?_)
    refine x_lr (z := some 2175) T_143_17 rfl ?_
    refine x_gR (z := some 129) T_143_18 F_14_0 (hP.o xo_2175) (hP.rc xo_2175 rfl rfl) ?_
    refine x_gI (z := 0) T_143_21 (Or.inl F_1_6) (hP.o xo_129) (Eq.trans (hP.gi xo_129 (key := 2038) rfl) hn0) ?_
    refine x_if T_143_24 (fun h => absurd (show ¬ (0 : Int) = 0 from h) (by decide)) (fun _ => ?_)
    refine x_ic T_143_27 ?_
    refine x_si (ls1 := [some (vR (some 2175)), some (vR (some pr)), some (vR (some k)), some (vI w), some (vL perm), none, some (vI mode), some (vI 5), none]) T_143_28 rfl ?_
    refine x_li (z := 5) T_143_30 rfl ?_
    refine x_if T_143_32 (fun _ => ?_) (fun h => absurd (show ¬ (5 : Int) = 0 by decide) h)
    refine x_li (z := 5) T_143_59 rfl ?_
    refine x_if T_143_61 (fun h => absurd (show (5 : Int) = 0 from h) (by decide)) (fun _ => ?_)
    refine x_li (z := 5) T_143_64 rfl ?_
    refine x_ri T_143_66 ?_
    exact ⟨rfl, V, R, hP, by rw [if_neg (show ¬ (5 : Int) = 0 by decide)]; exact XW.mono (hX.rpf hF) (by omega), fun c => absurd (show (5 : Int) = 0 from c) (by decide), FCM_fk (FK_rpf hF) (show 2178 < 2187 by decide)⟩
  rw [if_neg q0]
  have hwe : 0 ≤ e1 := hwe
  have hwf : KF Q P := hwf
  by_cases q1 : e1 = 0
  rotate_left
  · rw [if_pos (show 0 < e1 by omega)]
    refine CL_in mL_143 rfl ?_
    show WP fb _ 143 0 [some (vR (some 2175)), some (vR (some pr)), some (vR (some k)), some (vI w), some (vL perm), none, some (vI mode), none, none] [] σ _
    refine x_lr (z := some 2175) T_143_0 rfl ?_
    refine x_gR (z := some 129) T_143_1 F_14_0 (hP.o xo_2175) (hP.rc xo_2175 rfl rfl) ?_
    refine x_lr (z := some pr) T_143_4 rfl ?_
    refine x_lr (z := some k) T_143_5 rfl ?_
    refine x_li (z := w) T_143_6 rfl ?_
    refine x_cv4 T_143_7 mN_118 mL_118 (Nat.le_of_ble_eq_true rfl) mO_118 (hP.o xo_129) (Nat.le_of_ble_eq_true rfl) (hrd) ?_
    clear hP hrd
    rintro _ σ ⟨rfl, V, hP, hF, hq⟩
    have hq := hq rfl
    have hn0 : V 129 2038 = nn := by rw [hq.2.2.1.1]; omega
    refine cI ?_
    refine x_si (ls1 := [some (vR (some 2175)), some (vR (some pr)), some (vR (some k)), some (vI w), some (vL perm), none, some (vI mode), some (vI 0), none]) T_143_10 rfl ?_
    refine x_li (z := 0) T_143_12 rfl ?_
    refine x_if T_143_14 (fun h => absurd (show ¬ (0 : Int) = 0 from h) (by decide)) (fun _ => ?_)
    refine x_lr (z := some 2175) T_143_17 rfl ?_
    refine x_gR (z := some 129) T_143_18 F_14_0 (hP.o xo_2175) (hP.rc xo_2175 rfl rfl) ?_
    refine x_gI (z := nn) T_143_21 (Or.inl F_1_6) (hP.o xo_129) (Eq.trans (hP.gi xo_129 (key := 2038) rfl) hn0) ?_
    refine x_if T_143_24 (fun _ => ?_) (fun h => absurd (show ¬ nn = 0 by omega) h)
    refine x_li (z := 0) T_143_30 rfl ?_
    refine x_if T_143_32 (fun h => absurd (show ¬ (0 : Int) = 0 from h) (by decide)) (fun _ => ?_)
    refine x_lr (z := some 2175) T_143_35 rfl ?_
    refine x_gR (z := some 129) T_143_36 F_14_0 (hP.o xo_2175) (hP.rc xo_2175 rfl rfl) ?_
    refine x_lr (z := some pr) T_143_39 rfl ?_
    refine x_lr (z := some 2175) T_143_40 rfl ?_
    refine x_gR (z := some 2178) T_143_41 F_14_2 (hP.o xo_2175) (hP.rc xo_2175 rfl rfl) ?_
    refine x_lr (z := some 2175) T_143_44 rfl ?_
    refine x_gR (z := some 129) T_143_45 F_14_0 (hP.o xo_2175) (hP.rc xo_2175 rfl rfl) ?_
    refine x_gI (z := nn) T_143_48 (Or.inl F_1_6) (hP.o xo_129) (Eq.trans (hP.gi xo_129 (key := 2038) rfl) hn0) ?_
    refine x_ic T_143_51 ?_
    refine x_ib (w := (nn - 1)) T_143_52 (fun h => absurd h.1 (by decide)) (w32_id (by omega) (by omega)) ?_
    refine x_ic T_143_53 ?_
    refine x_cv5 T_143_54 mN_121 mL_121 (Nat.le_of_ble_eq_true rfl) mO_121 (hP.o xo_129) (Nat.le_of_ble_eq_true rfl) (hwk σ V hP hF hq h10 (by omega) hor) ?_
    clear hP hwk
    rintro _ σ ⟨rfl, V5, V6, hP, hX5, hC5, hF5⟩
    refine cI ?_
    refine x_si (ls1 := [some (vR (some 2175)), some (vR (some pr)), some (vR (some k)), some (vI w), some (vL perm), none, some (vI mode), some (vI e1), none]) T_143_57 rfl ?_
    refine x_li (z := e1) T_143_59 rfl ?_
    refine x_if T_143_61 (fun h => absurd (show e1 = 0 from h) (by omega)) (fun _ => ?_)
    refine x_li (z := e1) T_143_64 rfl ?_
    refine x_ri T_143_66 ?_
    exact ⟨rfl, V5, V6, hP, by rw [if_neg q1]; exact XW.mono hX5 (by omega), fun c => absurd c q1, FCM_tr (FCM_fk (FK_rpf hF) (show 2178 < 2187 by decide)) (FCM_fk (FK_fc hF5) (by decide))⟩
  subst q1
  rw [if_neg (show ¬ (0 : Int) < 0 by decide)]
  have hpv : 0 ≤ ch.2.2.2.2 → ch.2.2.2.2 % 8 < Q 2334 (ch.2.2.2.2 / 8) := fun h0 => by
    have hpt : ptV P p ch.2.2.2.2 := hpt
    have hgR : 0 ≤ P 2323 p ∧ P 2323 p ≤ 7 := IV.a hIV 2323 0 8 rfl rfl rfl (by omega) (by omega)
    have hpb : 0 ≤ P 2334 (P 2323 p) ∧ P 2334 (P 2323 p) ≤ 8 := IV.a hIV 2334 0 8 rfl rfl rfl (by omega) (by omega)
    rw [show Q 2334 (ch.2.2.2.2 / 8) = P 2334 (ch.2.2.2.2 / 8) from nsR_kf hwf 2334 _ rfl]
    rcases hpt with h | ⟨h1, h2, h3, h4⟩
    · omega
    · rw [show ch.2.2.2.2 / 8 = P 2323 p by omega]
      omega
  have hgo : ∀ (σ : hM) (V V5 : qR) (V6 : rR) (x8 : Option AV), RPF W V → (V 129 2049 = paO raw ∧ BY V 145 161 raw ∧ NQ V (paN raw) ∧ BY V 136 60 (paL raw)) → PX σ0 V5 V6 σ → XW K (T + 28 * (((paM raw).dropLast.length : Nat) : Int) + 12) U V5 V6 Q → CHX V5 V6 2178 ch → chR ch → FC 2178 V V5 R V6 → WP fb (d + 10) 143 67 [some (vR (some 2175)), some (vR (some pr)), some (vR (some k)), some (vI w), some (vL perm), none, some (vI mode), some (vI 0), x8] [] σ (XMK σ0 K (T + 320) U W R (kMk (kPlc Q ch) ((paM raw).getD ((paM raw).length - 1) []) perm mode)) := fun σ V V5 V6 x8 hF hq hP hX5 hc1 hc2 hF5 => by
    have hnm := (paN_nms hq.2.1 hr1 hq.2.2.1) ((paM raw).length - 1) (by omega)
    have hnx := hnm.1
    rw [show (0 : Int) + (((paM raw).length - 1 : Nat) : Int) = nn - 1 by omega] at hnx
    have := mk_67 (fb := fb) (d := d) (W := W) (R := R) (pr := pr) (w := w) (x8 := x8) (perm := perm) (mode := mode) (n := nn) hP hX5 (by omega) hk hc1 hc2 (hF5.by2 hq.2.1 (by decide) (Or.inr rfl)) ((hF5.kn (by decide)).1.trans (by rw [hq.2.2.1.1]; omega)) (by omega) (hnx.fc hF5 (by decide) (by omega)) hnm.2.1 hpm hmd (FCM_tr (FCM_fk (c := 2178) (FK_rpf hF) (by decide)) (FCM_fk (FK_fc hF5) (by decide))) hpv
    refine this.mono (fun r σ' h => ?_)
    obtain ⟨rfl, V7, V8, g1, g2, g3, g4⟩ := h
    exact ⟨rfl, V7, V8, g1, XW.mono g2 (by omega), g3, g4⟩
  refine CL_in mL_143 rfl ?_
  show WP fb _ 143 0 [some (vR (some 2175)), some (vR (some pr)), some (vR (some k)), some (vI w), some (vL perm), none, some (vI mode), none, none] [] σ _
  refine x_lr (z := some 2175) T_143_0 rfl ?_
  refine x_gR (z := some 129) T_143_1 F_14_0 (hP.o xo_2175) (hP.rc xo_2175 rfl rfl) ?_
  refine x_lr (z := some pr) T_143_4 rfl ?_
  refine x_lr (z := some k) T_143_5 rfl ?_
  refine x_li (z := w) T_143_6 rfl ?_
  refine x_cv4 T_143_7 mN_118 mL_118 (Nat.le_of_ble_eq_true rfl) mO_118 (hP.o xo_129) (Nat.le_of_ble_eq_true rfl) (hrd) ?_
  clear hP hrd
  rintro _ σ ⟨rfl, V, hP, hF, hq⟩
  have hq := hq rfl
  have hn0 : V 129 2038 = nn := by rw [hq.2.2.1.1]; omega
  refine cI ?_
  refine x_si (ls1 := [some (vR (some 2175)), some (vR (some pr)), some (vR (some k)), some (vI w), some (vL perm), none, some (vI mode), some (vI 0), none]) T_143_10 rfl ?_
  refine x_li (z := 0) T_143_12 rfl ?_
  refine x_if T_143_14 (fun h => absurd (show ¬ (0 : Int) = 0 from h) (by decide)) (fun _ => ?_)
  refine x_lr (z := some 2175) T_143_17 rfl ?_
  refine x_gR (z := some 129) T_143_18 F_14_0 (hP.o xo_2175) (hP.rc xo_2175 rfl rfl) ?_
  refine x_gI (z := nn) T_143_21 (Or.inl F_1_6) (hP.o xo_129) (Eq.trans (hP.gi xo_129 (key := 2038) rfl) hn0) ?_
  refine x_if T_143_24 (fun _ => ?_) (fun h => absurd (show ¬ nn = 0 by omega) h)
  refine x_li (z := 0) T_143_30 rfl ?_
  refine x_if T_143_32 (fun h => absurd (show ¬ (0 : Int) = 0 from h) (by decide)) (fun _ => ?_)
  refine x_lr (z := some 2175) T_143_35 rfl ?_
  refine x_gR (z := some 129) T_143_36 F_14_0 (hP.o xo_2175) (hP.rc xo_2175 rfl rfl) ?_
  refine x_lr (z := some pr) T_143_39 rfl ?_
  refine x_lr (z := some 2175) T_143_40 rfl ?_
  refine x_gR (z := some 2178) T_143_41 F_14_2 (hP.o xo_2175) (hP.rc xo_2175 rfl rfl) ?_
  refine x_lr (z := some 2175) T_143_44 rfl ?_
  refine x_gR (z := some 129) T_143_45 F_14_0 (hP.o xo_2175) (hP.rc xo_2175 rfl rfl) ?_
  refine x_gI (z := nn) T_143_48 (Or.inl F_1_6) (hP.o xo_129) (Eq.trans (hP.gi xo_129 (key := 2038) rfl) hn0) ?_
  refine x_ic T_143_51 ?_
  refine x_ib (w := (nn - 1)) T_143_52 (fun h => absurd h.1 (by decide)) (w32_id (by omega) (by omega)) ?_
  refine x_ic T_143_53 ?_
  refine x_cv5 T_143_54 mN_121 mL_121 (Nat.le_of_ble_eq_true rfl) mO_121 (hP.o xo_129) (Nat.le_of_ble_eq_true rfl) (hwk σ V hP hF hq h10 (by omega) hor) ?_
  clear hP hwk
  rintro _ σ ⟨rfl, V5, V6, hP, hX5, hC5, hF5⟩
  obtain ⟨hc1, hc2⟩ := hC5 rfl
  refine cI ?_
  refine x_si (ls1 := [some (vR (some 2175)), some (vR (some pr)), some (vR (some k)), some (vI w), some (vL perm), none, some (vI mode), some (vI 0), none]) T_143_57 rfl ?_
  refine x_li (z := 0) T_143_59 rfl ?_
  refine x_if T_143_61 (fun _ => ?_) (fun h => absurd (show (0 : Int) = 0 by rfl) h)
  exact hgo σ V V5 V6 _ hF hq hP hX5 hc1 hc2 hF5
theorem x_mkdir (hP : PX σ0 W R σ) (hX : XW K T U W R P) (hT : T + 1200 ≤ 2147483000) (hp : 0 ≤ p ∧ p < 8) (hlv : ¬ P 2320 p = 0) (hC : CMD W k l) (hw : ((lnW l).length : Int) = 2) : CL fb (d + 11) 147 [vR (some 2175), vR (some (prO p)), vR (some k)] σ (XCM σ0 K (T + 324) U W R (kCreate P p (lnB l 1) (-2147483137) 0)) := by
  have hmk := x_make (fb := fb) (d := d) (w := 1) (perm := -2147483137) (mode := 0) hP hX hT hp hlv hC ⟨by decide, by omega⟩ (by decide) (by decide)
  have hpo := prO_o hp
  have h5 := hC.2.2.2.2.1.trans hw
  obtain ⟨A, hA⟩ : ∃ A, kCreate P p (lnB l 1) (-2147483137) 0 = A := ⟨_, rfl⟩
  rw [hA] at hmk ⊢
  obtain ⟨e, Q, h⟩ := A
  obtain ⟨pr, hpr⟩ : ∃ q, prO p = q := ⟨_, rfl⟩
  rw [hpr] at hmk hpo ⊢
  by_cases q : e = 0
  · subst q
    have hck := fun (σ : hM) (V5 : qR) (V6 : rR) (ch : Ch) (hP : PX σ0 V5 V6 σ) (hX : XW K (T + 320) U V5 V6 Q) (hch : CHX V5 V6 2178 ch) (hcr : chR ch) => (x_clunk1 (fb := fb) (d := d + 2) hP hX (by omega) hch hcr).mono (Q := fun r σ' => ∃ e, r = some (vI e) ∧ ∃ W2 R2, PX σ0 W2 R2 σ' ∧ XW K (T + 320 + 4) U W2 R2 (kDrop Q ch) ∧ FA V5 W2 V6 R2) (fun r σ' h => ⟨_, h.1, h.2⟩)
    refine CL_in mL_147 rfl ?_
    show WP fb _ 147 0 [some (vR (some 2175)), some (vR (some pr)), some (vR (some k)), none] [] σ _
    refine x_lr (z := some k) T_147_0 rfl ?_
    refine x_gI (z := 2) T_147_1 (Or.inl F_16_4) (hP.o hC.1) (Eq.trans (hP.gi hC.1 (key := 2516) rfl) h5) ?_
    refine x_ic T_147_4 ?_
    refine x_ic2 T_147_5 (fun _ => ?_) (fun h => absurd (show (2 : Int) = 2 by decide) h)
    refine x_lr (z := some 2175) T_147_11 rfl ?_
    refine x_lr (z := some pr) T_147_12 rfl ?_
    refine x_lr (z := some k) T_147_13 rfl ?_
    refine x_ic T_147_14 ?_
    refine x_lc T_147_15 ?_
    refine x_ic T_147_18 ?_
    refine x_cv6 T_147_19 mN_143 mL_143 (Nat.le_of_ble_eq_true rfl) mO_143 (hP.o xo_2175) (Nat.le_of_ble_eq_true rfl) (hmk) ?_
    clear hP hmk
    rintro _ σ ⟨rfl, V5, V6, hP, hX5, hc5, hF5⟩
    obtain ⟨ch, hh, hc1, hc2⟩ := hc5 rfl
    have hh : h = [ch] := hh
    subst hh
    refine cI ?_
    refine x_si (ls1 := [some (vR (some 2175)), some (vR (some pr)), some (vR (some k)), some (vI 0)]) T_147_22 rfl ?_
    refine x_li (z := 0) T_147_23 rfl ?_
    refine x_if T_147_24 (fun h => absurd (show ¬ (0 : Int) = 0 from h) (by decide)) (fun _ => ?_)
    refine x_lr (z := some 2175) T_147_27 rfl ?_
    refine x_gR (z := some 129) T_147_28 F_14_0 (hP.o xo_2175) (hP.rc xo_2175 rfl rfl) ?_
    refine x_lr (z := some 2175) T_147_31 rfl ?_
    refine x_gR (z := some 2178) T_147_32 F_14_2 (hP.o xo_2175) (hP.rc xo_2175 rfl rfl) ?_
    refine x_cv2 T_147_35 mN_132 mL_132 (Nat.le_of_ble_eq_true rfl) mO_132 (hP.o xo_129) (Nat.le_of_ble_eq_true rfl) (hck σ V5 V6 ch hP hX5 hc1 hc2) ?_
    clear hP hck
    rintro _ σ ⟨e3, rfl, V7, V8, hP, hX7, hF7⟩
    refine cI ?_
    refine x_popI T_147_38 ?_
    refine x_li (z := 0) T_147_39 rfl ?_
    refine x_ri T_147_40 ?_
    exact ⟨rfl, V7, V8, hP, XW.mono hX7 (by omega), FCM_tr hF5 (FCM_fa hF7)⟩
  · skip
    refine CL_in mL_147 rfl ?_
    show WP fb _ 147 0 [some (vR (some 2175)), some (vR (some pr)), some (vR (some k)), none] [] σ _
    refine x_lr (z := some k) T_147_0 rfl ?_
    refine x_gI (z := 2) T_147_1 (Or.inl F_16_4) (hP.o hC.1) (Eq.trans (hP.gi hC.1 (key := 2516) rfl) h5) ?_
    refine x_ic T_147_4 ?_
    refine x_ic2 T_147_5 (fun _ => ?_) (fun h => absurd (show (2 : Int) = 2 by decide) h)
    refine x_lr (z := some 2175) T_147_11 rfl ?_
    refine x_lr (z := some pr) T_147_12 rfl ?_
    refine x_lr (z := some k) T_147_13 rfl ?_
    refine x_ic T_147_14 ?_
    refine x_lc T_147_15 ?_
    refine x_ic T_147_18 ?_
    refine x_cv6 T_147_19 mN_143 mL_143 (Nat.le_of_ble_eq_true rfl) mO_143 (hP.o xo_2175) (Nat.le_of_ble_eq_true rfl) (hmk) ?_
    clear hP hmk
    rintro _ σ ⟨rfl, V5, V6, hP, hX5, hc5, hF5⟩
    have hX5 : XW K (T + 320) U V5 V6 (if e = 0 then Q else kDrops Q h) := hX5
    rw [if_neg q] at hX5
    refine cI ?_
    refine x_si (ls1 := [some (vR (some 2175)), some (vR (some pr)), some (vR (some k)), some (vI e)]) T_147_22 rfl ?_
    refine x_li (z := e) T_147_23 rfl ?_
    refine x_if T_147_24 (fun _ => ?_) (fun h => absurd (show ¬ e = 0 by omega) h)
    refine x_li (z := e) T_147_39 rfl ?_
    refine x_ri T_147_40 ?_
    exact ⟨rfl, V5, V6, hP, XW.mono hX5 (by omega), hF5⟩
end XMKT
