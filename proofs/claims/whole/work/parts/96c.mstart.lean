/-! A process begins; the points of a group are copied. -/
theorem T_386_0 : hTab 386 0 = some ((3, 0, 2, []), 1) := rfl
theorem T_386_1 : hTab 386 1 = some ((24, 17, Int.ofNat 50, []), 4) := rfl
theorem T_386_4 : hTab 386 4 = some ((3, 1, 0, []), 5) := rfl
theorem T_386_5 : hTab 386 5 = some ((0, 0, 1, []), 6) := rfl
theorem T_386_6 : hTab 386 6 = some ((27, 2, 0, []), 7) := rfl
theorem T_386_7 : hTab 386 7 = some ((3, 0, 2, []), 8) := rfl
theorem T_386_8 : hTab 386 8 = some ((24, 17, Int.ofNat 51, []), 11) := rfl
theorem T_386_11 : hTab 386 11 = some ((3, 1, 0, []), 12) := rfl
theorem T_386_12 : hTab 386 12 = some ((0, 0, 0, []), 13) := rfl
theorem T_386_13 : hTab 386 13 = some ((27, 2, 0, []), 14) := rfl
theorem T_386_14 : hTab 386 14 = some ((3, 0, 2, []), 15) := rfl
theorem T_386_15 : hTab 386 15 = some ((24, 17, Int.ofNat 52, []), 18) := rfl
theorem T_386_18 : hTab 386 18 = some ((3, 1, 0, []), 19) := rfl
theorem T_386_19 : hTab 386 19 = some ((3, 2, 0, []), 20) := rfl
theorem T_386_20 : hTab 386 20 = some ((27, 0, 0, []), 21) := rfl
theorem T_386_21 : hTab 386 21 = some ((3, 0, 2, []), 22) := rfl
theorem T_386_22 : hTab 386 22 = some ((24, 17, Int.ofNat 53, []), 25) := rfl
theorem T_386_25 : hTab 386 25 = some ((3, 1, 0, []), 26) := rfl
theorem T_386_26 : hTab 386 26 = some ((3, 3, 0, []), 27) := rfl
theorem T_386_27 : hTab 386 27 = some ((27, 0, 0, []), 28) := rfl
theorem T_386_28 : hTab 386 28 = some ((3, 0, 2, []), 29) := rfl
theorem T_386_29 : hTab 386 29 = some ((24, 17, Int.ofNat 54, []), 32) := rfl
theorem T_386_32 : hTab 386 32 = some ((3, 1, 0, []), 33) := rfl
theorem T_386_33 : hTab 386 33 = some ((3, 4, 0, []), 35) := rfl
theorem T_386_35 : hTab 386 35 = some ((27, 0, 0, []), 36) := rfl
theorem T_386_36 : hTab 386 36 = some ((3, 0, 2, []), 37) := rfl
theorem T_386_37 : hTab 386 37 = some ((24, 17, Int.ofNat 55, []), 40) := rfl
theorem T_386_40 : hTab 386 40 = some ((0, 0, 60, []), 42) := rfl
theorem T_386_42 : hTab 386 42 = some ((3, 1, 0, []), 43) := rfl
theorem T_386_43 : hTab 386 43 = some ((10, 2, 0, []), 44) := rfl
theorem T_386_44 : hTab 386 44 = some ((0, 0, 47, []), 46) := rfl
theorem T_386_46 : hTab 386 46 = some ((27, 0, 0, []), 47) := rfl
theorem T_386_47 : hTab 386 47 = some ((3, 0, 2, []), 48) := rfl
theorem T_386_48 : hTab 386 48 = some ((24, 17, Int.ofNat 56, []), 51) := rfl
theorem T_386_51 : hTab 386 51 = some ((3, 1, 0, []), 52) := rfl
theorem T_386_52 : hTab 386 52 = some ((0, 0, 1, []), 53) := rfl
theorem T_386_53 : hTab 386 53 = some ((27, 0, 0, []), 54) := rfl
theorem T_386_54 : hTab 386 54 = some ((3, 0, 2, []), 55) := rfl
theorem T_386_55 : hTab 386 55 = some ((24, 17, Int.ofNat 59, []), 58) := rfl
theorem T_386_58 : hTab 386 58 = some ((3, 1, 0, []), 59) := rfl
theorem T_386_59 : hTab 386 59 = some ((0, 0, 0, []), 60) := rfl
theorem T_386_60 : hTab 386 60 = some ((27, 0, 0, []), 61) := rfl
theorem T_386_61 : hTab 386 61 = some ((0, 0, 0, []), 62) := rfl
theorem T_386_62 : hTab 386 62 = some ((4, 5, 0, []), 64) := rfl
theorem T_386_64 : hTab 386 64 = some ((3, 5, 0, []), 66) := rfl
theorem T_386_66 : hTab 386 66 = some ((0, 0, 8, []), 68) := rfl
theorem T_386_68 : hTab 386 68 = some ((19, 3, Int.ofNat 90, []), 71) := rfl
theorem T_386_71 : hTab 386 71 = some ((3, 0, 2, []), 72) := rfl
theorem T_386_72 : hTab 386 72 = some ((24, 17, Int.ofNat 57, []), 75) := rfl
theorem T_386_75 : hTab 386 75 = some ((0, 0, 8, []), 77) := rfl
theorem T_386_77 : hTab 386 77 = some ((3, 1, 0, []), 78) := rfl
theorem T_386_78 : hTab 386 78 = some ((10, 2, 0, []), 79) := rfl
theorem T_386_79 : hTab 386 79 = some ((3, 5, 0, []), 81) := rfl
theorem T_386_81 : hTab 386 81 = some ((10, 0, 0, []), 82) := rfl
theorem T_386_82 : hTab 386 82 = some ((0, 0, (-1), []), 83) := rfl
theorem T_386_83 : hTab 386 83 = some ((27, 0, 0, []), 84) := rfl
theorem T_386_84 : hTab 386 84 = some ((5, 5, 1, []), 87) := rfl
theorem T_386_87 : hTab 386 87 = some ((22, 0, Int.ofNat 64, []), 90) := rfl
theorem T_386_90 : hTab 386 90 = some ((0, 0, 0, []), 91) := rfl
theorem T_386_91 : hTab 386 91 = some ((4, 5, 0, []), 93) := rfl
theorem T_386_93 : hTab 386 93 = some ((3, 5, 0, []), 95) := rfl
theorem T_386_95 : hTab 386 95 = some ((0, 0, 26, []), 97) := rfl
theorem T_386_97 : hTab 386 97 = some ((19, 3, Int.ofNat 119, []), 100) := rfl
theorem T_386_100 : hTab 386 100 = some ((3, 0, 2, []), 101) := rfl
theorem T_386_101 : hTab 386 101 = some ((24, 17, Int.ofNat 101, []), 104) := rfl
theorem T_386_104 : hTab 386 104 = some ((0, 0, 26, []), 106) := rfl
theorem T_386_106 : hTab 386 106 = some ((3, 1, 0, []), 107) := rfl
theorem T_386_107 : hTab 386 107 = some ((10, 2, 0, []), 108) := rfl
theorem T_386_108 : hTab 386 108 = some ((3, 5, 0, []), 110) := rfl
theorem T_386_110 : hTab 386 110 = some ((10, 0, 0, []), 111) := rfl
theorem T_386_111 : hTab 386 111 = some ((0, 0, 0, []), 112) := rfl
theorem T_386_112 : hTab 386 112 = some ((27, 0, 0, []), 113) := rfl
theorem T_386_113 : hTab 386 113 = some ((5, 5, 1, []), 116) := rfl
theorem T_386_116 : hTab 386 116 = some ((22, 0, Int.ofNat 93, []), 119) := rfl
theorem T_386_119 : hTab 386 119 = some ((33, 0, 0, []), 120) := rfl
theorem T_387_91 : hTab 387 91 = some ((3, 7, 0, []), 93) := rfl
theorem T_387_93 : hTab 387 93 = some ((3, 0, 2, []), 94) := rfl
theorem T_387_94 : hTab 387 94 = some ((24, 17, Int.ofNat 67, []), 97) := rfl
theorem T_387_97 : hTab 387 97 = some ((3, 5, 0, []), 99) := rfl
theorem T_387_99 : hTab 387 99 = some ((26, 0, 0, []), 100) := rfl
theorem T_387_100 : hTab 387 100 = some ((19, 3, Int.ofNat 151, []), 103) := rfl
theorem T_387_103 : hTab 387 103 = some ((3, 0, 2, []), 104) := rfl
theorem T_387_104 : hTab 387 104 = some ((0, 0, 6, []), 106) := rfl
theorem T_387_106 : hTab 387 106 = some ((3, 5, 0, []), 108) := rfl
theorem T_387_108 : hTab 387 108 = some ((10, 2, 0, []), 109) := rfl
theorem T_387_109 : hTab 387 109 = some ((3, 7, 0, []), 111) := rfl
theorem T_387_111 : hTab 387 111 = some ((10, 0, 0, []), 112) := rfl
theorem T_387_112 : hTab 387 112 = some ((0, 0, 6, []), 114) := rfl
theorem T_387_114 : hTab 387 114 = some ((3, 6, 0, []), 116) := rfl
theorem T_387_116 : hTab 387 116 = some ((10, 2, 0, []), 117) := rfl
theorem T_387_117 : hTab 387 117 = some ((3, 7, 0, []), 119) := rfl
theorem T_387_119 : hTab 387 119 = some ((10, 0, 0, []), 120) := rfl
theorem T_387_120 : hTab 387 120 = some ((31, 370, 0, []), 123) := rfl
theorem T_387_123 : hTab 387 123 = some ((3, 0, 2, []), 124) := rfl
theorem T_387_124 : hTab 387 124 = some ((24, 17, Int.ofNat 69, []), 127) := rfl
theorem T_387_127 : hTab 387 127 = some ((0, 0, 6, []), 129) := rfl
theorem T_387_129 : hTab 387 129 = some ((3, 6, 0, []), 131) := rfl
theorem T_387_131 : hTab 387 131 = some ((10, 2, 0, []), 132) := rfl
theorem T_387_132 : hTab 387 132 = some ((3, 7, 0, []), 134) := rfl
theorem T_387_134 : hTab 387 134 = some ((10, 0, 0, []), 135) := rfl
theorem T_387_135 : hTab 387 135 = some ((3, 0, 2, []), 136) := rfl
theorem T_387_136 : hTab 387 136 = some ((24, 17, Int.ofNat 87, []), 139) := rfl
theorem T_387_139 : hTab 387 139 = some ((3, 3, 0, []), 140) := rfl
theorem T_387_140 : hTab 387 140 = some ((26, 0, 0, []), 141) := rfl
theorem T_387_141 : hTab 387 141 = some ((27, 0, 0, []), 142) := rfl
theorem T_387_142 : hTab 387 142 = some ((5, 3, 1, []), 145) := rfl
theorem T_387_145 : hTab 387 145 = some ((5, 7, 1, []), 148) := rfl
theorem T_387_148 : hTab 387 148 = some ((22, 0, Int.ofNat 91, []), 151) := rfl
theorem mN_386 : hmN 386 = 5 := by decide +kernel
theorem mL_386 : hmL 386 = 6 := by decide +kernel
theorem mK_386 : hmK 386 = 1 := by decide +kernel
theorem mO_386 : hmO 386 = 17 := by decide +kernel
theorem mN_387 : hmN 387 = 3 := by decide +kernel
theorem mL_387 : hmL 387 = 8 := by decide +kernel
theorem mK_387 : hmK 387 = 1 := by decide +kernel
theorem mO_387 : hmO 387 = 17 := by decide +kernel
def gBg0 (P : qR) (q u g r : Int) : qR := rU (rU (rU (rU (rU (rU (rU (rU P 2320 q 1) 2321 q 0) 2322 q u) 2323 q g) 2324 q r) 2325 (60 * q) 47) 2326 q 1) 2329 q 0
def gBg (P : qR) (q u g r : Int) : qR := rW (rW (gBg0 P q u g r) 2327 (8 * q) (List.replicate 8 (-1))) 2362 (26 * q) (List.replicate 26 0)
def bgR : List Nat := [2320, 2321, 2322, 2323, 2324, 2325, 2326, 2329, 2327, 2362]
/-- members of a point, copied to another, with the fids that are held from i on -/
def cgM (hf : Int → Int) (old pt : Int) : Nat → Int → Int → qR → qR
  | 0, _, _, P => P
  | m + 1, j, i, P => cgM hf old pt m (j + 1) (i + 1) (rU (gMv P (6 * old + j) (6 * pt + j)) 2339 (6 * pt + j) (hf i))
def cg1 (P : qR) (old pt : Int) : qR := rU (rU (rU P 2335 pt (P 2335 old)) 2336 pt (P 2336 old)) 2337 pt (P 2337 old)
def cgP (hf : Int → Int) (g to : Int) : Nat → Int → Int → qR → qR
  | 0, _, _, P => P
  | m + 1, k, i, P => cgP hf g to m (k + 1) (i + P 2337 (8 * g + k)) (cgM hf (8 * g + k) (8 * to + k) (P 2337 (8 * g + k)).toNat 0 i (cg1 P (8 * g + k) (8 * to + k)))
def gCpG (hf : Int → Int) (P : qR) (g to : Int) : qR := cgP hf g to (P 2334 g).toNat 0 1 (rU P 2334 to (P 2334 g))
section MSTART
variable {fb : Bool} {d : Nat} {σ0 σ : hM} {P Q R S S1 S2 : qR} {T U s w g u p k e t z o q r pt off n N v to : Int} {l l1 l2 nm wd A : List Int} {h : List Ch} {hf : Int → Int} {x : Nw} {c c1 c2 : Ch} {ns : List Nw}
theorem rW_snoc {f : Nat} : rU (rW P f o l) f (o + l.length) v = rW P f o (l ++ [v]) := by rw [← rW_app, rW_one]
theorem rW_rep {f : Nat} {j : Int} (hj : 0 ≤ j) : rU (rW P f o (List.replicate j.toNat v)) f (o + j) v = rW P f o (List.replicate (j + 1).toNat v) := by
  rw [show (j + 1).toNat = j.toNat + 1 by omega, List.replicate_succ', ← rW_snoc, List.length_replicate, Int.toNat_of_nonneg hj]
theorem rW_rep0 {f : Nat} : rW P f o (List.replicate (0 : Int).toNat v) = P := rW_nil
theorem GI_wr {f : Nat} (h : GI T U P) (e0 : Nat.beq f 2281 = false) (hv : ∀ k, o ≤ k → k < o + l.length → (ivP T U f k).1 ≤ lg l (k - o) ∧ lg l (k - o) ≤ (ivP T U f k).2) (h1 : [f].elem 2289 = false) (h2 : [f].elem 2290 = false) (h3 : [f].elem 2293 = false) (h4 : [f].elem 2291 = false) (h5 : [f].elem 2297 = false) (h6 : [f].elem 2304 = false) (h7 : [f].elem 2310 = false) (h8 : [f].elem 2306 = false) (h9 : [f].elem 2309 = false) (h10 : 2301 ≠ f) (h11 : 2302 ≠ f) : GI T U (rW P f o l) := by
  have n1 : 2297 ≠ f := fun e => by rw [e] at h5; rw [List.elem_cons, beq_self_eq_true] at h5; cases h5
  have n2 : 2289 ≠ f := fun e => by rw [e] at h1; rw [List.elem_cons, beq_self_eq_true] at h1; cases h1
  exact h.of (l := [f]) ⟨h.iv.wA f e0 hv, h.1.1.2.of (fun _ => rW_f (by assumption)) (fun _ => rW_f (by assumption)) (fun _ => rW_f (by assumption)) (fun _ => rW_f (by assumption))⟩ (RF_wr RF_rfl (by rw [List.elem_cons, beq_self_eq_true])) h1 h2 h3 h4 h5 h6 h7 h8 h9
theorem lg_rep {n : Nat} {i : Int} (h0 : 0 ≤ i) (h1 : i < n) : lg (List.replicate n v) i = v := by
  unfold lg
  rw [List.getD_eq_getElem?_getD, List.getElem?_replicate, if_pos (by omega)]
  rfl
theorem gBg0_rf : RF bgR (gBg0 P q u g r) P := RF_up (RF_up (RF_up (RF_up (RF_up (RF_up (RF_up (RF_up RF_rfl rfl) rfl) rfl) rfl) rfl) rfl) rfl) rfl
theorem gBg_rf : RF bgR (gBg P q u g r) P := RF_wr (RF_wr gBg0_rf rfl) rfl
theorem GI_gBg0 (h : GI T U P) (hq : 0 ≤ q ∧ q < 8) (hu : 0 ≤ u ∧ u ≤ 3) (hg : 0 ≤ g ∧ g ≤ 7) (hr : 0 ≤ r ∧ r ≤ 47) : GI T U (gBg0 P q u g r) := by
  have a1 := GI_one (f := 2320) (j := q) (v := 1) (ty := 2) (len := 8) h rfl (show (0 : Int) ≤ 1 ∧ (1 : Int) ≤ 1 by decide) rfl rfl rfl rfl rfl rfl rfl rfl rfl (by decide) (by decide)
  have a2 := GI_one (f := 2321) (j := q) (v := 0) (ty := 2) (len := 8) a1 rfl (show (0 : Int) ≤ 0 ∧ (0 : Int) ≤ 1 by decide) rfl rfl rfl rfl rfl rfl rfl rfl rfl (by decide) (by decide)
  have a3 := GI_one (f := 2322) (j := q) (v := u) (ty := 0) (len := 8) a2 rfl hu rfl rfl rfl rfl rfl rfl rfl rfl rfl (by decide) (by decide)
  have a4 := GI_one (f := 2323) (j := q) (v := g) (ty := 0) (len := 8) a3 rfl hg rfl rfl rfl rfl rfl rfl rfl rfl rfl (by decide) (by decide)
  have a5 := GI_one (f := 2324) (j := q) (v := r) (ty := 0) (len := 8) a4 rfl hr rfl rfl rfl rfl rfl rfl rfl rfl rfl (by decide) (by decide)
  have a6 := GI_one (f := 2325) (j := 60 * q) (v := 47) (ty := 0) (len := 480) a5 rfl (show (0 : Int) ≤ 47 ∧ (47 : Int) ≤ 255 by decide) rfl rfl rfl rfl rfl rfl rfl rfl rfl (by decide) (by decide)
  have a7 := GI_one (f := 2326) (j := q) (v := 1) (ty := 0) (len := 8) a6 rfl (show (0 : Int) ≤ 1 ∧ (1 : Int) ≤ 60 by decide) rfl rfl rfl rfl rfl rfl rfl rfl rfl (by decide) (by decide)
  exact GI_one (f := 2329) (j := q) (v := 0) (ty := 0) (len := 8) a7 rfl (show (0 : Int) ≤ 0 ∧ (0 : Int) ≤ 1000 by decide) rfl rfl rfl rfl rfl rfl rfl rfl rfl (by decide) (by decide)
theorem GI_gBg (h : GI T U P) (hq : 0 ≤ q ∧ q < 8) (hu : 0 ≤ u ∧ u ≤ 3) (hg : 0 ≤ g ∧ g ≤ 7) (hr : 0 ≤ r ∧ r ≤ 47) : GI T U (gBg P q u g r) := by
  have a1 := GI_gBg0 h hq hu hg hr
  have a2 := GI_wr (f := 2327) (o := 8 * q) (l := List.replicate 8 (-1)) a1 rfl (fun k b1 b2 => by
    rw [List.length_replicate] at b2
    rw [lg_rep (by omega) (by omega)]
    show (-1 : Int) ≤ -1 ∧ (-1 : Int) ≤ 63
    decide) rfl rfl rfl rfl rfl rfl rfl rfl rfl (by decide) (by decide)
  exact GI_wr (f := 2362) (o := 26 * q) (l := List.replicate 26 0) a2 rfl (fun k b1 b2 => by
    rw [List.length_replicate] at b2
    rw [lg_rep (by omega) (by omega)]
    show (0 : Int) ≤ 0 ∧ (0 : Int) ≤ 20
    decide) rfl rfl rfl rfl rfl rfl rfl rfl rfl (by decide) (by decide)
theorem m_start_o (hq : 0 ≤ q ∧ q < 8) {Q : Option AV → hM → Prop} (hQ : ∀ σ : hM, PM σ0 (rW P 2327 (8 * q) (List.replicate 8 (-1))) S σ → WP fb d 386 90 [some (vR (some 2281)), some (vI q), some (vI u), some (vI g), some (vI r), some (vI 8)] [] σ Q) : ∀ (m : Nat) (k : Int) (σ : hM), k + m = 8 → 0 ≤ k → PM σ0 (rW P 2327 (8 * q) (List.replicate k.toNat (-1))) S σ → WP fb d 386 64 [some (vR (some 2281)), some (vI q), some (vI u), some (vI g), some (vI r), some (vI k)] [] σ Q := by
  intro m
  induction m with
  | zero =>
    intro k σ h1 h2 hP
    have h1 : k + ((0 : Nat) : Int) = 8 := h1
    have hk : k = 8 := by omega
    subst hk
    have hgo := hQ σ hP
    refine x_li (z := 8) T_386_64 rfl ?_
    refine x_ic T_386_66 ?_
    refine x_ic2 T_386_68 (fun _ => ?_) (fun h => absurd (show 8 ≤ (8 : Int) by decide) h)
    exact hgo
  | succ m ih =>
    intro k σ h1 h2 hP
    have hgo := fun (σ : hM) (hP : PM σ0 (rU (rW P 2327 (8 * q) (List.replicate k.toNat (-1))) 2327 (8 * q + k) (-1)) S σ) => ih (k + 1) σ (by omega) (by omega) (by rw [← rW_rep h2]; exact hP)
    refine x_li (z := k) T_386_64 rfl ?_
    refine x_ic T_386_66 ?_
    refine x_ic2 T_386_68 (fun h => absurd (show 8 ≤ k from h) (by omega)) (fun _ => ?_)
    refine x_lr (z := some 2281) T_386_71 rfl ?_
    refine x_gR (z := some 2327) T_386_72 F_17_57 (PM.t hP) (PM.r hP 57 2327 rfl) ?_
    refine x_ic T_386_75 ?_
    refine x_li (z := q) T_386_77 rfl ?_
    refine x_ib (w := (8 * q)) T_386_78 (fun h => absurd h.1 (by decide)) (w32_id (by omega) (by omega)) ?_
    refine x_li (z := k) T_386_79 rfl ?_
    refine x_ib (w := ((8 * q) + k)) T_386_81 (fun h => absurd h.1 (by decide)) (w32_id (by omega) (by omega)) ?_
    refine x_ic T_386_82 ?_
    refine y_aIP hP T_386_83 2327 64 rfl rfl rfl (by omega) (by omega) (fun σ hP => ?_)
    refine x_inc (w := (k + 1)) (ls1 := [some (vR (some 2281)), some (vI q), some (vI u), some (vI g), some (vI r), some (vI (k + 1))]) T_386_84 rfl (w32_id (by omega) (by omega)) rfl ?_
    refine x_goto T_386_87 ?_
    exact hgo σ hP
theorem m_start_v (hq : 0 ≤ q ∧ q < 8) {Q : Option AV → hM → Prop} (hQ : ∀ σ : hM, PM σ0 (rW P 2362 (26 * q) (List.replicate 26 0)) S σ → Q none σ) : ∀ (m : Nat) (k : Int) (σ : hM), k + m = 26 → 0 ≤ k → PM σ0 (rW P 2362 (26 * q) (List.replicate k.toNat 0)) S σ → WP fb d 386 93 [some (vR (some 2281)), some (vI q), some (vI u), some (vI g), some (vI r), some (vI k)] [] σ Q := by
  intro m
  induction m with
  | zero =>
    intro k σ h1 h2 hP
    have h1 : k + ((0 : Nat) : Int) = 26 := h1
    have hk : k = 26 := by omega
    subst hk
    have hgo := hQ σ hP
    refine x_li (z := 26) T_386_93 rfl ?_
    refine x_ic T_386_95 ?_
    refine x_ic2 T_386_97 (fun _ => ?_) (fun h => absurd (show 26 ≤ (26 : Int) by decide) h)
    refine x_rv T_386_119 ?_
    exact hgo
  | succ m ih =>
    intro k σ h1 h2 hP
    have hgo := fun (σ : hM) (hP : PM σ0 (rU (rW P 2362 (26 * q) (List.replicate k.toNat 0)) 2362 (26 * q + k) 0) S σ) => ih (k + 1) σ (by omega) (by omega) (by rw [← rW_rep h2]; exact hP)
    refine x_li (z := k) T_386_93 rfl ?_
    refine x_ic T_386_95 ?_
    refine x_ic2 T_386_97 (fun h => absurd (show 26 ≤ k from h) (by omega)) (fun _ => ?_)
    refine x_lr (z := some 2281) T_386_100 rfl ?_
    refine x_gR (z := some 2362) T_386_101 F_17_101 (PM.t hP) (PM.r hP 101 2362 rfl) ?_
    refine x_ic T_386_104 ?_
    refine x_li (z := q) T_386_106 rfl ?_
    refine x_ib (w := (26 * q)) T_386_107 (fun h => absurd h.1 (by decide)) (w32_id (by omega) (by omega)) ?_
    refine x_li (z := k) T_386_108 rfl ?_
    refine x_ib (w := ((26 * q) + k)) T_386_110 (fun h => absurd h.1 (by decide)) (w32_id (by omega) (by omega)) ?_
    refine x_ic T_386_111 ?_
    refine y_aIP hP T_386_112 2362 208 rfl rfl rfl (by omega) (by omega) (fun σ hP => ?_)
    refine x_inc (w := (k + 1)) (ls1 := [some (vR (some 2281)), some (vI q), some (vI u), some (vI g), some (vI r), some (vI (k + 1))]) T_386_113 rfl (w32_id (by omega) (by omega)) rfl ?_
    refine x_goto T_386_116 ?_
    exact hgo σ hP
theorem m_start (hP : PM σ0 P S σ) (hq : 0 ≤ q ∧ q < 8) : CL fb d 386 [vR (some 2281), vI q, vI u, vI g, vI r] σ (rV σ0 (gBg P q u g r) S) := by
  have h90 : ∀ σ : hM, PM σ0 (rW (gBg0 P q u g r) 2327 (8 * q) (List.replicate 8 (-1))) S σ → WP fb d 386 90 [some (vR (some 2281)), some (vI q), some (vI u), some (vI g), some (vI r), some (vI 8)] [] σ (rV σ0 (gBg P q u g r) S) := fun σ hP => by
    have hv := m_start_v (fb := fb) (d := d) (σ0 := σ0) (P := rW (gBg0 P q u g r) 2327 (8 * q) (List.replicate 8 (-1))) (S := S) (u := u) (g := g) (r := r) hq (Q := rV σ0 (gBg P q u g r) S) (fun σ hP => ⟨rfl, hP⟩) 26 0 σ (by decide) (by decide) (by rw [rW_rep0]; exact hP)
    refine x_ic T_386_90 ?_
    refine x_si (ls1 := [some (vR (some 2281)), some (vI q), some (vI u), some (vI g), some (vI r), some (vI 0)]) T_386_91 rfl ?_
    exact hv
  have hgo := fun (σ : hM) (hP : PM σ0 (gBg0 P q u g r) S σ) => m_start_o (fb := fb) (d := d) (σ0 := σ0) (P := gBg0 P q u g r) (S := S) (u := u) (g := g) (r := r) hq (Q := rV σ0 (gBg P q u g r) S) h90 8 0 σ (by decide) (by decide) (by rw [rW_rep0]; exact hP)
  refine CL_in mL_386 rfl ?_
  show WP fb _ 386 0 [some (vR (some 2281)), some (vI q), some (vI u), some (vI g), some (vI r), none] [] σ _
  refine x_lr (z := some 2281) T_386_0 rfl ?_
  refine x_gR (z := some 2320) T_386_1 F_17_50 (PM.t hP) (PM.r hP 50 2320 rfl) ?_
  refine x_li (z := q) T_386_4 rfl ?_
  refine x_ic T_386_5 ?_
  refine y_aZP hP T_386_6 rfl 2320 8 rfl rfl rfl (by omega) (by omega) (fun σ hP => ?_)
  refine x_lr (z := some 2281) T_386_7 rfl ?_
  refine x_gR (z := some 2321) T_386_8 F_17_51 (PM.t hP) (PM.r hP 51 2321 rfl) ?_
  refine x_li (z := q) T_386_11 rfl ?_
  refine x_ic T_386_12 ?_
  refine y_aZP hP T_386_13 rfl 2321 8 rfl rfl rfl (by omega) (by omega) (fun σ hP => ?_)
  refine x_lr (z := some 2281) T_386_14 rfl ?_
  refine x_gR (z := some 2322) T_386_15 F_17_52 (PM.t hP) (PM.r hP 52 2322 rfl) ?_
  refine x_li (z := q) T_386_18 rfl ?_
  refine x_li (z := u) T_386_19 rfl ?_
  refine y_aIP hP T_386_20 2322 8 rfl rfl rfl (by omega) (by omega) (fun σ hP => ?_)
  refine x_lr (z := some 2281) T_386_21 rfl ?_
  refine x_gR (z := some 2323) T_386_22 F_17_53 (PM.t hP) (PM.r hP 53 2323 rfl) ?_
  refine x_li (z := q) T_386_25 rfl ?_
  refine x_li (z := g) T_386_26 rfl ?_
  refine y_aIP hP T_386_27 2323 8 rfl rfl rfl (by omega) (by omega) (fun σ hP => ?_)
  refine x_lr (z := some 2281) T_386_28 rfl ?_
  refine x_gR (z := some 2324) T_386_29 F_17_54 (PM.t hP) (PM.r hP 54 2324 rfl) ?_
  refine x_li (z := q) T_386_32 rfl ?_
  refine x_li (z := r) T_386_33 rfl ?_
  refine y_aIP hP T_386_35 2324 8 rfl rfl rfl (by omega) (by omega) (fun σ hP => ?_)
  refine x_lr (z := some 2281) T_386_36 rfl ?_
  refine x_gR (z := some 2325) T_386_37 F_17_55 (PM.t hP) (PM.r hP 55 2325 rfl) ?_
  refine x_ic T_386_40 ?_
  refine x_li (z := q) T_386_42 rfl ?_
  refine x_ib (w := (60 * q)) T_386_43 (fun h => absurd h.1 (by decide)) (w32_id (by omega) (by omega)) ?_
  refine x_ic T_386_44 ?_
  refine y_aIP hP T_386_46 2325 480 rfl rfl rfl (by omega) (by omega) (fun σ hP => ?_)
  refine x_lr (z := some 2281) T_386_47 rfl ?_
  refine x_gR (z := some 2326) T_386_48 F_17_56 (PM.t hP) (PM.r hP 56 2326 rfl) ?_
  refine x_li (z := q) T_386_51 rfl ?_
  refine x_ic T_386_52 ?_
  refine y_aIP hP T_386_53 2326 8 rfl rfl rfl (by omega) (by omega) (fun σ hP => ?_)
  refine x_lr (z := some 2281) T_386_54 rfl ?_
  refine x_gR (z := some 2329) T_386_55 F_17_59 (PM.t hP) (PM.r hP 59 2329 rfl) ?_
  refine x_li (z := q) T_386_58 rfl ?_
  refine x_ic T_386_59 ?_
  refine y_aIP hP T_386_60 2329 8 rfl rfl rfl (by omega) (by omega) (fun σ hP => ?_)
  refine x_ic T_386_61 ?_
  refine x_si (ls1 := [some (vR (some 2281)), some (vI q), some (vI u), some (vI g), some (vI r), some (vI 0)]) T_386_62 rfl ?_
  exact hgo σ hP
theorem cgM_rf : ∀ (m : Nat) (j i : Int) (P : qR), RF mbR (cgM hf o pt m j i P) P
  | 0, _, _, _ => RF_rfl
  | m + 1, j, i, P => RF_tr (cgM_rf m (j + 1) (i + 1) _) (RF_up gMv_rf rfl)
theorem GI_cgM (ho : 0 ≤ o ∧ o < 64) (hpt : 0 ≤ pt ∧ pt < 64) {L : Int} (hh : ∀ i : Int, 0 ≤ i → i < L → 0 ≤ hf i ∧ hf i ≤ 47) : ∀ (m : Nat) (j i : Int) (P : qR), 0 ≤ j → j + m ≤ 6 → 0 ≤ i → i + m ≤ L → GI T U P → GI T U (cgM hf o pt m j i P)
  | 0, _, _, _, _, _, _, _, h => h
  | m + 1, j, i, P, h0, h1, h2, h3, h => GI_cgM ho hpt hh m (j + 1) (i + 1) _ (by omega) (by omega) (by omega) (by omega) (GI_one (f := 2339) (ty := 0) (len := 384) (GI_gMv h (by omega) (by omega)) rfl (hh i h2 (by omega)) rfl rfl rfl rfl rfl rfl rfl rfl rfl (by decide) (by decide))
theorem GI_cg1 (h : GI T U P) (ho : 0 ≤ o ∧ o < 64) (hpt : 0 ≤ pt ∧ pt < 64) : GI T U (cg1 P o pt) := by
  have b1 : 0 ≤ P 2335 o ∧ P 2335 o ≤ 2 := IV.a h.iv 2335 0 64 rfl rfl rfl (by omega) (by omega)
  have b2 : 0 ≤ P 2336 o ∧ P 2336 o ≤ T + 200 := IV.a h.iv 2336 0 64 rfl rfl rfl (by omega) (by omega)
  have b3 : 0 ≤ P 2337 o ∧ P 2337 o ≤ 6 := IV.a h.iv 2337 0 64 rfl rfl rfl (by omega) (by omega)
  have a1 := GI_one (f := 2335) (j := pt) (ty := 0) (len := 64) h rfl b1 rfl rfl rfl rfl rfl rfl rfl rfl rfl (by decide) (by decide)
  have a2 := GI_one (f := 2336) (j := pt) (ty := 0) (len := 64) a1 rfl b2 rfl rfl rfl rfl rfl rfl rfl rfl rfl (by decide) (by decide)
  exact GI_one (f := 2337) (j := pt) (ty := 0) (len := 64) a2 rfl b3 rfl rfl rfl rfl rfl rfl rfl rfl rfl (by decide) (by decide)
theorem cg1_many (hne : ¬ o = pt) : cg1 P o pt 2337 o = P 2337 o := rU_k hne
theorem cg1_rf : RF [2335, 2336, 2337] (cg1 P o pt) P := RF_up (RF_up (RF_up RF_rfl rfl) rfl) rfl
theorem m_cpg_mem (ho : 0 ≤ o ∧ o < 64) (hpt : 0 ≤ pt ∧ pt < 64) (hne : ¬ o = pt) {L : Int} (hL : L ≤ 64) (hS : ∀ i : Int, 0 ≤ i → i < L → S 2351 i = hf i) (hh : ∀ i : Int, 0 ≤ i → i < L → 0 ≤ hf i ∧ hf i ≤ 47) (hn : n ≤ 6) {Q : Option AV → hM → Prop} : ∀ (m : Nat) (j i : Int) (P : qR) (σ : hM), j + m = n → 0 ≤ j → 0 ≤ i → i + m ≤ L → P 2337 o = n → PM σ0 P S σ → GI T U P → (∀ σ : hM, PM σ0 (cgM hf o pt m j i P) S σ → WP fb (d + 1) 387 151 [some (vR (some 2281)), some (vI g), some (vI to), some (vI (i + m)), some (vI k), some (vI o), some (vI pt), some (vI n)] [] σ Q) → WP fb (d + 1) 387 91 [some (vR (some 2281)), some (vI g), some (vI to), some (vI i), some (vI k), some (vI o), some (vI pt), some (vI j)] [] σ Q := by
  intro m
  induction m with
  | zero =>
    intro j i P σ h1 h2 h3 h4 h5 hP hG hQ
    have h1 : j + ((0 : Nat) : Int) = n := h1
    have hj : j = n := by omega
    subst hj
    have hgo := hQ σ hP
    rw [show i + ((0 : Nat) : Int) = i by omega] at hgo
    refine x_li (z := j) T_387_91 rfl ?_
    refine x_lr (z := some 2281) T_387_93 rfl ?_
    refine x_gR (z := some 2337) T_387_94 F_17_67 (PM.t hP) (PM.r hP 67 2337 rfl) ?_
    refine x_li (z := o) T_387_97 rfl ?_
    refine x_alI (z := j) T_387_99 (by decide) (PM.ta hP 2337 0 64 rfl rfl) (by omega) (by omega) (Eq.trans (PM.aP hP 2337 rfl rfl (by omega)) h5) ?_
    refine x_ic2 T_387_100 (fun _ => ?_) (fun h => absurd (show j ≤ j by omega) h)
    exact hgo
  | succ m ih =>
    intro j i P σ h1 h2 h3 h4 h5 hP hG hQ
    have hmv := fun (σ : hM) (hP : PM σ0 P S σ) => m_moveMember (fb := fb) (d := d) (a := 6 * o + j) (b := 6 * pt + j) hP hG.iv (by omega) (by omega)
    have hgo := fun (σ : hM) (hP : PM σ0 (rU (gMv P (6 * o + j) (6 * pt + j)) 2339 (6 * pt + j) (hf i)) S σ) => ih (j + 1) (i + 1) _ σ (by omega) (by omega) (by omega) (by omega) ((rU_f (by decide)).trans ((gMv_rf 2337 o rfl).trans h5)) hP (GI_one (f := 2339) (ty := 0) (len := 384) (GI_gMv hG (by omega) (by omega)) rfl (hh i h3 (by omega)) rfl rfl rfl rfl rfl rfl rfl rfl rfl (by decide) (by decide)) (by
      rw [show i + 1 + (m : Int) = i + ((m + 1 : Nat) : Int) by omega]
      exact hQ)
    have hfi := hS i h3 (by omega)
    refine x_li (z := j) T_387_91 rfl ?_
    refine x_lr (z := some 2281) T_387_93 rfl ?_
    refine x_gR (z := some 2337) T_387_94 F_17_67 (PM.t hP) (PM.r hP 67 2337 rfl) ?_
    refine x_li (z := o) T_387_97 rfl ?_
    refine x_alI (z := n) T_387_99 (by decide) (PM.ta hP 2337 0 64 rfl rfl) (by omega) (by omega) (Eq.trans (PM.aP hP 2337 rfl rfl (by omega)) h5) ?_
    refine x_ic2 T_387_100 (fun h => absurd (show n ≤ j from h) (by omega)) (fun _ => ?_)
    refine x_lr (z := some 2281) T_387_103 rfl ?_
    refine x_ic T_387_104 ?_
    refine x_li (z := o) T_387_106 rfl ?_
    refine x_ib (w := (6 * o)) T_387_108 (fun h => absurd h.1 (by decide)) (w32_id (by omega) (by omega)) ?_
    refine x_li (z := j) T_387_109 rfl ?_
    refine x_ib (w := ((6 * o) + j)) T_387_111 (fun h => absurd h.1 (by decide)) (w32_id (by omega) (by omega)) ?_
    refine x_ic T_387_112 ?_
    refine x_li (z := pt) T_387_114 rfl ?_
    refine x_ib (w := (6 * pt)) T_387_116 (fun h => absurd h.1 (by decide)) (w32_id (by omega) (by omega)) ?_
    refine x_li (z := j) T_387_117 rfl ?_
    refine x_ib (w := ((6 * pt) + j)) T_387_119 (fun h => absurd h.1 (by decide)) (w32_id (by omega) (by omega)) ?_
    refine x_cv3 T_387_120 mN_370 mL_370 (Nat.le_of_ble_eq_true rfl) mO_370 (PM.t hP) (Nat.le_of_ble_eq_true rfl) (hmv σ hP) ?_
    clear hP hmv
    rintro _ σ ⟨rfl, hP⟩
    refine cV ?_
    refine x_lr (z := some 2281) T_387_123 rfl ?_
    refine x_gR (z := some 2339) T_387_124 F_17_69 (PM.t hP) (PM.r hP 69 2339 rfl) ?_
    refine x_ic T_387_127 ?_
    refine x_li (z := pt) T_387_129 rfl ?_
    refine x_ib (w := (6 * pt)) T_387_131 (fun h => absurd h.1 (by decide)) (w32_id (by omega) (by omega)) ?_
    refine x_li (z := j) T_387_132 rfl ?_
    refine x_ib (w := ((6 * pt) + j)) T_387_134 (fun h => absurd h.1 (by decide)) (w32_id (by omega) (by omega)) ?_
    refine x_lr (z := some 2281) T_387_135 rfl ?_
    refine x_gR (z := some 2351) T_387_136 F_17_87 (PM.t hP) (PM.r hP 87 2351 rfl) ?_
    refine x_li (z := i) T_387_139 rfl ?_
    refine x_alI (z := hf i) T_387_140 (by decide) (PM.ta hP 2351 0 64 rfl rfl) (by omega) (by omega) (Eq.trans (PM.aS hP 2351 rfl rfl (by omega)) hfi) ?_
    refine y_aIP hP T_387_141 2339 384 rfl rfl rfl (by omega) (by omega) (fun σ hP => ?_)
    refine x_inc (w := (i + 1)) (ls1 := [some (vR (some 2281)), some (vI g), some (vI to), some (vI (i + 1)), some (vI k), some (vI o), some (vI pt), some (vI j)]) T_387_142 rfl (w32_id (by omega) (by omega)) rfl ?_
    refine x_inc (w := (j + 1)) (ls1 := [some (vR (some 2281)), some (vI g), some (vI to), some (vI (i + 1)), some (vI k), some (vI o), some (vI pt), some (vI (j + 1))]) T_387_145 rfl (w32_id (by omega) (by omega)) rfl ?_
    refine x_goto T_387_148 ?_
    exact hgo σ hP
end MSTART
