/-! A command begins: the whole. -/
theorem T_310_0 : hTab 310 0 = some ((3, 0, 2, []), 1) := rfl
theorem T_310_1 : hTab 310 1 = some ((24, 17, Int.ofNat 113, []), 4) := rfl
theorem T_310_4 : hTab 310 4 = some ((0, 0, 12, []), 6) := rfl
theorem T_310_6 : hTab 310 6 = some ((19, 0, Int.ofNat 19, []), 9) := rfl
theorem T_310_9 : hTab 310 9 = some ((3, 0, 2, []), 10) := rfl
theorem T_310_10 : hTab 310 10 = some ((24, 17, Int.ofNat 114, []), 13) := rfl
theorem T_310_13 : hTab 310 13 = some ((0, 0, 200, []), 16) := rfl
theorem T_310_16 : hTab 310 16 = some ((19, 1, Int.ofNat 22, []), 19) := rfl
theorem T_310_19 : hTab 310 19 = some ((0, 0, 20, []), 21) := rfl
theorem T_310_21 : hTab 310 21 = some ((33, 1, 0, []), 22) := rfl
theorem T_310_22 : hTab 310 22 = some ((3, 0, 2, []), 23) := rfl
theorem T_310_23 : hTab 310 23 = some ((6, 0, 0, []), 24) := rfl
theorem T_310_24 : hTab 310 24 = some ((24, 17, Int.ofNat 114, []), 27) := rfl
theorem T_310_27 : hTab 310 27 = some ((0, 0, 1, []), 28) := rfl
theorem T_310_28 : hTab 310 28 = some ((10, 0, 0, []), 29) := rfl
theorem T_310_29 : hTab 310 29 = some ((25, 17, Int.ofNat 114, []), 32) := rfl
theorem T_310_32 : hTab 310 32 = some ((3, 0, 2, []), 33) := rfl
theorem T_310_33 : hTab 310 33 = some ((6, 0, 0, []), 34) := rfl
theorem T_310_34 : hTab 310 34 = some ((24, 17, Int.ofNat 113, []), 37) := rfl
theorem T_310_37 : hTab 310 37 = some ((0, 0, 1, []), 38) := rfl
theorem T_310_38 : hTab 310 38 = some ((10, 0, 0, []), 39) := rfl
theorem T_310_39 : hTab 310 39 = some ((25, 17, Int.ofNat 113, []), 42) := rfl
theorem T_310_42 : hTab 310 42 = some ((3, 0, 2, []), 43) := rfl
theorem T_310_43 : hTab 310 43 = some ((24, 17, Int.ofNat 108, []), 46) := rfl
theorem T_310_46 : hTab 310 46 = some ((3, 0, 2, []), 47) := rfl
theorem T_310_47 : hTab 310 47 = some ((24, 17, Int.ofNat 113, []), 50) := rfl
theorem T_310_50 : hTab 310 50 = some ((0, 0, 0, []), 51) := rfl
theorem T_310_51 : hTab 310 51 = some ((27, 0, 0, []), 52) := rfl
theorem T_310_52 : hTab 310 52 = some ((3, 0, 2, []), 53) := rfl
theorem T_310_53 : hTab 310 53 = some ((24, 17, Int.ofNat 107, []), 56) := rfl
theorem T_310_56 : hTab 310 56 = some ((3, 0, 2, []), 57) := rfl
theorem T_310_57 : hTab 310 57 = some ((24, 17, Int.ofNat 113, []), 60) := rfl
theorem T_310_60 : hTab 310 60 = some ((0, 0, 0, []), 61) := rfl
theorem T_310_61 : hTab 310 61 = some ((27, 0, 0, []), 62) := rfl
theorem T_310_62 : hTab 310 62 = some ((0, 0, 1, []), 63) := rfl
theorem T_310_63 : hTab 310 63 = some ((4, 3, 0, []), 64) := rfl
theorem T_310_64 : hTab 310 64 = some ((0, 0, 0, []), 65) := rfl
theorem T_310_65 : hTab 310 65 = some ((4, 4, 0, []), 67) := rfl
theorem T_310_248 : hTab 310 248 = some ((3, 3, 0, []), 249) := rfl
theorem T_310_249 : hTab 310 249 = some ((18, 1, Int.ofNat 265, []), 252) := rfl
theorem T_310_252 : hTab 310 252 = some ((3, 0, 2, []), 253) := rfl
theorem T_310_253 : hTab 310 253 = some ((6, 0, 0, []), 254) := rfl
theorem T_310_254 : hTab 310 254 = some ((24, 17, Int.ofNat 113, []), 257) := rfl
theorem T_310_257 : hTab 310 257 = some ((0, 0, 1, []), 258) := rfl
theorem T_310_258 : hTab 310 258 = some ((10, 1, 0, []), 259) := rfl
theorem T_310_259 : hTab 310 259 = some ((25, 17, Int.ofNat 113, []), 262) := rfl
theorem T_310_262 : hTab 310 262 = some ((0, 0, 18, []), 264) := rfl
theorem T_310_264 : hTab 310 264 = some ((33, 1, 0, []), 265) := rfl
theorem T_310_265 : hTab 310 265 = some ((0, 0, 0, []), 266) := rfl
theorem T_310_266 : hTab 310 266 = some ((33, 1, 0, []), 267) := rfl
theorem F_17_114 : (hFd 17 114).2.2.1 = 0 := rfl
abbrev BG (T U : Int) (σ0 : hM) (P S : qR) (n c : Int) (tx : List Int) (fs : List Fr) : Option AV → hM → Prop := fun r σ' => ∃ S2 : qR, r = some (vI (bgE n c tx)) ∧ PM σ0 P S2 σ' ∧ IV true T U S2 ∧ SX fmR fmN S S2 ∧ S2 2281 114 = bgC n c ∧ (bgE n c tx = 0 → S2 2281 113 = n + 1 ∧ FST S2 ((0, tx, 0, 0, []) :: fs)) ∧ (¬ bgE n c tx = 0 → S2 2281 113 = n ∧ FST S2 fs)
section MBEG2
variable {fb : Bool} {d : Nat} {σ0 σ : hM} {P Q R S S0 S1 S2 : qR} {T U s w g u p k e t z o n N v dp b w0 ex c i : Int} {l L vs vs0 tx src : List Int} {h : List Ch} {fs : List Fr} {f fr : Fr} {l5 l6 : Option AV}
theorem byt_lnB {t : List Int} (h : byt t) : byt (lnB t w) := byt_seg (fun i a b => h _ (by
  have e : 0 ≤ ((lnW t).getD w.toNat (0, 0)).1 := by
    have := spW_ok (z := (t.length : Int)) (f := lg t) t.length 0 (by decide) (by omega)
    by_cases q : w.toNat < (lnW t).length
    · exact (this.1 w.toNat q).1
    · have e : (lnW t).getD w.toNat (0, 0) = (0, 0) := by
        rw [List.getD_eq_getElem?_getD, List.getElem?_eq_none (by omega)]
        rfl
      rw [e]
      decide
  omega))
theorem byt_arg : ∀ {fs : List Fr}, FST S fs → byt (argL (arOf fs) k)
  | [], _ => byt_nil
  | f :: r, h => by
    unfold arOf
    split
    · exact byt_lnB h.1.2.1.2.1
    · exact byt_arg h.2
theorem byt_var {x : Int} (hI : IV false T U P) (hp : 0 ≤ p ∧ p < 8) (hx : 0 ≤ x ∧ x < 26) : byt (varL P p x) := by
  have bn : 0 ≤ P 2362 (26 * p + x) ∧ P 2362 (26 * p + x) ≤ 20 := IV.a hI 2362 0 208 rfl rfl rfl (by omega) (by omega)
  exact byt_seg (fun i a b => IV.a hI 2361 0 4160 rfl rfl rfl (by omega) (by omega))
theorem byt_sing (h : 0 ≤ b ∧ b ≤ 255) : byt [b] := byt_cons h byt_nil
theorem byt_exI (hI : IV false T U P) (hp : 0 ≤ p ∧ p < 8) (hF : FST S fs) (hs : byt src) : ∀ (m : Nat) (k : Int), 0 ≤ k → byt (exI P p (arOf fs) src ex m k)
  | 0, _, _ => byt_nil
  | m + 1, k, hk => by
    unfold exI
    split
    · exact byt_nil
    · split
      · exact byt_app (byt_arg hF) (byt_exI hI hp hF hs m (k + 2) (by omega))
      · split
        · rename_i q
          exact byt_app (byt_var hI hp (by omega)) (byt_exI hI hp hF hs m (k + 2) (by omega))
        · exact byt_app (byt_sing (hs k hk)) (byt_exI hI hp hF hs m _ (by split <;> omega))
def bg0 (S : qR) (n c : Int) : qR := rU (rU (rU (rU S 2281 114 (c + 1)) 2281 113 (n + 1)) 2367 (n + 1) 0) 2366 (n + 1) 0
theorem FX_bg0 (h : FX S i f) (hi : i ≠ n + 1) : FX (bg0 S n c) i f := by
  have e1 : ∀ (g : Nat) (j : Int), g ≠ 2281 → g ≠ 2367 → g ≠ 2366 → bg0 S n c g j = S g j := fun g j a b e => by
    unfold bg0
    rw [rU_f e, rU_f b, rU_f a, rU_f a]
  have e2 : bg0 S n c 2367 i = S 2367 i := by
    unfold bg0
    rw [rU_f (by decide), rU_k hi, rU_f (by decide), rU_f (by decide)]
  have e3 : bg0 S n c 2366 i = S 2366 i := by
    unfold bg0
    rw [rU_k hi, rU_f (by decide), rU_f (by decide), rU_f (by decide)]
  obtain ⟨a1, ⟨a2, a3, a4, a5⟩, a6, a7, a8⟩ := h
  refine ⟨e2.trans a1, ⟨a2, a3, e3.trans a4, fun j b1 b2 b3 => (e1 _ _ (by decide) (by decide) (by decide)).trans (a5 j b1 b2 b3)⟩, fun q => (e1 _ _ (by decide) (by decide) (by decide)).trans (a6 q), fun q => (e1 _ _ (by decide) (by decide) (by decide)).trans (a7 q), fun q => ⟨(e1 _ _ (by decide) (by decide) (by decide)).trans (a8 q).1, (a8 q).2.1, fun j b1 b2 => (e1 _ _ (by decide) (by decide) (by decide)).trans ((a8 q).2.2 j b1 b2)⟩⟩
theorem FST_bg0 : ∀ {fs : List Fr}, FST S fs → (fs.length : Int) ≤ n → FST (bg0 S n c) fs
  | [], _, _ => trivial
  | f :: r, h, hd => by
    have hd : ((r.length + 1 : Nat) : Int) ≤ n := hd
    exact ⟨FX_bg0 h.1 (by omega), FST_bg0 h.2 (by omega)⟩
theorem FX_n {v : Int} (h : FX S i f) : FX (rU S 2281 v e) i f := by
  obtain ⟨a1, ⟨a2, a3, a4, a5⟩, a6, a7, a8⟩ := h
  exact ⟨(rU_f (by decide)).trans a1, ⟨a2, a3, (rU_f (by decide)).trans a4, fun j b1 b2 b3 => (rU_f (by decide)).trans (a5 j b1 b2 b3)⟩, fun q => (rU_f (by decide)).trans (a6 q), fun q => (rU_f (by decide)).trans (a7 q), fun q => ⟨(rU_f (by decide)).trans (a8 q).1, (a8 q).2.1, fun j b1 b2 => (rU_f (by decide)).trans ((a8 q).2.2 j b1 b2)⟩⟩
theorem FST_n {v : Int} : ∀ {fs : List Fr}, FST S fs → FST (rU S 2281 v e) fs
  | [], _ => trivial
  | f :: r, h => ⟨FX_n h.1, FST_n h.2⟩
theorem m_begin2 (hP : PM σ0 P S σ) (hI : IV false T U P) (hJ : IV true T U S) (hp : 0 ≤ p ∧ p < 8) (hex : ex = 0 ∨ ex = 1) (hS : SRC S src) (hF : FST S fs) (hn : (fs.length : Int) = n) (hn12 : n ≤ 12) (hdp : S 2281 113 = n) (hc : S 2281 114 = c) (hc0 : 0 ≤ c ∧ c ≤ 200) : CL fb (d + 2) 310 [vR (some 2281), vI p, vI ex] σ (BG T U σ0 P S n c (exL P p (arOf fs) ex src) fs) := by
  have hn0 : 0 ≤ n := by omega
  have refuse : n = 12 ∨ c = 200 → BG T U σ0 P S n c (exL P p (arOf fs) ex src) fs = fun r σ' => ∃ S2 : qR, r = some (vI 20) ∧ PM σ0 P S2 σ' ∧ IV true T U S2 ∧ SX fmR fmN S S2 ∧ S2 2281 114 = c ∧ ((20 : Int) = 0 → S2 2281 113 = n + 1 ∧ FST S2 ((0, exL P p (arOf fs) ex src, 0, 0, []) :: fs)) ∧ (¬ (20 : Int) = 0 → S2 2281 113 = n ∧ FST S2 fs) := fun q => by
    have e1 : bgE n c (exL P p (arOf fs) ex src) = 20 := if_pos q
    have e2 : bgC n c = c := if_pos q
    unfold BG
    rw [e1, e2]
  by_cases q1 : n = 12
  · rw [refuse (Or.inl q1)]
    refine CL_in mL_310 rfl ?_
    show WP fb _ 310 0 [some (vR (some 2281)), some (vI p), some (vI ex), none, none, none, none] [] σ _
    refine x_lr (z := some 2281) T_310_0 rfl ?_
    refine x_gI (z := n) T_310_1 (Or.inl F_17_113) (PM.t hP) (Eq.trans (PM.nS hP 2281 113 113 rfl rfl rfl) hdp) ?_
    refine x_ic T_310_4 ?_
    refine x_ic2 T_310_6 (fun _ => ?_) (fun h => absurd (show n = 12 by omega) h)
    refine x_ic T_310_19 ?_
    refine x_ri T_310_21 ?_
    exact ⟨S, rfl, hP, hJ, SX_rfl, hc, fun q => absurd q (by decide), fun _ => ⟨hdp, hF⟩⟩
  by_cases q2 : c = 200
  · rw [refuse (Or.inr q2)]
    refine CL_in mL_310 rfl ?_
    show WP fb _ 310 0 [some (vR (some 2281)), some (vI p), some (vI ex), none, none, none, none] [] σ _
    refine x_lr (z := some 2281) T_310_0 rfl ?_
    refine x_gI (z := n) T_310_1 (Or.inl F_17_113) (PM.t hP) (Eq.trans (PM.nS hP 2281 113 113 rfl rfl rfl) hdp) ?_
    refine x_ic T_310_4 ?_
    refine x_ic2 T_310_6 (fun h => absurd (show n = 12 from h) (by omega)) (fun _ => ?_)
    refine x_lr (z := some 2281) T_310_9 rfl ?_
    refine x_gI (z := c) T_310_10 (Or.inl F_17_114) (PM.t hP) (Eq.trans (PM.nS hP 2281 114 114 rfl rfl rfl) hc) ?_
    refine x_ic T_310_13 ?_
    refine x_ic2 T_310_16 (fun h => absurd (show ¬ c = 200 from h) (by omega)) (fun _ => ?_)
    refine x_ic T_310_19 ?_
    refine x_ri T_310_21 ?_
    exact ⟨S, rfl, hP, hJ, SX_rfl, hc, fun q => absurd q (by decide), fun _ => ⟨hdp, hF⟩⟩
  have hno : ¬ (n = 12 ∨ c = 200) := fun q => q.elim q1 q2
  have e2 : bgC n c = c + 1 := if_neg hno
  have hJ0 : IV true T U (bg0 S n c) := (((hJ.uN 114 114 rfl (by show 0 ≤ c + 1 ∧ c + 1 ≤ 200; omega)).uN 113 113 rfl (by show 0 ≤ n + 1 ∧ n + 1 ≤ 12; omega)).uA 2367 rfl (by show (0 : Int) ≤ 0 ∧ (0 : Int) ≤ 3; decide)).uA 2366 rfl (by show (0 : Int) ≤ 0 ∧ (0 : Int) ≤ 100; decide)
  have hS0 : SRC (bg0 S n c) src := by
    have e1 : ∀ j, bg0 S n c 2364 j = S 2364 j := fun j => by
      unfold bg0
      rw [rU_f (by decide), rU_f (by decide), rU_f (by decide), rU_f (by decide)]
    have e3 : bg0 S n c 2281 105 = S 2281 105 := by
      unfold bg0
      rw [rU_f (by decide), rU_f (by decide), rU_k (by decide), rU_k (by decide)]
    exact ⟨e3.trans hS.1, hS.2.1, hS.2.2.1, fun j a b => (e1 j).trans (hS.2.2.2 j a b)⟩
  have hF0 : FST (bg0 S n c) fs := FST_bg0 hF (by omega)
  have hd0 : bg0 S n c 2281 113 = n + 1 := by
    unfold bg0
    rw [rU_f (by decide), rU_f (by decide), rU_s]
  have hc1 : bg0 S n c 2281 114 = c + 1 := by
    unfold bg0
    rw [rU_f (by decide), rU_f (by decide), rU_k (by decide), rU_s]
  have hX0 : TX (bg0 S n c) (n + 1) [] := ⟨rU_s, fun j a b => absurd b (by show ¬ j < ((0 : Nat) : Int); omega)⟩
  have hk0 : bg0 S n c 2367 (n + 1) = 0 := by
    unfold bg0
    rw [rU_f (by decide), rU_s]
  have hSX : SX fmR fmN S (bg0 S n c) := SX_up (SX_up (SX_un (SX_un SX_rfl rfl) rfl) rfl rfl) rfl rfl
  have hbt := byt_exI (ex := ex) hI hp hF hS.2.2.1 src.length 0 (by decide)
  have e0 : exI P p (arOf fs) src ex src.length 0 = exL P p (arOf fs) ex src := rfl
  have h248 : ∀ (σ : hM) (S2 : qR) (y : Int) (l5 l6 : Option AV), PM σ0 P S2 σ → IV true T U S2 → TX S2 (n + 1) ([] ++ exI P p (arOf fs) src ex src.length 0) → FRM (n + 1) (bg0 S n c) S2 → WP fb (d + 2) 310 248 [some (vR (some 2281)), some (vI p), some (vI ex), some (vI (ftS ([] ++ exI P p (arOf fs) src ex src.length 0))), some (vI y), l5, l6] [] σ (BG T U σ0 P S n c (exL P p (arOf fs) ex src) fs) := fun σ S2 y l5 l6 hP2 hJ2 hX2 hF2 => by
    rw [e0] at hbt hX2 ⊢
    rw [List.nil_append] at hX2 ⊢
    obtain ⟨tx, htx⟩ : ∃ tx, exL P p (arOf fs) ex src = tx := ⟨_, rfl⟩
    rw [htx] at hbt hX2 ⊢
    have hFs := hF0.frm hF2 (by omega)
    have hd2 : S2 2281 113 = n + 1 := hF2.deep.trans hd0
    have hSX2 : SX fmR fmN S S2 := SX_tr hSX (hF2.1.mono (fun _ => elem_sub (by decide)) (fun _ => elem_sub (by decide)))
    have hc2 : S2 2281 114 = c + 1 := (hF2.1.1 _ rfl).trans hc1
    unfold ftS
    by_cases q : tx.length ≤ 100
    · rw [if_pos q]
      have e1 : bgE n c tx = 0 := by
        unfold bgE
        rw [if_neg hno, if_neg (by omega)]
      rw [show BG T U σ0 P S n c tx fs = fun r σ' => ∃ S2 : qR, r = some (vI 0) ∧ PM σ0 P S2 σ' ∧ IV true T U S2 ∧ SX fmR fmN S S2 ∧ S2 2281 114 = c + 1 ∧ ((0 : Int) = 0 → S2 2281 113 = n + 1 ∧ FST S2 ((0, tx, 0, 0, []) :: fs)) ∧ (¬ (0 : Int) = 0 → S2 2281 113 = n ∧ FST S2 fs) by unfold BG; rw [e1, e2]]
      have hkk : S2 2367 (n + 1) = 0 := (hF2.1.2 _ _ rfl rfl).trans hk0
      have hFX : FX S2 ((fs.length : Int) + 1) (0, tx, 0, 0, []) := by
        rw [hn]
        exact ⟨hkk, ⟨q, hbt, hX2⟩, fun c => absurd c (show ¬ (2 : Int) ≤ 0 by decide), fun c => c.elim (fun c => absurd c.1 (show ¬ (0 : Int) = 2 by decide)) (fun c => absurd c.1 (show ¬ (0 : Int) = 3 by decide)), fun c => absurd c (show ¬ (0 : Int) = 3 by decide)⟩
      have hP := hP2
      refine x_li (z := 1) T_310_248 rfl ?_
      refine x_if T_310_249 (fun _ => ?_) (fun h => absurd (show ¬ (1 : Int) = 0 by decide) h)
      refine x_ic T_310_265 ?_
      refine x_ri T_310_266 ?_
      exact ⟨S2, rfl, hP, hJ2, hSX2, hc2, fun _ => ⟨hd2, hFX, hFs⟩, fun c => absurd rfl c⟩
    · rw [if_neg q]
      have e1 : bgE n c tx = 18 := by
        unfold bgE
        rw [if_neg hno, if_pos (by omega)]
      rw [show BG T U σ0 P S n c tx fs = fun r σ' => ∃ S2 : qR, r = some (vI 18) ∧ PM σ0 P S2 σ' ∧ IV true T U S2 ∧ SX fmR fmN S S2 ∧ S2 2281 114 = c + 1 ∧ ((18 : Int) = 0 → S2 2281 113 = n + 1 ∧ FST S2 ((0, tx, 0, 0, []) :: fs)) ∧ (¬ (18 : Int) = 0 → S2 2281 113 = n ∧ FST S2 fs) by unfold BG; rw [e1, e2]]
      have hP := hP2
      have hJ3 : IV true T U (rU S2 2281 113 n) := hJ2.uN 113 113 rfl (by show 0 ≤ n ∧ n ≤ 12; omega)
      refine x_li (z := 0) T_310_248 rfl ?_
      refine x_if T_310_249 (fun h => absurd (show ¬ (0 : Int) = 0 from h) (by decide)) (fun _ => ?_)
      refine x_lr (z := some 2281) T_310_252 rfl ?_
      refine x_dupR T_310_253 ?_
      refine x_gI (z := (n + 1)) T_310_254 (Or.inl F_17_113) (PM.t hP) (Eq.trans (PM.nS hP 2281 113 113 rfl rfl rfl) hd2) ?_
      refine x_ic T_310_257 ?_
      refine x_ib (w := n) T_310_258 (fun h => absurd h.1 (by decide)) (w32_e (by omega) (by omega) (by omega)) ?_
      refine y_pIS hP T_310_259 F_17_113 113 rfl rfl (fun σ hP => ?_)
      refine x_ic T_310_262 ?_
      refine x_ri T_310_264 ?_
      exact ⟨_, rfl, hP, hJ3, SX_un hSX2 rfl, (rU_k (by decide)).trans hc2, fun c => absurd c (by decide), fun _ => ⟨rU_s, FST_n hFs⟩⟩
  have hgo := fun (σ : hM) (hP : PM σ0 P (bg0 S n c) σ) => m_bg_loop (fb := fb) (d := d) (S := bg0 S n c) (ex := ex) (dp := n + 1) hI hp hex hS0 hF0 (by omega) (by omega) hd0 src.length 0 [] (bg0 S n c) σ none none (by omega) (by decide) hP hJ0 hX0 FRM_rfl h248
  rw [show ftS [] = 1 from rfl] at hgo
  unfold bg0 at hgo
  refine CL_in mL_310 rfl ?_
  show WP fb _ 310 0 [some (vR (some 2281)), some (vI p), some (vI ex), none, none, none, none] [] σ _
  refine x_lr (z := some 2281) T_310_0 rfl ?_
  refine x_gI (z := n) T_310_1 (Or.inl F_17_113) (PM.t hP) (Eq.trans (PM.nS hP 2281 113 113 rfl rfl rfl) hdp) ?_
  refine x_ic T_310_4 ?_
  refine x_ic2 T_310_6 (fun h => absurd (show n = 12 from h) (by omega)) (fun _ => ?_)
  refine x_lr (z := some 2281) T_310_9 rfl ?_
  refine x_gI (z := c) T_310_10 (Or.inl F_17_114) (PM.t hP) (Eq.trans (PM.nS hP 2281 114 114 rfl rfl rfl) hc) ?_
  refine x_ic T_310_13 ?_
  refine x_ic2 T_310_16 (fun _ => ?_) (fun h => absurd (show ¬ c = 200 by omega) h)
  refine x_lr (z := some 2281) T_310_22 rfl ?_
  refine x_dupR T_310_23 ?_
  refine x_gI (z := c) T_310_24 (Or.inl F_17_114) (PM.t hP) (Eq.trans (PM.nS hP 2281 114 114 rfl rfl rfl) hc) ?_
  refine x_ic T_310_27 ?_
  refine x_ib (w := (c + 1)) T_310_28 (fun h => absurd h.1 (by decide)) (w32_id (by omega) (by omega)) ?_
  refine y_pIS hP T_310_29 F_17_114 114 rfl rfl (fun σ hP => ?_)
  refine x_lr (z := some 2281) T_310_32 rfl ?_
  refine x_dupR T_310_33 ?_
  refine x_gI (z := n) T_310_34 (Or.inl F_17_113) (PM.t hP) (Eq.trans (Eq.trans (PM.nS hP 2281 113 113 rfl rfl rfl) (rU_k (by decide))) hdp) ?_
  refine x_ic T_310_37 ?_
  refine x_ib (w := (n + 1)) T_310_38 (fun h => absurd h.1 (by decide)) (w32_id (by omega) (by omega)) ?_
  refine y_pIS hP T_310_39 F_17_113 113 rfl rfl (fun σ hP => ?_)
  refine x_lr (z := some 2281) T_310_42 rfl ?_
  refine x_gR (z := some 2367) T_310_43 F_17_108 (PM.t hP) (PM.r hP 108 2367 rfl) ?_
  refine x_lr (z := some 2281) T_310_46 rfl ?_
  refine x_gI (z := (n + 1)) T_310_47 (Or.inl F_17_113) (PM.t hP) (Eq.trans (PM.nS hP 2281 113 113 rfl rfl rfl) rU_s) ?_
  refine x_ic T_310_50 ?_
  refine y_aIS hP T_310_51 2367 13 rfl rfl rfl (by omega) (by omega) (fun σ hP => ?_)
  refine x_lr (z := some 2281) T_310_52 rfl ?_
  refine x_gR (z := some 2366) T_310_53 F_17_107 (PM.t hP) (PM.r hP 107 2366 rfl) ?_
  refine x_lr (z := some 2281) T_310_56 rfl ?_
  refine x_gI (z := (n + 1)) T_310_57 (Or.inl F_17_113) (PM.t hP) (Eq.trans (PM.nS hP 2281 113 113 rfl rfl rfl) (Eq.trans (rU_f (Nat.ne_of_beq_eq_false rfl)) rU_s)) ?_
  refine x_ic T_310_60 ?_
  refine y_aIS hP T_310_61 2366 13 rfl rfl rfl (by omega) (by omega) (fun σ hP => ?_)
  refine x_ic T_310_62 ?_
  refine x_si (ls1 := [some (vR (some 2281)), some (vI p), some (vI ex), some (vI 1), none, none, none]) T_310_63 rfl ?_
  refine x_ic T_310_64 ?_
  refine x_si (ls1 := [some (vR (some 2281)), some (vI p), some (vI ex), some (vI 1), some (vI 0), none, none]) T_310_65 rfl ?_
  exact hgo σ hP
end MBEG2
