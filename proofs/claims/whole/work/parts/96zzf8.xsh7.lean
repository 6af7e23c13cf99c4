/-! The class's shell: what goes on, or ends. -/
theorem T_101_0 : hTab 101 0 = some ((3, 0, 2, []), 1) := rfl
theorem T_101_1 : hTab 101 1 = some ((24, 15, Int.ofNat 2, []), 4) := rfl
theorem T_101_4 : hTab 101 4 = some ((18, 5, Int.ofNat 16, []), 7) := rfl
theorem T_101_7 : hTab 101 7 = some ((3, 0, 2, []), 8) := rfl
theorem T_101_8 : hTab 101 8 = some ((24, 15, Int.ofNat 2, []), 11) := rfl
theorem T_101_11 : hTab 101 11 = some ((0, 0, 12, []), 13) := rfl
theorem T_101_13 : hTab 101 13 = some ((19, 5, Int.ofNat 22, []), 16) := rfl
theorem T_101_22 : hTab 101 22 = some ((3, 0, 2, []), 23) := rfl
theorem T_101_23 : hTab 101 23 = some ((24, 15, Int.ofNat 0, []), 26) := rfl
theorem T_101_26 : hTab 101 26 = some ((3, 0, 2, []), 27) := rfl
theorem T_101_27 : hTab 101 27 = some ((24, 15, Int.ofNat 2, []), 30) := rfl
theorem T_101_30 : hTab 101 30 = some ((0, 0, 1, []), 31) := rfl
theorem T_101_31 : hTab 101 31 = some ((10, 1, 0, []), 32) := rfl
theorem T_101_32 : hTab 101 32 = some ((26, 10, 0, []), 33) := rfl
theorem T_101_33 : hTab 101 33 = some ((4, 2, 2, []), 34) := rfl
theorem T_101_34 : hTab 101 34 = some ((3, 2, 2, []), 35) := rfl
theorem T_101_35 : hTab 101 35 = some ((24, 16, Int.ofNat 8, []), 38) := rfl
theorem T_101_38 : hTab 101 38 = some ((18, 0, Int.ofNat 51, []), 41) := rfl
theorem T_101_41 : hTab 101 41 = some ((3, 2, 2, []), 42) := rfl
theorem T_101_42 : hTab 101 42 = some ((0, 0, 0, []), 43) := rfl
theorem T_101_43 : hTab 101 43 = some ((25, 16, Int.ofNat 8, []), 46) := rfl
theorem T_101_46 : hTab 101 46 = some ((3, 0, 2, []), 47) := rfl
theorem T_101_47 : hTab 101 47 = some ((0, 0, 0, []), 48) := rfl
theorem T_101_48 : hTab 101 48 = some ((25, 15, Int.ofNat 4, []), 51) := rfl
theorem T_101_51 : hTab 101 51 = some ((3, 2, 2, []), 52) := rfl
theorem T_101_52 : hTab 101 52 = some ((24, 16, Int.ofNat 5, []), 55) := rfl
theorem T_101_55 : hTab 101 55 = some ((0, 0, 23, []), 57) := rfl
theorem T_101_57 : hTab 101 57 = some ((19, 0, Int.ofNat 74, []), 60) := rfl
theorem T_101_60 : hTab 101 60 = some ((3, 0, 2, []), 61) := rfl
theorem T_101_61 : hTab 101 61 = some ((24, 15, Int.ofNat 4, []), 64) := rfl
theorem T_101_64 : hTab 101 64 = some ((18, 1, Int.ofNat 74, []), 67) := rfl
theorem T_101_67 : hTab 101 67 = some ((3, 1, 2, []), 68) := rfl
theorem T_101_68 : hTab 101 68 = some ((24, 6, Int.ofNat 6, []), 71) := rfl
theorem T_101_71 : hTab 101 71 = some ((18, 0, Int.ofNat 78, []), 74) := rfl
theorem T_101_74 : hTab 101 74 = some ((0, 0, 1, []), 75) := rfl
theorem T_101_75 : hTab 101 75 = some ((22, 0, Int.ofNat 79, []), 78) := rfl
theorem T_101_79 : hTab 101 79 = some ((4, 3, 0, []), 80) := rfl
theorem T_101_80 : hTab 101 80 = some ((3, 3, 0, []), 81) := rfl
theorem T_101_81 : hTab 101 81 = some ((18, 1, Int.ofNat 111, []), 84) := rfl
theorem T_101_111 : hTab 101 111 = some ((3, 3, 0, []), 112) := rfl
theorem T_101_112 : hTab 101 112 = some ((18, 1, Int.ofNat 129, []), 115) := rfl
theorem T_101_129 : hTab 101 129 = some ((3, 3, 0, []), 130) := rfl
theorem T_101_130 : hTab 101 130 = some ((18, 0, Int.ofNat 143, []), 133) := rfl
theorem T_101_133 : hTab 101 133 = some ((3, 0, 2, []), 134) := rfl
theorem T_101_134 : hTab 101 134 = some ((6, 0, 0, []), 135) := rfl
theorem T_101_135 : hTab 101 135 = some ((24, 15, Int.ofNat 2, []), 138) := rfl
theorem T_101_138 : hTab 101 138 = some ((0, 0, 1, []), 139) := rfl
theorem T_101_139 : hTab 101 139 = some ((10, 1, 0, []), 140) := rfl
theorem T_101_140 : hTab 101 140 = some ((25, 15, Int.ofNat 2, []), 143) := rfl
theorem T_101_143 : hTab 101 143 = some ((33, 0, 0, []), 144) := rfl
theorem mN_101 : hmN 101 = 2 := by decide +kernel
theorem mL_101 : hmL 101 = 4 := by decide +kernel
theorem mK_101 : hmK 101 = 1 := by decide +kernel
theorem mO_101 : hmO 101 = 15 := by decide +kernel
section XSH7
variable {fb : Bool} {d b k n : Nat} {σ0 σ : hM} {W W1 W2 V V0 V2 V3 P : qR} {R : rR} {i j x z v s e p D pl N w nx bd E u K T U a c ex mu dy kd pos : Int} {l sc lo wd src L L2 t : List Int} {y : Nat} {ar : Option (List Int)} {fs : List Fr} {fr : Fr}
/-- where the class stands with its frames -/
def XST (K T U : Int) (W : qR) (R : rR) (P : qR) (fs : List Fr) (c e w : Int) : Prop := XW K T U W R P ∧ FSX W fs ∧ SHL W (fs.length : Int) c e w
/-- a line waits -/
def WTX (W : qR) (ex : Int) (L : List Int) : Prop := W 2187 2486 = ex ∧ BY W 2189 100 L
/-- the first look at what was done -/
def FRZ (k : Nat) (W V : qR) : Prop := ∀ (x : Nat) (j : Int), ¬ (x = k ∧ j = 2520) → ¬ (x = 2187 ∧ j = 2484) → V x j = W x j
theorem FRZ.fsl (h : FRZ k W V) : FSL k W V := fun x j a b _ _ => h x j (fun c => a ⟨c.1, by omega⟩) (fun c => b ⟨c.1, by omega⟩)
theorem res_51 (hP : PX σ0 W R σ) (hD : W 2187 2482 = D) (hDr : 1 ≤ D ∧ D ≤ 12) (hk : cmO (D - 1) = k) (hmu : W k 2520 = mu) (he : W 2187 2484 = e) {pr : Nat} {Q : Option AV → hM → Prop} (hQ : ∀ (σ : hM) (V0 : qR), PX σ0 V0 R σ → FRZ k W V0 → V0 k 2520 = 0 → V0 2187 2484 = (if mu = 0 then e else 0) → WP fb (d + 4) 101 51 [some (vR (some 2187)), some (vR (some pr)), some (vR (some k)), none] [] σ Q) : CL fb (d + 4) 101 [vR (some 2187), vR (some pr)] σ Q := by
  have ho := cmO_o (i := D - 1) ⟨by omega, by omega⟩
  have hra := rA_cmd (i := D - 1) ⟨by omega, by omega⟩
  have hkr := cmO_rng (i := D - 1) ⟨by omega, by omega⟩
  rw [hk] at ho hra hkr
  by_cases q : mu = 0
  · have hgo := hQ σ W hP (fun _ _ _ _ => rfl) (hmu.trans q) (by rw [if_pos q]; exact he)
    refine CL_in mL_101 rfl ?_
    show WP fb _ 101 0 [some (vR (some 2187)), some (vR (some pr)), none, none] [] σ _
    refine x_lr (z := some 2187) T_101_0 rfl ?_
    refine x_gI (z := D) T_101_1 (Or.inl F_15_2) (hP.o xo_2187) (Eq.trans (hP.gi xo_2187 (key := 2482) rfl) hD) ?_
    refine x_if T_101_4 (fun h => absurd (show D ≤ 0 from h) (by omega)) (fun _ => ?_)
    refine x_lr (z := some 2187) T_101_7 rfl ?_
    refine x_gI (z := D) T_101_8 (Or.inl F_15_2) (hP.o xo_2187) (Eq.trans (hP.gi xo_2187 (key := 2482) rfl) hD) ?_
    refine x_ic T_101_11 ?_
    refine x_ic2 T_101_13 (fun _ => ?_) (fun h => absurd (show D ≤ 12 by omega) h)
    refine x_lr (z := some 2187) T_101_22 rfl ?_
    refine x_gR (z := some 2188) T_101_23 F_15_0 (hP.o xo_2187) (hP.rc xo_2187 rfl rfl) ?_
    refine x_lr (z := some 2187) T_101_26 rfl ?_
    refine x_gI (z := D) T_101_27 (Or.inl F_15_2) (hP.o xo_2187) (Eq.trans (hP.gi xo_2187 (key := 2482) rfl) hD) ?_
    refine x_ic T_101_30 ?_
    refine x_ib (w := (D - 1)) T_101_31 (fun h => absurd h.1 (by decide)) (w32_id (by omega) (by omega)) ?_
    refine x_alR (z := some k) T_101_32 (hP.ta xa_2188) (by decide) (by omega) (by omega) (hP.arc xa_2188 rfl hra) ?_
    refine x_sr (ls1 := [some (vR (some 2187)), some (vR (some pr)), some (vR (some k)), none]) T_101_33 rfl ?_
    refine x_lr (z := some k) T_101_34 rfl ?_
    refine x_gI (z := mu) T_101_35 (Or.inr (Or.inl F_16_8)) (hP.o ho) (Eq.trans (hP.gi ho (key := 2520) rfl) hmu) ?_
    refine x_if T_101_38 (fun _ => ?_) (fun h => absurd (show mu = 0 by exact q) h)
    exact hgo
  · have hgo := fun (σ : hM) (hP : PX σ0 (rU (rU W k 2520 0) 2187 2484 0) R σ) => hQ σ _ hP (fun x j a b => by rw [show rU (rU W k 2520 0) 2187 2484 0 x j = rU W k 2520 0 x j from if_neg b]; exact if_neg a) ((rU_f (by omega)).trans rU_s) (by rw [if_neg q]; exact rU_s)
    refine CL_in mL_101 rfl ?_
    show WP fb _ 101 0 [some (vR (some 2187)), some (vR (some pr)), none, none] [] σ _
    refine x_lr (z := some 2187) T_101_0 rfl ?_
    refine x_gI (z := D) T_101_1 (Or.inl F_15_2) (hP.o xo_2187) (Eq.trans (hP.gi xo_2187 (key := 2482) rfl) hD) ?_
    refine x_if T_101_4 (fun h => absurd (show D ≤ 0 from h) (by omega)) (fun _ => ?_)
    refine x_lr (z := some 2187) T_101_7 rfl ?_
    refine x_gI (z := D) T_101_8 (Or.inl F_15_2) (hP.o xo_2187) (Eq.trans (hP.gi xo_2187 (key := 2482) rfl) hD) ?_
    refine x_ic T_101_11 ?_
    refine x_ic2 T_101_13 (fun _ => ?_) (fun h => absurd (show D ≤ 12 by omega) h)
    refine x_lr (z := some 2187) T_101_22 rfl ?_
    refine x_gR (z := some 2188) T_101_23 F_15_0 (hP.o xo_2187) (hP.rc xo_2187 rfl rfl) ?_
    refine x_lr (z := some 2187) T_101_26 rfl ?_
    refine x_gI (z := D) T_101_27 (Or.inl F_15_2) (hP.o xo_2187) (Eq.trans (hP.gi xo_2187 (key := 2482) rfl) hD) ?_
    refine x_ic T_101_30 ?_
    refine x_ib (w := (D - 1)) T_101_31 (fun h => absurd h.1 (by decide)) (w32_id (by omega) (by omega)) ?_
    refine x_alR (z := some k) T_101_32 (hP.ta xa_2188) (by decide) (by omega) (by omega) (hP.arc xa_2188 rfl hra) ?_
    refine x_sr (ls1 := [some (vR (some 2187)), some (vR (some pr)), some (vR (some k)), none]) T_101_33 rfl ?_
    refine x_lr (z := some k) T_101_34 rfl ?_
    refine x_gI (z := mu) T_101_35 (Or.inr (Or.inl F_16_8)) (hP.o ho) (Eq.trans (hP.gi ho (key := 2520) rfl) hmu) ?_
    refine x_if T_101_38 (fun h => absurd (show mu = 0 from h) (by exact q)) (fun _ => ?_)
    refine x_lr (z := some k) T_101_41 rfl ?_
    refine x_ic T_101_42 ?_
    refine z_pZ hP T_101_43 F_16_8 rfl ho (key := 2520) rfl (fun σ hP => ?_)
    refine x_lr (z := some 2187) T_101_46 rfl ?_
    refine x_ic T_101_47 ?_
    refine z_pI hP T_101_48 F_15_4 xo_2187 (key := 2484) rfl (fun σ hP => ?_)
    exact hgo σ hP
theorem res_129 (hP : PX σ0 V R σ) (hD : V 2187 2482 = D) (hDr : 1 ≤ D ∧ D ≤ 12) {pr : Nat} {Q : Option AV → hM → Prop} (hQ : ∀ σ : hM, PX σ0 (rU V 2187 2482 (D - 1)) R σ → Q none σ) : WP fb (d + 4) 101 129 [some (vR (some 2187)), some (vR (some pr)), some (vR (some k)), some (vI 1)] [] σ Q := by
  refine x_li (z := 1) T_101_129 rfl ?_
  refine x_if T_101_130 (fun h => absurd (show (1 : Int) = 0 from h) (by decide)) (fun _ => ?_)
  refine x_lr (z := some 2187) T_101_133 rfl ?_
  refine x_dupR T_101_134 ?_
  refine x_gI (z := D) T_101_135 (Or.inl F_15_2) (hP.o xo_2187) (Eq.trans (hP.gi xo_2187 (key := 2482) rfl) hD) ?_
  refine x_ic T_101_138 ?_
  refine x_ib (w := (D - 1)) T_101_139 (fun h => absurd h.1 (by decide)) (w32_id (by omega) (by omega)) ?_
  refine z_pI hP T_101_140 F_15_2 xo_2187 (key := 2482) rfl (fun σ hP => ?_)
  refine x_rv T_101_143 ?_
  exact hQ σ hP
/-- what is left when a frame has ended -/
theorem XST.pop (h : XST K T U W R P (fr :: fs) c v 0) (hk : cmO (fs.length : Int) = k) (hn : fs.length < 12) (hF : FSL k W V) (h0 : V 2187 2484 = e) (h5 : V 2187 2485 = 0) : XST K T U (rU V 2187 2482 (fs.length : Int)) R P fs c e 0 := by
  obtain ⟨hX, ⟨-, hFS⟩, h1, h2, h3, h4⟩ := h
  have hkr := cmO_rng (i := (fs.length : Int)) ⟨by omega, by omega⟩
  have ek : cmO (fs.length : Int) = 2191 + 7 * fs.length := by unfold cmO; omega
  rw [hk] at hkr ek
  refine ⟨(hX.fsl hF ⟨by omega, by omega⟩).hiw (fun x j hx => rU_f (by omega)) (fun _ _ _ => rfl), hFS.eqv (fun x j a b => (rU_f (by omega)).trans (hF _ _ (fun c => by omega) (fun c => by omega) (fun c => by omega) (fun c => by omega))), rU_s, ?_, (rU_j (by decide)).trans h0, (rU_j (by decide)).trans h5⟩
  exact (rU_j (by decide)).trans ((hF _ _ (fun c => by omega) (fun c => by omega) (fun c => by omega) (fun c => by omega)).trans h2)
theorem XST.dyg (h : XST K T U W R P fs c e w) (hp : 0 ≤ p ∧ p < 8) : W (prO p) 2198 = P 2321 p := h.1.1.1.2.2.2.2 p hp.1 hp.2
theorem x_resE (hP : PX σ0 W R σ) (hS : XST K T U W R P (fr :: fs) c e 0) (hn : fs.length < 12) (hp : 0 ≤ p ∧ p < 8) (hmu : W (cmO (fs.length : Int)) 2520 = mu) (hf1 : 1 ≤ fr.1) (hen : fr.1 = 1 ∨ (¬ e = 0 ∧ mu = 0) ∨ ¬ P 2321 p = 0) : CL fb (d + 4) 101 [vR (some 2187), vR (some (prO p))] σ (fun r σ' => r = none ∧ ∃ V, PX σ0 V R σ' ∧ XST K T U V R P fs c (if mu = 0 then e else 0) 0) := by
  have hD : W 2187 2482 = (fs.length : Int) + 1 := hS.2.2.1
  have he : W 2187 2484 = e := hS.2.2.2.2.1
  have hw : W 2187 2485 = 0 := hS.2.2.2.2.2
  have hdy := hS.dyg hp
  have hkd := hS.2.1.1.2.2.1
  have hf3 := hS.2.1.1.1
  have hpo := prO_o hp
  have hpr2 := prO_rng hp
  have ho := cmO_o (i := (fs.length : Int)) ⟨by omega, by omega⟩
  have hkr := cmO_rng (i := (fs.length : Int)) ⟨by omega, by omega⟩
  obtain ⟨k, hk⟩ : ∃ q, cmO (fs.length : Int) = q := ⟨_, rfl⟩
  rw [hk] at hmu hkd ho hkr
  obtain ⟨dy, hdy2⟩ : ∃ q, P 2321 p = q := ⟨_, rfl⟩
  rw [hdy2] at hdy hen
  obtain ⟨pr, hpr⟩ : ∃ q, prO p = q := ⟨_, rfl⟩
  rw [hpr] at hdy hpo hpr2 ⊢
  obtain ⟨kd, hkd2⟩ : ∃ q : Int, (if fr.1 = 0 then (0 : Int) else if fr.1 = 1 then 23 else if fr.1 = 2 then 24 else 25) = q := ⟨_, rfl⟩
  have hk23 : kd = 23 ↔ fr.1 = 1 := by
    rw [← hkd2, if_neg (by omega)]
    split
    · exact ⟨fun _ => by assumption, fun _ => rfl⟩
    · split
      · exact ⟨fun c => absurd c (by decide), fun c => by omega⟩
      · exact ⟨fun c => absurd c (by decide), fun c => by omega⟩
  rw [hkd2] at hkd
  refine res_51 (D := (fs.length : Int) + 1) hP hD ⟨by omega, by omega⟩ (by rw [show (fs.length : Int) + 1 - 1 = (fs.length : Int) by omega]; exact hk) hmu he (fun σ V0 hP hF hm0 he0 => ?_)
  have hkd0 : V0 k 2517 = kd := (hF _ _ (fun c => by omega) (fun c => by omega)).trans hkd
  have hdy0 : V0 pr 2198 = dy := (hF _ _ (fun c => by omega) (fun c => by omega)).trans hdy
  have hD0 : V0 2187 2482 = (fs.length : Int) + 1 := (hF _ _ (fun c => by omega) (fun c => by omega)).trans hD
  have hw0 : V0 2187 2485 = 0 := (hF _ _ (fun c => by omega) (fun c => by omega)).trans hw
  have hpop := hS.pop (V := V0) hk hn hF.fsl he0 hw0
  obtain ⟨e2, he2⟩ : ∃ q, (if mu = 0 then e else 0) = q := ⟨_, rfl⟩
  rw [he2] at he0 hpop ⊢
  have h129 := fun (σ : hM) (hP : PX σ0 V0 R σ) => res_129 (fb := fb) (d := d) (k := k) (pr := pr) (Q := fun r σ' => r = none ∧ ∃ V, PX σ0 V R σ' ∧ XST K T U V R P fs c e2 0) hP hD0 ⟨by omega, by omega⟩ (fun σ hP => by
    rw [show (fs.length : Int) + 1 - 1 = (fs.length : Int) by omega] at hP
    exact ⟨rfl, _, hP, hpop⟩)
  by_cases q1 : kd = 23
  · skip
    refine x_lr (z := some k) T_101_51 rfl ?_
    refine x_gI (z := kd) T_101_52 (Or.inl F_16_5) (hP.o ho) (Eq.trans (hP.gi ho (key := 2517) rfl) hkd0) ?_
    refine x_ic T_101_55 ?_
    refine x_ic2 T_101_57 (fun _ => ?_) (fun h => absurd (show kd = 23 by exact q1) h)
    refine x_ic T_101_74 ?_
    refine x_goto T_101_75 ?_
    refine x_si (ls1 := [some (vR (some 2187)), some (vR (some pr)), some (vR (some k)), some (vI 1)]) T_101_79 rfl ?_
    refine x_li (z := 1) T_101_80 rfl ?_
    refine x_if T_101_81 (fun _ => ?_) (fun h => absurd (show ¬ (1 : Int) = 0 by decide) h)
    refine x_li (z := 1) T_101_111 rfl ?_
    refine x_if T_101_112 (fun _ => ?_) (fun h => absurd (show ¬ (1 : Int) = 0 by decide) h)
    exact h129 σ hP
  by_cases q2 : e2 = 0
  rotate_left
  · skip
    refine x_lr (z := some k) T_101_51 rfl ?_
    refine x_gI (z := kd) T_101_52 (Or.inl F_16_5) (hP.o ho) (Eq.trans (hP.gi ho (key := 2517) rfl) hkd0) ?_
    refine x_ic T_101_55 ?_
    refine x_ic2 T_101_57 (fun h => absurd (show kd = 23 from h) (by exact q1)) (fun _ => ?_)
    refine x_lr (z := some 2187) T_101_60 rfl ?_
    refine x_gI (z := e2) T_101_61 (Or.inl F_15_4) (hP.o xo_2187) (Eq.trans (hP.gi xo_2187 (key := 2484) rfl) he0) ?_
    refine x_if T_101_64 (fun _ => ?_) (fun h => absurd (show ¬ e2 = 0 by exact q2) h)
    refine x_ic T_101_74 ?_
    refine x_goto T_101_75 ?_
    refine x_si (ls1 := [some (vR (some 2187)), some (vR (some pr)), some (vR (some k)), some (vI 1)]) T_101_79 rfl ?_
    refine x_li (z := 1) T_101_80 rfl ?_
    refine x_if T_101_81 (fun _ => ?_) (fun h => absurd (show ¬ (1 : Int) = 0 by decide) h)
    refine x_li (z := 1) T_101_111 rfl ?_
    refine x_if T_101_112 (fun _ => ?_) (fun h => absurd (show ¬ (1 : Int) = 0 by decide) h)
    exact h129 σ hP
  have q3 : ¬ dy = 0 := by
    rcases hen with c1 | c1 | c1
    · exact absurd (hk23.mpr c1) q1
    · rw [if_pos c1.2] at he2
      exact absurd (he2.trans q2) c1.1
    · exact c1
  refine x_lr (z := some k) T_101_51 rfl ?_
  refine x_gI (z := kd) T_101_52 (Or.inl F_16_5) (hP.o ho) (Eq.trans (hP.gi ho (key := 2517) rfl) hkd0) ?_
  refine x_ic T_101_55 ?_
  refine x_ic2 T_101_57 (fun h => absurd (show kd = 23 from h) (by exact q1)) (fun _ => ?_)
  refine x_lr (z := some 2187) T_101_60 rfl ?_
  refine x_gI (z := e2) T_101_61 (Or.inl F_15_4) (hP.o xo_2187) (Eq.trans (hP.gi xo_2187 (key := 2484) rfl) he0) ?_
  refine x_if T_101_64 (fun h => absurd (show ¬ e2 = 0 from h) (by exact fun h => h q2)) (fun _ => ?_)
  refine x_lr (z := some pr) T_101_67 rfl ?_
  refine x_gI (z := dy) T_101_68 (Or.inr (Or.inl F_6_6)) (hP.o hpo) (Eq.trans (hP.gi hpo (key := 2198) rfl) hdy0) ?_
  refine x_if T_101_71 (fun h => absurd (show dy = 0 from h) (by exact q3)) (fun _ => ?_)
  refine x_ic T_101_74 ?_
  refine x_goto T_101_75 ?_
  refine x_si (ls1 := [some (vR (some 2187)), some (vR (some pr)), some (vR (some k)), some (vI 1)]) T_101_79 rfl ?_
  refine x_li (z := 1) T_101_80 rfl ?_
  refine x_if T_101_81 (fun _ => ?_) (fun h => absurd (show ¬ (1 : Int) = 0 by decide) h)
  refine x_li (z := 1) T_101_111 rfl ?_
  refine x_if T_101_112 (fun _ => ?_) (fun h => absurd (show ¬ (1 : Int) = 0 by decide) h)
  exact h129 σ hP
end XSH7
