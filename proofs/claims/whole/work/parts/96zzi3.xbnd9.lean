/-! The class's place: from its beginning. -/
theorem T_174_0 : hTab 174 0 = some ((3, 1, 2, []), 1) := rfl
theorem T_174_1 : hTab 174 1 = some ((3, 0, 2, []), 2) := rfl
theorem T_174_2 : hTab 174 2 = some ((24, 14, Int.ofNat 3, []), 5) := rfl
theorem T_174_5 : hTab 174 5 = some ((24, 5, Int.ofNat 0, []), 8) := rfl
theorem T_174_8 : hTab 174 8 = some ((3, 0, 2, []), 9) := rfl
theorem T_174_9 : hTab 174 9 = some ((24, 14, Int.ofNat 3, []), 12) := rfl
theorem T_174_12 : hTab 174 12 = some ((24, 5, Int.ofNat 2, []), 15) := rfl
theorem T_174_15 : hTab 174 15 = some ((31, 129, 0, []), 18) := rfl
theorem T_174_18 : hTab 174 18 = some ((4, 3, 2, []), 19) := rfl
theorem T_174_19 : hTab 174 19 = some ((3, 0, 2, []), 20) := rfl
theorem T_174_20 : hTab 174 20 = some ((24, 14, Int.ofNat 2, []), 23) := rfl
theorem T_174_23 : hTab 174 23 = some ((24, 5, Int.ofNat 4, []), 26) := rfl
theorem T_174_26 : hTab 174 26 = some ((3, 3, 2, []), 27) := rfl
theorem T_174_27 : hTab 174 27 = some ((21, 1, Int.ofNat 34, []), 30) := rfl
theorem T_174_30 : hTab 174 30 = some ((2, 0, 0, []), 31) := rfl
theorem T_174_31 : hTab 174 31 = some ((22, 0, Int.ofNat 41, []), 34) := rfl
theorem T_174_34 : hTab 174 34 = some ((3, 0, 2, []), 35) := rfl
theorem T_174_35 : hTab 174 35 = some ((24, 14, Int.ofNat 2, []), 38) := rfl
theorem T_174_38 : hTab 174 38 = some ((24, 5, Int.ofNat 4, []), 41) := rfl
theorem T_174_41 : hTab 174 41 = some ((4, 4, 2, []), 43) := rfl
theorem T_174_43 : hTab 174 43 = some ((3, 2, 0, []), 44) := rfl
theorem T_174_44 : hTab 174 44 = some ((0, 0, 3, []), 45) := rfl
theorem T_174_45 : hTab 174 45 = some ((10, 5, 0, []), 46) := rfl
theorem T_174_46 : hTab 174 46 = some ((18, 0, Int.ofNat 53, []), 49) := rfl
theorem T_174_49 : hTab 174 49 = some ((0, 0, 1, []), 50) := rfl
theorem T_174_50 : hTab 174 50 = some ((22, 0, Int.ofNat 54, []), 53) := rfl
theorem T_174_53 : hTab 174 53 = some ((0, 0, 0, []), 54) := rfl
theorem T_174_54 : hTab 174 54 = some ((4, 5, 0, []), 56) := rfl
theorem T_174_56 : hTab 174 56 = some ((3, 0, 2, []), 57) := rfl
theorem T_174_57 : hTab 174 57 = some ((3, 1, 2, []), 58) := rfl
theorem T_174_58 : hTab 174 58 = some ((3, 3, 2, []), 59) := rfl
theorem T_174_59 : hTab 174 59 = some ((3, 4, 2, []), 61) := rfl
theorem T_174_61 : hTab 174 61 = some ((3, 2, 0, []), 62) := rfl
theorem T_174_62 : hTab 174 62 = some ((31, 175, 0, []), 65) := rfl
theorem T_174_65 : hTab 174 65 = some ((4, 6, 0, []), 67) := rfl
theorem T_174_67 : hTab 174 67 = some ((3, 6, 0, []), 69) := rfl
theorem T_174_69 : hTab 174 69 = some ((18, 1, Int.ofNat 91, []), 72) := rfl
section XBNL
variable {fb : Bool} {d n a0 y ga : Nat} {σ0 σ : hM} {W W0 W1 W2 W3 W5 V P P0 Q Q0 Q3 : qR} {R R0 R1 R2 R3 R5 : rR} {i j k z v s e w f g u p pt pa dr sv K T U t N C F v1 st b0 fs T0 old fr mk d1 d2 : Int} {x : Nw} {ns A B L nws : List Nw} {y1 y2 ys : Option Nat} {c1 c2 ch : Ch} {h h2 : List Ch} {b a c : Bool}
/-- whose members are bound: none's, or a point's -/
def SRQ (W : qR) (R : rR) (P : qR) (fr old : Int) (ys : Option Nat) : Prop := (ys = none ∧ ¬ (0 ≤ fr ∧ ¬ fr = old)) ∨ ∃ y : Nat, ys = some y ∧ (0 ≤ fr ∧ ¬ fr = old) ∧ PTM W R y P fr ∧ 1 ≤ P 2337 fr
theorem pl_56 (hP : PX σ0 W R σ) (hX : XW K T U W R P) (hp : 0 ≤ p ∧ p < 8) (hg : P 2323 p = g) (hT : T + 500 ≤ 2147483000) (h1 : CHX W R 2178 c1) (r1 : chR c1) (h2 : CHX W R 2179 c2) (r2 : chR c2) (hx1 : okC T c1) (hx2 : okC T c2) (hk1 : and32 c1.2.2.2.1 128 = 0 ↔ ¬ c1.2.2.2.1 = 128) (hk2 : and32 c2.2.2.2.1 128 = 0 ↔ ¬ c2.2.2.2.1 = 128) (hNF : N = 4 ↔ ¬ fV b a c = 0) (hold : qPoint P p c2.1 c2.2.2.1 = old) (hy : PT2 R P g old y2) (hS : SRQ W R P c1.2.2.2.2 old ys) : WP fb (d + 10) 174 56 [some (vR (some 2175)), some (vR (some (grO g))), some (vI (fV b a c)), some (vR y2), some (vR ys), some (vI (beV b a)), none, none, none, none] [] σ (XCM σ0 K (T + 56) U W R (cBn2 P p N (bfV b) (bhV b a) (bfV c) c1 c2)) := by
  have hI := hX.1.2.2.2.1.iv
  have hgR : 0 ≤ P 2323 p ∧ P 2323 p ≤ 7 := IV.a hI 2323 0 8 rfl rfl rfl (by omega) (by omega)
  rw [hg] at hgR
  have hg8 : 0 ≤ g ∧ g < 8 := ⟨hgR.1, by omega⟩
  have hpb : 0 ≤ P 2334 g ∧ P 2334 g ≤ 8 := IV.a hI 2334 0 8 rfl rfl rfl (by omega) (by omega)
  have hgr := hX.1.2.2.1.2.1 g hg8.1 hg8.2
  have hgo3 := grO_o hg8
  have ho64 : old < 64 := by
    rcases hy with ⟨q, -⟩ | ⟨k, y, q, q2, -⟩
    · omega
    · omega
  have hfr64 := r1.2.2
  obtain ⟨n2, hn2⟩ : ∃ n2 : Int, (if old < 0 then 1 else P 2337 old) = n2 := ⟨_, rfl⟩
  obtain ⟨n1, hn1⟩ : ∃ n1 : Int, (if 0 ≤ c1.2.2.2.2 ∧ ¬ c1.2.2.2.2 = old then P 2337 c1.2.2.2.2 else 1) = n1 := ⟨_, rfl⟩
  have hn2r : 0 ≤ n2 ∧ n2 ≤ 6 := by
    rw [← hn2]
    split
    · decide
    · exact IV.a hI 2337 0 64 rfl rfl rfl (by omega) (by omega)
  have hn1r : 0 ≤ n1 ∧ n1 ≤ 6 := by
    rw [← hn1]
    split
    · rename_i q
      exact IV.a hI 2337 0 64 rfl rfl rfl (by omega) (by omega)
    · decide
  have hy2f : ∀ y, y2 = some y → tX y = some (Sum.inl 4) ∧ W y 2131 = n2 := fun y e => by
    rcases hy with ⟨-, q⟩ | ⟨k, y9, q1, q2, q3, q4⟩
    · rw [q] at e; cases e
    · rw [q3] at e
      have e := Option.some.inj e
      subst e
      obtain ⟨y0, w0, w1⟩ := PTM_of hgr hg8 hI q2
      have : y0 = y9 := Option.some.inj (w0.symm.trans q4)
      subst this
      refine ⟨w1.1, w1.2.2.2.1.trans ?_⟩
      rw [← hn2, if_neg (by omega), q1]
  have hysf : ∀ y, ys = some y → tX y = some (Sum.inl 4) ∧ W y 2131 = n1 := fun y e => by
    rcases hS with ⟨q, -⟩ | ⟨y9, q1, q2, q3, -⟩
    · rw [q] at e; cases e
    · rw [q1] at e
      have e := Option.some.inj e
      subst e
      exact ⟨q3.1, q3.2.2.2.1.trans (by rw [← hn1, if_pos q2])⟩
  obtain ⟨d1, hd1⟩ : ∃ q : Int, (if c1.2.2.2.1 = 128 then 1 else 0) = q := ⟨_, rfl⟩
  obtain ⟨d2, hd2⟩ : ∃ q : Int, (if c2.2.2.2.1 = 128 then 1 else 0) = q := ⟨_, rfl⟩
  obtain ⟨hb1, hb2, hb3, hb4, hb5⟩ := bhV_01 (b := b) (a := a) (c := c)
  have hpr := x_placeRefusal (fb := fb) (d := d + 9) (F := fV b a c) (v3 := fV b a false) (y1 := ys) (y2 := y2) hP hgo3 hgr.1 (h1.2.2.2.1.trans hd1) (h2.2.2.2.1.trans hd2) fV_and.1 hy2f hn2r hysf hn1r
  have hy2n : y2 = none ↔ old < 0 := by
    rcases hy with ⟨q1, q2⟩ | ⟨k, y9, q1, q2, q3, q4⟩
    · exact ⟨fun _ => q1, fun _ => q2⟩
    · exact ⟨fun c => (by rw [q3] at c; cases c), fun c => absurd c (by omega)⟩
  have hysn : ys = none ↔ ¬ (0 ≤ c1.2.2.2.2 ∧ ¬ c1.2.2.2.2 = old) := by
    rcases hS with ⟨q1, q2⟩ | ⟨y9, q1, q2, q3, -⟩
    · exact ⟨fun _ => q2, fun _ => q1⟩
    · exact ⟨fun c => (by rw [q1] at c; cases c), fun c => absurd q2 c⟩
  have e16 : (¬ d1 = d2 ∨ (d1 = 0 ∧ ¬ fV b a c = 0)) ↔ (¬ (¬ and32 c1.2.2.2.1 128 = 0 ∧ ¬ and32 c2.2.2.2.1 128 = 0) ∧ (¬ and32 c1.2.2.2.1 128 = 0 ∨ ¬ and32 c2.2.2.2.1 128 = 0 ∨ N = 4)) := by
    rw [hk1, hk2, hNF, ← hd1, ← hd2]
    by_cases q1 : c1.2.2.2.1 = 128 <;> by_cases q2 : c2.2.2.2.1 = 128 <;> simp [q1, q2]
  have hbm : bnMany P c1.2.2.2.2 old = n1 := hn1
  have eS : (if fV b a false = 0 then 0 else if y2 = none then 1 else n2) + (if ys = none then 1 else n1) = bnSum P c1.2.2.2.2 old (bfV b) (bhV b a) := by
    unfold bnSum
    rw [hbm, hn2]
    have z1 : (if ys = none then 1 else n1) = n1 := by
      by_cases q : ys = none
      · rw [if_pos q, ← hn1, if_neg (hysn.mp q)]
      · rw [if_neg q]
    have z2 : (if y2 = none then 1 else n2) = n2 := by
      by_cases q : y2 = none
      · rw [if_pos q, ← hn2, if_pos (hy2n.mp q)]
      · rw [if_neg q]
    rw [z1, z2]
    rcases beV_01 (b := b) (a := a) with q | q
    · rw [if_pos (hb4.mpr q), if_neg (fun c => by have := hb3.mp c; omega)]
      omega
    · rw [if_neg (fun c => by have := hb4.mp c; omega), if_pos (hb3.mpr q)]
      omega
  rw [eS] at hpr
  have e20 : (6 < bnSum P c1.2.2.2.2 old (bfV b) (bhV b a) ∨ (y2 = none ∧ 8 ≤ P 2334 g)) ↔ (6 < bnSum P c1.2.2.2.2 old (bfV b) (bhV b a) ∨ (old < 0 ∧ P 2334 (P 2323 p) = 8)) := by
    rw [hy2n, hg]
    constructor
    · intro c
      rcases c with c | c
      · exact Or.inl c
      · exact Or.inr ⟨c.1, by omega⟩
    · intro c
      rcases c with c | c
      · exact Or.inl c
      · exact Or.inr ⟨c.1, by omega⟩
  unfold cBn2 cBn3
  rw [hold]
  have herr := fun (e : Int) => WP.mono (pl_96 (fb := fb) (d := d) (F := fV b a c) (y1 := ys) (y2 := y2) (b0 := beV b a) (e := e) hP hX hg8 (by omega) h1 r1 h2 r2) (Q := XCM σ0 K (T + 56) U W R (e, P, [c1, c2])) (fun r σ1 hr => by
    obtain ⟨rfl, W9, R9, g1, g2, g3⟩ := hr
    exact ⟨rfl, W9, R9, g1, XW.mono g2 (by omega), g3⟩)
  by_cases q16 : ¬ d1 = d2 ∨ (d1 = 0 ∧ ¬ fV b a c = 0)
  · rw [if_pos (e16.mp q16)]
    rw [if_pos q16] at hpr
    have hgo := herr 16
    obtain ⟨ga, hga⟩ : ∃ q, grO g = q := ⟨_, rfl⟩
    simp only [hga] at hpr hgo hgo3 ⊢
    obtain ⟨F, hF⟩ : ∃ F, fV b a c = F := ⟨_, rfl⟩
    obtain ⟨B, hB⟩ : ∃ B, beV b a = B := ⟨_, rfl⟩
    simp only [hF, hB] at hpr hgo ⊢
    refine x_lr (z := some 2175) T_174_56 rfl ?_
    refine x_lr (z := some ga) T_174_57 rfl ?_
    refine x_lr (z := y2) T_174_58 rfl ?_
    refine x_lr (z := ys) T_174_59 rfl ?_
    refine x_li (z := F) T_174_61 rfl ?_
    refine x_cv5 T_174_62 mN_175 mL_175 (Nat.le_of_ble_eq_true rfl) mO_175 (hP.o xo_2175) (Nat.le_of_ble_eq_true rfl) (hpr) ?_
    rintro _ σ ⟨rfl, rfl⟩
    refine cI ?_
    refine x_si (ls1 := [some (vR (some 2175)), some (vR (some ga)), some (vI F), some (vR y2), some (vR ys), some (vI B), some (vI 16), none, none, none]) T_174_65 rfl ?_
    refine x_li (z := 16) T_174_67 rfl ?_
    refine x_if T_174_69 (fun _ => ?_) (fun h => absurd (show ¬ (16 : Int) = 0 by decide) h)
    refine x_li (z := 16) T_174_91 rfl ?_
    refine x_if T_174_93 (fun h => absurd (show (16 : Int) = 0 from h) (by decide)) (fun _ => ?_)
    exact hgo
  · rw [if_neg (fun c => q16 (e16.mpr c))]
    rw [if_neg q16] at hpr
    by_cases q20 : 6 < bnSum P c1.2.2.2.2 old (bfV b) (bhV b a) ∨ (y2 = none ∧ 8 ≤ P 2334 g)
    · rw [if_pos (e20.mp q20)]
      rw [if_pos q20] at hpr
      have hgo := herr 20
      obtain ⟨ga, hga⟩ : ∃ q, grO g = q := ⟨_, rfl⟩
      simp only [hga] at hpr hgo hgo3 ⊢
      obtain ⟨F, hF⟩ : ∃ F, fV b a c = F := ⟨_, rfl⟩
      obtain ⟨B, hB⟩ : ∃ B, beV b a = B := ⟨_, rfl⟩
      simp only [hF, hB] at hpr hgo ⊢
      refine x_lr (z := some 2175) T_174_56 rfl ?_
      refine x_lr (z := some ga) T_174_57 rfl ?_
      refine x_lr (z := y2) T_174_58 rfl ?_
      refine x_lr (z := ys) T_174_59 rfl ?_
      refine x_li (z := F) T_174_61 rfl ?_
      refine x_cv5 T_174_62 mN_175 mL_175 (Nat.le_of_ble_eq_true rfl) mO_175 (hP.o xo_2175) (Nat.le_of_ble_eq_true rfl) (hpr) ?_
      rintro _ σ ⟨rfl, rfl⟩
      refine cI ?_
      refine x_si (ls1 := [some (vR (some 2175)), some (vR (some ga)), some (vI F), some (vR y2), some (vR ys), some (vI B), some (vI 20), none, none, none]) T_174_65 rfl ?_
      refine x_li (z := 20) T_174_67 rfl ?_
      refine x_if T_174_69 (fun _ => ?_) (fun h => absurd (show ¬ (20 : Int) = 0 by decide) h)
      refine x_li (z := 20) T_174_91 rfl ?_
      refine x_if T_174_93 (fun h => absurd (show (20 : Int) = 0 from h) (by decide)) (fun _ => ?_)
      exact hgo
    · rw [if_neg (fun c => q20 (e20.mpr c))]
      rw [if_neg q20] at hpr
      have hsum : bnSum P c1.2.2.2.2 old (bfV b) (bhV b a) ≤ 6 := by
        have : ¬ 6 < bnSum P c1.2.2.2.2 old (bfV b) (bhV b a) := fun c => q20 (Or.inl c)
        omega
      have hnew : old < 0 → P 2334 g < 8 := fun c => by
        have : ¬ 8 ≤ P 2334 g := fun c2 => q20 (Or.inr ⟨hy2n.mpr c, c2⟩)
        omega
      rw [hg]
      rcases hS with ⟨rfl, q2⟩ | ⟨y9, rfl, q2, q3, q5⟩
      · rw [if_neg q2]
        have hgo := WP.mono (pl_72s (fb := fb) (d := d) (c := c) hP hX hg8 (by omega) h1 r1 h2 r2 hx1 hx2 hsum (by rw [hbm, ← hn1, if_neg q2]) ho64 hy hnew) (fun r σ1 hr => XCM.base (T0 := T + 56) FCM_rfl (by omega) hr)
        obtain ⟨ga, hga⟩ : ∃ q, grO g = q := ⟨_, rfl⟩
        simp only [hga] at hpr hgo hgo3 ⊢
        obtain ⟨F, hF⟩ : ∃ F, fV b a c = F := ⟨_, rfl⟩
        obtain ⟨B, hB⟩ : ∃ B, beV b a = B := ⟨_, rfl⟩
        simp only [hF, hB] at hpr hgo ⊢
        refine x_lr (z := some 2175) T_174_56 rfl ?_
        refine x_lr (z := some ga) T_174_57 rfl ?_
        refine x_lr (z := y2) T_174_58 rfl ?_
        refine x_lr (z := none) T_174_59 rfl ?_
        refine x_li (z := F) T_174_61 rfl ?_
        refine x_cv5 T_174_62 mN_175 mL_175 (Nat.le_of_ble_eq_true rfl) mO_175 (hP.o xo_2175) (Nat.le_of_ble_eq_true rfl) (hpr) ?_
        rintro _ σ ⟨rfl, rfl⟩
        refine cI ?_
        refine x_si (ls1 := [some (vR (some 2175)), some (vR (some ga)), some (vI F), some (vR y2), some (vR none), some (vI B), some (vI 0), none, none, none]) T_174_65 rfl ?_
        refine x_li (z := 0) T_174_67 rfl ?_
        refine x_if T_174_69 (fun h => absurd (show ¬ (0 : Int) = 0 from h) (by decide)) (fun _ => ?_)
        exact hgo
      · rw [if_pos q2]
        have hgo := pl_72p (fb := fb) (d := d) (c := c) hP hX hg8 (by omega) h1 r1 h2 r2 hx1 hx2 hsum q2 q3 q5 ho64 hy hnew
        have hyo := q3.1
        unfold kDrop at hgo
        obtain ⟨ga, hga⟩ : ∃ q, grO g = q := ⟨_, rfl⟩
        simp only [hga] at hpr hgo hgo3 ⊢
        obtain ⟨F, hF⟩ : ∃ F, fV b a c = F := ⟨_, rfl⟩
        obtain ⟨B, hB⟩ : ∃ B, beV b a = B := ⟨_, rfl⟩
        simp only [hF, hB] at hpr hgo ⊢
        refine x_lr (z := some 2175) T_174_56 rfl ?_
        refine x_lr (z := some ga) T_174_57 rfl ?_
        refine x_lr (z := y2) T_174_58 rfl ?_
        refine x_lr (z := some y9) T_174_59 rfl ?_
        refine x_li (z := F) T_174_61 rfl ?_
        refine x_cv5 T_174_62 mN_175 mL_175 (Nat.le_of_ble_eq_true rfl) mO_175 (hP.o xo_2175) (Nat.le_of_ble_eq_true rfl) (hpr) ?_
        rintro _ σ ⟨rfl, rfl⟩
        refine cI ?_
        refine x_si (ls1 := [some (vR (some 2175)), some (vR (some ga)), some (vI F), some (vR y2), some (vR (some y9)), some (vI B), some (vI 0), none, none, none]) T_174_65 rfl ?_
        refine x_li (z := 0) T_174_67 rfl ?_
        refine x_if T_174_69 (fun h => absurd (show ¬ (0 : Int) = 0 from h) (by decide)) (fun _ => ?_)
        exact hgo
theorem x_place (hP : PX σ0 W R σ) (hX : XW K T U W R P) (hp : 0 ≤ p ∧ p < 8) (hg : P 2323 p = g) (hT : T + 500 ≤ 2147483000) (h1 : CHX W R 2178 c1) (r1 : chR c1) (h2 : CHX W R 2179 c2) (r2 : chR c2) (hx1 : okC T c1) (hx2 : okC T c2) (hpt : ptV P p c1.2.2.2.2) (hk1 : and32 c1.2.2.2.1 128 = 0 ↔ ¬ c1.2.2.2.1 = 128) (hk2 : and32 c2.2.2.2.1 128 = 0 ↔ ¬ c2.2.2.2.1 = 128) (hNF : N = 4 ↔ ¬ fV b a c = 0) : CL fb (d + 10) 174 [vR (some 2175), vR (some (grO g)), vI (fV b a c)] σ (XCM σ0 K (T + 56) U W R (cBn2 P p N (bfV b) (bhV b a) (bfV c) c1 c2)) := by
  have hI := hX.1.2.2.2.1.iv
  have hgR : 0 ≤ P 2323 p ∧ P 2323 p ≤ 7 := IV.a hI 2323 0 8 rfl rfl rfl (by omega) (by omega)
  rw [hg] at hgR
  have hg8 : 0 ≤ g ∧ g < 8 := ⟨hgR.1, by omega⟩
  have hpb : 0 ≤ P 2334 g ∧ P 2334 g ≤ 8 := IV.a hI 2334 0 8 rfl rfl rfl (by omega) (by omega)
  have hgr := hX.1.2.2.1.2.1 g hg8.1 hg8.2
  have hgo3 := grO_o hg8
  have hpa := x_pointAt (fb := fb) (d := d + 9) (s := c2.1) (path := c2.2.2.1) hP hX.1.2.2.1 hI hp
  have hqr := qPoint_rng (s := c2.1) (path := c2.2.2.1) hI hp
  obtain ⟨old, hold⟩ : ∃ q, qPoint P p c2.1 c2.2.2.1 = q := ⟨_, rfl⟩
  rw [hg, hold] at hpa
  rw [hg, hold] at hqr
  unfold ptV at hpt
  rw [hg] at hpt
  obtain ⟨m1, m2, m3, m4, m5⟩ := id h1
  obtain ⟨z1, z2, z3, z4, z5⟩ := id h2
  obtain ⟨hb1, hb2, hb3, hb4, hb5⟩ := bhV_01 (b := b) (a := a) (c := c)
  -- from the bits on
  have h43 : ∀ (y2 ys : Option Nat), PT2 R P g old y2 → SRQ W R P c1.2.2.2.2 old ys → ∀ σ : hM, PX σ0 W R σ → WP fb (d + 10) 174 43 [some (vR (some 2175)), some (vR (some (grO g))), some (vI (fV b a c)), some (vR y2), some (vR ys), none, none, none, none, none] [] σ (XCM σ0 K (T + 56) U W R (cBn2 P p N (bfV b) (bhV b a) (bfV c) c1 c2)) := fun y2 ys hy hS σ hP => by
    have hgo := pl_56 (fb := fb) (d := d) hP hX hp hg hT h1 r1 h2 r2 hx1 hx2 hk1 hk2 hNF hold hy hS
    obtain ⟨f3, -, -⟩ := fV_and (b := b) (a := a) (c := c)
    obtain ⟨CC, hCC⟩ : ∃ q, cBn2 P p N (bfV b) (bhV b a) (bfV c) c1 c2 = q := ⟨_, rfl⟩
    rw [hCC] at hgo ⊢
    obtain ⟨ga, hga⟩ : ∃ q, grO g = q := ⟨_, rfl⟩
    simp only [hga] at hgo hgo3 ⊢
    obtain ⟨F, hF⟩ : ∃ F, fV b a c = F := ⟨_, rfl⟩
    simp only [hF] at hgo f3 ⊢
    rcases beV_01 (b := b) (a := a) with q | q
    · have q3 := hb4.mpr q
      rw [q] at hgo
      refine x_li (z := F) T_174_43 rfl ?_
      refine x_ic T_174_44 ?_
      refine x_ib (w := (fV b a false)) T_174_45 (fun h => absurd h.1 (by decide)) f3 ?_
      refine x_if T_174_46 (fun _ => ?_) (fun h => absurd (show (fV b a false) = 0 by exact q3) h)
      refine x_ic T_174_53 ?_
      refine x_si (ls1 := [some (vR (some 2175)), some (vR (some ga)), some (vI F), some (vR y2), some (vR ys), some (vI 0), none, none, none, none]) T_174_54 rfl ?_
      exact hgo
    · have q3 : ¬ fV b a false = 0 := fun e => by have := hb4.mp e; omega
      rw [q] at hgo
      refine x_li (z := F) T_174_43 rfl ?_
      refine x_ic T_174_44 ?_
      refine x_ib (w := (fV b a false)) T_174_45 (fun h => absurd h.1 (by decide)) f3 ?_
      refine x_if T_174_46 (fun h => absurd (show (fV b a false) = 0 from h) (by exact q3)) (fun _ => ?_)
      refine x_ic T_174_49 ?_
      refine x_goto T_174_50 ?_
      refine x_si (ls1 := [some (vR (some 2175)), some (vR (some ga)), some (vI F), some (vR y2), some (vR ys), some (vI 1), none, none, none, none]) T_174_54 rfl ?_
      exact hgo
  obtain ⟨CC, hCC⟩ : ∃ q, cBn2 P p N (bfV b) (bhV b a) (bfV c) c1 c2 = q := ⟨_, rfl⟩
  simp only [hCC] at h43 ⊢
  obtain ⟨s, hs⟩ : ∃ q, c2.1 = q := ⟨_, rfl⟩
  obtain ⟨pa, hpa2⟩ : ∃ q, c2.2.2.1 = q := ⟨_, rfl⟩
  rw [hs] at z1
  rw [hpa2] at z3
  rw [hs, hpa2] at hpa
  obtain ⟨F, hF⟩ : ∃ F, fV b a c = F := ⟨_, rfl⟩
  simp only [hF] at h43 ⊢
  obtain ⟨fr, hfre⟩ : ∃ q, c1.2.2.2.2 = q := ⟨_, rfl⟩
  simp only [hfre] at h43 m5 hpt
  -- channel one's point
  have hfp : 0 ≤ fr → ∃ y : Nat, R 2178 2164 = some y ∧ R (grO g + 1) (fr - 8 * g) = some y ∧ PTM W R y P fr ∧ 1 ≤ P 2337 fr ∧ (0 ≤ fr - 8 * g ∧ fr - 8 * g < P 2334 g) := fun h0 => by
    rcases hpt with q | ⟨q1, q2, q3, q4⟩
    · omega
    · obtain ⟨y, hy, hPM⟩ := PTM_of hgr hg8 hI (k := fr - 8 * g) ⟨by omega, by omega⟩
      rw [show 8 * g + (fr - 8 * g) = fr by omega] at hPM
      rw [if_neg (by omega), show fr / 8 = g by omega, show fr % 8 = fr - 8 * g by omega] at m5
      have hPT := hX.1.2.2.2.2.2.2 g (fr - 8 * g) hg8.1 hg8.2 (by omega) (by omega)
      rw [show 8 * g + (fr - 8 * g) = fr by omega] at hPT
      exact ⟨y, m5.trans hy, hy, hPM, hPT, by omega, by omega⟩
  by_cases qo : old < 0
  · rw [if_pos qo] at hpa
    have hy2 : PT2 R P g old none := Or.inl ⟨qo, rfl⟩
    by_cases qf : fr < 0
    · have m5 : R 2178 2164 = none := by rw [m5, if_pos qf]
      have hgo := h43 none none hy2 (Or.inl ⟨rfl, by omega⟩)
      obtain ⟨ga, hga⟩ : ∃ q, grO g = q := ⟨_, rfl⟩
      simp only [hga] at hgo hgo3 hpa ⊢
      refine CL_in mL_174 rfl ?_
      show WP fb _ 174 0 [some (vR (some 2175)), some (vR (some ga)), some (vI F), none, none, none, none, none, none, none] [] σ _
      refine x_lr (z := some ga) T_174_0 rfl ?_
      refine x_lr (z := some 2175) T_174_1 rfl ?_
      refine x_gR (z := some 2179) T_174_2 F_14_3 (hP.o xo_2175) (hP.rc xo_2175 rfl rfl) ?_
      refine x_gI (z := s) T_174_5 (Or.inl F_5_0) (hP.o xo_2179) (Eq.trans (hP.gi xo_2179 (key := 2160) rfl) z1) ?_
      refine x_lr (z := some 2175) T_174_8 rfl ?_
      refine x_gR (z := some 2179) T_174_9 F_14_3 (hP.o xo_2175) (hP.rc xo_2175 rfl rfl) ?_
      refine x_gI (z := pa) T_174_12 (Or.inl F_5_2) (hP.o xo_2179) (Eq.trans (hP.gi xo_2179 (key := 2162) rfl) z3) ?_
      refine x_cv3 T_174_15 mN_129 mL_129 (Nat.le_of_ble_eq_true rfl) mO_129 (hP.o hgo3) (Nat.le_of_ble_eq_true rfl) (hpa) ?_
      rintro _ σ ⟨rfl, rfl⟩
      refine cR ?_
      refine x_sr (ls1 := [some (vR (some 2175)), some (vR (some ga)), some (vI F), some (vR none), none, none, none, none, none, none]) T_174_18 rfl ?_
      refine x_lr (z := some 2175) T_174_19 rfl ?_
      refine x_gR (z := some 2178) T_174_20 F_14_2 (hP.o xo_2175) (hP.rc xo_2175 rfl rfl) ?_
      refine x_gR (z := none) T_174_23 F_5_4 (hP.o xo_2178) (Eq.trans (hP.rm xo_2178 rfl (key := 2164) rfl) m5) ?_
      refine x_lr (z := none) T_174_26 rfl ?_
      refine x_ane T_174_27 (Nat.le_refl _) (Nat.le_refl _) (fun h0 => absurd h0 (by exact fun c => c rfl)) (fun _ => ?_)
      refine x_nu T_174_30 ?_
      refine x_goto T_174_31 ?_
      refine x_sr (ls1 := [some (vR (some 2175)), some (vR (some ga)), some (vI F), some (vR none), some (vR none), none, none, none, none, none]) T_174_41 rfl ?_
      exact hgo σ hP
    · obtain ⟨y9, w1, w2, w3, w4, w5⟩ := hfp (by omega)
      have hgo := h43 none (some y9) hy2 (Or.inr ⟨y9, rfl, ⟨by omega, by omega⟩, w3, w4⟩)
      have hyo := w3.1
      obtain ⟨ga, hga⟩ : ∃ q, grO g = q := ⟨_, rfl⟩
      simp only [hga] at hgo hgo3 hpa ⊢
      refine CL_in mL_174 rfl ?_
      show WP fb _ 174 0 [some (vR (some 2175)), some (vR (some ga)), some (vI F), none, none, none, none, none, none, none] [] σ _
      refine x_lr (z := some ga) T_174_0 rfl ?_
      refine x_lr (z := some 2175) T_174_1 rfl ?_
      refine x_gR (z := some 2179) T_174_2 F_14_3 (hP.o xo_2175) (hP.rc xo_2175 rfl rfl) ?_
      refine x_gI (z := s) T_174_5 (Or.inl F_5_0) (hP.o xo_2179) (Eq.trans (hP.gi xo_2179 (key := 2160) rfl) z1) ?_
      refine x_lr (z := some 2175) T_174_8 rfl ?_
      refine x_gR (z := some 2179) T_174_9 F_14_3 (hP.o xo_2175) (hP.rc xo_2175 rfl rfl) ?_
      refine x_gI (z := pa) T_174_12 (Or.inl F_5_2) (hP.o xo_2179) (Eq.trans (hP.gi xo_2179 (key := 2162) rfl) z3) ?_
      refine x_cv3 T_174_15 mN_129 mL_129 (Nat.le_of_ble_eq_true rfl) mO_129 (hP.o hgo3) (Nat.le_of_ble_eq_true rfl) (hpa) ?_
      rintro _ σ ⟨rfl, rfl⟩
      refine cR ?_
      refine x_sr (ls1 := [some (vR (some 2175)), some (vR (some ga)), some (vI F), some (vR none), none, none, none, none, none, none]) T_174_18 rfl ?_
      refine x_lr (z := some 2175) T_174_19 rfl ?_
      refine x_gR (z := some 2178) T_174_20 F_14_2 (hP.o xo_2175) (hP.rc xo_2175 rfl rfl) ?_
      refine x_gR (z := some y9) T_174_23 F_5_4 (hP.o xo_2178) (Eq.trans (hP.rm xo_2178 rfl (key := 2164) rfl) w1) ?_
      refine x_lr (z := none) T_174_26 rfl ?_
      refine x_ane T_174_27 (Nat.le_refl _) (tX_o hyo).1 (fun _ => ?_) (fun h0 => absurd h0 (by exact fun c => by cases c))
      refine x_lr (z := some 2175) T_174_34 rfl ?_
      refine x_gR (z := some 2178) T_174_35 F_14_2 (hP.o xo_2175) (hP.rc xo_2175 rfl rfl) ?_
      refine x_gR (z := some y9) T_174_38 F_5_4 (hP.o xo_2178) (Eq.trans (hP.rm xo_2178 rfl (key := 2164) rfl) w1) ?_
      refine x_sr (ls1 := [some (vR (some 2175)), some (vR (some ga)), some (vI F), some (vR none), some (vR (some y9)), none, none, none, none, none]) T_174_41 rfl ?_
      exact hgo σ hP
  · rw [if_neg qo] at hpa
    have hor : 0 ≤ old - 8 * g ∧ old - 8 * g < P 2334 g := by omega
    obtain ⟨y8, hy8, hPM8⟩ := PTM_of hgr hg8 hI hor
    rw [hy8] at hpa
    have hyo8 := hPM8.1
    have hy2 : PT2 R P g old (some y8) := Or.inr ⟨old - 8 * g, y8, by omega, hor, rfl, hy8⟩
    by_cases qf : fr < 0
    · have m5 : R 2178 2164 = none := by rw [m5, if_pos qf]
      have hgo := h43 (some y8) none hy2 (Or.inl ⟨rfl, by omega⟩)
      obtain ⟨ga, hga⟩ : ∃ q, grO g = q := ⟨_, rfl⟩
      simp only [hga] at hgo hgo3 hpa ⊢
      refine CL_in mL_174 rfl ?_
      show WP fb _ 174 0 [some (vR (some 2175)), some (vR (some ga)), some (vI F), none, none, none, none, none, none, none] [] σ _
      refine x_lr (z := some ga) T_174_0 rfl ?_
      refine x_lr (z := some 2175) T_174_1 rfl ?_
      refine x_gR (z := some 2179) T_174_2 F_14_3 (hP.o xo_2175) (hP.rc xo_2175 rfl rfl) ?_
      refine x_gI (z := s) T_174_5 (Or.inl F_5_0) (hP.o xo_2179) (Eq.trans (hP.gi xo_2179 (key := 2160) rfl) z1) ?_
      refine x_lr (z := some 2175) T_174_8 rfl ?_
      refine x_gR (z := some 2179) T_174_9 F_14_3 (hP.o xo_2175) (hP.rc xo_2175 rfl rfl) ?_
      refine x_gI (z := pa) T_174_12 (Or.inl F_5_2) (hP.o xo_2179) (Eq.trans (hP.gi xo_2179 (key := 2162) rfl) z3) ?_
      refine x_cv3 T_174_15 mN_129 mL_129 (Nat.le_of_ble_eq_true rfl) mO_129 (hP.o hgo3) (Nat.le_of_ble_eq_true rfl) (hpa) ?_
      rintro _ σ ⟨rfl, rfl⟩
      refine cR ?_
      refine x_sr (ls1 := [some (vR (some 2175)), some (vR (some ga)), some (vI F), some (vR (some y8)), none, none, none, none, none, none]) T_174_18 rfl ?_
      refine x_lr (z := some 2175) T_174_19 rfl ?_
      refine x_gR (z := some 2178) T_174_20 F_14_2 (hP.o xo_2175) (hP.rc xo_2175 rfl rfl) ?_
      refine x_gR (z := none) T_174_23 F_5_4 (hP.o xo_2178) (Eq.trans (hP.rm xo_2178 rfl (key := 2164) rfl) m5) ?_
      refine x_lr (z := some y8) T_174_26 rfl ?_
      refine x_ane T_174_27 (tX_o hyo8).1 (Nat.le_refl _) (fun _ => ?_) (fun h0 => absurd h0 (by exact fun c => by cases c))
      refine x_lr (z := some 2175) T_174_34 rfl ?_
      refine x_gR (z := some 2178) T_174_35 F_14_2 (hP.o xo_2175) (hP.rc xo_2175 rfl rfl) ?_
      refine x_gR (z := none) T_174_38 F_5_4 (hP.o xo_2178) (Eq.trans (hP.rm xo_2178 rfl (key := 2164) rfl) m5) ?_
      refine x_sr (ls1 := [some (vR (some 2175)), some (vR (some ga)), some (vI F), some (vR (some y8)), some (vR none), none, none, none, none, none]) T_174_41 rfl ?_
      exact hgo σ hP
    · obtain ⟨y9, w1, w2, w3, w4, w5⟩ := hfp (by omega)
      have hyo := w3.1
      by_cases qe : fr = old
      · have : y9 = y8 := by
          rw [qe] at w2
          exact Option.some.inj (w2.symm.trans hy8)
        subst this
        have hgo := h43 (some y9) none hy2 (Or.inl ⟨rfl, fun c => c.2 qe⟩)
        obtain ⟨ga, hga⟩ : ∃ q, grO g = q := ⟨_, rfl⟩
        simp only [hga] at hgo hgo3 hpa ⊢
        refine CL_in mL_174 rfl ?_
        show WP fb _ 174 0 [some (vR (some 2175)), some (vR (some ga)), some (vI F), none, none, none, none, none, none, none] [] σ _
        refine x_lr (z := some ga) T_174_0 rfl ?_
        refine x_lr (z := some 2175) T_174_1 rfl ?_
        refine x_gR (z := some 2179) T_174_2 F_14_3 (hP.o xo_2175) (hP.rc xo_2175 rfl rfl) ?_
        refine x_gI (z := s) T_174_5 (Or.inl F_5_0) (hP.o xo_2179) (Eq.trans (hP.gi xo_2179 (key := 2160) rfl) z1) ?_
        refine x_lr (z := some 2175) T_174_8 rfl ?_
        refine x_gR (z := some 2179) T_174_9 F_14_3 (hP.o xo_2175) (hP.rc xo_2175 rfl rfl) ?_
        refine x_gI (z := pa) T_174_12 (Or.inl F_5_2) (hP.o xo_2179) (Eq.trans (hP.gi xo_2179 (key := 2162) rfl) z3) ?_
        refine x_cv3 T_174_15 mN_129 mL_129 (Nat.le_of_ble_eq_true rfl) mO_129 (hP.o hgo3) (Nat.le_of_ble_eq_true rfl) (hpa) ?_
        rintro _ σ ⟨rfl, rfl⟩
        refine cR ?_
        refine x_sr (ls1 := [some (vR (some 2175)), some (vR (some ga)), some (vI F), some (vR (some y9)), none, none, none, none, none, none]) T_174_18 rfl ?_
        refine x_lr (z := some 2175) T_174_19 rfl ?_
        refine x_gR (z := some 2178) T_174_20 F_14_2 (hP.o xo_2175) (hP.rc xo_2175 rfl rfl) ?_
        refine x_gR (z := some y9) T_174_23 F_5_4 (hP.o xo_2178) (Eq.trans (hP.rm xo_2178 rfl (key := 2164) rfl) w1) ?_
        refine x_lr (z := some y9) T_174_26 rfl ?_
        refine x_ane T_174_27 (tX_o hyo).1 (tX_o hyo).1 (fun h0 => absurd h0 (by exact fun c => c rfl)) (fun _ => ?_)
        refine x_nu T_174_30 ?_
        refine x_goto T_174_31 ?_
        refine x_sr (ls1 := [some (vR (some 2175)), some (vR (some ga)), some (vI F), some (vR (some y9)), some (vR none), none, none, none, none, none]) T_174_41 rfl ?_
        exact hgo σ hP
      · have hne : y9 ≠ y8 := fun c => qe (by
          have := hgr.2.2.1.2 (fr - 8 * g) (old - 8 * g) w5.1 (by omega) hor.1 (by omega) (by rw [w2, hy8, c])
          omega)
        have hgo := h43 (some y8) (some y9) hy2 (Or.inr ⟨y9, rfl, ⟨by omega, qe⟩, w3, w4⟩)
        obtain ⟨ga, hga⟩ : ∃ q, grO g = q := ⟨_, rfl⟩
        simp only [hga] at hgo hgo3 hpa ⊢
        refine CL_in mL_174 rfl ?_
        show WP fb _ 174 0 [some (vR (some 2175)), some (vR (some ga)), some (vI F), none, none, none, none, none, none, none] [] σ _
        refine x_lr (z := some ga) T_174_0 rfl ?_
        refine x_lr (z := some 2175) T_174_1 rfl ?_
        refine x_gR (z := some 2179) T_174_2 F_14_3 (hP.o xo_2175) (hP.rc xo_2175 rfl rfl) ?_
        refine x_gI (z := s) T_174_5 (Or.inl F_5_0) (hP.o xo_2179) (Eq.trans (hP.gi xo_2179 (key := 2160) rfl) z1) ?_
        refine x_lr (z := some 2175) T_174_8 rfl ?_
        refine x_gR (z := some 2179) T_174_9 F_14_3 (hP.o xo_2175) (hP.rc xo_2175 rfl rfl) ?_
        refine x_gI (z := pa) T_174_12 (Or.inl F_5_2) (hP.o xo_2179) (Eq.trans (hP.gi xo_2179 (key := 2162) rfl) z3) ?_
        refine x_cv3 T_174_15 mN_129 mL_129 (Nat.le_of_ble_eq_true rfl) mO_129 (hP.o hgo3) (Nat.le_of_ble_eq_true rfl) (hpa) ?_
        rintro _ σ ⟨rfl, rfl⟩
        refine cR ?_
        refine x_sr (ls1 := [some (vR (some 2175)), some (vR (some ga)), some (vI F), some (vR (some y8)), none, none, none, none, none, none]) T_174_18 rfl ?_
        refine x_lr (z := some 2175) T_174_19 rfl ?_
        refine x_gR (z := some 2178) T_174_20 F_14_2 (hP.o xo_2175) (hP.rc xo_2175 rfl rfl) ?_
        refine x_gR (z := some y9) T_174_23 F_5_4 (hP.o xo_2178) (Eq.trans (hP.rm xo_2178 rfl (key := 2164) rfl) w1) ?_
        refine x_lr (z := some y8) T_174_26 rfl ?_
        refine x_ane T_174_27 (tX_o hyo8).1 (tX_o hyo).1 (fun _ => ?_) (fun h0 => absurd h0 (by exact fun c => hne (Option.some.inj c)))
        refine x_lr (z := some 2175) T_174_34 rfl ?_
        refine x_gR (z := some 2178) T_174_35 F_14_2 (hP.o xo_2175) (hP.rc xo_2175 rfl rfl) ?_
        refine x_gR (z := some y9) T_174_38 F_5_4 (hP.o xo_2178) (Eq.trans (hP.rm xo_2178 rfl (key := 2164) rfl) w1) ?_
        refine x_sr (ls1 := [some (vR (some 2175)), some (vR (some ga)), some (vI F), some (vR (some y8)), some (vR (some y9)), none, none, none, none, none]) T_174_41 rfl ?_
        exact hgo σ hP
end XBNL
