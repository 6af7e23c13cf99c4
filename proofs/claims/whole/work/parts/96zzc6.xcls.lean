/-! The class's kernel: a descriptor is closed; close. -/
theorem T_169_0 : hTab 169 0 = some ((3, 2, 2, []), 1) := rfl
theorem T_169_1 : hTab 169 1 = some ((0, 0, 1, []), 2) := rfl
theorem T_169_2 : hTab 169 2 = some ((31, 151, 0, []), 5) := rfl
theorem T_169_5 : hTab 169 5 = some ((4, 3, 0, []), 6) := rfl
theorem T_169_6 : hTab 169 6 = some ((3, 2, 2, []), 7) := rfl
theorem T_169_7 : hTab 169 7 = some ((24, 16, Int.ofNat 4, []), 10) := rfl
theorem T_169_10 : hTab 169 10 = some ((0, 0, 2, []), 11) := rfl
theorem T_169_11 : hTab 169 11 = some ((19, 1, Int.ofNat 19, []), 14) := rfl
theorem T_169_14 : hTab 169 14 = some ((3, 3, 0, []), 15) := rfl
theorem T_169_15 : hTab 169 15 = some ((0, 0, (-1), []), 16) := rfl
theorem T_169_16 : hTab 169 16 = some ((19, 1, Int.ofNat 22, []), 19) := rfl
theorem T_169_19 : hTab 169 19 = some ((0, 0, 18, []), 21) := rfl
theorem T_169_21 : hTab 169 21 = some ((33, 1, 0, []), 22) := rfl
theorem T_169_22 : hTab 169 22 = some ((3, 1, 2, []), 23) := rfl
theorem T_169_23 : hTab 169 23 = some ((3, 3, 0, []), 24) := rfl
theorem T_169_24 : hTab 169 24 = some ((31, 166, 0, []), 27) := rfl
theorem T_169_27 : hTab 169 27 = some ((20, 1, Int.ofNat 33, []), 30) := rfl
theorem T_169_30 : hTab 169 30 = some ((0, 0, 19, []), 32) := rfl
theorem T_169_32 : hTab 169 32 = some ((33, 1, 0, []), 33) := rfl
theorem T_169_33 : hTab 169 33 = some ((3, 0, 2, []), 34) := rfl
theorem T_169_34 : hTab 169 34 = some ((24, 14, Int.ofNat 0, []), 37) := rfl
theorem T_169_37 : hTab 169 37 = some ((3, 1, 2, []), 38) := rfl
theorem T_169_38 : hTab 169 38 = some ((3, 3, 0, []), 39) := rfl
theorem T_169_39 : hTab 169 39 = some ((31, 170, 0, []), 42) := rfl
theorem T_169_42 : hTab 169 42 = some ((0, 0, 0, []), 43) := rfl
theorem T_169_43 : hTab 169 43 = some ((33, 1, 0, []), 44) := rfl
theorem T_170_0 : hTab 170 0 = some ((3, 1, 2, []), 1) := rfl
theorem T_170_1 : hTab 170 1 = some ((3, 2, 0, []), 2) := rfl
theorem T_170_2 : hTab 170 2 = some ((31, 166, 0, []), 5) := rfl
theorem T_170_5 : hTab 170 5 = some ((4, 3, 2, []), 6) := rfl
theorem T_170_6 : hTab 170 6 = some ((3, 3, 2, []), 7) := rfl
theorem T_170_7 : hTab 170 7 = some ((20, 1, Int.ofNat 11, []), 10) := rfl
theorem T_170_11 : hTab 170 11 = some ((3, 1, 2, []), 12) := rfl
theorem T_170_12 : hTab 170 12 = some ((3, 2, 0, []), 13) := rfl
theorem T_170_13 : hTab 170 13 = some ((2, 0, 0, []), 14) := rfl
theorem T_170_14 : hTab 170 14 = some ((31, 155, 0, []), 17) := rfl
theorem T_170_17 : hTab 170 17 = some ((3, 3, 2, []), 18) := rfl
theorem T_170_18 : hTab 170 18 = some ((6, 0, 0, []), 19) := rfl
theorem T_170_19 : hTab 170 19 = some ((24, 5, Int.ofNat 7, []), 22) := rfl
theorem T_170_22 : hTab 170 22 = some ((0, 0, 1, []), 23) := rfl
theorem T_170_23 : hTab 170 23 = some ((10, 1, 0, []), 24) := rfl
theorem T_170_24 : hTab 170 24 = some ((25, 5, Int.ofNat 7, []), 27) := rfl
theorem T_170_27 : hTab 170 27 = some ((3, 3, 2, []), 28) := rfl
theorem T_170_28 : hTab 170 28 = some ((24, 5, Int.ofNat 7, []), 31) := rfl
theorem T_170_31 : hTab 170 31 = some ((18, 1, Int.ofNat 61, []), 34) := rfl
theorem T_170_34 : hTab 170 34 = some ((3, 0, 2, []), 35) := rfl
theorem T_170_35 : hTab 170 35 = some ((3, 3, 2, []), 36) := rfl
theorem T_170_36 : hTab 170 36 = some ((24, 5, Int.ofNat 0, []), 39) := rfl
theorem T_170_39 : hTab 170 39 = some ((31, 122, 0, []), 42) := rfl
theorem T_170_42 : hTab 170 42 = some ((0, 0, 0, []), 43) := rfl
theorem T_170_43 : hTab 170 43 = some ((3, 0, 2, []), 44) := rfl
theorem T_170_44 : hTab 170 44 = some ((0, 0, 120, []), 46) := rfl
theorem T_170_46 : hTab 170 46 = some ((3, 3, 2, []), 47) := rfl
theorem T_170_47 : hTab 170 47 = some ((24, 5, Int.ofNat 1, []), 50) := rfl
theorem T_170_50 : hTab 170 50 = some ((31, 131, 0, []), 53) := rfl
theorem T_170_53 : hTab 170 53 = some ((3, 0, 2, []), 54) := rfl
theorem T_170_54 : hTab 170 54 = some ((24, 1, Int.ofNat 2, []), 57) := rfl
theorem T_170_57 : hTab 170 57 = some ((31, 26, 0, []), 60) := rfl
theorem T_170_60 : hTab 170 60 = some ((7, 0, 0, []), 61) := rfl
theorem T_170_61 : hTab 170 61 = some ((33, 0, 0, []), 62) := rfl
theorem mN_169 : hmN 169 = 3 := by decide +kernel
theorem mL_169 : hmL 169 = 4 := by decide +kernel
theorem mK_169 : hmK 169 = 1 := by decide +kernel
theorem mO_169 : hmO 169 = 14 := by decide +kernel
theorem mN_170 : hmN 170 = 3 := by decide +kernel
theorem mL_170 : hmL 170 = 4 := by decide +kernel
theorem mK_170 : hmK 170 = 1 := by decide +kernel
theorem mO_170 : hmO 170 = 1 := by decide +kernel
/-- rows behind a close, before its clunk -/
def gC1 (P : qR) (p dd : Int) : qR := if qUsers (gCl P p dd) (P 2327 (8 * p + dd)) = 0 then gCl2 P p dd else gCl P p dd
section XCLS
variable {fb : Bool} {d S b c q n a0 m k : Nat} {σ0 σ : hM} {W W1 W2 P Q : qR} {R R1 R2 : rR} {i j x z v s e w f g u p p2 o K T U t a dd pa dr md : Int} {l l0 lo nm M wd A : List Int} {ch : Ch}
theorem gC1_f {f : Nat} (h1 : f ≠ 2327) (h2 : f ≠ 2330) : gC1 P p dd f x = P f x := by
  unfold gC1
  split
  · exact (rU_f h2).trans (rU_f h1)
  · exact rU_f h1
theorem gC1_op : gC1 P p dd 2327 x = if x = 8 * p + dd then -1 else P 2327 x := by
  have e : gC1 P p dd 2327 x = rU P 2327 (8 * p + dd) (-1) 2327 x := by
    unfold gC1
    split
    · exact rU_f (by decide)
    · rfl
  rw [e]
  by_cases q : x = 8 * p + dd
  · rw [if_pos q, q]
    exact rU_s
  · rw [if_neg q]
    exact rU_k q
theorem gC1_is (ho : P 2327 (8 * p + dd) = o) : gC1 P p dd 2330 x = if qUsers (gCl P p dd) o = 0 ∧ x = o then 0 else P 2330 x := by
  unfold gC1
  rw [ho]
  by_cases q : qUsers (gCl P p dd) o = 0
  · rw [if_pos q]
    unfold gCl2
    rw [ho]
    by_cases q2 : x = o
    · rw [if_pos ⟨q, q2⟩, q2]
      exact rU_s
    · rw [if_neg (fun c => q2 c.2)]
      exact (rU_k q2).trans (rU_f (by decide))
  · rw [if_neg q, if_neg (fun c => q c.1)]
    exact rU_f (by decide)
theorem gC1_us : qUsers (gC1 P p dd) x = qUsers (gCl P p dd) x := by
  unfold gC1
  split
  · exact usR_fr (fun k => rU_f (by decide)) (fun k => rU_f (by decide)) 64 0 0
  · rfl
theorem gCl_us (hp : 0 ≤ p ∧ p < 8) (hd : 0 ≤ dd ∧ dd < 8) (hlv : ¬ P 2320 p = 0) (ho : P 2327 (8 * p + dd) = o) (hx : 0 ≤ x) : qUsers (gCl P p dd) x = qUsers P x - (if x = o then 1 else 0) := by
  have hs := usR_set (P := P) (Q := gCl P p dd) (x := x) (a := 8 * p + dd) 64 0 (fun i _ _ hi => by
    rw [show gCl P p dd 2320 (i / 8) = P 2320 (i / 8) from rU_f (by decide), show gCl P p dd 2327 i = P 2327 i from rU_k hi]) (by omega) (by show _ < (0 : Int) + ((64 : Nat) : Int); omega)
  rw [dv8 hd, ho, show gCl P p dd 2327 (8 * p + dd) = -1 from rU_s, if_neg (show ¬ (¬ gCl P p dd 2320 p = 0 ∧ (-1 : Int) = x) from fun c => by omega)] at hs
  have e1 : qUsers (gCl P p dd) x = usR (gCl P p dd) x 64 0 0 := rfl
  have e2 : qUsers P x = usR P x 64 0 0 := rfl
  rw [e1, e2, hs]
  by_cases q : x = o
  · rw [if_pos ⟨hlv, q.symm⟩, if_pos q]
    omega
  · rw [if_neg (fun c => q c.2.symm), if_neg q]
    omega
theorem us_wit (h : ¬ qUsers P x = 0) : ∃ i : Nat, i < 64 ∧ ¬ P 2320 ((i : Int) / 8) = 0 ∧ P 2327 (i : Int) = x := by
  obtain ⟨i, i0, i1, i2, i3⟩ := (usR_some (P := P) (x := x) 64 0 0).mp h
  exact ⟨i.toNat, by omega, by rw [show ((i.toNat : Nat) : Int) = i by omega]; exact i2, by rw [show ((i.toNat : Nat) : Int) = i by omega]; exact i3⟩
theorem us_no (h : qUsers P x = 0) (hi : 0 ≤ i ∧ i < 64) (h1 : ¬ P 2320 (i / 8) = 0) : ¬ P 2327 i = x := fun c => by
  have := (usR_some (P := P) (x := x) 64 0 0).mpr ⟨i, hi.1, by omega, h1, c⟩
  exact this h
theorem GO_gC1 (h : GO P) (hp : 0 ≤ p ∧ p < 8) (hd : 0 ≤ dd ∧ dd < 8) (ho : P 2327 (8 * p + dd) = o) (h0 : 0 ≤ o) : GO (gC1 P p dd) := by
  have hpr : ∀ k, gC1 P p dd 2320 k = P 2320 k := fun k => gC1_f (by decide) (by decide)
  have hcp : ∀ k, gCl P p dd 2320 k = P 2320 k := fun k => rU_f (by decide)
  refine ⟨fun i i0 i1 c1 c2 => ?_, fun o2 o0 o1 c1 => ?_⟩
  · rw [hpr] at c1
    rw [gC1_op] at c2 ⊢
    rw [gC1_is ho]
    by_cases q : i = 8 * p + dd
    · rw [if_pos q] at c2
      omega
    · rw [if_neg q] at c2 ⊢
      rw [if_neg (fun c => ?_)]
      · exact h.1 i i0 i1 c1 c2
      · refine us_no c.1 (i := i) ⟨i0, i1⟩ (by rw [hcp]; exact c1) ?_
        rw [show gCl P p dd 2327 i = P 2327 i from rU_k q]
        exact c.2
  · rw [gC1_is ho] at c1
    by_cases q : qUsers (gCl P p dd) o = 0 ∧ o2 = o
    · rw [if_pos q] at c1
      exact absurd rfl c1
    · rw [if_neg q] at c1
      by_cases q2 : o2 = o
      · obtain ⟨i, i1, i2, i3⟩ := us_wit (P := gCl P p dd) (x := o) (fun c => q ⟨c, q2⟩)
        refine ⟨i, i1, by rw [hpr, ← hcp]; exact i2, ?_⟩
        rw [q2, ← i3]
        have : ¬ (i : Int) = 8 * p + dd := fun c => by
          rw [c, show gCl P p dd 2327 (8 * p + dd) = -1 from rU_s] at i3
          omega
        rw [gC1_op, if_neg this]
        exact (rU_k this).symm
      · obtain ⟨i, g1, g2, g3⟩ := h.2 o2 o0 o1 c1
        refine ⟨i, g1, by rw [hpr]; exact g2, ?_⟩
        rw [gC1_op, if_neg (fun c => by rw [c] at g3; exact q2 (g3.symm.trans ho))]
        exact g3
theorem GI_gC1 (hG : GI T U P) (hp : 0 ≤ p ∧ p < 8) : GI T U (gC1 P p dd) := by
  unfold gC1
  split
  · exact GI_one (f := 2330) (ty := 2) (len := 64) (GI_gCl hG hp) rfl (show (0 : Int) ≤ 0 ∧ (0 : Int) ≤ 1 by decide) rfl rfl rfl rfl rfl rfl rfl rfl rfl (by decide) (by decide)
  · exact GI_gCl hG hp
theorem XW.cls (h : XW K T U W R P) (hp : 0 ≤ p ∧ p < 8) (hlv : ¬ P 2320 p = 0) (hd : 0 ≤ dd ∧ dd < 8) (ho : P 2327 (8 * p + dd) = o) (h0 : 0 ≤ o) : XW K T U (rU W (1229 + o.toNat) 2167 (qUsers (gCl P p dd) o)) (oU R (prO p + 6) dd none) (gC1 P p dd) := by
  have hG := h.1.2.2.2.1
  have hGO := h.1.2.2.2.2.2.1
  obtain ⟨ho64, -⟩ := h.opn hp hlv hd ho h0
  have hW : ∀ (x : Nat) (k : Int), ¬ (x = 1229 + o.toNat ∧ k = 2167) → rU W (1229 + o.toNat) 2167 (qUsers (gCl P p dd) o) x k = W x k := fun x k hx => if_neg hx
  have hR : ∀ (x : Nat) (k : Int), ¬ (x = prO p + 6 ∧ k = dd) → oU R (prO p + 6) dd none x k = R x k := fun x k hy => if_neg hy
  have hpp := prO_rng hp
  have epp : prO p = 295 + 125 * p.toNat := rfl
  have hpr : ∀ k, gC1 P p dd 2320 k = P 2320 k := fun k => gC1_f (by decide) (by decide)
  have hf : ∀ (f : Nat) (k : Int), f ≠ 2327 → f ≠ 2330 → gC1 P p dd f k = P f k := fun f k a b => gC1_f a b
  have hff : ∀ (f : Nat), f ≠ 2327 → f ≠ 2330 → gC1 P p dd f = P f := fun f a b => funext (fun k => gC1_f a b)
  refine h.row (fun f k hf => gC1_f (fun e => by rw [e] at hf; exact absurd hf (by decide)) (fun e => by rw [e] at hf; exact absurd hf (by decide))) (fun x k hx => hW x k (by omega)) (fun x k hx => hR x k (by omega)) ⟨fun p2 p0 p1 => ?_, fun g g0 g1 => ?_, fun o2 o0 o1 => ?_⟩ (GI_gC1 hG hp) (GO_gC1 hGO hp hd ho h0)
  · obtain ⟨a1, a2, a3, a4⟩ := h.1.2.2.1.1 p2 p0 p1
    have hrp := prO_rng (p := p2) ⟨p0, p1⟩
    have epp2 : prO p2 = 295 + 125 * p2.toNat := rfl
    refine ⟨(hW _ _ (by omega)).trans a1, by rw [hW _ _ (by omega), hpr]; exact a2, fun k k0 k1 => ?_, fun hl => ?_⟩
    · rw [hpr, gC1_op]
      by_cases q : p2 = p ∧ k = dd
      · obtain ⟨q1, q2⟩ := q
        subst q1
        subst q2
        rw [if_pos rfl, if_pos (Or.inr (by decide))]
        exact if_pos ⟨rfl, rfl⟩
      · have hne : ¬ 8 * p2 + k = 8 * p + dd := fun c => q (by omega)
        rw [if_neg hne, hR _ _ (fun c => q (by omega))]
        exact a3 k k0 k1
    · rw [hpr] at hl
      refine (a4 hl).at2 ⟨p0, p1⟩ (fun x k x0 x1 _ => hW x k (by omega)) (hR _ _ (fun c => by omega)) (hf _ _ (by decide) (by decide)) (hf _ _ (by decide) (by decide)) (hf _ _ (by decide) (by decide)) ?_ ?_ (fun x _ _ => ?_)
      · rw [hff 2325 (by decide) (by decide), hff 2326 (by decide) (by decide)]
      · rw [hff 2328 (by decide) (by decide), hff 2329 (by decide) (by decide)]
      · rw [hff 2361 (by decide) (by decide), hff 2362 (by decide) (by decide)]
  · have hrg := grO_rng (g := g) ⟨g0, g1⟩
    have egg : grO g = 229 + 125 * g.toNat := rfl
    exact (h.1.2.2.1.2.1 g g0 g1).at2 ⟨g0, g1⟩ hG.iv (fun x k x0 x1 _ => hW x k (by omega)) (fun x k x0 x1 => hR x k (fun c => by omega)) (qPn_fr (fun k => hpr k) (fun k => hf _ _ (by decide) (by decide)) 8 0) ⟨hf _ _ (by decide) (by decide), fun q _ _ => ⟨hf _ _ (by decide) (by decide), hf _ _ (by decide) (by decide), hf _ _ (by decide) (by decide)⟩, fun m _ _ => ⟨hf _ _ (by decide) (by decide), hf _ _ (by decide) (by decide), hf _ _ (by decide) (by decide), hf _ _ (by decide) (by decide), hf _ _ (by decide) (by decide)⟩⟩
  · obtain ⟨a1, a2⟩ := h.1.2.2.1.2.2 o2 o0 o1
    have eu : qUsers (gC1 P p dd) o2 = if o2 = o then qUsers (gCl P p dd) o else qUsers P o2 := by
      rw [gC1_us]
      by_cases q : o2 = o
      · rw [if_pos q, q]
      · rw [if_neg q, gCl_us hp hd hlv ho o0, if_neg q]
        omega
    rw [eu, gC1_is ho, hf 2331 o2 (by decide) (by decide), hf 2332 o2 (by decide) (by decide), hf 2333 o2 (by decide) (by decide)]
    by_cases q : o2 = o
    · subst q
      rw [if_pos rfl]
      refine ⟨rU_s, fun hi => ?_⟩
      by_cases q2 : qUsers (gCl P p dd) o2 = 0
      · rw [if_pos ⟨q2, rfl⟩] at hi
        exact absurd rfl hi
      · rw [if_neg (fun c => q2 c.1)] at hi
        rw [hW _ _ (by omega), hW _ _ (by omega), hW _ _ (by omega)]
        exact a2 hi
    · rw [if_neg q, if_neg (fun c => q c.2), hW _ _ (by omega), hW _ _ (by omega), hW _ _ (by omega), hW _ _ (by omega)]
      exact ⟨a1, a2⟩
theorem cClP_C1 (ho : P 2327 (8 * p + dd) = o) : cClP P p dd = if qUsers (gCl P p dd) o = 0 then tP (gC1 P p dd) (P 2331 o) (mOne 120 (P 2332 o)) else gC1 P p dd := by
  unfold cClP gC1
  rw [ho]
  by_cases q : qUsers (gCl P p dd) o = 0
  · rw [if_pos q, if_pos q, if_pos q]
  · rw [if_neg q, if_neg q, if_neg q]
theorem usR_le : ∀ (m : Nat) (k n : Int), usR P x m k n ≤ n + m
  | 0, _, n => by show n ≤ n + ((0 : Nat) : Int); omega
  | m + 1, k, n => by
    have h1 := usR_le m (k + 1) (if ¬ P 2320 (k / 8) = 0 ∧ P 2327 k = x then n + 1 else n)
    show usR P x m (k + 1) (if ¬ P 2320 (k / 8) = 0 ∧ P 2327 k = x then n + 1 else n) ≤ n + ((m + 1 : Nat) : Int)
    by_cases q : ¬ P 2320 (k / 8) = 0 ∧ P 2327 k = x
    · rw [if_pos q] at h1 ⊢
      omega
    · rw [if_neg q] at h1 ⊢
      omega
theorem x_closeK (hP : PX σ0 W R σ) (hX : XW K T U W R P) (hT : T + 110 ≤ 2147483000) (hp : 0 ≤ p ∧ p < 8) (hlv : ¬ P 2320 p = 0) (hd : 0 ≤ dd ∧ dd < 8) (h0 : 0 ≤ P 2327 (8 * p + dd)) : CL fb (d + 8) 170 [vR (some 129), vR (some (prO p)), vI dd] σ (fun r σ' => r = none ∧ ∃ W2 R2, PX σ0 W2 R2 σ' ∧ XW K (T + 4) U W2 R2 (cClP P p dd) ∧ FCM W W2 R R2) := by
  have hpo := prO_o hp
  have hrp := prO_rng hp
  have hop := x_opOf (fb := fb) (d := d + 7) (k := dd) hP hX.1.2.2.1 hp hlv hd
  obtain ⟨o, ho⟩ : ∃ q, P 2327 (8 * p + dd) = q := ⟨_, rfl⟩
  rw [ho] at h0
  rw [ho, if_neg (show ¬ o < 0 by omega)] at hop
  rw [cClP_C1 ho]
  obtain ⟨ho64, ⟨c1, c2, -⟩, hs, hf, -⟩ := hX.opn hp hlv hd ho h0
  have hus := (hX.1.2.2.1.2.2 o h0 ho64).1
  have hun := gCl_us (x := o) hp hd hlv ho h0
  have hur := users_open hX.1.2.2.2.2.2.1 (x := o) ⟨h0, ho64⟩
  have hne : ¬ qUsers P o = 0 := fun c => by
    have h1 := hur.2.mp c
    have h2 := hX.1.2.2.2.2.2.1.1 (8 * p + dd) (by omega) (by omega) (by rw [dv8 hd]; exact hlv) (by omega)
    rw [ho] at h2
    omega
  rw [if_pos rfl] at hun
  have hX1 := hX.cls hp hlv hd ho h0
  have hst := fun (σ : hM) (V : qR) (V3 : rR) (hP : PX σ0 V V3 σ) => x_setOpening (fb := fb) (d := d + 7) (p := p) (k := dd) (r := none) hP hp hd (fun b hb => by cases hb)
  have hot : tX (1229 + o.toNat) = some (Sum.inl 5) := tX_opn o.toNat (by omega)
  have hor : 1229 ≤ 1229 + o.toNat ∧ 1229 + o.toNat < 1293 := by omega
  obtain ⟨s, hs0⟩ : ∃ q, P 2331 o = q := ⟨_, rfl⟩
  obtain ⟨f, hf0⟩ : ∃ q, P 2332 o = q := ⟨_, rfl⟩
  obtain ⟨mm, hmm⟩ : ∃ q, qUsers P o = q := ⟨_, rfl⟩
  obtain ⟨n, hn⟩ : ∃ q, qUsers (gCl P p dd) o = q := ⟨_, rfl⟩
  rw [hmm] at hun hus hur hne
  rw [hn] at hun hX1
  rw [hn]
  rw [hs0] at hs c1
  rw [hf0] at hf c2
  rw [hs0, hf0]
  have hu64 : mm ≤ 64 := by
    have := usR_le (P := P) (x := o) 64 0 0
    have e : usR P o 64 0 0 = mm := hmm
    omega
  obtain ⟨ob, hob⟩ : ∃ q, 1229 + o.toNat = q := ⟨_, rfl⟩
  obtain ⟨pr, hpr⟩ : ∃ q, prO p = q := ⟨_, rfl⟩
  rw [hob] at hop hus hX1 hot hor c1 c2
  rw [hpr] at hpo hrp hop hX1 ⊢
  simp only [hpr] at hst
  have hFC : FCM W (rU W ob 2167 n) R (oU R (pr + 6) dd none) := ⟨fun x k x0 x1 _ => if_neg (fun c => by omega), fun x k x0 => if_neg (fun c => by omega)⟩
  obtain ⟨Q, hQ⟩ : ∃ q, gC1 P p dd = q := ⟨_, rfl⟩
  rw [hQ] at hX1
  rw [hQ]
  refine CL_in mL_170 rfl ?_
  show WP fb _ 170 0 [some (vR (some 129)), some (vR (some pr)), some (vI dd), none] [] σ _
  refine x_lr (z := some pr) T_170_0 rfl ?_
  refine x_li (z := dd) T_170_1 rfl ?_
  refine x_cv2 T_170_2 mN_166 mL_166 (Nat.le_of_ble_eq_true rfl) mO_166 (hP.o hpo) (Nat.le_of_ble_eq_true rfl) (hop) ?_
  rintro _ σ ⟨rfl, rfl⟩
  refine cR ?_
  refine x_sr (ls1 := [some (vR (some 129)), some (vR (some pr)), some (vI dd), some (vR (some ob))]) T_170_5 rfl ?_
  refine x_lr (z := some ob) T_170_6 rfl ?_
  refine x_nnul T_170_7 (fun _ _ => ?_) (fun h0 => absurd h0 (by simp))
  refine x_lr (z := some pr) T_170_11 rfl ?_
  refine x_li (z := dd) T_170_12 rfl ?_
  refine x_nu T_170_13 ?_
  refine x_cv3 T_170_14 mN_155 mL_155 (Nat.le_of_ble_eq_true rfl) mO_155 (hP.o hpo) (Nat.le_of_ble_eq_true rfl) (hst σ _ _ hP) ?_
  clear hP hst
  rintro _ σ ⟨rfl, hP⟩
  refine cV ?_
  refine x_lr (z := some ob) T_170_17 rfl ?_
  refine x_dupR T_170_18 ?_
  refine x_gI (z := mm) T_170_19 (Or.inl F_5_7) (hP.o hot) (Eq.trans (hP.gi hot (key := 2167) rfl) hus) ?_
  refine x_ic T_170_22 ?_
  refine x_ib (w := (mm - 1)) T_170_23 (fun h => absurd h.1 (by decide)) (w32_id (by omega) (by omega)) ?_
  refine z_pI hP T_170_24 F_5_7 hot (key := 2167) rfl (fun σ hP => ?_)
  rw [show mm - 1 = n by omega] at hP
  have z1 : rU W ob 2167 n ob 2167 = n := rU_s
  have z2 : rU W ob 2167 n ob 2160 = s := (rU_k (by decide)).trans c1
  have z3 : rU W ob 2167 n ob 2161 = f := (rU_k (by decide)).trans c2
  obtain ⟨V, hV⟩ : ∃ q, rU W ob 2167 n = q := ⟨_, rfl⟩
  obtain ⟨V3, hV3⟩ : ∃ q, oU R (pr + 6) dd none = q := ⟨_, rfl⟩
  rw [hV] at z1 z2 z3 hFC hX1
  rw [hV3] at hFC hX1
  rw [hV, hV3] at hP
  by_cases q : n = 0
  · rw [if_pos q]
    rw [q] at z1
    have hho := x_host (fb := fb) (d := d + 7) (s := s) hP hs
    have hO := srv_o hs
    have hab := x_about (fb := fb) (d := d + 4) (t := 120) (f := f) hP (by decide) ⟨by omega, by omega⟩
    obtain ⟨m1, m2, m3, m4⟩ := mOne_ok (t := 120) (f := f) (Or.inl rfl)
    have hak := fun (σ : hM) (V2 : qR) (hP : PX σ0 V2 V3 σ) (hF : FR1 V V2) (hB : BY V2 138 300 (mFr (mOne 120 f))) => x_askM (fb := fb) (d := d) hP (hX1.fr1 hF) hT hs hB m1 m2 m3 m4
    obtain ⟨e, he⟩ : ∃ q, tE Q s (mOne 120 f) = q := ⟨_, rfl⟩
    obtain ⟨sv, hsv⟩ : ∃ q, 1293 + 294 * s.toNat = q := ⟨_, rfl⟩
    rw [hsv] at hho hO
    simp only [he, hsv] at hak
    refine x_lr (z := some ob) T_170_27 rfl ?_
    refine x_gI (z := 0) T_170_28 (Or.inl F_5_7) (hP.o hot) (Eq.trans (hP.gi hot (key := 2167) rfl) z1) ?_
    refine x_if T_170_31 (fun h => absurd (show ¬ (0 : Int) = 0 from h) (by decide)) (fun _ => ?_)
    refine x_lr (z := some 129) T_170_34 rfl ?_
    refine x_lr (z := some ob) T_170_35 rfl ?_
    refine x_gI (z := s) T_170_36 (Or.inl F_5_0) (hP.o hot) (Eq.trans (hP.gi hot (key := 2160) rfl) z2) ?_
    refine x_cv2 T_170_39 mN_122 mL_122 (Nat.le_of_ble_eq_true rfl) mO_122 (hP.o xo_129) (Nat.le_of_ble_eq_true rfl) (hho) ?_
    rintro _ σ ⟨rfl, rfl⟩
    refine cR ?_
    refine x_ic T_170_42 ?_
    refine x_lr (z := some 129) T_170_43 rfl ?_
    refine x_ic T_170_44 ?_
    refine x_lr (z := some ob) T_170_46 rfl ?_
    refine x_gI (z := f) T_170_47 (Or.inl F_5_1) (hP.o hot) (Eq.trans (hP.gi hot (key := 2161) rfl) z3) ?_
    refine x_cv3 T_170_50 mN_131 mL_131 (Nat.le_of_ble_eq_true rfl) mO_131 (hP.o xo_129) (Nat.le_of_ble_eq_true rfl) (hab) ?_
    clear hP hab
    rintro _ σ ⟨rfl, V4, hP, hB4, hF4⟩
    refine cR ?_
    refine x_lr (z := some 129) T_170_53 rfl ?_
    refine x_gR (z := some 134) T_170_54 F_1_2 (hP.o xo_129) (hP.rc xo_129 rfl rfl) ?_
    refine x_cv4 T_170_57 mN_26 mL_26 (Nat.le_of_ble_eq_true rfl) mO_26 (hP.o hO) (Nat.le_of_ble_eq_true rfl) (hak σ V4 hP hF4 hB4) ?_
    clear hP hak
    rintro _ σ ⟨rfl, V5, V6, hP, hX5, hB5, hF5⟩
    refine cI ?_
    refine x_popI T_170_60 ?_
    refine x_rv T_170_61 ?_
    exact ⟨rfl, V5, V6, hP, hX5, FCM_tr hFC (FCM_tr (FCM_fr hF4) (FCM_fs hF5))⟩
  · rw [if_neg q]
    refine x_lr (z := some ob) T_170_27 rfl ?_
    refine x_gI (z := n) T_170_28 (Or.inl F_5_7) (hP.o hot) (Eq.trans (hP.gi hot (key := 2167) rfl) z1) ?_
    refine x_if T_170_31 (fun _ => ?_) (fun h => absurd (show ¬ n = 0 by exact q) h)
    refine x_rv T_170_61 ?_
    exact ⟨rfl, V, V3, hP, XW.mono hX1 (by omega), hFC⟩
theorem x_close (hP : PX σ0 W R σ) (hX : XW K T U W R P) (hT : T + 1200 ≤ 2147483000) (hp : 0 ≤ p ∧ p < 8) (hlv : ¬ P 2320 p = 0) (hC : CMD W k l) (hw : ((lnW l).length : Int) = 2) (hE : 0 ≤ dgV (lnB l 1) 7 → 0 ≤ P 2327 (8 * p + dgV (lnB l 1) 7) → cClE P p (dgV (lnB l 1) 7) = 0) : CL fb (d + 9) 169 [vR (some 2175), vR (some (prO p)), vR (some k)] σ (XCM σ0 K (T + 4) U W R (cClo P p (dgV (lnB l 1) 7))) := by
  have hpo := prO_o hp
  have h5 := hC.2.2.2.2.1.trans hw
  have hdg := x_digit7 (fb := fb) (d := d + 5) (w := 1) hP hC ⟨by decide, by omega⟩
  have hr1 := dgV_rng (wd := lnB l 1) (most := 7)
  obtain ⟨dd, hdd⟩ : ∃ q, dgV (lnB l 1) 7 = q := ⟨_, rfl⟩
  rw [hdd] at hdg hr1 hE
  rw [hdd]
  have hop := fun (h : 0 ≤ dd ∧ dd < 8) => x_opOf (fb := fb) (d := d + 8) (k := dd) hP hX.1.2.2.1 hp hlv h
  have hck := fun (h : 0 ≤ dd ∧ dd < 8) (h0 : 0 ≤ P 2327 (8 * p + dd)) => x_closeK (fb := fb) (d := d) hP hX (by omega) hp hlv h h0
  unfold cClo
  obtain ⟨pr, hpr⟩ : ∃ q, prO p = q := ⟨_, rfl⟩
  rw [hpr] at hpo hop hck ⊢
  by_cases q1 : dd < 0
  · rw [if_pos q1]
    have : dd = -1 := by omega
    subst this
    refine CL_in mL_169 rfl ?_
    show WP fb _ 169 0 [some (vR (some 2175)), some (vR (some pr)), some (vR (some k)), none] [] σ _
    refine x_lr (z := some k) T_169_0 rfl ?_
    refine x_ic T_169_1 ?_
    refine x_cv2 T_169_2 mN_151 mL_151 (Nat.le_of_ble_eq_true rfl) mO_151 (hP.o hC.1) (Nat.le_of_ble_eq_true rfl) (hdg) ?_
    rintro _ σ ⟨rfl, rfl⟩
    refine cI ?_
    refine x_si (ls1 := [some (vR (some 2175)), some (vR (some pr)), some (vR (some k)), some (vI (-1))]) T_169_5 rfl ?_
    refine x_lr (z := some k) T_169_6 rfl ?_
    refine x_gI (z := 2) T_169_7 (Or.inl F_16_4) (hP.o hC.1) (Eq.trans (hP.gi hC.1 (key := 2516) rfl) h5) ?_
    refine x_ic T_169_10 ?_
    refine x_ic2 T_169_11 (fun h => absurd (show ¬ (2 : Int) = 2 from h) (by decide)) (fun _ => ?_)
    refine x_li (z := (-1)) T_169_14 rfl ?_
    refine x_ic T_169_15 ?_
    refine x_ic2 T_169_16 (fun h => absurd (show ¬ ((-1) : Int) = (-1) from h) (by decide)) (fun _ => ?_)
    refine x_ic T_169_19 ?_
    refine x_ri T_169_21 ?_
    exact ⟨rfl, W, R, hP, XW.mono hX (by omega), FCM_rfl⟩
  rw [if_neg q1]
  have hop := hop ⟨by omega, by omega⟩
  have hck := hck ⟨by omega, by omega⟩
  have hE := hE (by omega)
  obtain ⟨o, ho⟩ : ∃ q, P 2327 (8 * p + dd) = q := ⟨_, rfl⟩
  rw [ho] at hop hck hE
  rw [ho]
  by_cases q3 : o < 0
  · rw [if_pos q3] at hop
    rw [if_pos q3]
    refine CL_in mL_169 rfl ?_
    show WP fb _ 169 0 [some (vR (some 2175)), some (vR (some pr)), some (vR (some k)), none] [] σ _
    refine x_lr (z := some k) T_169_0 rfl ?_
    refine x_ic T_169_1 ?_
    refine x_cv2 T_169_2 mN_151 mL_151 (Nat.le_of_ble_eq_true rfl) mO_151 (hP.o hC.1) (Nat.le_of_ble_eq_true rfl) (hdg) ?_
    rintro _ σ ⟨rfl, rfl⟩
    refine cI ?_
    refine x_si (ls1 := [some (vR (some 2175)), some (vR (some pr)), some (vR (some k)), some (vI dd)]) T_169_5 rfl ?_
    refine x_lr (z := some k) T_169_6 rfl ?_
    refine x_gI (z := 2) T_169_7 (Or.inl F_16_4) (hP.o hC.1) (Eq.trans (hP.gi hC.1 (key := 2516) rfl) h5) ?_
    refine x_ic T_169_10 ?_
    refine x_ic2 T_169_11 (fun h => absurd (show ¬ (2 : Int) = 2 from h) (by decide)) (fun _ => ?_)
    refine x_li (z := dd) T_169_14 rfl ?_
    refine x_ic T_169_15 ?_
    refine x_ic2 T_169_16 (fun _ => ?_) (fun h => absurd (show ¬ dd = (-1) by omega) h)
    refine x_lr (z := some pr) T_169_22 rfl ?_
    refine x_li (z := dd) T_169_23 rfl ?_
    refine x_cv2 T_169_24 mN_166 mL_166 (Nat.le_of_ble_eq_true rfl) mO_166 (hP.o hpo) (Nat.le_of_ble_eq_true rfl) (hop) ?_
    rintro _ σ ⟨rfl, rfl⟩
    refine cR ?_
    refine x_nnul T_169_27 (fun a0 h0 => absurd h0 (by simp)) (fun _ => ?_)
    refine x_ic T_169_30 ?_
    refine x_ri T_169_32 ?_
    exact ⟨rfl, W, R, hP, XW.mono hX (by omega), FCM_rfl⟩
  · rw [if_neg q3] at hop
    rw [if_neg q3, hE (by omega)]
    have hck := hck (by omega)
    obtain ⟨ob, hob⟩ : ∃ q, 1229 + o.toNat = q := ⟨_, rfl⟩
    rw [hob] at hop
    refine CL_in mL_169 rfl ?_
    show WP fb _ 169 0 [some (vR (some 2175)), some (vR (some pr)), some (vR (some k)), none] [] σ _
    refine x_lr (z := some k) T_169_0 rfl ?_
    refine x_ic T_169_1 ?_
    refine x_cv2 T_169_2 mN_151 mL_151 (Nat.le_of_ble_eq_true rfl) mO_151 (hP.o hC.1) (Nat.le_of_ble_eq_true rfl) (hdg) ?_
    rintro _ σ ⟨rfl, rfl⟩
    refine cI ?_
    refine x_si (ls1 := [some (vR (some 2175)), some (vR (some pr)), some (vR (some k)), some (vI dd)]) T_169_5 rfl ?_
    refine x_lr (z := some k) T_169_6 rfl ?_
    refine x_gI (z := 2) T_169_7 (Or.inl F_16_4) (hP.o hC.1) (Eq.trans (hP.gi hC.1 (key := 2516) rfl) h5) ?_
    refine x_ic T_169_10 ?_
    refine x_ic2 T_169_11 (fun h => absurd (show ¬ (2 : Int) = 2 from h) (by decide)) (fun _ => ?_)
    refine x_li (z := dd) T_169_14 rfl ?_
    refine x_ic T_169_15 ?_
    refine x_ic2 T_169_16 (fun _ => ?_) (fun h => absurd (show ¬ dd = (-1) by omega) h)
    refine x_lr (z := some pr) T_169_22 rfl ?_
    refine x_li (z := dd) T_169_23 rfl ?_
    refine x_cv2 T_169_24 mN_166 mL_166 (Nat.le_of_ble_eq_true rfl) mO_166 (hP.o hpo) (Nat.le_of_ble_eq_true rfl) (hop) ?_
    rintro _ σ ⟨rfl, rfl⟩
    refine cR ?_
    refine x_nnul T_169_27 (fun _ _ => ?_) (fun h0 => absurd h0 (by simp))
    refine x_lr (z := some 2175) T_169_33 rfl ?_
    refine x_gR (z := some 129) T_169_34 F_14_0 (hP.o xo_2175) (hP.rc xo_2175 rfl rfl) ?_
    refine x_lr (z := some pr) T_169_37 rfl ?_
    refine x_li (z := dd) T_169_38 rfl ?_
    refine x_cv3 T_169_39 mN_170 mL_170 (Nat.le_of_ble_eq_true rfl) mO_170 (hP.o xo_129) (Nat.le_of_ble_eq_true rfl) (hck) ?_
    clear hP hck
    rintro _ σ ⟨rfl, V5, V6, hP, hX5, hF5⟩
    refine cV ?_
    refine x_ic T_169_42 ?_
    refine x_ri T_169_43 ?_
    exact ⟨rfl, V5, V6, hP, hX5, hF5⟩
end XCLS
