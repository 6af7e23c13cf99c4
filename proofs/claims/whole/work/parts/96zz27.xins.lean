/-! The class's servers: a file comes to where its path puts it. -/
theorem T_67_0 : hTab 67 0 = some ((3, 0, 2, []), 1) := rfl
theorem T_67_1 : hTab 67 1 = some ((24, 7, Int.ofNat 6, []), 4) := rfl
theorem T_67_4 : hTab 67 4 = some ((0, 0, 64, []), 6) := rfl
theorem T_67_6 : hTab 67 6 = some ((19, 2, Int.ofNat 17, []), 9) := rfl
theorem T_67_17 : hTab 67 17 = some ((3, 0, 2, []), 18) := rfl
theorem T_67_18 : hTab 67 18 = some ((24, 7, Int.ofNat 2, []), 21) := rfl
theorem T_67_21 : hTab 67 21 = some ((3, 0, 2, []), 22) := rfl
theorem T_67_22 : hTab 67 22 = some ((24, 7, Int.ofNat 6, []), 25) := rfl
theorem T_67_25 : hTab 67 25 = some ((26, 10, 0, []), 26) := rfl
theorem T_67_26 : hTab 67 26 = some ((4, 5, 2, []), 28) := rfl
theorem T_67_28 : hTab 67 28 = some ((3, 0, 2, []), 29) := rfl
theorem T_67_29 : hTab 67 29 = some ((24, 7, Int.ofNat 6, []), 32) := rfl
theorem T_67_32 : hTab 67 32 = some ((4, 6, 0, []), 34) := rfl
theorem T_67_34 : hTab 67 34 = some ((3, 6, 0, []), 36) := rfl
theorem T_67_36 : hTab 67 36 = some ((18, 5, Int.ofNat 77, []), 39) := rfl
theorem T_67_39 : hTab 67 39 = some ((3, 0, 2, []), 40) := rfl
theorem T_67_40 : hTab 67 40 = some ((24, 7, Int.ofNat 2, []), 43) := rfl
theorem T_67_43 : hTab 67 43 = some ((3, 6, 0, []), 45) := rfl
theorem T_67_45 : hTab 67 45 = some ((0, 0, 1, []), 46) := rfl
theorem T_67_46 : hTab 67 46 = some ((10, 1, 0, []), 47) := rfl
theorem T_67_47 : hTab 67 47 = some ((26, 10, 0, []), 48) := rfl
theorem T_67_48 : hTab 67 48 = some ((24, 8, Int.ofNat 4, []), 51) := rfl
theorem T_67_51 : hTab 67 51 = some ((3, 1, 0, []), 52) := rfl
theorem T_67_52 : hTab 67 52 = some ((19, 5, Int.ofNat 77, []), 55) := rfl
theorem T_67_55 : hTab 67 55 = some ((3, 0, 2, []), 56) := rfl
theorem T_67_56 : hTab 67 56 = some ((24, 7, Int.ofNat 2, []), 59) := rfl
theorem T_67_59 : hTab 67 59 = some ((3, 6, 0, []), 61) := rfl
theorem T_67_61 : hTab 67 61 = some ((3, 0, 2, []), 62) := rfl
theorem T_67_62 : hTab 67 62 = some ((24, 7, Int.ofNat 2, []), 65) := rfl
theorem T_67_65 : hTab 67 65 = some ((3, 6, 0, []), 67) := rfl
theorem T_67_67 : hTab 67 67 = some ((0, 0, 1, []), 68) := rfl
theorem T_67_68 : hTab 67 68 = some ((10, 1, 0, []), 69) := rfl
theorem T_67_69 : hTab 67 69 = some ((26, 10, 0, []), 70) := rfl
theorem T_67_70 : hTab 67 70 = some ((27, 10, 0, []), 71) := rfl
theorem T_67_71 : hTab 67 71 = some ((5, 6, (-1), []), 74) := rfl
theorem T_67_74 : hTab 67 74 = some ((22, 0, Int.ofNat 34, []), 77) := rfl
theorem T_67_77 : hTab 67 77 = some ((3, 0, 2, []), 78) := rfl
theorem T_67_78 : hTab 67 78 = some ((24, 7, Int.ofNat 2, []), 81) := rfl
theorem T_67_81 : hTab 67 81 = some ((3, 6, 0, []), 83) := rfl
theorem T_67_83 : hTab 67 83 = some ((3, 5, 2, []), 85) := rfl
theorem T_67_85 : hTab 67 85 = some ((27, 10, 0, []), 86) := rfl
theorem T_67_86 : hTab 67 86 = some ((3, 0, 2, []), 87) := rfl
theorem T_67_87 : hTab 67 87 = some ((6, 0, 0, []), 88) := rfl
theorem T_67_88 : hTab 67 88 = some ((24, 7, Int.ofNat 6, []), 91) := rfl
theorem T_67_91 : hTab 67 91 = some ((0, 0, 1, []), 92) := rfl
theorem T_67_92 : hTab 67 92 = some ((10, 0, 0, []), 93) := rfl
theorem T_67_93 : hTab 67 93 = some ((25, 7, Int.ofNat 6, []), 96) := rfl
theorem T_67_96 : hTab 67 96 = some ((3, 5, 2, []), 98) := rfl
theorem T_67_98 : hTab 67 98 = some ((3, 1, 0, []), 99) := rfl
theorem T_67_99 : hTab 67 99 = some ((3, 2, 2, []), 100) := rfl
theorem T_67_100 : hTab 67 100 = some ((3, 3, 0, []), 101) := rfl
theorem T_67_101 : hTab 67 101 = some ((3, 4, 0, []), 103) := rfl
theorem T_67_103 : hTab 67 103 = some ((31, 10, 0, []), 106) := rfl
theorem T_67_106 : hTab 67 106 = some ((3, 5, 2, []), 108) := rfl
theorem T_67_108 : hTab 67 108 = some ((33, 4, 0, []), 109) := rfl
theorem mN_67 : hmN 67 = 5 := by decide +kernel
theorem mL_67 : hmL 67 = 7 := by decide +kernel
theorem mK_67 : hmK 67 = 1 := by decide +kernel
theorem mO_67 : hmO 67 = 7 := by decide +kernel
/-- the places behind lo, up to C, have what stood one place before -/
def dnR (R : rR) (S : Nat) (lo C : Int) : rR := fun x k => if x = S + 1 ∧ lo < k ∧ k ≤ C then R x (k - 1) else R x k
section XINS
variable {fb : Bool} {d S a b mb : Nat} {σ0 σ : hM} {W W0 W1 W2 P : qR} {R R2 : rR} {i j k x z v s e w c f u y n p q md C : Int} {t : Nat → Nat} {dr r : Option Nat} {g : Int → Int}
theorem dnR_C : dnR R S C C = R := by
  funext x k
  exact if_neg (fun c => by omega)
theorem dnR_at : dnR R S i C (S + 1) (i - 1) = R (S + 1) (i - 1) := if_neg (fun c => by omega)
theorem dnR_step (h : i ≤ C) : oU (dnR R S i C) (S + 1) i (R (S + 1) (i - 1)) = dnR R S (i - 1) C := by
  funext x k
  unfold oU dnR
  by_cases q : x = S + 1 ∧ k = i
  · rw [if_pos q, if_pos ⟨q.1, by omega, by omega⟩, q.1, q.2]
  · rw [if_neg q]
    by_cases q2 : x = S + 1 ∧ i < k ∧ k ≤ C
    · rw [if_pos q2, if_pos ⟨q2.1, by omega, q2.2.2⟩]
    · rw [if_neg q2, if_neg (fun c => q2 ⟨c.1, by
        have hne : k ≠ i := fun e => q ⟨c.1, e⟩
        omega, c.2.2⟩)]
theorem x_ins_loop (hS : VS S s) (hC : 0 ≤ C ∧ C < 64) (ht : ∀ i, i < 64 → t i < 64) (hN : ∀ i : Int, 0 ≤ i → i < 64 → R (S + 1) i = some (S + 6 + 3 * t i.toNat)) (hg : ∀ i : Int, 0 ≤ i → i < C → W (S + 6 + 3 * t i.toNat) 2260 = g i) (hq : 0 ≤ q ∧ q ≤ C) (h1 : ∀ i, q ≤ i → i < C → p < g i) (h2 : q = 0 ∨ g (q - 1) ≤ p) {Q : Option AV → hM → Prop} (hQ : ∀ σ : hM, PX σ0 W (dnR R S q C) σ → WP fb d 67 77 [some (vR (some S)), some (vI p), some (vR dr), some (vI md), some (vI u), some (vR r), some (vI q)] [] σ Q) : ∀ (m : Nat) (i : Int) (σ : hM), q + m = i → i ≤ C → PX σ0 W (dnR R S i C) σ → WP fb d 67 34 [some (vR (some S)), some (vI p), some (vR dr), some (vI md), some (vI u), some (vR r), some (vI i)] [] σ Q := by
  have hO := hS.o
  have hA := hS.an
  intro m
  induction m with
  | zero =>
    intro i σ h3 h4 hP
    have hi : i = q := by omega
    subst hi
    have hgo := hQ σ hP
    by_cases q0 : i = 0
    · skip
      refine x_li (z := i) T_67_34 rfl ?_
      refine x_if T_67_36 (fun _ => ?_) (fun h => absurd (show i ≤ 0 by omega) h)
      exact hgo
    · have hn := (dnR_at (R := R) (S := S) (i := i) (C := C)).trans (hN (i - 1) (by omega) (by omega))
      have hgi := hg (i - 1) (by omega) (by omega)
      have hno := hS.nd (j := t (i - 1).toNat) (ht _ (by omega))
      have hle := h2.resolve_left q0
      obtain ⟨na, hna⟩ : ∃ na, S + 6 + 3 * t (i - 1).toNat = na := ⟨_, rfl⟩
      rw [hna] at hn hgi hno
      obtain ⟨gi, hgi2⟩ : ∃ y, g (i - 1) = y := ⟨_, rfl⟩
      rw [hgi2] at hgi hle
      refine x_li (z := i) T_67_34 rfl ?_
      refine x_if T_67_36 (fun h => absurd (show i ≤ 0 from h) (by omega)) (fun _ => ?_)
      refine x_lr (z := some S) T_67_39 rfl ?_
      refine x_gR (z := some (S + 1)) T_67_40 F_7_2 (hP.o hO) (hP.rc hO rfl rfl) ?_
      refine x_li (z := i) T_67_43 rfl ?_
      refine x_ic T_67_45 ?_
      refine x_ib (w := (i - 1)) T_67_46 (fun h => absurd h.1 (by decide)) (w32_id (by omega) (by omega)) ?_
      refine x_alR (z := some na) T_67_47 (hP.ta hA) (by decide) (by omega) (by omega) (Eq.trans (hP.arm hA rfl (by omega)) hn) ?_
      refine x_gI (z := gi) T_67_48 (Or.inl F_8_4) (hP.o hno) (Eq.trans (hP.gi hno (key := 2260) rfl) hgi) ?_
      refine x_li (z := p) T_67_51 rfl ?_
      refine x_ic2 T_67_52 (fun _ => ?_) (fun h => absurd (show gi ≤ p by omega) h)
      exact hgo
  | succ m ih =>
    intro i σ h3 h4 hP
    have hgo := fun (σ : hM) => ih (i - 1) σ (by omega) (by omega)
    have hni := hN (i - 1) (by omega) (by omega)
    have hn := (dnR_at (R := R) (S := S) (i := i) (C := C)).trans hni
    have hgi := hg (i - 1) (by omega) (by omega)
    have hno := hS.nd (j := t (i - 1).toNat) (ht _ (by omega))
    have hlt := h1 (i - 1) (by omega) (by omega)
    have hst := dnR_step (R := R) (S := S) h4
    rw [hni] at hst
    obtain ⟨na, hna⟩ : ∃ na, S + 6 + 3 * t (i - 1).toNat = na := ⟨_, rfl⟩
    rw [hna] at hn hgi hno hst
    obtain ⟨gi, hgi2⟩ : ∃ y, g (i - 1) = y := ⟨_, rfl⟩
    rw [hgi2] at hgi hlt
    have hgo := fun (σ : hM) (hP : PX σ0 W (oU (dnR R S i C) (S + 1) i (some na)) σ) => hgo σ (by rw [← hst]; exact hP)
    refine x_li (z := i) T_67_34 rfl ?_
    refine x_if T_67_36 (fun h => absurd (show i ≤ 0 from h) (by omega)) (fun _ => ?_)
    refine x_lr (z := some S) T_67_39 rfl ?_
    refine x_gR (z := some (S + 1)) T_67_40 F_7_2 (hP.o hO) (hP.rc hO rfl rfl) ?_
    refine x_li (z := i) T_67_43 rfl ?_
    refine x_ic T_67_45 ?_
    refine x_ib (w := (i - 1)) T_67_46 (fun h => absurd h.1 (by decide)) (w32_id (by omega) (by omega)) ?_
    refine x_alR (z := some na) T_67_47 (hP.ta hA) (by decide) (by omega) (by omega) (Eq.trans (hP.arm hA rfl (by omega)) hn) ?_
    refine x_gI (z := gi) T_67_48 (Or.inl F_8_4) (hP.o hno) (Eq.trans (hP.gi hno (key := 2260) rfl) hgi) ?_
    refine x_li (z := p) T_67_51 rfl ?_
    refine x_ic2 T_67_52 (fun h => absurd (show gi ≤ p from h) (by omega)) (fun _ => ?_)
    refine x_lr (z := some S) T_67_55 rfl ?_
    refine x_gR (z := some (S + 1)) T_67_56 F_7_2 (hP.o hO) (hP.rc hO rfl rfl) ?_
    refine x_li (z := i) T_67_59 rfl ?_
    refine x_lr (z := some S) T_67_61 rfl ?_
    refine x_gR (z := some (S + 1)) T_67_62 F_7_2 (hP.o hO) (hP.rc hO rfl rfl) ?_
    refine x_li (z := i) T_67_65 rfl ?_
    refine x_ic T_67_67 ?_
    refine x_ib (w := (i - 1)) T_67_68 (fun h => absurd h.1 (by decide)) (w32_id (by omega) (by omega)) ?_
    refine x_alR (z := some na) T_67_69 (hP.ta hA) (by decide) (by omega) (by omega) (Eq.trans (hP.arm hA rfl (by omega)) hn) ?_
    refine z_aR hP T_67_70 (by decide) (fun _ e => by cases e; exact hno) rfl hA (by omega) (by omega) (fun σ hP => ?_)
    refine x_inc (w := (i + (-1))) (ls1 := [some (vR (some S)), some (vI p), some (vR dr), some (vI md), some (vI u), some (vR r), some (vI (i + (-1)))]) T_67_71 rfl (w32_id (by omega) (by omega)) rfl ?_
    refine x_goto T_67_74 ?_
    rw [show i + (-1) = i - 1 by omega]
    exact hgo σ hP
theorem x_insert (hP : PX σ0 W R σ) (hS : VS S s) (hcn : W S 2230 = C) (hC : 0 ≤ C ∧ C < 64) (ht : ∀ i, i < 64 → t i < 64) (hN : ∀ i : Int, 0 ≤ i → i < 64 → R (S + 1) i = some (S + 6 + 3 * t i.toNat)) (hg : ∀ i : Int, 0 ≤ i → i < C → W (S + 6 + 3 * t i.toNat) 2260 = g i) (hq : 0 ≤ q ∧ q ≤ C) (h1 : ∀ i, q ≤ i → i < C → p < g i) (h2 : q = 0 ∨ g (q - 1) ≤ p) (hb : S + 6 + 3 * t C.toNat = b) : CL fb (d + 1) 67 [vR (some S), vI p, vR dr, vI md, vI u] σ (fun r σ' => r = some (vR (some b)) ∧ PX σ0 (ndW (rU W S 2230 (C + 1)) b p md u) (ndR (oU (dnR R S q C) (S + 1) q (some b)) b dr) σ') := by
  have hO := hS.o
  have hA := hS.an
  have hbo : tX b = some (Sum.inl 8) := by
    rw [← hb]
    exact hS.nd (ht _ (by omega))
  have hnC := hN C hC.1 hC.2
  rw [hb] at hnC
  have hbe := fun (σ : hM) (hP : PX σ0 (rU W S 2230 (C + 1)) (oU (dnR R S q C) (S + 1) q (some b)) σ) => x_nodeBecome (fb := fb) (d := d) (path := p) (md := md) (u := u) (r := dr) hP hbo
  have h77 : ∀ σ : hM, PX σ0 W (dnR R S q C) σ → WP fb (d + 1) 67 77 [some (vR (some S)), some (vI p), some (vR dr), some (vI md), some (vI u), some (vR (some b)), some (vI q)] [] σ (fun r σ' => r = some (vR (some b)) ∧ PX σ0 (ndW (rU W S 2230 (C + 1)) b p md u) (ndR (oU (dnR R S q C) (S + 1) q (some b)) b dr) σ') := fun σ hP => by
    refine x_lr (z := some S) T_67_77 rfl ?_
    refine x_gR (z := some (S + 1)) T_67_78 F_7_2 (hP.o hO) (hP.rc hO rfl rfl) ?_
    refine x_li (z := q) T_67_81 rfl ?_
    refine x_lr (z := some b) T_67_83 rfl ?_
    refine z_aR hP T_67_85 (by decide) (fun _ e => by cases e; exact hbo) rfl hA (by omega) (by omega) (fun σ hP => ?_)
    refine x_lr (z := some S) T_67_86 rfl ?_
    refine x_dupR T_67_87 ?_
    refine x_gI (z := C) T_67_88 (Or.inl F_7_6) (hP.o hO) (Eq.trans (hP.gi hO (key := 2230) rfl) hcn) ?_
    refine x_ic T_67_91 ?_
    refine x_ib (w := (C + 1)) T_67_92 (fun h => absurd h.1 (by decide)) (w32_id (by omega) (by omega)) ?_
    refine z_pI hP T_67_93 F_7_6 hO (key := 2230) rfl (fun σ hP => ?_)
    refine x_lr (z := some b) T_67_96 rfl ?_
    refine x_li (z := p) T_67_98 rfl ?_
    refine x_lr (z := dr) T_67_99 rfl ?_
    refine x_li (z := md) T_67_100 rfl ?_
    refine x_li (z := u) T_67_101 rfl ?_
    refine x_cv5 T_67_103 mN_10 mL_10 (Nat.le_of_ble_eq_true rfl) mO_10 (hP.o hbo) (Nat.le_of_ble_eq_true rfl) (hbe σ hP) ?_
    clear hP hbe
    rintro _ σ ⟨rfl, hP⟩
    refine cV ?_
    refine x_lr (z := some b) T_67_106 rfl ?_
    refine x_rr T_67_108 ?_
    exact ⟨rfl, hP⟩
  have hlo := x_ins_loop (fb := fb) (d := d + 1) (σ0 := σ0) (dr := dr) (md := md) (u := u) (r := some b) hS hC ht hN hg hq h1 h2 h77 (C - q).toNat C σ (by omega) (Int.le_refl C) (by rw [dnR_C]; exact hP)
  refine CL_in mL_67 rfl ?_
  show WP fb _ 67 0 [some (vR (some S)), some (vI p), some (vR dr), some (vI md), some (vI u), none, none] [] σ _
  refine x_lr (z := some S) T_67_0 rfl ?_
  refine x_gI (z := C) T_67_1 (Or.inl F_7_6) (hP.o hO) (Eq.trans (hP.gi hO (key := 2230) rfl) hcn) ?_
  refine x_ic T_67_4 ?_
  refine x_ic2 T_67_6 (fun _ => ?_) (fun h => absurd (show C < 64 by omega) h)
  refine x_lr (z := some S) T_67_17 rfl ?_
  refine x_gR (z := some (S + 1)) T_67_18 F_7_2 (hP.o hO) (hP.rc hO rfl rfl) ?_
  refine x_lr (z := some S) T_67_21 rfl ?_
  refine x_gI (z := C) T_67_22 (Or.inl F_7_6) (hP.o hO) (Eq.trans (hP.gi hO (key := 2230) rfl) hcn) ?_
  refine x_alR (z := some b) T_67_25 (hP.ta hA) (by decide) (by omega) (by omega) (Eq.trans (hP.arm hA rfl (by omega)) hnC) ?_
  refine x_sr (ls1 := [some (vR (some S)), some (vI p), some (vR dr), some (vI md), some (vI u), some (vR (some b)), none]) T_67_26 rfl ?_
  refine x_lr (z := some S) T_67_28 rfl ?_
  refine x_gI (z := C) T_67_29 (Or.inl F_7_6) (hP.o hO) (Eq.trans (hP.gi hO (key := 2230) rfl) hcn) ?_
  refine x_si (ls1 := [some (vR (some S)), some (vI p), some (vR dr), some (vI md), some (vI u), some (vR (some b)), some (vI C)]) T_67_32 rfl ?_
  exact hlo
end XINS
