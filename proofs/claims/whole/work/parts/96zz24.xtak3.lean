/-! The class's servers: takeOut as a whole. -/
theorem T_46_0 : hTab 46 0 = some ((0, 0, 0, []), 1) := rfl
theorem T_46_1 : hTab 46 1 = some ((4, 2, 0, []), 2) := rfl
theorem T_46_40 : hTab 46 40 = some ((0, 0, 0, []), 41) := rfl
theorem T_46_41 : hTab 46 41 = some ((4, 2, 0, []), 42) := rfl
theorem T_46_42 : hTab 46 42 = some ((0, 0, 0, []), 43) := rfl
theorem T_46_43 : hTab 46 43 = some ((4, 3, 0, []), 44) := rfl
theorem T_46_83 : hTab 46 83 = some ((3, 2, 0, []), 84) := rfl
theorem T_46_84 : hTab 46 84 = some ((3, 0, 2, []), 85) := rfl
theorem T_46_85 : hTab 46 85 = some ((24, 7, Int.ofNat 6, []), 88) := rfl
theorem T_46_88 : hTab 46 88 = some ((19, 3, Int.ofNat 134, []), 91) := rfl
theorem T_46_91 : hTab 46 91 = some ((3, 0, 2, []), 92) := rfl
theorem T_46_92 : hTab 46 92 = some ((3, 2, 0, []), 93) := rfl
theorem T_46_93 : hTab 46 93 = some ((25, 7, Int.ofNat 6, []), 96) := rfl
theorem T_46_96 : hTab 46 96 = some ((3, 0, 2, []), 97) := rfl
theorem T_46_97 : hTab 46 97 = some ((24, 7, Int.ofNat 2, []), 100) := rfl
theorem T_46_100 : hTab 46 100 = some ((3, 0, 2, []), 101) := rfl
theorem T_46_101 : hTab 46 101 = some ((24, 7, Int.ofNat 6, []), 104) := rfl
theorem T_46_104 : hTab 46 104 = some ((3, 1, 2, []), 105) := rfl
theorem T_46_105 : hTab 46 105 = some ((27, 10, 0, []), 106) := rfl
theorem T_46_106 : hTab 46 106 = some ((3, 0, 2, []), 107) := rfl
theorem T_46_107 : hTab 46 107 = some ((6, 0, 0, []), 108) := rfl
theorem T_46_108 : hTab 46 108 = some ((24, 7, Int.ofNat 7, []), 111) := rfl
theorem T_46_111 : hTab 46 111 = some ((3, 1, 2, []), 112) := rfl
theorem T_46_112 : hTab 46 112 = some ((24, 8, Int.ofNat 10, []), 115) := rfl
theorem T_46_115 : hTab 46 115 = some ((10, 1, 0, []), 116) := rfl
theorem T_46_116 : hTab 46 116 = some ((25, 7, Int.ofNat 7, []), 119) := rfl
theorem T_46_119 : hTab 46 119 = some ((3, 1, 2, []), 120) := rfl
theorem T_46_120 : hTab 46 120 = some ((0, 0, 0, []), 121) := rfl
theorem T_46_121 : hTab 46 121 = some ((25, 8, Int.ofNat 10, []), 124) := rfl
theorem T_46_124 : hTab 46 124 = some ((3, 1, 2, []), 125) := rfl
theorem T_46_125 : hTab 46 125 = some ((2, 0, 0, []), 126) := rfl
theorem T_46_126 : hTab 46 126 = some ((25, 8, Int.ofNat 1, []), 129) := rfl
theorem T_46_129 : hTab 46 129 = some ((3, 1, 2, []), 130) := rfl
theorem T_46_130 : hTab 46 130 = some ((2, 0, 0, []), 131) := rfl
theorem T_46_131 : hTab 46 131 = some ((25, 8, Int.ofNat 2, []), 134) := rfl
theorem T_46_134 : hTab 46 134 = some ((33, 0, 0, []), 135) := rfl
theorem F_7_7 : (hFd 7 7).2.2.1 = 0 := rfl
def tkW (W : qR) (S b : Nat) (C v : Int) : qR := rU (rU (rU W S 2230 (C - 1)) S 2231 v) b 2266 0
def tkR (R : rR) (S b : Nat) (p C : Int) : rR := oU (oU (oU (mvR (gnR R S b 96) S p C) (S + 1) (C - 1) (some b)) b 2257 none) b 2258 none
section XTAK3
variable {fb : Bool} {d S a b : Nat} {σ0 σ : hM} {W W0 W1 W2 P : qR} {R R2 : rR} {i j k x z v s e w c f u y n p T U C : Int} {l l2 ord : List Int} {t : Nat → Nat} {r : Option Nat}
theorem x_takeOut (hP : PX σ0 W R σ) (hS : VS S s) (hcn : W S 2230 = C) (hC : C ≤ 64) (ht : ∀ i, i < 64 → t i < 64) (hinj : ∀ i j, i < 64 → j < 64 → t i = t j → i = j) (hN : ∀ i : Int, 0 ≤ i → i < 64 → R (S + 1) i = some (S + 6 + 3 * t i.toNat)) (hp : 0 ≤ p ∧ p < C) (hb : S + 6 + 3 * t p.toNat = b) (hg : ∀ i : Int, 0 ≤ i → i < 96 → ∀ b2, R (S + 198 + i.toNat) 2291 = some b2 → 128 ≤ b2) (hv : W S 2231 = v) (hw : W b 2266 = w) (hvw : -1000000 ≤ v ∧ v ≤ 1000000 ∧ 0 ≤ w ∧ w ≤ 600) : CL fb d 46 [vR (some S), vR (some b)] σ (fun r σ' => r = none ∧ PX σ0 (tkW W S b C (v - w)) (tkR R S b p C) σ') := by
  have hO := hS.o
  have hA := hS.an
  have hbo : tX b = some (Sum.inl 8) := by
    rw [← hb]
    exact hS.nd (ht _ (by omega))
  have hN2 : ∀ i : Int, 0 ≤ i → i < 64 → gnR R S b 96 (S + 1) i = some (S + 6 + 3 * t i.toNat) := fun i h0 h1 => (if_neg (fun c => by omega)).trans (hN i h0 h1)
  obtain ⟨R1, hR1⟩ : ∃ R1, gnR R S b 96 = R1 := ⟨_, rfl⟩
  unfold tkW tkR
  rw [hR1]
  rw [hR1] at hN2
  have h83 : ∀ σ : hM, PX σ0 W (mvR R1 S p C) σ → WP fb d 46 83 [some (vR (some S)), some (vR (some b)), some (vI (C - 1)), some (vI C)] [] σ (fun r σ' => r = none ∧ PX σ0 (rU (rU (rU W S 2230 (C - 1)) S 2231 (v - w)) b 2266 0) (oU (oU (oU (mvR R1 S p C) (S + 1) (C - 1) (some b)) b 2257 none) b 2258 none) σ') := fun σ hP => by
    refine x_li (z := (C - 1)) T_46_83 rfl ?_
    refine x_lr (z := some S) T_46_84 rfl ?_
    refine x_gI (z := C) T_46_85 (Or.inl F_7_6) (hP.o hO) (Eq.trans (hP.gi hO (key := 2230) rfl) hcn) ?_
    refine x_ic2 T_46_88 (fun h => absurd (show C ≤ (C - 1) from h) (by omega)) (fun _ => ?_)
    refine x_lr (z := some S) T_46_91 rfl ?_
    refine x_li (z := (C - 1)) T_46_92 rfl ?_
    refine z_pI hP T_46_93 F_7_6 hO (key := 2230) rfl (fun σ hP => ?_)
    refine x_lr (z := some S) T_46_96 rfl ?_
    refine x_gR (z := some (S + 1)) T_46_97 F_7_2 (hP.o hO) (hP.rc hO rfl rfl) ?_
    refine x_lr (z := some S) T_46_100 rfl ?_
    refine x_gI (z := (C - 1)) T_46_101 (Or.inl F_7_6) (hP.o hO) (Eq.trans (hP.gi hO (key := 2230) rfl) rU_s) ?_
    refine x_lr (z := some b) T_46_104 rfl ?_
    refine z_aR hP T_46_105 (by decide) (fun _ e => by cases e; exact hbo) rfl hA (by omega) (by omega) (fun σ hP => ?_)
    refine x_lr (z := some S) T_46_106 rfl ?_
    refine x_dupR T_46_107 ?_
    refine x_gI (z := v) T_46_108 (Or.inl F_7_7) (hP.o hO) (Eq.trans (Eq.trans (hP.gi hO (key := 2231) rfl) (rU_j (by decide))) hv) ?_
    refine x_lr (z := some b) T_46_111 rfl ?_
    refine x_gI (z := w) T_46_112 (Or.inl F_8_10) (hP.o hbo) (Eq.trans (Eq.trans (hP.gi hbo (key := 2266) rfl) (rU_j (by decide))) hw) ?_
    refine x_ib (w := (v - w)) T_46_115 (fun h => absurd h.1 (by decide)) (w32_id (by omega) (by omega)) ?_
    refine z_pI hP T_46_116 F_7_7 hO (key := 2231) rfl (fun σ hP => ?_)
    refine x_lr (z := some b) T_46_119 rfl ?_
    refine x_ic T_46_120 ?_
    refine z_pI hP T_46_121 F_8_10 hbo (key := 2266) rfl (fun σ hP => ?_)
    refine x_lr (z := some b) T_46_124 rfl ?_
    refine x_nu T_46_125 ?_
    refine z_pR hP T_46_126 F_8_1 rfl hbo (key := 2257) rfl (fun σ hP => ?_)
    refine x_lr (z := some b) T_46_129 rfl ?_
    refine x_nu T_46_130 ?_
    refine z_pR hP T_46_131 F_8_2 rfl hbo (key := 2258) rfl (fun σ hP => ?_)
    refine x_rv T_46_134 ?_
    exact ⟨rfl, hP⟩
  have h40 : ∀ σ : hM, PX σ0 W R1 σ → WP fb d 46 40 [some (vR (some S)), some (vR (some b)), some (vI 96), none] [] σ (fun r σ' => r = none ∧ PX σ0 (rU (rU (rU W S 2230 (C - 1)) S 2231 (v - w)) b 2266 0) (oU (oU (oU (mvR R1 S p C) (S + 1) (C - 1) (some b)) b 2257 none) b 2258 none) σ') := fun σ hP => by
    have hgo := x_move_loop (fb := fb) (d := d) hS hcn hC ht hinj hN2 hp hb h83 C.toNat 0 0 σ (by omega) (by decide) (by rw [if_pos hp.1]) (by rw [mvR_0 hp.1]; exact hP)
    refine x_ic T_46_40 ?_
    refine x_si (ls1 := [some (vR (some S)), some (vR (some b)), some (vI 0), none]) T_46_41 rfl ?_
    refine x_ic T_46_42 ?_
    refine x_si (ls1 := [some (vR (some S)), some (vR (some b)), some (vI 0), some (vI 0)]) T_46_43 rfl ?_
    exact hgo
  have hlo := x_gone_loop (fb := fb) (d := d) (σ0 := σ0) (W := W) hS hbo hg (fun σ hP => h40 σ (by rw [← hR1]; exact hP)) 96 0 σ (by decide) (by decide) (by rw [show (0 : Int).toNat = 0 from rfl, gnR_0]; exact hP)
  refine CL_in mL_46 rfl ?_
  show WP fb _ 46 0 [some (vR (some S)), some (vR (some b)), none, none] [] σ _
  refine x_ic T_46_0 ?_
  refine x_si (ls1 := [some (vR (some S)), some (vR (some b)), some (vI 0), none]) T_46_1 rfl ?_
  exact hlo
end XTAK3
