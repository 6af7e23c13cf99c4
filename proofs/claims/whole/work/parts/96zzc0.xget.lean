/-! The class's own methods: what a process was told, where it is, its variables; wipe. -/
theorem T_206_17 : hTab 206 17 = some ((3, 3, 2, []), 18) := rfl
theorem T_206_18 : hTab 206 18 = some ((24, 6, Int.ofNat 2, []), 21) := rfl
theorem T_206_21 : hTab 206 21 = some ((3, 2, 0, []), 22) := rfl
theorem T_206_22 : hTab 206 22 = some ((31, 33, 0, []), 25) := rfl
theorem T_207_16 : hTab 207 16 = some ((3, 2, 2, []), 17) := rfl
theorem T_207_17 : hTab 207 17 = some ((24, 6, Int.ofNat 2, []), 20) := rfl
theorem T_207_20 : hTab 207 20 = some ((31, 28, 0, []), 23) := rfl
theorem T_207_23 : hTab 207 23 = some ((4, 3, 0, []), 24) := rfl
theorem T_207_24 : hTab 207 24 = some ((3, 2, 2, []), 25) := rfl
theorem T_207_25 : hTab 207 25 = some ((24, 6, Int.ofNat 2, []), 28) := rfl
theorem T_207_28 : hTab 207 28 = some ((31, 27, 0, []), 31) := rfl
theorem T_207_31 : hTab 207 31 = some ((3, 3, 0, []), 32) := rfl
theorem T_207_32 : hTab 207 32 = some ((33, 1, 0, []), 33) := rfl
theorem T_220_17 : hTab 220 17 = some ((3, 3, 2, []), 18) := rfl
theorem T_220_18 : hTab 220 18 = some ((24, 6, Int.ofNat 1, []), 21) := rfl
theorem T_220_21 : hTab 220 21 = some ((3, 2, 0, []), 22) := rfl
theorem T_220_22 : hTab 220 22 = some ((31, 33, 0, []), 25) := rfl
section XGET
variable {fb : Bool} {d b : Nat} {σ0 σ : hM} {W W2 P : qR} {R : rR} {i p x z K T U : Int} {l : List Int}
theorem x_livP (hP : PX σ0 W R σ) (hX : XN W R P) : CL fb d 97 [vR (some 129), vI p] σ (rPR (if isPr P p then some (prO p) else none) σ) := by
  have h := x_living (fb := fb) (d := d) (k := p) hP hX
  by_cases q : isPr P p
  · rw [if_pos (by unfold isPr at q; omega)] at h
    rw [if_pos q]
    exact h
  · rw [if_neg (fun c => q (by unfold isPr; omega))] at h
    rw [if_neg q]
    exact h
theorem isPr_v (h : isPr P p) : (0 ≤ p ∧ p < 8) ∧ ¬ P 2320 p = 0 := by unfold isPr at h; omega
theorem x_outX (hP : PX σ0 W R σ) (hX : XW K T U W R P) : CL fb (d + 1) 206 [vR (some 128), vI p, vI i] σ (rP (yOut P p i) σ) := by
  have hli := x_livP (fb := fb) (d := d) (p := p) hP hX.1.2.2.1
  unfold yOut
  by_cases q : isPr P p
  · obtain ⟨hp, hlv⟩ := isPr_v q
    rw [if_pos q] at hli
    have hL := (hX.1.2.2.1.1 p hp.1 hp.2).2.2.2 hlv
    have hB := hL.2.2.2.2.1
    have hs : 0 ≤ P 2329 p ∧ P 2329 p ≤ 1000 := IV.a hX.1.2.2.2.1.iv 2329 0 8 rfl rfl rfl (by omega) (by omega)
    have hat := x_at (fb := fb) (d := d) (i := i) hP hB
    rw [seg_len] at hat
    have hpo := prO_o hp
    have hbo := hB.1
    have e : (if isPr P p ∧ (0 ≤ i ∧ i ≤ P 2329 p - 1) then P 2328 (1000 * p + i) else -1) = if 0 ≤ i ∧ i < (((P 2329 p).toNat : Nat) : Int) then lg (seg (P 2328) (1000 * p) (P 2329 p).toNat) i else -1 := by
      by_cases q2 : 0 ≤ i ∧ i < P 2329 p
      · rw [if_pos ⟨q, by omega⟩, if_pos (by omega), lg_seg _ _ _ _ (by omega) (by omega)]
      · rw [if_neg (fun c => q2 (by omega)), if_neg (fun c => q2 (by omega))]
    rw [e]
    obtain ⟨v, hv⟩ : ∃ v, (if 0 ≤ i ∧ i < (((P 2329 p).toNat : Nat) : Int) then lg (seg (P 2328) (1000 * p) (P 2329 p).toNat) i else -1) = v := ⟨_, rfl⟩
    rw [hv] at hat ⊢
    obtain ⟨pr, hpr⟩ : ∃ q, prO p = q := ⟨_, rfl⟩
    rw [hpr] at hli hpo hbo hat
    refine CL_in mL_206 rfl ?_
    show WP fb _ 206 0 [some (vR (some 128)), some (vI p), some (vI i), none] [] σ _
    refine x_lr (z := some 128) T_206_0 rfl ?_
    refine x_gR (z := some 129) T_206_1 F_0_0 (hP.o xo_128) (hP.rc xo_128 rfl rfl) ?_
    refine x_li (z := p) T_206_4 rfl ?_
    refine x_cv2 T_206_5 mN_97 mL_97 (Nat.le_of_ble_eq_true rfl) mO_97 (hP.o xo_129) (Nat.le_of_ble_eq_true rfl) (hli) ?_
    rintro _ σ ⟨rfl, rfl⟩
    refine cR ?_
    refine x_sr (ls1 := [some (vR (some 128)), some (vI p), some (vI i), some (vR (some pr))]) T_206_8 rfl ?_
    refine x_lr (z := some pr) T_206_9 rfl ?_
    refine x_nnul T_206_10 (fun _ _ => ?_) (fun h0 => absurd h0 (by simp))
    refine x_lr (z := some pr) T_206_17 rfl ?_
    refine x_gR (z := some (pr + 3)) T_206_18 F_6_2 (hP.o hpo) (hP.rc hpo rfl rfl) ?_
    refine x_li (z := i) T_206_21 rfl ?_
    refine x_cv2 T_206_22 mN_33 mL_33 (Nat.le_of_ble_eq_true rfl) mO_33 (hP.o hbo) (Nat.le_of_ble_eq_true rfl) (hat) ?_
    rintro _ σ ⟨rfl, rfl⟩
    refine cI ?_
    refine x_ri T_206_25 ?_
    exact ⟨rfl, rfl⟩
  · rw [if_neg q] at hli
    rw [if_neg (fun c => q c.1)]
    refine CL_in mL_206 rfl ?_
    show WP fb _ 206 0 [some (vR (some 128)), some (vI p), some (vI i), none] [] σ _
    refine x_lr (z := some 128) T_206_0 rfl ?_
    refine x_gR (z := some 129) T_206_1 F_0_0 (hP.o xo_128) (hP.rc xo_128 rfl rfl) ?_
    refine x_li (z := p) T_206_4 rfl ?_
    refine x_cv2 T_206_5 mN_97 mL_97 (Nat.le_of_ble_eq_true rfl) mO_97 (hP.o xo_129) (Nat.le_of_ble_eq_true rfl) (hli) ?_
    rintro _ σ ⟨rfl, rfl⟩
    refine cR ?_
    refine x_sr (ls1 := [some (vR (some 128)), some (vI p), some (vI i), some (vR none)]) T_206_8 rfl ?_
    refine x_lr (z := none) T_206_9 rfl ?_
    refine x_nnul T_206_10 (fun a0 h0 => absurd h0 (by simp)) (fun _ => ?_)
    refine x_ic T_206_13 ?_
    refine x_goto T_206_14 ?_
    refine x_ri T_206_25 ?_
    exact ⟨rfl, rfl⟩
theorem x_dotX (hP : PX σ0 W R σ) (hX : XW K T U W R P) : CL fb (d + 1) 220 [vR (some 128), vI p, vI i] σ (rP (yDot P p i) σ) := by
  have hli := x_livP (fb := fb) (d := d) (p := p) hP hX.1.2.2.1
  unfold yDot
  by_cases q : isPr P p
  · obtain ⟨hp, hlv⟩ := isPr_v q
    rw [if_pos q] at hli
    have hL := (hX.1.2.2.1.1 p hp.1 hp.2).2.2.2 hlv
    have hB := hL.2.2.2.1
    have hs : 0 ≤ P 2326 p ∧ P 2326 p ≤ 60 := IV.a hX.1.2.2.2.1.iv 2326 0 8 rfl rfl rfl (by omega) (by omega)
    have hat := x_at (fb := fb) (d := d) (i := i) hP hB
    rw [seg_len] at hat
    have hpo := prO_o hp
    have hbo := hB.1
    have e : (if isPr P p ∧ (0 ≤ i ∧ i ≤ P 2326 p - 1) then P 2325 (60 * p + i) else -1) = if 0 ≤ i ∧ i < (((P 2326 p).toNat : Nat) : Int) then lg (seg (P 2325) (60 * p) (P 2326 p).toNat) i else -1 := by
      by_cases q2 : 0 ≤ i ∧ i < P 2326 p
      · rw [if_pos ⟨q, by omega⟩, if_pos (by omega), lg_seg _ _ _ _ (by omega) (by omega)]
      · rw [if_neg (fun c => q2 (by omega)), if_neg (fun c => q2 (by omega))]
    rw [e]
    obtain ⟨v, hv⟩ : ∃ v, (if 0 ≤ i ∧ i < (((P 2326 p).toNat : Nat) : Int) then lg (seg (P 2325) (60 * p) (P 2326 p).toNat) i else -1) = v := ⟨_, rfl⟩
    rw [hv] at hat ⊢
    obtain ⟨pr, hpr⟩ : ∃ q, prO p = q := ⟨_, rfl⟩
    rw [hpr] at hli hpo hbo hat
    refine CL_in mL_220 rfl ?_
    show WP fb _ 220 0 [some (vR (some 128)), some (vI p), some (vI i), none] [] σ _
    refine x_lr (z := some 128) T_220_0 rfl ?_
    refine x_gR (z := some 129) T_220_1 F_0_0 (hP.o xo_128) (hP.rc xo_128 rfl rfl) ?_
    refine x_li (z := p) T_220_4 rfl ?_
    refine x_cv2 T_220_5 mN_97 mL_97 (Nat.le_of_ble_eq_true rfl) mO_97 (hP.o xo_129) (Nat.le_of_ble_eq_true rfl) (hli) ?_
    rintro _ σ ⟨rfl, rfl⟩
    refine cR ?_
    refine x_sr (ls1 := [some (vR (some 128)), some (vI p), some (vI i), some (vR (some pr))]) T_220_8 rfl ?_
    refine x_lr (z := some pr) T_220_9 rfl ?_
    refine x_nnul T_220_10 (fun _ _ => ?_) (fun h0 => absurd h0 (by simp))
    refine x_lr (z := some pr) T_220_17 rfl ?_
    refine x_gR (z := some (pr + 1)) T_220_18 F_6_1 (hP.o hpo) (hP.rc hpo rfl rfl) ?_
    refine x_li (z := i) T_220_21 rfl ?_
    refine x_cv2 T_220_22 mN_33 mL_33 (Nat.le_of_ble_eq_true rfl) mO_33 (hP.o hbo) (Nat.le_of_ble_eq_true rfl) (hat) ?_
    rintro _ σ ⟨rfl, rfl⟩
    refine cI ?_
    refine x_ri T_220_25 ?_
    exact ⟨rfl, rfl⟩
  · rw [if_neg q] at hli
    rw [if_neg (fun c => q c.1)]
    refine CL_in mL_220 rfl ?_
    show WP fb _ 220 0 [some (vR (some 128)), some (vI p), some (vI i), none] [] σ _
    refine x_lr (z := some 128) T_220_0 rfl ?_
    refine x_gR (z := some 129) T_220_1 F_0_0 (hP.o xo_128) (hP.rc xo_128 rfl rfl) ?_
    refine x_li (z := p) T_220_4 rfl ?_
    refine x_cv2 T_220_5 mN_97 mL_97 (Nat.le_of_ble_eq_true rfl) mO_97 (hP.o xo_129) (Nat.le_of_ble_eq_true rfl) (hli) ?_
    rintro _ σ ⟨rfl, rfl⟩
    refine cR ?_
    refine x_sr (ls1 := [some (vR (some 128)), some (vI p), some (vI i), some (vR none)]) T_220_8 rfl ?_
    refine x_lr (z := none) T_220_9 rfl ?_
    refine x_nnul T_220_10 (fun a0 h0 => absurd h0 (by simp)) (fun _ => ?_)
    refine x_ic T_220_13 ?_
    refine x_goto T_220_14 ?_
    refine x_ri T_220_25 ?_
    exact ⟨rfl, rfl⟩
theorem x_wipeX (hP : PX σ0 W R σ) (hX : XW K T U W R P) : CL fb (d + 1) 207 [vR (some 128), vI p] σ (fun r σ' => r = some (vI (yWip P p).1) ∧ ∃ W2, PX σ0 W2 R σ' ∧ XW K T U W2 R (yWip P p).2) := by
  have hli := x_livP (fb := fb) (d := d) (p := p) hP hX.1.2.2.1
  unfold yWip
  by_cases q : isPr P p
  · obtain ⟨hp, hlv⟩ := isPr_v q
    rw [if_pos q] at hli ⊢
    have hL := (hX.1.2.2.1.1 p hp.1 hp.2).2.2.2 hlv
    have hB := hL.2.2.2.2.1
    have hrp := prO_rng hp
    have hs : 0 ≤ P 2329 p ∧ P 2329 p ≤ 1000 := IV.a hX.1.2.2.2.1.iv 2329 0 8 rfl rfl rfl (by omega) (by omega)
    have hsz := x_size (fb := fb) (d := d) hP hB (by rw [seg_len]; omega : _ = P 2329 p)
    have hcl := x_clear (fb := fb) (d := d) hP hB
    have hpo := prO_o hp
    have hbo := hB.1
    have hQ : ∀ (f : Nat) (k : Int), f ≠ 2329 → rU P 2329 p 0 f k = P f k := fun f k a => rU_f a
    have hfin := fun (W2 : qR) (hF : FB (prO p + 3) W W2) (hB2 : BY W2 (prO p + 3) 1000 []) => hX.own (Q := rU P 2329 p 0) hp hF (by omega) (by omega) (fun f k _ _ _ a _ _ => rU_f a) (GI_one (f := 2329) (ty := 0) (len := 8) hX.1.2.2.2.1 rfl (show (0 : Int) ≤ 0 ∧ (0 : Int) ≤ 1000 by decide) rfl rfl rfl rfl rfl rfl rfl rfl rfl (by decide) (by decide)) (fun _ => by
      rw [hQ 2326 _ (by decide), show rU P 2329 p 0 2325 = P 2325 from funext (fun k => hQ _ k (by decide)), show rU P 2329 p 0 2329 p = 0 from rU_s]
      refine ⟨hF.by hL.2.2.2.1 (by omega), hB2, fun x x0 x1 => ?_⟩
      rw [hQ 2362 _ (by decide), show rU P 2329 p 0 2361 = P 2361 from funext (fun k => hQ _ k (by decide))]
      exact hF.by (hL.2.2.2.2.2 x x0 x1) (by omega)) (fun p2 p0 p1 hne => by
      rw [hQ 2326 _ (by decide), show rU P 2329 p 0 2325 = P 2325 from funext (fun k => hQ _ k (by decide)), show rU P 2329 p 0 2328 = P 2328 from funext (fun k => hQ _ k (by decide)), show rU P 2329 p 0 2329 p2 = P 2329 p2 from rU_k hne]
      refine ⟨rfl, rfl, fun x _ _ => ?_⟩
      rw [hQ 2362 _ (by decide), show rU P 2329 p 0 2361 = P 2361 from funext (fun k => hQ _ k (by decide))])
    obtain ⟨z, hz⟩ : ∃ q, P 2329 p = q := ⟨_, rfl⟩
    rw [hz] at hsz
    rw [hz]
    obtain ⟨pr, hpr⟩ : ∃ q, prO p = q := ⟨_, rfl⟩
    rw [hpr] at hli hpo hbo hsz hcl
    simp only [hpr] at hfin
    refine CL_in mL_207 rfl ?_
    show WP fb _ 207 0 [some (vR (some 128)), some (vI p), none, none] [] σ _
    refine x_lr (z := some 128) T_207_0 rfl ?_
    refine x_gR (z := some 129) T_207_1 F_0_0 (hP.o xo_128) (hP.rc xo_128 rfl rfl) ?_
    refine x_li (z := p) T_207_4 rfl ?_
    refine x_cv2 T_207_5 mN_97 mL_97 (Nat.le_of_ble_eq_true rfl) mO_97 (hP.o xo_129) (Nat.le_of_ble_eq_true rfl) (hli) ?_
    rintro _ σ ⟨rfl, rfl⟩
    refine cR ?_
    refine x_sr (ls1 := [some (vR (some 128)), some (vI p), some (vR (some pr)), none]) T_207_8 rfl ?_
    refine x_lr (z := some pr) T_207_9 rfl ?_
    refine x_nnul T_207_10 (fun _ _ => ?_) (fun h0 => absurd h0 (by simp))
    refine x_lr (z := some pr) T_207_16 rfl ?_
    refine x_gR (z := some (pr + 3)) T_207_17 F_6_2 (hP.o hpo) (hP.rc hpo rfl rfl) ?_
    refine x_cv1 T_207_20 mN_28 mL_28 (Nat.le_of_ble_eq_true rfl) mO_28 (hP.o hbo) (Nat.le_of_ble_eq_true rfl) (hsz) ?_
    rintro _ σ ⟨rfl, rfl⟩
    refine cI ?_
    refine x_si (ls1 := [some (vR (some 128)), some (vI p), some (vR (some pr)), some (vI z)]) T_207_23 rfl ?_
    refine x_lr (z := some pr) T_207_24 rfl ?_
    refine x_gR (z := some (pr + 3)) T_207_25 F_6_2 (hP.o hpo) (hP.rc hpo rfl rfl) ?_
    refine x_cv1 T_207_28 mN_27 mL_27 (Nat.le_of_ble_eq_true rfl) mO_27 (hP.o hbo) (Nat.le_of_ble_eq_true rfl) (hcl) ?_
    clear hP hcl
    rintro _ σ ⟨rfl, V, hP, hBV, hFV⟩
    refine cV ?_
    refine x_li (z := z) T_207_31 rfl ?_
    refine x_ri T_207_32 ?_
    exact ⟨rfl, V, hP, hfin V hFV hBV⟩
  · rw [if_neg q] at hli ⊢
    refine CL_in mL_207 rfl ?_
    show WP fb _ 207 0 [some (vR (some 128)), some (vI p), none, none] [] σ _
    refine x_lr (z := some 128) T_207_0 rfl ?_
    refine x_gR (z := some 129) T_207_1 F_0_0 (hP.o xo_128) (hP.rc xo_128 rfl rfl) ?_
    refine x_li (z := p) T_207_4 rfl ?_
    refine x_cv2 T_207_5 mN_97 mL_97 (Nat.le_of_ble_eq_true rfl) mO_97 (hP.o xo_129) (Nat.le_of_ble_eq_true rfl) (hli) ?_
    rintro _ σ ⟨rfl, rfl⟩
    refine cR ?_
    refine x_sr (ls1 := [some (vR (some 128)), some (vI p), some (vR none), none]) T_207_8 rfl ?_
    refine x_lr (z := none) T_207_9 rfl ?_
    refine x_nnul T_207_10 (fun a0 h0 => absurd h0 (by simp)) (fun _ => ?_)
    refine x_ic T_207_13 ?_
    refine x_ri T_207_15 ?_
    exact ⟨rfl, W, hP, hX⟩
end XGET
