/-! The class's servers: delete, the file of a fid. -/
theorem T_44_0 : hTab 44 0 = some ((3, 1, 2, []), 1) := rfl
theorem T_44_1 : hTab 44 1 = some ((24, 9, Int.ofNat 3, []), 4) := rfl
theorem T_44_4 : hTab 44 4 = some ((4, 2, 2, []), 5) := rfl
theorem T_44_5 : hTab 44 5 = some ((3, 2, 2, []), 6) := rfl
theorem T_44_6 : hTab 44 6 = some ((20, 0, Int.ofNat 32, []), 9) := rfl
theorem T_44_9 : hTab 44 9 = some ((3, 2, 2, []), 10) := rfl
theorem T_44_10 : hTab 44 10 = some ((24, 8, Int.ofNat 1, []), 13) := rfl
theorem T_44_13 : hTab 44 13 = some ((20, 0, Int.ofNat 32, []), 16) := rfl
theorem T_44_16 : hTab 44 16 = some ((3, 2, 2, []), 17) := rfl
theorem T_44_17 : hTab 44 17 = some ((24, 8, Int.ofNat 1, []), 20) := rfl
theorem T_44_20 : hTab 44 20 = some ((3, 1, 2, []), 21) := rfl
theorem T_44_21 : hTab 44 21 = some ((24, 9, Int.ofNat 2, []), 24) := rfl
theorem T_44_24 : hTab 44 24 = some ((31, 45, 0, []), 27) := rfl
theorem T_44_27 : hTab 44 27 = some ((3, 0, 2, []), 28) := rfl
theorem T_44_28 : hTab 44 28 = some ((3, 2, 2, []), 29) := rfl
theorem T_44_29 : hTab 44 29 = some ((31, 46, 0, []), 32) := rfl
theorem T_44_32 : hTab 44 32 = some ((33, 0, 0, []), 33) := rfl
theorem mN_44 : hmN 44 = 2 := by decide +kernel
theorem mL_44 : hmL 44 = 3 := by decide +kernel
theorem mK_44 : hmK 44 = 1 := by decide +kernel
theorem mO_44 : hmO 44 = 7 := by decide +kernel
section XDEL
variable {fb : Bool} {d S a b pa : Nat} {σ0 σ : hM} {W W0 W1 W2 P : qR} {R R2 : rR} {i j k x z v s e w c f u y n p T U C : Int} {l l2 ord : List Int} {t : Nat → Nat} {r : Option Nat}
theorem x_delete (hP : PX σ0 W R σ) (hS : VS S s) (ha : tX a = some (Sum.inl 9)) (hf : R a 2291 = some b) (hpa : R b 2257 = some pa) (hpo : tX pa = some (Sum.inl 8)) (hu : W a 2290 = u) (hy : W pa 2261 = y) (hyr : 0 ≤ y ∧ y < 2147483647) (hcn : W S 2230 = C) (hC : C ≤ 64) (ht : ∀ i, i < 64 → t i < 64) (hinj : ∀ i j, i < 64 → j < 64 → t i = t j → i = j) (hN : ∀ i : Int, 0 ≤ i → i < 64 → R (S + 1) i = some (S + 6 + 3 * t i.toNat)) (hp : 0 ≤ p ∧ p < C) (hb : S + 6 + 3 * t p.toNat = b) (hg : ∀ i : Int, 0 ≤ i → i < 96 → ∀ b2, R (S + 198 + i.toNat) 2291 = some b2 → 128 ≤ b2) (hv : W S 2231 = v) (hw : W b 2266 = w) (hvw : -1000000 ≤ v ∧ v ≤ 1000000 ∧ 0 ≤ w ∧ w ≤ 600) : CL fb (d + 1) 44 [vR (some S), vR (some a)] σ (fun r σ' => r = none ∧ PX σ0 (tkW (rU (rU W pa 2261 (y + 1)) pa 2265 u) S b C (v - w)) (tkR R S b p C) σ') := by
  have hO := hS.o
  have hbo : tX b = some (Sum.inl 8) := by
    rw [← hb]
    exact hS.nd (ht _ (by omega))
  have k2 : ∀ (x : Nat) (k : Int), k ≠ 2261 → k ≠ 2265 → rU (rU W pa 2261 (y + 1)) pa 2265 u x k = W x k := fun x k h1 h2 => (rU_j h2).trans (rU_j h1)
  have hgr := x_grew (fb := fb) (d := d) (u := u) hP hpo hy hyr
  have htk := fun (σ : hM) (hP : PX σ0 (rU (rU W pa 2261 (y + 1)) pa 2265 u) R σ) => x_takeOut (fb := fb) (d := d) hP hS ((k2 _ _ (by decide) (by decide)).trans hcn) hC ht hinj hN hp hb hg ((k2 _ _ (by decide) (by decide)).trans hv) ((k2 _ _ (by decide) (by decide)).trans hw) hvw
  refine CL_in mL_44 rfl ?_
  show WP fb _ 44 0 [some (vR (some S)), some (vR (some a)), none] [] σ _
  refine x_lr (z := some a) T_44_0 rfl ?_
  refine x_gR (z := some b) T_44_1 F_9_3 (hP.o ha) (Eq.trans (hP.rm ha rfl (key := 2291) rfl) hf) ?_
  refine x_sr (ls1 := [some (vR (some S)), some (vR (some a)), some (vR (some b))]) T_44_4 rfl ?_
  refine x_lr (z := some b) T_44_5 rfl ?_
  refine x_nul T_44_6 (fun h0 => absurd h0 (by simp)) (fun _ _ => ?_)
  refine x_lr (z := some b) T_44_9 rfl ?_
  refine x_gR (z := some pa) T_44_10 F_8_1 (hP.o hbo) (Eq.trans (hP.rm hbo rfl (key := 2257) rfl) hpa) ?_
  refine x_nul T_44_13 (fun h0 => absurd h0 (by simp)) (fun _ _ => ?_)
  refine x_lr (z := some b) T_44_16 rfl ?_
  refine x_gR (z := some pa) T_44_17 F_8_1 (hP.o hbo) (Eq.trans (hP.rm hbo rfl (key := 2257) rfl) hpa) ?_
  refine x_lr (z := some a) T_44_20 rfl ?_
  refine x_gI (z := u) T_44_21 (Or.inl F_9_2) (hP.o ha) (Eq.trans (hP.gi ha (key := 2290) rfl) hu) ?_
  refine x_cv2 T_44_24 mN_45 mL_45 (Nat.le_of_ble_eq_true rfl) mO_45 (hP.o hpo) (Nat.le_of_ble_eq_true rfl) (hgr) ?_
  clear hP hgr
  rintro _ σ ⟨rfl, hP⟩
  refine cV ?_
  refine x_lr (z := some S) T_44_27 rfl ?_
  refine x_lr (z := some b) T_44_28 rfl ?_
  refine x_cv2 T_44_29 mN_46 mL_46 (Nat.le_of_ble_eq_true rfl) mO_46 (hP.o hO) (Nat.le_of_ble_eq_true rfl) (htk σ hP) ?_
  clear hP htk
  rintro _ σ ⟨rfl, hP⟩
  refine cV ?_
  refine x_rv T_44_32 ?_
  exact ⟨rfl, hP⟩
end XDEL
