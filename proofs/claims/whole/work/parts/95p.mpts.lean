/-! Points: a member moved, a point taken away, members given back. -/
theorem T_369_0 : hTab 369 0 = some ((3, 0, 2, []), 1) := rfl
theorem T_369_1 : hTab 369 1 = some ((24, 17, Int.ofNat 64, []), 4) := rfl
theorem T_369_4 : hTab 369 4 = some ((3, 1, 0, []), 5) := rfl
theorem T_369_5 : hTab 369 5 = some ((8, 0, 0, []), 6) := rfl
theorem T_369_6 : hTab 369 6 = some ((26, 0, 0, []), 7) := rfl
theorem T_369_7 : hTab 369 7 = some ((0, 0, 1, []), 8) := rfl
theorem T_369_8 : hTab 369 8 = some ((10, 1, 0, []), 9) := rfl
theorem T_369_9 : hTab 369 9 = some ((27, 0, 0, []), 10) := rfl
theorem T_369_10 : hTab 369 10 = some ((3, 2, 0, []), 11) := rfl
theorem T_369_11 : hTab 369 11 = some ((4, 3, 0, []), 12) := rfl
theorem T_369_12 : hTab 369 12 = some ((3, 3, 0, []), 13) := rfl
theorem T_369_13 : hTab 369 13 = some ((0, 0, 8, []), 15) := rfl
theorem T_369_15 : hTab 369 15 = some ((3, 1, 0, []), 16) := rfl
theorem T_369_16 : hTab 369 16 = some ((10, 2, 0, []), 17) := rfl
theorem T_369_17 : hTab 369 17 = some ((3, 0, 2, []), 18) := rfl
theorem T_369_18 : hTab 369 18 = some ((24, 17, Int.ofNat 64, []), 21) := rfl
theorem T_369_21 : hTab 369 21 = some ((3, 1, 0, []), 22) := rfl
theorem T_369_22 : hTab 369 22 = some ((26, 0, 0, []), 23) := rfl
theorem T_369_23 : hTab 369 23 = some ((10, 0, 0, []), 24) := rfl
theorem T_369_24 : hTab 369 24 = some ((19, 3, Int.ofNat 111, []), 27) := rfl
theorem T_369_27 : hTab 369 27 = some ((3, 0, 2, []), 28) := rfl
theorem T_369_28 : hTab 369 28 = some ((24, 17, Int.ofNat 65, []), 31) := rfl
theorem T_369_31 : hTab 369 31 = some ((3, 3, 0, []), 32) := rfl
theorem T_369_32 : hTab 369 32 = some ((3, 0, 2, []), 33) := rfl
theorem T_369_33 : hTab 369 33 = some ((24, 17, Int.ofNat 65, []), 36) := rfl
theorem T_369_36 : hTab 369 36 = some ((3, 3, 0, []), 37) := rfl
theorem T_369_37 : hTab 369 37 = some ((0, 0, 1, []), 38) := rfl
theorem T_369_38 : hTab 369 38 = some ((10, 0, 0, []), 39) := rfl
theorem T_369_39 : hTab 369 39 = some ((26, 0, 0, []), 40) := rfl
theorem T_369_40 : hTab 369 40 = some ((27, 0, 0, []), 41) := rfl
theorem T_369_41 : hTab 369 41 = some ((3, 0, 2, []), 42) := rfl
theorem T_369_42 : hTab 369 42 = some ((24, 17, Int.ofNat 66, []), 45) := rfl
theorem T_369_45 : hTab 369 45 = some ((3, 3, 0, []), 46) := rfl
theorem T_369_46 : hTab 369 46 = some ((3, 0, 2, []), 47) := rfl
theorem T_369_47 : hTab 369 47 = some ((24, 17, Int.ofNat 66, []), 50) := rfl
theorem T_369_50 : hTab 369 50 = some ((3, 3, 0, []), 51) := rfl
theorem T_369_51 : hTab 369 51 = some ((0, 0, 1, []), 52) := rfl
theorem T_369_52 : hTab 369 52 = some ((10, 0, 0, []), 53) := rfl
theorem T_369_53 : hTab 369 53 = some ((26, 0, 0, []), 54) := rfl
theorem T_369_54 : hTab 369 54 = some ((27, 0, 0, []), 55) := rfl
theorem T_369_55 : hTab 369 55 = some ((3, 0, 2, []), 56) := rfl
theorem T_369_56 : hTab 369 56 = some ((24, 17, Int.ofNat 67, []), 59) := rfl
theorem T_369_59 : hTab 369 59 = some ((3, 3, 0, []), 60) := rfl
theorem T_369_60 : hTab 369 60 = some ((3, 0, 2, []), 61) := rfl
theorem T_369_61 : hTab 369 61 = some ((24, 17, Int.ofNat 67, []), 64) := rfl
theorem T_369_64 : hTab 369 64 = some ((3, 3, 0, []), 65) := rfl
theorem T_369_65 : hTab 369 65 = some ((0, 0, 1, []), 66) := rfl
theorem T_369_66 : hTab 369 66 = some ((10, 0, 0, []), 67) := rfl
theorem T_369_67 : hTab 369 67 = some ((26, 0, 0, []), 68) := rfl
theorem T_369_68 : hTab 369 68 = some ((27, 0, 0, []), 69) := rfl
theorem T_369_69 : hTab 369 69 = some ((0, 0, 0, []), 70) := rfl
theorem T_369_70 : hTab 369 70 = some ((4, 4, 0, []), 72) := rfl
theorem T_369_72 : hTab 369 72 = some ((3, 4, 0, []), 74) := rfl
theorem T_369_74 : hTab 369 74 = some ((0, 0, 6, []), 76) := rfl
theorem T_369_76 : hTab 369 76 = some ((19, 3, Int.ofNat 105, []), 79) := rfl
theorem T_369_79 : hTab 369 79 = some ((3, 0, 2, []), 80) := rfl
theorem T_369_80 : hTab 369 80 = some ((0, 0, 6, []), 82) := rfl
theorem T_369_82 : hTab 369 82 = some ((3, 3, 0, []), 83) := rfl
theorem T_369_83 : hTab 369 83 = some ((0, 0, 1, []), 84) := rfl
theorem T_369_84 : hTab 369 84 = some ((10, 0, 0, []), 85) := rfl
theorem T_369_85 : hTab 369 85 = some ((10, 2, 0, []), 86) := rfl
theorem T_369_86 : hTab 369 86 = some ((3, 4, 0, []), 88) := rfl
theorem T_369_88 : hTab 369 88 = some ((10, 0, 0, []), 89) := rfl
theorem T_369_89 : hTab 369 89 = some ((0, 0, 6, []), 91) := rfl
theorem T_369_91 : hTab 369 91 = some ((3, 3, 0, []), 92) := rfl
theorem T_369_92 : hTab 369 92 = some ((10, 2, 0, []), 93) := rfl
theorem T_369_93 : hTab 369 93 = some ((3, 4, 0, []), 95) := rfl
theorem T_369_95 : hTab 369 95 = some ((10, 0, 0, []), 96) := rfl
theorem T_369_96 : hTab 369 96 = some ((31, 370, 0, []), 99) := rfl
theorem T_369_99 : hTab 369 99 = some ((5, 4, 1, []), 102) := rfl
theorem T_369_102 : hTab 369 102 = some ((22, 0, Int.ofNat 72, []), 105) := rfl
theorem T_369_105 : hTab 369 105 = some ((5, 3, 1, []), 108) := rfl
theorem T_369_108 : hTab 369 108 = some ((22, 0, Int.ofNat 12, []), 111) := rfl
theorem T_369_111 : hTab 369 111 = some ((33, 0, 0, []), 112) := rfl
theorem T_370_0 : hTab 370 0 = some ((3, 0, 2, []), 1) := rfl
theorem T_370_1 : hTab 370 1 = some ((24, 17, Int.ofNat 68, []), 4) := rfl
theorem T_370_4 : hTab 370 4 = some ((3, 2, 0, []), 5) := rfl
theorem T_370_5 : hTab 370 5 = some ((3, 0, 2, []), 6) := rfl
theorem T_370_6 : hTab 370 6 = some ((24, 17, Int.ofNat 68, []), 9) := rfl
theorem T_370_9 : hTab 370 9 = some ((3, 1, 0, []), 10) := rfl
theorem T_370_10 : hTab 370 10 = some ((26, 0, 0, []), 11) := rfl
theorem T_370_11 : hTab 370 11 = some ((27, 0, 0, []), 12) := rfl
theorem T_370_12 : hTab 370 12 = some ((3, 0, 2, []), 13) := rfl
theorem T_370_13 : hTab 370 13 = some ((24, 17, Int.ofNat 69, []), 16) := rfl
theorem T_370_16 : hTab 370 16 = some ((3, 2, 0, []), 17) := rfl
theorem T_370_17 : hTab 370 17 = some ((3, 0, 2, []), 18) := rfl
theorem T_370_18 : hTab 370 18 = some ((24, 17, Int.ofNat 69, []), 21) := rfl
theorem T_370_21 : hTab 370 21 = some ((3, 1, 0, []), 22) := rfl
theorem T_370_22 : hTab 370 22 = some ((26, 0, 0, []), 23) := rfl
theorem T_370_23 : hTab 370 23 = some ((27, 0, 0, []), 24) := rfl
theorem T_370_24 : hTab 370 24 = some ((3, 0, 2, []), 25) := rfl
theorem T_370_25 : hTab 370 25 = some ((24, 17, Int.ofNat 70, []), 28) := rfl
theorem T_370_28 : hTab 370 28 = some ((3, 2, 0, []), 29) := rfl
theorem T_370_29 : hTab 370 29 = some ((3, 0, 2, []), 30) := rfl
theorem T_370_30 : hTab 370 30 = some ((24, 17, Int.ofNat 70, []), 33) := rfl
theorem T_370_33 : hTab 370 33 = some ((3, 1, 0, []), 34) := rfl
theorem T_370_34 : hTab 370 34 = some ((26, 0, 0, []), 35) := rfl
theorem T_370_35 : hTab 370 35 = some ((27, 0, 0, []), 36) := rfl
theorem T_370_36 : hTab 370 36 = some ((3, 0, 2, []), 37) := rfl
theorem T_370_37 : hTab 370 37 = some ((24, 17, Int.ofNat 71, []), 40) := rfl
theorem T_370_40 : hTab 370 40 = some ((3, 2, 0, []), 41) := rfl
theorem T_370_41 : hTab 370 41 = some ((3, 0, 2, []), 42) := rfl
theorem T_370_42 : hTab 370 42 = some ((24, 17, Int.ofNat 71, []), 45) := rfl
theorem T_370_45 : hTab 370 45 = some ((3, 1, 0, []), 46) := rfl
theorem T_370_46 : hTab 370 46 = some ((26, 0, 0, []), 47) := rfl
theorem T_370_47 : hTab 370 47 = some ((27, 0, 0, []), 48) := rfl
theorem T_370_48 : hTab 370 48 = some ((3, 0, 2, []), 49) := rfl
theorem T_370_49 : hTab 370 49 = some ((24, 17, Int.ofNat 72, []), 52) := rfl
theorem T_370_52 : hTab 370 52 = some ((3, 2, 0, []), 53) := rfl
theorem T_370_53 : hTab 370 53 = some ((3, 0, 2, []), 54) := rfl
theorem T_370_54 : hTab 370 54 = some ((24, 17, Int.ofNat 72, []), 57) := rfl
theorem T_370_57 : hTab 370 57 = some ((3, 1, 0, []), 58) := rfl
theorem T_370_58 : hTab 370 58 = some ((26, 2, 0, []), 59) := rfl
theorem T_370_59 : hTab 370 59 = some ((27, 2, 0, []), 60) := rfl
theorem T_370_60 : hTab 370 60 = some ((33, 0, 0, []), 61) := rfl
theorem mN_369 : hmN 369 = 3 := by decide +kernel
theorem mL_369 : hmL 369 = 5 := by decide +kernel
theorem mK_369 : hmK 369 = 1 := by decide +kernel
theorem mO_369 : hmO 369 = 17 := by decide +kernel
theorem mN_370 : hmN 370 = 3 := by decide +kernel
theorem mL_370 : hmL 370 = 3 := by decide +kernel
theorem mK_370 : hmK 370 = 1 := by decide +kernel
theorem mO_370 : hmO 370 = 17 := by decide +kernel
def gMv (P : qR) (a b : Int) : qR := rU (rU (rU (rU (rU P 2338 b (P 2338 a)) 2339 b (P 2339 a)) 2340 b (P 2340 a)) 2341 b (P 2341 a)) 2342 b (P 2342 a)
def gMvs (k : Int) : Nat → Int → qR → qR
  | 0, _, P => P
  | m + 1, j, P => gMvs k m (j + 1) (gMv P (6 * (k + 1) + j) (6 * k + j))
def gRmS (P : qR) (k : Int) : qR := gMvs k 6 0 (rU (rU (rU P 2335 k (P 2335 (k + 1))) 2336 k (P 2336 (k + 1))) 2337 k (P 2337 (k + 1)))
def gRmL : Nat → Int → qR → qR
  | 0, _, P => P
  | m + 1, k, P => gRmL m (k + 1) (gRmS P k)
def gRmP (P : qR) (g pt : Int) : qR := gRmL (8 * g + P 2334 g - 1 - pt).toNat pt (rU P 2334 g (P 2334 g - 1))
/-- the members' fids are given back -/
def kDrM (pt : Int) : Nat → Int → qR → qR
  | 0, _, P => P
  | m + 1, j, P => kDrM pt m (j + 1) (tP P (P 2338 (6 * pt + j)) (mOne 120 (P 2339 (6 * pt + j))))
def mbR : List Nat := [2338, 2339, 2340, 2341, 2342]
def ptR : List Nat := [2338, 2339, 2340, 2341, 2342, 2335, 2336, 2337]
section MPTS
variable {fb : Bool} {d : Nat} {σ0 σ : hM} {P Q R S S1 S2 : qR} {T U s w g u p k e t z o thr pt off n N v : Int} {l l1 l2 nm wd A : List Int} {h : List Ch} {f : Int → Int} {x : Int × Int} {c : Ch} {fr fd md n0 a b : Int}
theorem gMv_rf : RF mbR (gMv P a b) P := RF_up (RF_up (RF_up (RF_up (RF_up RF_rfl rfl) rfl) rfl) rfl) rfl
theorem GI_gMv (h : GI T U P) (ha : 0 ≤ a ∧ a < 384) (hb : 0 ≤ b ∧ b < 384) : GI T U (gMv P a b) := by
  have b1 : 0 ≤ P 2338 a ∧ P 2338 a ≤ 2 := IV.a h.iv 2338 0 384 rfl rfl rfl (by omega) (by omega)
  have b2 : 0 ≤ P 2339 a ∧ P 2339 a ≤ 47 := IV.a h.iv 2339 0 384 rfl rfl rfl (by omega) (by omega)
  have b3 : 0 ≤ P 2340 a ∧ P 2340 a ≤ T + 200 := IV.a h.iv 2340 0 384 rfl rfl rfl (by omega) (by omega)
  have b4 : 0 ≤ P 2341 a ∧ P 2341 a ≤ 255 := IV.a h.iv 2341 0 384 rfl rfl rfl (by omega) (by omega)
  have b5 : 0 ≤ P 2342 a ∧ P 2342 a ≤ 1 := IV.a h.iv 2342 2 384 rfl rfl rfl (by omega) (by omega)
  have h1 := GI_one (f := 2338) (j := b) (v := P 2338 a) (ty := 0) (len := 384) h rfl b1 rfl rfl rfl rfl rfl rfl rfl rfl rfl (by decide) (by decide)
  have h2 := GI_one (f := 2339) (j := b) (v := P 2339 a) (ty := 0) (len := 384) h1 rfl b2 rfl rfl rfl rfl rfl rfl rfl rfl rfl (by decide) (by decide)
  have h3 := GI_one (f := 2340) (j := b) (v := P 2340 a) (ty := 0) (len := 384) h2 rfl b3 rfl rfl rfl rfl rfl rfl rfl rfl rfl (by decide) (by decide)
  have h4 := GI_one (f := 2341) (j := b) (v := P 2341 a) (ty := 0) (len := 384) h3 rfl b4 rfl rfl rfl rfl rfl rfl rfl rfl rfl (by decide) (by decide)
  exact GI_one (f := 2342) (j := b) (v := P 2342 a) (ty := 2) (len := 384) h4 rfl b5 rfl rfl rfl rfl rfl rfl rfl rfl rfl (by decide) (by decide)
theorem gMvs_rf : ∀ (m : Nat) (j : Int) (P : qR), RF mbR (gMvs k m j P) P
  | 0, _, _ => RF_rfl
  | m + 1, j, P => RF_tr (gMvs_rf m (j + 1) _) gMv_rf
theorem GI_gMvs (hk : 0 ≤ k ∧ k < 63) : ∀ (m : Nat) (j : Int) (P : qR), 0 ≤ j → j + m ≤ 6 → GI T U P → GI T U (gMvs k m j P)
  | 0, _, _, _, _, h => h
  | m + 1, j, P, h0, h1, h => GI_gMvs hk m (j + 1) _ (by omega) (by omega) (GI_gMv h (by omega) (by omega))
theorem gRmS_rf : RF ptR (gRmS P k) P := fun f i hf => (gMvs_rf 6 0 _ f i (elem_sub (l1 := mbR) (l2 := ptR) (by decide) hf)).trans ((RF_up (l := ptR) (RF_up (RF_up RF_rfl rfl) rfl) rfl) f i hf)
theorem gRmS_many {i : Int} : gRmS P k 2337 i = if i = k then P 2337 (k + 1) else P 2337 i := by
  unfold gRmS
  rw [gMvs_rf 6 0 _ 2337 i rfl]
  by_cases q : i = k
  · rw [if_pos q, q, rU_s]
  · rw [if_neg q, rU_k q, rU_f (by decide), rU_f (by decide)]
theorem GI_gRmS (hk : 0 ≤ k ∧ k < 63) (h : GI T U P) : GI T U (gRmS P k) := by
  have b1 : 0 ≤ P 2335 (k + 1) ∧ P 2335 (k + 1) ≤ 2 := IV.a h.iv 2335 0 64 rfl rfl rfl (by omega) (by omega)
  have b2 : 0 ≤ P 2336 (k + 1) ∧ P 2336 (k + 1) ≤ T + 200 := IV.a h.iv 2336 0 64 rfl rfl rfl (by omega) (by omega)
  have b3 : 0 ≤ P 2337 (k + 1) ∧ P 2337 (k + 1) ≤ 6 := IV.a h.iv 2337 0 64 rfl rfl rfl (by omega) (by omega)
  have h1 := GI_one (f := 2335) (j := k) (v := P 2335 (k + 1)) (ty := 0) (len := 64) h rfl b1 rfl rfl rfl rfl rfl rfl rfl rfl rfl (by decide) (by decide)
  have h2 := GI_one (f := 2336) (j := k) (v := P 2336 (k + 1)) (ty := 0) (len := 64) h1 rfl b2 rfl rfl rfl rfl rfl rfl rfl rfl rfl (by decide) (by decide)
  have h3 := GI_one (f := 2337) (j := k) (v := P 2337 (k + 1)) (ty := 0) (len := 64) h2 rfl b3 rfl rfl rfl rfl rfl rfl rfl rfl rfl (by decide) (by decide)
  exact GI_gMvs hk 6 0 _ (by decide) (by decide) h3
theorem gRmL_rf : ∀ (m : Nat) (k : Int) (P : qR), RF ptR (gRmL m k P) P
  | 0, _, _ => RF_rfl
  | m + 1, k, P => RF_tr (gRmL_rf m (k + 1) _) gRmS_rf
theorem gRmL_many {i : Int} : ∀ (m : Nat) (k : Int) (P : qR), gRmL m k P 2337 i = if k ≤ i ∧ i < k + m then P 2337 (i + 1) else P 2337 i
  | 0, k, P => by rw [if_neg (by omega)]; rfl
  | m + 1, k, P => by
    show gRmL m (k + 1) (gRmS P k) 2337 i = _
    rw [gRmL_many m (k + 1) (gRmS P k), gRmS_many, gRmS_many]
    by_cases q : i = k
    · rw [if_neg (by omega), if_pos q, if_pos (by omega), q]
    · by_cases q2 : k + 1 ≤ i ∧ i < k + 1 + m
      · rw [if_pos q2, if_neg (by omega), if_pos (by omega)]
      · rw [if_neg q2, if_neg q, if_neg (by omega)]
theorem GI_gRmL : ∀ (m : Nat) (k : Int) (P : qR), 0 ≤ k → k + m ≤ 63 → GI T U P → GI T U (gRmL m k P)
  | 0, _, _, _, _, h => h
  | m + 1, k, P, h0, h1, h => GI_gRmL m (k + 1) _ (by omega) (by omega) (GI_gRmS (by omega) h)
theorem gRmP_ok (h : GI T U P) (hPT : PTS P) (hg : 0 ≤ g ∧ g < 8) (hpt : 8 * g ≤ pt ∧ pt < 8 * g + P 2334 g) : GI T U (gRmP P g pt) ∧ PTS (gRmP P g pt) ∧ RF (2334 :: ptR) (gRmP P g pt) P := by
  have bp : 0 ≤ P 2334 g ∧ P 2334 g ≤ 8 := IV.a h.iv 2334 0 8 rfl rfl rfl (by omega) (by omega)
  have h1 := GI_one (f := 2334) (j := g) (v := P 2334 g - 1) (ty := 0) (len := 8) h rfl (show 0 ≤ P 2334 g - 1 ∧ P 2334 g - 1 ≤ 8 by omega) rfl rfl rfl rfl rfl rfl rfl rfl rfl (by decide) (by decide)
  have hrp : ∀ i, gRmP P g pt 2334 i = if i = g then P 2334 g - 1 else P 2334 i := fun i => by
    unfold gRmP
    rw [gRmL_rf _ _ _ 2334 i rfl]
    by_cases q : i = g
    · rw [if_pos q, q, rU_s]
    · rw [if_neg q, rU_k q]
  refine ⟨GI_gRmL _ _ _ (by omega) (by omega) h1, fun g1 k a1 a2 a3 a4 => ?_, ?_⟩
  · rw [hrp] at a4
    have hm : gRmP P g pt 2337 (8 * g1 + k) = if pt ≤ 8 * g1 + k ∧ 8 * g1 + k < pt + ((8 * g + P 2334 g - 1 - pt).toNat : Int) then P 2337 (8 * g1 + k + 1) else P 2337 (8 * g1 + k) := by
      unfold gRmP
      rw [gRmL_many, rU_f (by decide), rU_f (by decide)]
    rw [hm]
    by_cases q : g1 = g
    · rw [if_pos q] at a4
      subst q
      split
      · have := hPT g1 (k + 1) a1 a2 (by omega) (by omega)
        rw [show 8 * g1 + k + 1 = 8 * g1 + (k + 1) by omega]
        exact this
      · exact hPT g1 k a1 a2 a3 (by omega)
    · rw [if_neg q] at a4
      have bk : 0 ≤ P 2334 g1 ∧ P 2334 g1 ≤ 8 := IV.a h.iv 2334 0 8 rfl rfl rfl (by omega) (by omega)
      rw [if_neg (by omega)]
      exact hPT g1 k a1 a2 a3 a4
  · intro f i hf
    unfold gRmP
    have hf2 : ptR.elem f = false := elem_sub (l1 := ptR) (l2 := 2334 :: ptR) (by decide) hf
    rw [gRmL_rf _ _ _ f i hf2]
    exact rU_f (fun q => by rw [q] at hf; exact absurd hf (by decide))
theorem m_moveMember (hP : PM σ0 P S σ) (hI : IV false T U P) (ha : 0 ≤ a ∧ a < 384) (hb : 0 ≤ b ∧ b < 384) : CL fb d 370 [vR (some 2281), vI a, vI b] σ (rV σ0 (gMv P a b) S) := by
  have b5 : 0 ≤ P 2342 a ∧ P 2342 a ≤ 1 := IV.a hI 2342 2 384 rfl rfl rfl (by omega) (by omega)
  refine CL_in mL_370 rfl ?_
  show WP fb _ 370 0 [some (vR (some 2281)), some (vI a), some (vI b)] [] σ _
  refine x_lr (z := some 2281) T_370_0 rfl ?_
  refine x_gR (z := some 2338) T_370_1 F_17_68 (PM.t hP) (PM.r hP 68 2338 rfl) ?_
  refine x_li (z := b) T_370_4 rfl ?_
  refine x_lr (z := some 2281) T_370_5 rfl ?_
  refine x_gR (z := some 2338) T_370_6 F_17_68 (PM.t hP) (PM.r hP 68 2338 rfl) ?_
  refine x_li (z := a) T_370_9 rfl ?_
  refine x_alI (z := P 2338 a) T_370_10 (by decide) (PM.ta hP 2338 0 384 rfl rfl) (by omega) (by omega) (PM.aP hP 2338 rfl rfl (by omega)) ?_
  refine y_aIP hP T_370_11 2338 384 rfl rfl rfl (by omega) (by omega) (fun σ hP => ?_)
  refine x_lr (z := some 2281) T_370_12 rfl ?_
  refine x_gR (z := some 2339) T_370_13 F_17_69 (PM.t hP) (PM.r hP 69 2339 rfl) ?_
  refine x_li (z := b) T_370_16 rfl ?_
  refine x_lr (z := some 2281) T_370_17 rfl ?_
  refine x_gR (z := some 2339) T_370_18 F_17_69 (PM.t hP) (PM.r hP 69 2339 rfl) ?_
  refine x_li (z := a) T_370_21 rfl ?_
  refine x_alI (z := P 2339 a) T_370_22 (by decide) (PM.ta hP 2339 0 384 rfl rfl) (by omega) (by omega) (Eq.trans (PM.aP hP 2339 rfl rfl (by omega)) (rU_f (Nat.ne_of_beq_eq_false rfl))) ?_
  refine y_aIP hP T_370_23 2339 384 rfl rfl rfl (by omega) (by omega) (fun σ hP => ?_)
  refine x_lr (z := some 2281) T_370_24 rfl ?_
  refine x_gR (z := some 2340) T_370_25 F_17_70 (PM.t hP) (PM.r hP 70 2340 rfl) ?_
  refine x_li (z := b) T_370_28 rfl ?_
  refine x_lr (z := some 2281) T_370_29 rfl ?_
  refine x_gR (z := some 2340) T_370_30 F_17_70 (PM.t hP) (PM.r hP 70 2340 rfl) ?_
  refine x_li (z := a) T_370_33 rfl ?_
  refine x_alI (z := P 2340 a) T_370_34 (by decide) (PM.ta hP 2340 0 384 rfl rfl) (by omega) (by omega) (Eq.trans (PM.aP hP 2340 rfl rfl (by omega)) (Eq.trans (rU_f (Nat.ne_of_beq_eq_false rfl)) (rU_f (Nat.ne_of_beq_eq_false rfl)))) ?_
  refine y_aIP hP T_370_35 2340 384 rfl rfl rfl (by omega) (by omega) (fun σ hP => ?_)
  refine x_lr (z := some 2281) T_370_36 rfl ?_
  refine x_gR (z := some 2341) T_370_37 F_17_71 (PM.t hP) (PM.r hP 71 2341 rfl) ?_
  refine x_li (z := b) T_370_40 rfl ?_
  refine x_lr (z := some 2281) T_370_41 rfl ?_
  refine x_gR (z := some 2341) T_370_42 F_17_71 (PM.t hP) (PM.r hP 71 2341 rfl) ?_
  refine x_li (z := a) T_370_45 rfl ?_
  refine x_alI (z := P 2341 a) T_370_46 (by decide) (PM.ta hP 2341 0 384 rfl rfl) (by omega) (by omega) (Eq.trans (PM.aP hP 2341 rfl rfl (by omega)) (Eq.trans (rU_f (Nat.ne_of_beq_eq_false rfl)) (Eq.trans (rU_f (Nat.ne_of_beq_eq_false rfl)) (rU_f (Nat.ne_of_beq_eq_false rfl))))) ?_
  refine y_aIP hP T_370_47 2341 384 rfl rfl rfl (by omega) (by omega) (fun σ hP => ?_)
  refine x_lr (z := some 2281) T_370_48 rfl ?_
  refine x_gR (z := some 2342) T_370_49 F_17_72 (PM.t hP) (PM.r hP 72 2342 rfl) ?_
  refine x_li (z := b) T_370_52 rfl ?_
  refine x_lr (z := some 2281) T_370_53 rfl ?_
  refine x_gR (z := some 2342) T_370_54 F_17_72 (PM.t hP) (PM.r hP 72 2342 rfl) ?_
  refine x_li (z := a) T_370_57 rfl ?_
  refine x_alI (z := P 2342 a) T_370_58 (by decide) (PM.ta hP 2342 2 384 rfl rfl) (by omega) (by omega) (Eq.trans (PM.aP hP 2342 rfl rfl (by omega)) (Eq.trans (rU_f (Nat.ne_of_beq_eq_false rfl)) (Eq.trans (rU_f (Nat.ne_of_beq_eq_false rfl)) (Eq.trans (rU_f (Nat.ne_of_beq_eq_false rfl)) (rU_f (Nat.ne_of_beq_eq_false rfl)))))) ?_
  refine y_aZP hP T_370_59 (by rcases (show P 2342 a = 0 ∨ P 2342 a = 1 by omega) with q | q <;> rw [q] <;> rfl) 2342 384 rfl rfl rfl (by omega) (by omega) (fun σ hP => ?_)
  refine x_rv T_370_60 ?_
  exact ⟨rfl, hP⟩
theorem m_rmP_in {g0 : Int} (hk : 0 ≤ k ∧ k < 63) {Q : Option AV → hM → Prop} : ∀ (m : Nat) (j : Int) (P : qR) (σ : hM), j + m = 6 → 0 ≤ j → PM σ0 P S σ → GI T U P → (∀ σ : hM, PM σ0 (gMvs k m j P) S σ → WP fb (d + 1) 369 105 [some (vR (some 2281)), some (vI g0), some (vI pt), some (vI k), some (vI 6)] [] σ Q) → WP fb (d + 1) 369 72 [some (vR (some 2281)), some (vI g0), some (vI pt), some (vI k), some (vI j)] [] σ Q := by
  intro m
  induction m with
  | zero =>
    intro j P σ h1 h2 hP hG hQ
    have hj : j = 6 := by omega
    subst hj
    have hgo := hQ σ hP
    refine x_li (z := 6) T_369_72 rfl ?_
    refine x_ic T_369_74 ?_
    refine x_ic2 T_369_76 (fun _ => ?_) (fun h => absurd (show 6 ≤ (6 : Int) by decide) h)
    exact hgo
  | succ m ih =>
    intro j P σ h1 h2 hP hG hQ
    have hmv := m_moveMember (fb := fb) (d := d) (a := 6 * (k + 1) + j) (b := 6 * k + j) hP hG.iv (by omega) (by omega)
    have hgo := fun (σ : hM) (hP : PM σ0 (gMv P (6 * (k + 1) + j) (6 * k + j)) S σ) => ih (j + 1) _ σ (by omega) (by omega) hP (GI_gMv hG (by omega) (by omega)) hQ
    refine x_li (z := j) T_369_72 rfl ?_
    refine x_ic T_369_74 ?_
    refine x_ic2 T_369_76 (fun h => absurd (show 6 ≤ j from h) (by omega)) (fun _ => ?_)
    refine x_lr (z := some 2281) T_369_79 rfl ?_
    refine x_ic T_369_80 ?_
    refine x_li (z := k) T_369_82 rfl ?_
    refine x_ic T_369_83 ?_
    refine x_ib (w := (k + 1)) T_369_84 (fun h => absurd h.1 (by decide)) (w32_id (by omega) (by omega)) ?_
    refine x_ib (w := (6 * (k + 1))) T_369_85 (fun h => absurd h.1 (by decide)) (w32_id (by omega) (by omega)) ?_
    refine x_li (z := j) T_369_86 rfl ?_
    refine x_ib (w := ((6 * (k + 1)) + j)) T_369_88 (fun h => absurd h.1 (by decide)) (w32_id (by omega) (by omega)) ?_
    refine x_ic T_369_89 ?_
    refine x_li (z := k) T_369_91 rfl ?_
    refine x_ib (w := (6 * k)) T_369_92 (fun h => absurd h.1 (by decide)) (w32_id (by omega) (by omega)) ?_
    refine x_li (z := j) T_369_93 rfl ?_
    refine x_ib (w := ((6 * k) + j)) T_369_95 (fun h => absurd h.1 (by decide)) (w32_id (by omega) (by omega)) ?_
    refine x_cv3 T_369_96 mN_370 mL_370 (Nat.le_of_ble_eq_true rfl) mO_370 (PM.t hP) (Nat.le_of_ble_eq_true rfl) (hmv) ?_
    clear hP hmv
    rintro _ σ ⟨rfl, hP⟩
    refine cV ?_
    refine x_inc (w := (j + 1)) (ls1 := [some (vR (some 2281)), some (vI g0), some (vI pt), some (vI k), some (vI (j + 1))]) T_369_99 rfl (w32_id (by omega) (by omega)) rfl ?_
    refine x_goto T_369_102 ?_
    exact hgo σ hP
theorem m_rmP_out (hg : 0 ≤ g ∧ g < 8) (hz : z = 8 * g + n) (hn : 0 ≤ n ∧ n ≤ 7) : ∀ (m : Nat) (k : Int) (P : qR) (l4 : Option AV) (σ : hM), k + m = z → 0 ≤ k → P 2334 g = n → PM σ0 P S σ → GI T U P → WP fb (d + 1) 369 12 [some (vR (some 2281)), some (vI g), some (vI pt), some (vI k), l4] [] σ (rV σ0 (gRmL m k P) S) := by
  intro m
  induction m with
  | zero =>
    intro k P l4 σ h1 h4 hp hP hG
    refine x_li (z := k) T_369_12 rfl ?_
    refine x_ic T_369_13 ?_
    refine x_li (z := g) T_369_15 rfl ?_
    refine x_ib (w := (8 * g)) T_369_16 (fun h => absurd h.1 (by decide)) (w32_id (by omega) (by omega)) ?_
    refine x_lr (z := some 2281) T_369_17 rfl ?_
    refine x_gR (z := some 2334) T_369_18 F_17_64 (PM.t hP) (PM.r hP 64 2334 rfl) ?_
    refine x_li (z := g) T_369_21 rfl ?_
    refine x_alI (z := n) T_369_22 (by decide) (PM.ta hP 2334 0 8 rfl rfl) (by omega) (by omega) (Eq.trans (PM.aP hP 2334 rfl rfl (by omega)) hp) ?_
    refine x_ib (w := ((8 * g) + n)) T_369_23 (fun h => absurd h.1 (by decide)) (w32_id (by omega) (by omega)) ?_
    refine x_ic2 T_369_24 (fun _ => ?_) (fun h => absurd (show ((8 * g) + n) ≤ k by omega) h)
    refine x_rv T_369_111 ?_
    exact ⟨rfl, hP⟩
  | succ m ih =>
    intro k P l4 σ h1 h4 hp hP hG
    · skip
      refine x_li (z := k) T_369_12 rfl ?_
      refine x_ic T_369_13 ?_
      refine x_li (z := g) T_369_15 rfl ?_
      refine x_ib (w := (8 * g)) T_369_16 (fun h => absurd h.1 (by decide)) (w32_id (by omega) (by omega)) ?_
      refine x_lr (z := some 2281) T_369_17 rfl ?_
      refine x_gR (z := some 2334) T_369_18 F_17_64 (PM.t hP) (PM.r hP 64 2334 rfl) ?_
      refine x_li (z := g) T_369_21 rfl ?_
      refine x_alI (z := n) T_369_22 (by decide) (PM.ta hP 2334 0 8 rfl rfl) (by omega) (by omega) (Eq.trans (PM.aP hP 2334 rfl rfl (by omega)) hp) ?_
      refine x_ib (w := ((8 * g) + n)) T_369_23 (fun h => absurd h.1 (by decide)) (w32_id (by omega) (by omega)) ?_
      refine x_ic2 T_369_24 (fun h => absurd (show ((8 * g) + n) ≤ k from h) (by omega)) (fun _ => ?_)
      refine x_lr (z := some 2281) T_369_27 rfl ?_
      refine x_gR (z := some 2335) T_369_28 F_17_65 (PM.t hP) (PM.r hP 65 2335 rfl) ?_
      refine x_li (z := k) T_369_31 rfl ?_
      refine x_lr (z := some 2281) T_369_32 rfl ?_
      refine x_gR (z := some 2335) T_369_33 F_17_65 (PM.t hP) (PM.r hP 65 2335 rfl) ?_
      refine x_li (z := k) T_369_36 rfl ?_
      refine x_ic T_369_37 ?_
      refine x_ib (w := (k + 1)) T_369_38 (fun h => absurd h.1 (by decide)) (w32_id (by omega) (by omega)) ?_
      refine x_alI (z := P 2335 (k + 1)) T_369_39 (by decide) (PM.ta hP 2335 0 64 rfl rfl) (by omega) (by omega) (PM.aP hP 2335 rfl rfl (by omega)) ?_
      refine y_aIP hP T_369_40 2335 64 rfl rfl rfl (by omega) (by omega) (fun σ hP => ?_)
      refine x_lr (z := some 2281) T_369_41 rfl ?_
      refine x_gR (z := some 2336) T_369_42 F_17_66 (PM.t hP) (PM.r hP 66 2336 rfl) ?_
      refine x_li (z := k) T_369_45 rfl ?_
      refine x_lr (z := some 2281) T_369_46 rfl ?_
      refine x_gR (z := some 2336) T_369_47 F_17_66 (PM.t hP) (PM.r hP 66 2336 rfl) ?_
      refine x_li (z := k) T_369_50 rfl ?_
      refine x_ic T_369_51 ?_
      refine x_ib (w := (k + 1)) T_369_52 (fun h => absurd h.1 (by decide)) (w32_id (by omega) (by omega)) ?_
      refine x_alI (z := P 2336 (k + 1)) T_369_53 (by decide) (PM.ta hP 2336 0 64 rfl rfl) (by omega) (by omega) (Eq.trans (PM.aP hP 2336 rfl rfl (by omega)) (rU_f (Nat.ne_of_beq_eq_false rfl))) ?_
      refine y_aIP hP T_369_54 2336 64 rfl rfl rfl (by omega) (by omega) (fun σ hP => ?_)
      refine x_lr (z := some 2281) T_369_55 rfl ?_
      refine x_gR (z := some 2337) T_369_56 F_17_67 (PM.t hP) (PM.r hP 67 2337 rfl) ?_
      refine x_li (z := k) T_369_59 rfl ?_
      refine x_lr (z := some 2281) T_369_60 rfl ?_
      refine x_gR (z := some 2337) T_369_61 F_17_67 (PM.t hP) (PM.r hP 67 2337 rfl) ?_
      refine x_li (z := k) T_369_64 rfl ?_
      refine x_ic T_369_65 ?_
      refine x_ib (w := (k + 1)) T_369_66 (fun h => absurd h.1 (by decide)) (w32_id (by omega) (by omega)) ?_
      refine x_alI (z := P 2337 (k + 1)) T_369_67 (by decide) (PM.ta hP 2337 0 64 rfl rfl) (by omega) (by omega) (Eq.trans (PM.aP hP 2337 rfl rfl (by omega)) (Eq.trans (rU_f (Nat.ne_of_beq_eq_false rfl)) (rU_f (Nat.ne_of_beq_eq_false rfl)))) ?_
      refine y_aIP hP T_369_68 2337 64 rfl rfl rfl (by omega) (by omega) (fun σ hP => ?_)
      refine x_ic T_369_69 ?_
      refine x_si (ls1 := [some (vR (some 2281)), some (vI g), some (vI pt), some (vI k), some (vI 0)]) T_369_70 rfl ?_
      have b1 : 0 ≤ P 2335 (k + 1) ∧ P 2335 (k + 1) ≤ 2 := IV.a hG.iv 2335 0 64 rfl rfl rfl (by omega) (by omega)
      have b2 : 0 ≤ P 2336 (k + 1) ∧ P 2336 (k + 1) ≤ T + 200 := IV.a hG.iv 2336 0 64 rfl rfl rfl (by omega) (by omega)
      have b3 : 0 ≤ P 2337 (k + 1) ∧ P 2337 (k + 1) ≤ 6 := IV.a hG.iv 2337 0 64 rfl rfl rfl (by omega) (by omega)
      have g1 := GI_one (f := 2335) (j := k) (v := P 2335 (k + 1)) (ty := 0) (len := 64) hG rfl b1 rfl rfl rfl rfl rfl rfl rfl rfl rfl (by decide) (by decide)
      have g2 := GI_one (f := 2336) (j := k) (v := P 2336 (k + 1)) (ty := 0) (len := 64) g1 rfl b2 rfl rfl rfl rfl rfl rfl rfl rfl rfl (by decide) (by decide)
      have g3 := GI_one (f := 2337) (j := k) (v := P 2337 (k + 1)) (ty := 0) (len := 64) g2 rfl b3 rfl rfl rfl rfl rfl rfl rfl rfl rfl (by decide) (by decide)
      refine m_rmP_in (d := d) (by omega) 6 0 _ σ (by decide) (by decide) hP g3 ?_
      clear hP
      intro σ hP
      have hgo := fun (σ : hM) (hP : PM σ0 (gRmS P k) S σ) => ih (k + 1) (gRmS P k) (some (vI 6)) σ (by omega) (by omega) ((gRmS_rf 2334 g rfl).trans hp) hP (GI_gRmS (by omega) hG)
      refine x_inc (w := (k + 1)) (ls1 := [some (vR (some 2281)), some (vI g), some (vI pt), some (vI (k + 1)), some (vI 6)]) T_369_105 rfl (w32_id (by omega) (by omega)) rfl ?_
      refine x_goto T_369_108 ?_
      exact hgo σ hP
theorem m_removePoint (hP : PM σ0 P S σ) (hG : GI T U P) (hg : 0 ≤ g ∧ g < 8) (hpt : 8 * g ≤ pt ∧ pt < 8 * g + P 2334 g) : CL fb (d + 1) 369 [vR (some 2281), vI g, vI pt] σ (rV σ0 (gRmP P g pt) S) := by
  have bp : 0 ≤ P 2334 g ∧ P 2334 g ≤ 8 := IV.a hG.iv 2334 0 8 rfl rfl rfl (by omega) (by omega)
  have h1 := GI_one (f := 2334) (j := g) (v := P 2334 g - 1) (ty := 0) (len := 8) hG rfl (show 0 ≤ P 2334 g - 1 ∧ P 2334 g - 1 ≤ 8 by omega) rfl rfl rfl rfl rfl rfl rfl rfl rfl (by decide) (by decide)
  unfold gRmP
  obtain ⟨n, hn⟩ : ∃ n, P 2334 g = n := ⟨_, rfl⟩
  rw [hn] at bp hpt h1 ⊢
  have hgo := fun (σ : hM) (hP : PM σ0 (rU P 2334 g (n - 1)) S σ) => m_rmP_out (fb := fb) (d := d) (pt := pt) (z := 8 * g + (n - 1)) (n := n - 1) hg rfl (by omega) (8 * g + n - 1 - pt).toNat pt (rU P 2334 g (n - 1)) none σ (by omega) (by omega) rU_s hP h1
  refine CL_in mL_369 rfl ?_
  show WP fb _ 369 0 [some (vR (some 2281)), some (vI g), some (vI pt), none, none] [] σ _
  refine x_lr (z := some 2281) T_369_0 rfl ?_
  refine x_gR (z := some 2334) T_369_1 F_17_64 (PM.t hP) (PM.r hP 64 2334 rfl) ?_
  refine x_li (z := g) T_369_4 rfl ?_
  refine x_dup2 T_369_5 ?_
  refine x_alI (z := n) T_369_6 (by decide) (PM.ta hP 2334 0 8 rfl rfl) (by omega) (by omega) (Eq.trans (PM.aP hP 2334 rfl rfl (by omega)) hn) ?_
  refine x_ic T_369_7 ?_
  refine x_ib (w := (n - 1)) T_369_8 (fun h => absurd h.1 (by decide)) (w32_id (by omega) (by omega)) ?_
  refine y_aIP hP T_369_9 2334 8 rfl rfl rfl (by omega) (by omega) (fun σ hP => ?_)
  refine x_li (z := pt) T_369_10 rfl ?_
  refine x_si (ls1 := [some (vR (some 2281)), some (vI g), some (vI pt), some (vI pt), none]) T_369_11 rfl ?_
  exact hgo σ hP
end MPTS
