/-! The class's servers: clunk, remove, version. -/
theorem T_83_0 : hTab 83 0 = some ((3, 1, 2, []), 1) := rfl
theorem T_83_1 : hTab 83 1 = some ((0, 0, 0, []), 2) := rfl
theorem T_83_2 : hTab 83 2 = some ((25, 9, Int.ofNat 0, []), 5) := rfl
theorem T_83_5 : hTab 83 5 = some ((3, 1, 2, []), 6) := rfl
theorem T_83_6 : hTab 83 6 = some ((24, 9, Int.ofNat 6, []), 9) := rfl
theorem T_83_9 : hTab 83 9 = some ((18, 0, Int.ofNat 25, []), 12) := rfl
theorem T_83_12 : hTab 83 12 = some ((3, 0, 2, []), 13) := rfl
theorem T_83_13 : hTab 83 13 = some ((3, 1, 2, []), 14) := rfl
theorem T_83_14 : hTab 83 14 = some ((31, 42, 0, []), 17) := rfl
theorem T_83_17 : hTab 83 17 = some ((18, 1, Int.ofNat 25, []), 20) := rfl
theorem T_83_20 : hTab 83 20 = some ((3, 0, 2, []), 21) := rfl
theorem T_83_21 : hTab 83 21 = some ((3, 1, 2, []), 22) := rfl
theorem T_83_22 : hTab 83 22 = some ((31, 44, 0, []), 25) := rfl
theorem T_83_25 : hTab 83 25 = some ((0, 0, 0, []), 26) := rfl
theorem T_83_26 : hTab 83 26 = some ((33, 1, 0, []), 27) := rfl
theorem T_84_0 : hTab 84 0 = some ((3, 1, 2, []), 1) := rfl
theorem T_84_1 : hTab 84 1 = some ((0, 0, 0, []), 2) := rfl
theorem T_84_2 : hTab 84 2 = some ((25, 9, Int.ofNat 0, []), 5) := rfl
theorem T_84_5 : hTab 84 5 = some ((3, 0, 2, []), 6) := rfl
theorem T_84_6 : hTab 84 6 = some ((3, 1, 2, []), 7) := rfl
theorem T_84_7 : hTab 84 7 = some ((31, 42, 0, []), 10) := rfl
theorem T_84_10 : hTab 84 10 = some ((4, 2, 0, []), 11) := rfl
theorem T_84_11 : hTab 84 11 = some ((3, 2, 0, []), 12) := rfl
theorem T_84_12 : hTab 84 12 = some ((18, 1, Int.ofNat 20, []), 15) := rfl
theorem T_84_15 : hTab 84 15 = some ((3, 0, 2, []), 16) := rfl
theorem T_84_16 : hTab 84 16 = some ((3, 1, 2, []), 17) := rfl
theorem T_84_17 : hTab 84 17 = some ((31, 44, 0, []), 20) := rfl
theorem T_84_20 : hTab 84 20 = some ((3, 2, 0, []), 21) := rfl
theorem T_84_21 : hTab 84 21 = some ((33, 1, 0, []), 22) := rfl
theorem mN_83 : hmN 83 = 2 := by decide +kernel
theorem mL_83 : hmL 83 = 2 := by decide +kernel
theorem mK_83 : hmK 83 = 1 := by decide +kernel
theorem mO_83 : hmO 83 = 7 := by decide +kernel
theorem mN_84 : hmN 84 = 2 := by decide +kernel
theorem mL_84 : hmL 84 = 3 := by decide +kernel
theorem mK_84 : hmK 84 = 1 := by decide +kernel
theorem mO_84 : hmO 84 = 7 := by decide +kernel
section XCLKB
variable {fb : Bool} {d S a b c0 rp mb m N M : Nat} {σ0 σ : hM} {W W1 W2 P Q : qR} {R R1 R2 : rR} {i j k x z v s e w f u n p g ln K T U C c : Int} {ord l l2 nm : List Int} {t : Nat → Nat} {r : Option Nat}
theorem FE.uI (h : FE Q P) : ∀ (m : Nat) (f g : Int), enI Q s n v m f g = enI P s n v m f g
  | 0, _, _ => rfl
  | m + 1, f, g => by
    unfold enI
    rw [FE.uI h m, h 2289 _ rfl, h 2290 _ rfl, h 2291 _ rfl, h 2291 _ rfl]
theorem FE.uO (h : FE Q P) : ∀ (m : Nat) (v : Int), enO Q s n m v = enO P s n m v
  | 0, v => h.uI _ _ _
  | m + 1, v => by
    unfold enO
    rw [h.uI, h 2291 _ rfl, FE.uO h m]
theorem FE.uP (h : FE Q P) : ∀ (m : Nat) (p j g : Int), enP Q m p j g = enP P m p j g
  | 0, _, _, _ => rfl
  | m + 1, p, j, g => by
    unfold enP
    rw [h 2320 _ rfl, FE.uP h m, FE.uP h m]
theorem FE.ent (h : FE Q P) : qEnt Q s n k = qEnt P s n k := by
  unfold qEnt
  rw [h.uP, h.uO]
theorem FE.mv (h : FE Q P) : qMv Q s n u w = qMv P s n u w := by
  unfold qMv
  rw [h.uid, h.gid, h.mode]
theorem FE.rem (h : FE Q P) : qRem Q s n u = qRem P s n u := by
  unfold qRem
  rw [h.up, h.mv, h.mode, h.ent]
theorem FE.uF (h : FE Q P) : ∀ (m : Nat) (f : Int), fiF Q s n nm m f = fiF P s n nm m f
  | 0, _ => rfl
  | m + 1, f => by
    unfold fiF
    rw [h 2289 _ rfl, h 2290 _ rfl, h.nam, FE.uF h m]
theorem FE.uE (h : FE Q P) : ∀ (m : Nat) (k : Int), fiE Q n nm m k = fiE P n nm m k
  | 0, _ => rfl
  | m + 1, k => by
    unfold fiE
    rw [h.ent, h.nam, FE.uE h m]
theorem FE.find (h : FE Q P) : qFind Q s n nm = qFind P s n nm := by
  unfold qFind
  rw [h.uF, h.uE]
theorem TRX_of (hT : NT W R P S s ord t) (hG : GI T U P) (hs : 0 ≤ s ∧ s < 3) : TRX P s ord := by
  have h0 : isN P s 0 := by
    by_cases q : s < 2
    · exact Or.inl ⟨q, by decide, by decide, by rw [Int.add_zero]; exact (hG.2.1.1 s hs.1 q).1⟩
    · exact Or.inr ⟨by omega, Or.inl rfl⟩
  have hp0 : qPath P s 0 = 0 := by
    unfold qPath
    split
    · rw [Int.add_zero]
      exact (hG.2.1.1 s hs.1 (by omega)).2.2.2
    · rfl
  obtain ⟨j, j0, j1, hj⟩ := mem_lg ((hT.1.1 0).mpr h0)
  refine ⟨⟨by omega, ?_⟩, hp0, fun m hm => ?_, fun m hm hm0 => ?_⟩
  · by_cases e : j = 0
    · rw [e] at hj
      exact hj
    · exfalso
      have hp := List.pairwise_iff_getElem.mp hT.1.2.2.2 0 j.toNat (by omega) (by omega) (by omega)
      have ek : ∀ i : Int, (h0 : 0 ≤ i) → (h1 : i < ord.length) → ord[i.toNat]'(by omega) = lg ord i := fun i h0 h1 => by
        unfold lg
        rw [List.getD_eq_getElem?_getD, List.getElem?_eq_getElem (by omega)]
        rfl
      have e1 := ek j j0 j1
      have e2 := ek 0 (by decide) (by omega)
      have e2 : ord[0]'(by omega) = lg ord 0 := e2
      rw [e1, e2, hj, hp0] at hp
      have := (hT.2.2.2.1 0 (by decide) (by omega)).2.2.1.2.1
      omega
  · by_cases q : s < 2
    · have g := isN_lt q hm
      have ba : 0 ≤ P 2290 (64 * s + m) ∧ P 2290 (64 * s + m) ≤ 63 := IV.a hG.iv 2290 0 128 rfl rfl rfl (by omega) (by omega)
      rw [show qUp P s m = P 2290 (64 * s + m) from if_pos q]
      refine Or.inl ⟨q, ba.1, by omega, ?_⟩
      by_cases m0 : m = 0
      · rw [m0, Int.add_zero, (hG.2.1.1 s hs.1 q).2.1, Int.add_zero]
        exact (hG.2.1.1 s hs.1 q).1
      · exact (hG.2.1.2.1 s m hs.1 q (by omega) g.2.1 (by omega)).1
    · have q2 : s = 2 := by omega
      subst q2
      rw [show qUp P 2 m = if m < 16 ∨ m % 16 = 0 then 0 else m / 16 * 16 from if_neg (by decide)]
      rcases hm with c | c
      · omega
      · refine Or.inr ⟨rfl, ?_⟩
        by_cases q3 : m < 16 ∨ m % 16 = 0
        · rw [if_pos q3]
          exact Or.inl rfl
        · rw [if_neg q3]
          rcases c.2 with c2 | c2 | c2
          · omega
          · omega
          · refine Or.inr (Or.inr ⟨by omega, by omega, by omega, ?_⟩)
            rw [show m / 16 * 16 / 16 = m / 16 by omega]
            exact c2.2.2.2
  · by_cases q : s < 2
    · have g := isN_lt q hm
      rw [show qUp P s m = P 2290 (64 * s + m) from if_pos q, show qMode P s (P 2290 (64 * s + m)) = P 2293 (64 * s + P 2290 (64 * s + m)) from if_pos q]
      exact (hG.2.1.2.1 s m hs.1 q (by omega) g.2.1 (by omega)).2.1
    · have q2 : s = 2 := by omega
      subst q2
      rw [show qUp P 2 m = if m < 16 ∨ m % 16 = 0 then 0 else m / 16 * 16 from if_neg (by decide)]
      unfold qMode
      rw [if_neg (by decide)]
      by_cases q3 : m < 16 ∨ m % 16 = 0
      · rw [if_pos q3]
        decide
      · rw [if_neg q3, if_neg (by omega), if_pos (by omega)]
        decide
/-- what a message's work answers and leaves -/
abbrev XO (σ0 : hM) (K : Int) (W : qR) (R : rR) (S : Nat) (s e : Int) (Q : qR) : Option AV → hM → Prop := fun r σ' => r = some (vI e) ∧ ∃ W2 R2 ord2 t2, PX σ0 W2 R2 σ' ∧ XV W2 R2 Q S s ord2 t2 ∧ CT K W2 R2 ∧ FV S 0 W W2 R R2
/-- a used fid's file is there, if it isn't GONE -/
theorem TI.live (h : TI P) (hG : GI T U P) (hs : 0 ≤ s ∧ s < 3) (hi : 0 ≤ i ∧ i < 96) (hu : ¬ P 2304 (96 * s + i) = 0) (hg : P 2310 (96 * s + i) = 0) : isN P s (P 2306 (96 * s + i)) := by
  by_cases q : s < 2
  · have g := fid_file hG ⟨hs.1, q⟩ (k := 96 * s + i) (by omega) hu hg
    have b := (fid_node hG hs (k := 96 * s + i) (by omega)).1
    exact Or.inl ⟨q, b.2.2.1, b.2.2.2.2 q, g⟩
  · have q2 : s = 2 := by omega
    subst q2
    exact h.2.2.2.2.1 _ (by omega) (by omega) hu hg
theorem fdRm_iff (m : Int) : fdRm m = 1 ↔ 0 ≤ m ∧ ¬ and32 m 64 = 0 := by
  unfold fdRm
  split
  · rename_i q
    exact ⟨fun _ => q, fun _ => rfl⟩
  · rename_i q
    exact ⟨fun c => absurd c (by decide), fun c => absurd c q⟩
theorem gClunk_no (h : ¬ qTake P s k) : gClunk P s k = rU P 2304 k 0 := by
  unfold gClunk
  exact congrArg (fun X => rU X 2304 k 0) (if_neg h)
/-- the work that a clunk and a new version do to a fid -/
theorem gClunk_p (h : qTake P s k) : (∀ (f : Nat) (j : Int), f ≠ 2310 → gClunk P s k f j = gRem (rU P 2304 k 0) s (P 2306 k) (P 2308 k) f j) ∧ ∀ j, ¬ gRem (rU P 2304 k 0) s (P 2306 k) (P 2308 k) 2304 j = 0 → gClunk P s k 2310 j = gRem (rU P 2304 k 0) s (P 2306 k) (P 2308 k) 2310 j := by
  have e : gClunk P s k = rU (gRem P s (P 2306 k) (P 2308 k)) 2304 k 0 := by
    unfold gClunk
    exact congrArg (fun X => rU X 2304 k 0) (if_pos h)
  have g0 : ∀ (f : Nat) (j : Int), f ≠ 2304 → gRem0 (rU P 2304 k 0) s (P 2306 k) (P 2308 k) f j = gRem0 P s (P 2306 k) (P 2308 k) f j := fun f j hf => by
    unfold gRem0 gGrow
    simp only [rU]
    simp [hf]
  rw [e]
  refine ⟨fun f j hf => ?_, fun j hj => ?_⟩
  · show _ = gGone (gRem0 (rU P 2304 k 0) s (P 2306 k) (P 2308 k)) _ _ _ f j
    rw [gGone_f hf]
    by_cases q : f = 2304
    · have e3 : gRem0 (rU P 2304 k 0) s (P 2306 k) (P 2308 k) 2304 j = rU P 2304 k 0 2304 j := by
        unfold gRem0
        rw [gGrow_f (by decide) (by decide), rU_f (by decide), rU_f (by decide), rU_f (by decide), rU_f (by decide)]
      rw [q, e3]
      by_cases q2 : j = k
      · rw [q2, rU_s, rU_s]
      · rw [rU_k q2, rU_k q2, gRem_o (by decide) (by decide) (by decide) (by decide) (by decide) (by decide) (by decide)]
    · rw [rU_f q, g0 f j q]
      show gGone (gRem0 P s (P 2306 k) (P 2308 k)) _ _ _ f j = _
      rw [gGone_f hf]
  · rw [gRem_o (by decide) (by decide) (by decide) (by decide) (by decide) (by decide) (by decide)] at hj
    have hne : j ≠ k := fun q => hj (by rw [q, rU_s])
    rw [rU_f (by decide)]
    by_cases hr : 96 * s ≤ j ∧ j < 96 * s + 96
    · rw [gRem_gone hr, gRem_gone hr, rU_f (by decide), rU_k hne, rU_f (by decide)]
    · rw [gRem_gone2 hr, gRem_gone2 hr, rU_f (by decide)]
theorem FDu.drop (h : FDu W R P S ord t a k) : FDu (rU W a 2288 0) R (rU P 2304 k 0) S ord t a k := by
  have w : ∀ (x : Nat) (j : Int), j ≠ 2288 → rU W a 2288 0 x j = W x j := fun x k q => rU_j q
  have pp : ∀ (f : Nat) (j : Int), f ≠ 2304 → rU P 2304 k 0 f j = P f j := fun f k q => rU_f q
  unfold FDu at h ⊢
  rw [w _ _ (by decide), w _ _ (by decide), w _ _ (by decide), w _ _ (by decide), w _ _ (by decide), w _ _ (by decide), w _ _ (by decide), pp _ _ (by decide), pp _ _ (by decide), pp _ _ (by decide), pp _ _ (by decide), pp _ _ (by decide), pp _ _ (by decide), pp _ _ (by decide), pp _ _ (by decide)]
  exact h
theorem FE_isFid : FE (rU P 2304 k v) P := fun f _ hf => rU_f (fun c => by rw [c] at hf; exact absurd hf (by decide))
theorem CT.drop (h : CT K W R) (ha : a ≠ 0) (hk : k ≠ 0) : CT K (rU W a k v) R := h.fv (rU_f (Ne.symm ha)) (rU_f (Ne.symm ha)) (fun _ => rfl)
/-- a fid that goes: what is asked of its file, and what is left -/
theorem x_drop1 (hP : PX σ0 (rU W (S + 198 + i.toNat) 2288 0) R σ) (hS : VS S s) (hX : XV W R P S s ord t) (hK : CT K W R) (hG : GI T U P) (hD : TI P) (hT : T + 49 ≤ 2147483000) (hi : 0 ≤ i ∧ i < 96) (hu : ¬ P 2304 (96 * s + i) = 0) : CL fb (d + 1) 42 [vR (some S), vR (some (S + 198 + i.toNat))] σ (rP (if P 2310 (96 * s + i) = 0 then qRem P s (P 2306 (96 * s + i)) (P 2308 (96 * s + i)) else 1) σ) ∧ (P 2310 (96 * s + i) = 0 → qRem P s (P 2306 (96 * s + i)) (P 2308 (96 * s + i)) = 0 → ∀ σ1, PX σ0 (rU W (S + 198 + i.toNat) 2288 0) R σ1 → CL fb (d + 1) 44 [vR (some S), vR (some (S + 198 + i.toNat))] σ1 (fun r σ' => r = none ∧ ∃ W2 R2 ord2 t2, PX σ0 W2 R2 σ' ∧ XV W2 R2 (gRem (rU P 2304 (96 * s + i) 0) s (P 2306 (96 * s + i)) (P 2308 (96 * s + i))) S s ord2 t2 ∧ CT K W2 R2 ∧ FV S 0 W W2 R R2)) := by
  have hsr := hS.1
  have hrg := hS.rng
  have ha := hS.fd hi
  have hX1 := hX.drop hi hS hG.iv
  have hG1 := GI_isFid (k := 96 * s + i) hG (b := 0) rfl
  have hD1 := hD.isFid (k := 96 * s + i)
  have hK1 : CT K (rU W (S + 198 + i.toNat) 2288 0) R := hK.drop (by omega) (by decide)
  have hf1 := ((hX.2.1 i hi.1 hi.2).2.1 hu).drop
  have hl := hD.live hG hsr hi hu
  have r : ∀ (f : Nat) (j : Int), f ≠ 2304 → rU P 2304 (96 * s + i) 0 f j = P f j := fun f j q => rU_f q
  have hl1 : isN (rU P 2304 (96 * s + i) 0) s (P 2306 (96 * s + i)) ↔ isN P s (P 2306 (96 * s + i)) := FE_isFid.live
  refine ⟨?_, fun g1 g2 σ1 hP1 => ?_⟩
  · have h := x_refuse (fb := fb) (d := d) hP hS hX1.1 (TRX_of hX1.1 hG1 hsr) hG1.iv ha hf1 (fun q => by rw [r _ _ (by decide)] at q ⊢; exact hl1.mpr (hl q)) hX1.2.2.1.2.2.1
    rw [r _ _ (by decide), r _ _ (by decide), r _ _ (by decide), FE_isFid.rem] at h
    exact h
  · have hu3 := (fid_node hG hsr (k := 96 * s + i) (by omega)).2
    have h := x_remove (fb := fb) (d := d) hP1 hS hX1 hK1 hG1 hD1 hT ha hf1 (by rw [r _ _ (by decide)]; exact g1) (by rw [r _ _ (by decide)]; exact hl1.mpr (hl g1)) (by rw [r _ _ (by decide)]; exact hu3) (by rw [r _ _ (by decide), r _ _ (by decide), FE_isFid.rem]; exact g2)
    rw [r _ _ (by decide), r _ _ (by decide)] at h
    refine h.mono ?_
    rintro _ σ' ⟨rfl, W2, R2, ord2, t2, a1, a2, a3, a4⟩
    exact ⟨rfl, W2, R2, ord2, t2, a1, a2, a3, FV_tr (FV_own (by omega) (by omega) (by omega)) a4⟩
theorem x_doClunk (hP : PX σ0 W R σ) (hS : VS S s) (hX : XV W R P S s ord t) (hK : CT K W R) (hG : GI T U P) (hD : TI P) (hT : T + 49 ≤ 2147483000) (hi : 0 ≤ i ∧ i < 96) (hu : ¬ P 2304 (96 * s + i) = 0) : CL fb (d + 2) 83 [vR (some S), vR (some (S + 198 + i.toNat))] σ (XO σ0 K W R S s 0 (gClunk P s (96 * s + i))) := by
  have hrg := hS.rng
  have hO := hS.o
  have ha := hS.fd hi
  have hm := ((hX.2.1 i hi.1 hi.2).2.1 hu).2.2.2.2.1
  have hst : ∀ σ, PX σ0 (rU W (S + 198 + i.toNat) 2288 0) R σ → ¬ qTake P s (96 * s + i) → XO σ0 K W R S s 0 (gClunk P s (96 * s + i)) (some (vI 0)) σ := fun σ hP q => by
    refine ⟨rfl, _, R, ord, t, hP, ?_, hK.drop (by omega) (by decide), FV_own (by omega) (by omega) (by omega)⟩
    rw [gClunk_no q]
    exact hX.drop hi hS hG.iv
  have h1 := fun (σ : hM) (hP : PX σ0 (rU W (S + 198 + i.toNat) 2288 0) R σ) => x_drop1 (fb := fb) (d := d) hP hS hX hK hG hD hT hi hu
  have hfin : ∀ (σ : hM) (W2 : qR) (R2 : rR) (ord2 : List Int) (t2 : Nat → Nat), qTake P s (96 * s + i) → PX σ0 W2 R2 σ → XV W2 R2 (gRem (rU P 2304 (96 * s + i) 0) s (P 2306 (96 * s + i)) (P 2308 (96 * s + i))) S s ord2 t2 → CT K W2 R2 → FV S 0 W W2 R R2 → XO σ0 K W R S s 0 (gClunk P s (96 * s + i)) (some (vI 0)) σ := fun σ W2 R2 ord2 t2 q a1 a2 a3 a4 => ⟨rfl, W2, R2, ord2, t2, a1, a2.pe (gClunk_p q).1 (gClunk_p q).2, a3, a4⟩
  obtain ⟨fa, hfa⟩ : ∃ fa, S + 198 + i.toNat = fa := ⟨_, rfl⟩
  rw [hfa] at ha hm hst h1 ⊢
  obtain ⟨md, hmd⟩ : ∃ y, P 2309 (96 * s + i) = y := ⟨_, rfl⟩
  have hrm := fdRm_iff md
  rw [hmd] at hm
  obtain ⟨rm, hrm0⟩ : ∃ y, fdRm md = y := ⟨_, rfl⟩
  rw [hrm0] at hm hrm
  have hrm1 : rm = 0 ∨ rm = 1 := by rw [← hrm0]; unfold fdRm; split <;> simp
  rcases hrm1 with rfl | rfl
  · have hst := fun σ hP => hst σ hP (fun q => absurd (hrm.mpr (by rw [← hmd]; exact q.1.1)) (by decide))
    refine CL_in mL_83 rfl ?_
    show WP fb _ 83 0 [some (vR (some S)), some (vR (some fa))] [] σ _
    refine x_lr (z := some fa) T_83_0 rfl ?_
    refine x_ic T_83_1 ?_
    refine z_pZ hP T_83_2 F_9_0 rfl ha (key := 2288) rfl (fun σ hP => ?_)
    refine x_lr (z := some fa) T_83_5 rfl ?_
    refine x_gI (z := 0) T_83_6 (Or.inr (Or.inl F_9_6)) (hP.o ha) (Eq.trans (Eq.trans (hP.gi ha (key := 2294) rfl) (rU_j (by decide))) hm) ?_
    refine x_if T_83_9 (fun _ => ?_) (fun h => absurd (show (0 : Int) = 0 by decide) h)
    refine x_ic T_83_25 ?_
    refine x_ri T_83_26 ?_
    exact hst σ hP
  · have hq1 := hrm.mp rfl
    by_cases g1 : P 2310 (96 * s + i) = 0
    · simp only [if_pos g1] at h1
      by_cases g2 : qRem P s (P 2306 (96 * s + i)) (P 2308 (96 * s + i)) = 0
      · have hr := fun (σ : hM) (hP : PX σ0 (rU W fa 2288 0) R σ) => (h1 σ hP).1
        have hd2 := fun (σ : hM) (hP : PX σ0 (rU W fa 2288 0) R σ) => (h1 σ hP).2 g1 g2 σ hP
        simp only [g2] at hr
        have hfin := fun σ W2 R2 ord2 t2 => hfin σ W2 R2 ord2 t2 ⟨⟨by rw [hmd]; exact hq1, g1⟩, g2⟩
        refine CL_in mL_83 rfl ?_
        show WP fb _ 83 0 [some (vR (some S)), some (vR (some fa))] [] σ _
        refine x_lr (z := some fa) T_83_0 rfl ?_
        refine x_ic T_83_1 ?_
        refine z_pZ hP T_83_2 F_9_0 rfl ha (key := 2288) rfl (fun σ hP => ?_)
        refine x_lr (z := some fa) T_83_5 rfl ?_
        refine x_gI (z := 1) T_83_6 (Or.inr (Or.inl F_9_6)) (hP.o ha) (Eq.trans (Eq.trans (hP.gi ha (key := 2294) rfl) (rU_j (by decide))) hm) ?_
        refine x_if T_83_9 (fun h => absurd (show (1 : Int) = 0 from h) (by decide)) (fun _ => ?_)
        refine x_lr (z := some S) T_83_12 rfl ?_
        refine x_lr (z := some fa) T_83_13 rfl ?_
        refine x_cv2 T_83_14 mN_42 mL_42 (Nat.le_of_ble_eq_true rfl) mO_42 (hP.o hO) (Nat.le_of_ble_eq_true rfl) (hr σ hP) ?_
        rintro _ σ ⟨rfl, rfl⟩
        refine cI ?_
        refine x_if T_83_17 (fun h => absurd (show ¬ (0 : Int) = 0 from h) (by decide)) (fun _ => ?_)
        refine x_lr (z := some S) T_83_20 rfl ?_
        refine x_lr (z := some fa) T_83_21 rfl ?_
        refine x_cv2 T_83_22 mN_44 mL_44 (Nat.le_of_ble_eq_true rfl) mO_44 (hP.o hO) (Nat.le_of_ble_eq_true rfl) (hd2 σ hP) ?_
        clear hP hr hd2
        rintro _ σ ⟨rfl, W2, R2, ord2, t2, hP, a2, a3, a4⟩
        refine cV ?_
        refine x_ic T_83_25 ?_
        refine x_ri T_83_26 ?_
        exact hfin σ W2 R2 ord2 t2 hP a2 a3 a4
      · have hr := fun (σ : hM) (hP : PX σ0 (rU W fa 2288 0) R σ) => (h1 σ hP).1
        have hst := fun σ hP => hst σ hP (fun q => g2 q.2)
        obtain ⟨e, he⟩ : ∃ e, qRem P s (P 2306 (96 * s + i)) (P 2308 (96 * s + i)) = e := ⟨_, rfl⟩
        rw [he] at g2
        simp only [he] at hr
        refine CL_in mL_83 rfl ?_
        show WP fb _ 83 0 [some (vR (some S)), some (vR (some fa))] [] σ _
        refine x_lr (z := some fa) T_83_0 rfl ?_
        refine x_ic T_83_1 ?_
        refine z_pZ hP T_83_2 F_9_0 rfl ha (key := 2288) rfl (fun σ hP => ?_)
        refine x_lr (z := some fa) T_83_5 rfl ?_
        refine x_gI (z := 1) T_83_6 (Or.inr (Or.inl F_9_6)) (hP.o ha) (Eq.trans (Eq.trans (hP.gi ha (key := 2294) rfl) (rU_j (by decide))) hm) ?_
        refine x_if T_83_9 (fun h => absurd (show (1 : Int) = 0 from h) (by decide)) (fun _ => ?_)
        refine x_lr (z := some S) T_83_12 rfl ?_
        refine x_lr (z := some fa) T_83_13 rfl ?_
        refine x_cv2 T_83_14 mN_42 mL_42 (Nat.le_of_ble_eq_true rfl) mO_42 (hP.o hO) (Nat.le_of_ble_eq_true rfl) (hr σ hP) ?_
        rintro _ σ ⟨rfl, rfl⟩
        refine cI ?_
        refine x_if T_83_17 (fun _ => ?_) (fun h => absurd (show ¬ e = 0 by omega) h)
        refine x_ic T_83_25 ?_
        refine x_ri T_83_26 ?_
        exact hst σ hP
    · have hr := fun (σ : hM) (hP : PX σ0 (rU W fa 2288 0) R σ) => (h1 σ hP).1
      simp only [if_neg g1] at hr
      have hst := fun σ hP => hst σ hP (fun q => g1 q.1.2)
      refine CL_in mL_83 rfl ?_
      show WP fb _ 83 0 [some (vR (some S)), some (vR (some fa))] [] σ _
      refine x_lr (z := some fa) T_83_0 rfl ?_
      refine x_ic T_83_1 ?_
      refine z_pZ hP T_83_2 F_9_0 rfl ha (key := 2288) rfl (fun σ hP => ?_)
      refine x_lr (z := some fa) T_83_5 rfl ?_
      refine x_gI (z := 1) T_83_6 (Or.inr (Or.inl F_9_6)) (hP.o ha) (Eq.trans (Eq.trans (hP.gi ha (key := 2294) rfl) (rU_j (by decide))) hm) ?_
      refine x_if T_83_9 (fun h => absurd (show (1 : Int) = 0 from h) (by decide)) (fun _ => ?_)
      refine x_lr (z := some S) T_83_12 rfl ?_
      refine x_lr (z := some fa) T_83_13 rfl ?_
      refine x_cv2 T_83_14 mN_42 mL_42 (Nat.le_of_ble_eq_true rfl) mO_42 (hP.o hO) (Nat.le_of_ble_eq_true rfl) (hr σ hP) ?_
      rintro _ σ ⟨rfl, rfl⟩
      refine cI ?_
      refine x_if T_83_17 (fun _ => ?_) (fun h => absurd (show ¬ (1 : Int) = 0 by decide) h)
      refine x_ic T_83_25 ?_
      refine x_ri T_83_26 ?_
      exact hst σ hP
theorem x_doRemove (hP : PX σ0 W R σ) (hS : VS S s) (hX : XV W R P S s ord t) (hK : CT K W R) (hG : GI T U P) (hD : TI P) (hT : T + 49 ≤ 2147483000) (hi : 0 ≤ i ∧ i < 96) (hu : ¬ P 2304 (96 * s + i) = 0) : CL fb (d + 2) 84 [vR (some S), vR (some (S + 198 + i.toNat))] σ (XO σ0 K W R S s (onE P s (96 * s + i) 122) (onP P s (96 * s + i) 122)) := by
  have hsr := hS.1
  have hrg := hS.rng
  have hO := hS.o
  have ha := hS.fd hi
  have eE : onE P s (96 * s + i) 122 = if P 2310 (96 * s + i) = 0 then qRem P s (P 2306 (96 * s + i)) (P 2308 (96 * s + i)) else 1 := by
    unfold onE
    rw [if_neg (by omega), if_neg (by decide), if_pos rfl, FE_isFid.rem]
    by_cases q : P 2310 (96 * s + i) = 0
    · rw [if_neg (fun c => c q), if_pos q]
    · rw [if_pos q, if_neg q]
  have eP : onP P s (96 * s + i) 122 = if onE P s (96 * s + i) 122 = 0 then gRem (rU P 2304 (96 * s + i) 0) s (P 2306 (96 * s + i)) (P 2308 (96 * s + i)) else rU P 2304 (96 * s + i) 0 := by
    show (if 96 * s + i < 0 then P else _) = _
    rw [if_neg (by omega)]
    rfl
  rw [eP, eE]
  have hst : ∀ σ, PX σ0 (rU W (S + 198 + i.toNat) 2288 0) R σ → ∃ W2 R2 ord2 t2, PX σ0 W2 R2 σ ∧ XV W2 R2 (rU P 2304 (96 * s + i) 0) S s ord2 t2 ∧ CT K W2 R2 ∧ FV S 0 W W2 R R2 := fun σ hP => ⟨_, R, ord, t, hP, hX.drop hi hS hG.iv, hK.drop (by omega) (by decide), FV_own (by omega) (by omega) (by omega)⟩
  have h1 := fun (σ : hM) (hP : PX σ0 (rU W (S + 198 + i.toNat) 2288 0) R σ) => x_drop1 (fb := fb) (d := d) hP hS hX hK hG hD hT hi hu
  obtain ⟨fa, hfa⟩ : ∃ fa, S + 198 + i.toNat = fa := ⟨_, rfl⟩
  rw [hfa] at ha hst h1 ⊢
  by_cases g1 : P 2310 (96 * s + i) = 0
  · simp only [if_pos g1] at h1 ⊢
    by_cases g2 : qRem P s (P 2306 (96 * s + i)) (P 2308 (96 * s + i)) = 0
    · have hr := fun (σ : hM) (hP : PX σ0 (rU W fa 2288 0) R σ) => (h1 σ hP).1
      have hd2 := fun (σ : hM) (hP : PX σ0 (rU W fa 2288 0) R σ) => (h1 σ hP).2 g1 g2 σ hP
      rw [if_pos g2, g2]
      simp only [g2] at hr
      refine CL_in mL_84 rfl ?_
      show WP fb _ 84 0 [some (vR (some S)), some (vR (some fa)), none] [] σ _
      refine x_lr (z := some fa) T_84_0 rfl ?_
      refine x_ic T_84_1 ?_
      refine z_pZ hP T_84_2 F_9_0 rfl ha (key := 2288) rfl (fun σ hP => ?_)
      refine x_lr (z := some S) T_84_5 rfl ?_
      refine x_lr (z := some fa) T_84_6 rfl ?_
      refine x_cv2 T_84_7 mN_42 mL_42 (Nat.le_of_ble_eq_true rfl) mO_42 (hP.o hO) (Nat.le_of_ble_eq_true rfl) (hr σ hP) ?_
      rintro _ σ ⟨rfl, rfl⟩
      refine cI ?_
      refine x_si (ls1 := [some (vR (some S)), some (vR (some fa)), some (vI 0)]) T_84_10 rfl ?_
      refine x_li (z := 0) T_84_11 rfl ?_
      refine x_if T_84_12 (fun h => absurd (show ¬ (0 : Int) = 0 from h) (by decide)) (fun _ => ?_)
      refine x_lr (z := some S) T_84_15 rfl ?_
      refine x_lr (z := some fa) T_84_16 rfl ?_
      refine x_cv2 T_84_17 mN_44 mL_44 (Nat.le_of_ble_eq_true rfl) mO_44 (hP.o hO) (Nat.le_of_ble_eq_true rfl) (hd2 σ hP) ?_
      clear hP hr hd2
      rintro _ σ ⟨rfl, W2, R2, ord2, t2, hP, a2, a3, a4⟩
      refine cV ?_
      refine x_li (z := 0) T_84_20 rfl ?_
      refine x_ri T_84_21 ?_
      exact ⟨rfl, W2, R2, ord2, t2, hP, a2, a3, a4⟩
    · have hr := fun (σ : hM) (hP : PX σ0 (rU W fa 2288 0) R σ) => (h1 σ hP).1
      rw [if_neg g2]
      obtain ⟨e, he⟩ : ∃ e, qRem P s (P 2306 (96 * s + i)) (P 2308 (96 * s + i)) = e := ⟨_, rfl⟩
      rw [he] at g2 ⊢
      simp only [he] at hr
      refine CL_in mL_84 rfl ?_
      show WP fb _ 84 0 [some (vR (some S)), some (vR (some fa)), none] [] σ _
      refine x_lr (z := some fa) T_84_0 rfl ?_
      refine x_ic T_84_1 ?_
      refine z_pZ hP T_84_2 F_9_0 rfl ha (key := 2288) rfl (fun σ hP => ?_)
      refine x_lr (z := some S) T_84_5 rfl ?_
      refine x_lr (z := some fa) T_84_6 rfl ?_
      refine x_cv2 T_84_7 mN_42 mL_42 (Nat.le_of_ble_eq_true rfl) mO_42 (hP.o hO) (Nat.le_of_ble_eq_true rfl) (hr σ hP) ?_
      rintro _ σ ⟨rfl, rfl⟩
      refine cI ?_
      refine x_si (ls1 := [some (vR (some S)), some (vR (some fa)), some (vI e)]) T_84_10 rfl ?_
      refine x_li (z := e) T_84_11 rfl ?_
      refine x_if T_84_12 (fun _ => ?_) (fun h => absurd (show ¬ e = 0 by omega) h)
      refine x_li (z := e) T_84_20 rfl ?_
      refine x_ri T_84_21 ?_
      exact ⟨rfl, hst σ hP⟩
  · have hr := fun (σ : hM) (hP : PX σ0 (rU W fa 2288 0) R σ) => (h1 σ hP).1
    simp only [if_neg g1] at hr ⊢
    rw [if_neg (by decide)]
    refine CL_in mL_84 rfl ?_
    show WP fb _ 84 0 [some (vR (some S)), some (vR (some fa)), none] [] σ _
    refine x_lr (z := some fa) T_84_0 rfl ?_
    refine x_ic T_84_1 ?_
    refine z_pZ hP T_84_2 F_9_0 rfl ha (key := 2288) rfl (fun σ hP => ?_)
    refine x_lr (z := some S) T_84_5 rfl ?_
    refine x_lr (z := some fa) T_84_6 rfl ?_
    refine x_cv2 T_84_7 mN_42 mL_42 (Nat.le_of_ble_eq_true rfl) mO_42 (hP.o hO) (Nat.le_of_ble_eq_true rfl) (hr σ hP) ?_
    rintro _ σ ⟨rfl, rfl⟩
    refine cI ?_
    refine x_si (ls1 := [some (vR (some S)), some (vR (some fa)), some (vI 1)]) T_84_10 rfl ?_
    refine x_li (z := 1) T_84_11 rfl ?_
    refine x_if T_84_12 (fun _ => ?_) (fun h => absurd (show ¬ (1 : Int) = 0 by decide) h)
    refine x_li (z := 1) T_84_20 rfl ?_
    refine x_ri T_84_21 ?_
    exact ⟨rfl, hst σ hP⟩
end XCLKB
